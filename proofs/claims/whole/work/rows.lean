section
-- ===== PART A: goes FIRST, ahead of the names: the tables' words, and 'selects' of the private methods out of them =====
/-- a private method of a class that the tables say can be made, by its rows of tables_1 -/
def lw_okq (q : MethodName × Nat) : Prop := (q.1.cls ≠ "java/lang/invoke/MethodHandle" ∧ q.1.cls ≠ "java/lang/invoke/VarHandle") ∧ Cond.instantiable q.1.cls q.2 ∈ tables_1 ∧ Cond.privateMethod q.1 ∈ tables_1 ∧ Cond.instanceMethod q.1 ∈ tables_1
theorem lw_p0 : lw_okq (⟨"PraiseDrawer$Big", "carryOn", "(J)V"⟩, 2) := ⟨⟨by decide +kernel, by decide +kernel⟩, List.mem_of_getElem? (i := 141) (by decide +kernel), List.mem_of_getElem? (i := 298) (by decide +kernel), List.mem_of_getElem? (i := 299) (by decide +kernel)⟩
theorem lw_p1 : lw_okq (⟨"PraiseDrawer", "isHand", "(I)Z"⟩, 10) := ⟨⟨by decide +kernel, by decide +kernel⟩, List.mem_of_getElem? (i := 18) (by decide +kernel), List.mem_of_getElem? (i := 361) (by decide +kernel), List.mem_of_getElem? (i := 362) (by decide +kernel)⟩
theorem lw_p2 : lw_okq (⟨"PraiseDrawer", "isPupil", "(I)Z"⟩, 10) := ⟨⟨by decide +kernel, by decide +kernel⟩, List.mem_of_getElem? (i := 18) (by decide +kernel), List.mem_of_getElem? (i := 381) (by decide +kernel), List.mem_of_getElem? (i := 382) (by decide +kernel)⟩
theorem lw_p3 : lw_okq (⟨"PraiseDrawer", "isLetter", "(I)Z"⟩, 10) := ⟨⟨by decide +kernel, by decide +kernel⟩, List.mem_of_getElem? (i := 18) (by decide +kernel), List.mem_of_getElem? (i := 400) (by decide +kernel), List.mem_of_getElem? (i := 401) (by decide +kernel)⟩
theorem lw_p4 : lw_okq (⟨"PraiseDrawer", "isWord", "(I)Z"⟩, 10) := ⟨⟨by decide +kernel, by decide +kernel⟩, List.mem_of_getElem? (i := 18) (by decide +kernel), List.mem_of_getElem? (i := 404) (by decide +kernel), List.mem_of_getElem? (i := 405) (by decide +kernel)⟩
theorem lw_p5 : lw_okq (⟨"PraiseDrawer$Tally", "takeLetter", "(II)V"⟩, 3) := ⟨⟨by decide +kernel, by decide +kernel⟩, List.mem_of_getElem? (i := 114) (by decide +kernel), List.mem_of_getElem? (i := 431) (by decide +kernel), List.mem_of_getElem? (i := 432) (by decide +kernel)⟩
theorem lw_p6 : lw_okq (⟨"PraiseDrawer$Tally", "usesOfAll", "(II)I"⟩, 3) := ⟨⟨by decide +kernel, by decide +kernel⟩, List.mem_of_getElem? (i := 114) (by decide +kernel), List.mem_of_getElem? (i := 452) (by decide +kernel), List.mem_of_getElem? (i := 453) (by decide +kernel)⟩
theorem lw_p7 : lw_okq (⟨"PraiseDrawer$Chances", "takeLetter", "(I)V"⟩, 5) := ⟨⟨by decide +kernel, by decide +kernel⟩, List.mem_of_getElem? (i := 134) (by decide +kernel), List.mem_of_getElem? (i := 477) (by decide +kernel), List.mem_of_getElem? (i := 478) (by decide +kernel)⟩
theorem lw_p8 : lw_okq (⟨"PraiseDrawer$Chances", "factorOf", "(III)J"⟩, 5) := ⟨⟨by decide +kernel, by decide +kernel⟩, List.mem_of_getElem? (i := 134) (by decide +kernel), List.mem_of_getElem? (i := 481) (by decide +kernel), List.mem_of_getElem? (i := 482) (by decide +kernel)⟩
theorem lw_p9 : lw_okq (⟨"PraiseDrawer$Years", "takeLetter", "([II)V"⟩, 3) := ⟨⟨by decide +kernel, by decide +kernel⟩, List.mem_of_getElem? (i := 174) (by decide +kernel), List.mem_of_getElem? (i := 539) (by decide +kernel), List.mem_of_getElem? (i := 540) (by decide +kernel)⟩
theorem lw_p10 : lw_okq (⟨"PraiseDrawer$Drawer", "isOn", "(III)Z"⟩, 14) := ⟨⟨by decide +kernel, by decide +kernel⟩, List.mem_of_getElem? (i := 26) (by decide +kernel), List.mem_of_getElem? (i := 568) (by decide +kernel), List.mem_of_getElem? (i := 569) (by decide +kernel)⟩
theorem lw_p11 : lw_okq (⟨"PraiseDrawer$Drawer", "holds", "(II)Z"⟩, 14) := ⟨⟨by decide +kernel, by decide +kernel⟩, List.mem_of_getElem? (i := 26) (by decide +kernel), List.mem_of_getElem? (i := 576) (by decide +kernel), List.mem_of_getElem? (i := 577) (by decide +kernel)⟩
theorem lw_p12 : lw_okq (⟨"PraiseDrawer$Sayings", "takeAhead", "(I)V"⟩, 7) := ⟨⟨by decide +kernel, by decide +kernel⟩, List.mem_of_getElem? (i := 206) (by decide +kernel), List.mem_of_getElem? (i := 634) (by decide +kernel), List.mem_of_getElem? (i := 635) (by decide +kernel)⟩
theorem lw_p13 : lw_okq (⟨"PraiseDrawer$Sayings", "againstFirst", "(II)I"⟩, 7) := ⟨⟨by decide +kernel, by decide +kernel⟩, List.mem_of_getElem? (i := 206) (by decide +kernel), List.mem_of_getElem? (i := 642) (by decide +kernel), List.mem_of_getElem? (i := 643) (by decide +kernel)⟩
theorem lw_p14 : lw_okq (⟨"PraiseDrawer$Sayings", "firstOf", "(II)I"⟩, 7) := ⟨⟨by decide +kernel, by decide +kernel⟩, List.mem_of_getElem? (i := 206) (by decide +kernel), List.mem_of_getElem? (i := 653) (by decide +kernel), List.mem_of_getElem? (i := 654) (by decide +kernel)⟩
theorem lw_p15 : lw_okq (⟨"PraiseDrawer$Deals", "waysBehind", "(I)I"⟩, 5) := ⟨⟨by decide +kernel, by decide +kernel⟩, List.mem_of_getElem? (i := 236) (by decide +kernel), List.mem_of_getElem? (i := 679) (by decide +kernel), List.mem_of_getElem? (i := 680) (by decide +kernel)⟩
def lw_privs_1 : List (MethodName × Nat) := [(⟨"PraiseDrawer$Big", "carryOn", "(J)V"⟩, 2), (⟨"PraiseDrawer", "isHand", "(I)Z"⟩, 10), (⟨"PraiseDrawer", "isPupil", "(I)Z"⟩, 10), (⟨"PraiseDrawer", "isLetter", "(I)Z"⟩, 10), (⟨"PraiseDrawer", "isWord", "(I)Z"⟩, 10), (⟨"PraiseDrawer$Tally", "takeLetter", "(II)V"⟩, 3), (⟨"PraiseDrawer$Tally", "usesOfAll", "(II)I"⟩, 3), (⟨"PraiseDrawer$Chances", "takeLetter", "(I)V"⟩, 5), (⟨"PraiseDrawer$Chances", "factorOf", "(III)J"⟩, 5), (⟨"PraiseDrawer$Years", "takeLetter", "([II)V"⟩, 3), (⟨"PraiseDrawer$Drawer", "isOn", "(III)Z"⟩, 14), (⟨"PraiseDrawer$Drawer", "holds", "(II)Z"⟩, 14), (⟨"PraiseDrawer$Sayings", "takeAhead", "(I)V"⟩, 7), (⟨"PraiseDrawer$Sayings", "againstFirst", "(II)I"⟩, 7), (⟨"PraiseDrawer$Sayings", "firstOf", "(II)I"⟩, 7), (⟨"PraiseDrawer$Deals", "waysBehind", "(I)I"⟩, 5)]
theorem lw_r1 : ∀ q ∈ lw_privs_1, lw_okq q := List.forall_mem_cons.mpr ⟨lw_p0, List.forall_mem_cons.mpr ⟨lw_p1, List.forall_mem_cons.mpr ⟨lw_p2, List.forall_mem_cons.mpr ⟨lw_p3, List.forall_mem_cons.mpr ⟨lw_p4, List.forall_mem_cons.mpr ⟨lw_p5, List.forall_mem_cons.mpr ⟨lw_p6, List.forall_mem_cons.mpr ⟨lw_p7, List.forall_mem_cons.mpr ⟨lw_p8, List.forall_mem_cons.mpr ⟨lw_p9, List.forall_mem_cons.mpr ⟨lw_p10, List.forall_mem_cons.mpr ⟨lw_p11, List.forall_mem_cons.mpr ⟨lw_p12, List.forall_mem_cons.mpr ⟨lw_p13, List.forall_mem_cons.mpr ⟨lw_p14, List.forall_mem_cons.mpr ⟨lw_p15, fun _ h => absurd h List.not_mem_nil⟩⟩⟩⟩⟩⟩⟩⟩⟩⟩⟩⟩⟩⟩⟩⟩
theorem lw_p16 : lw_okq (⟨"PraiseDrawer$Deals", "canRead", "(III)Z"⟩, 5) := ⟨⟨by decide +kernel, by decide +kernel⟩, List.mem_of_getElem? (i := 236) (by decide +kernel), List.mem_of_getElem? (i := 684) (by decide +kernel), List.mem_of_getElem? (i := 685) (by decide +kernel)⟩
theorem lw_p17 : lw_okq (⟨"PraiseDrawer$Deals", "firstReader", "(II)I"⟩, 5) := ⟨⟨by decide +kernel, by decide +kernel⟩, List.mem_of_getElem? (i := 236) (by decide +kernel), List.mem_of_getElem? (i := 692) (by decide +kernel), List.mem_of_getElem? (i := 693) (by decide +kernel)⟩
theorem lw_p18 : lw_okq (⟨"PraiseDrawer$Forms", "ask", "(II)V"⟩, 5) := ⟨⟨by decide +kernel, by decide +kernel⟩, List.mem_of_getElem? (i := 259) (by decide +kernel), List.mem_of_getElem? (i := 719) (by decide +kernel), List.mem_of_getElem? (i := 720) (by decide +kernel)⟩
theorem lw_p19 : lw_okq (⟨"PraiseDrawer$Forms", "minutesOf", "(I)I"⟩, 5) := ⟨⟨by decide +kernel, by decide +kernel⟩, List.mem_of_getElem? (i := 259) (by decide +kernel), List.mem_of_getElem? (i := 743) (by decide +kernel), List.mem_of_getElem? (i := 744) (by decide +kernel)⟩
theorem lw_p20 : lw_okq (⟨"PraiseDrawerModel", "sets", "(IJ)V"⟩, 25) := ⟨⟨by decide +kernel, by decide +kernel⟩, List.mem_of_getElem? (i := 789) (by decide +kernel), List.mem_of_getElem? (i := 795) (by decide +kernel), List.mem_of_getElem? (i := 796) (by decide +kernel)⟩
theorem lw_p21 : lw_okq (⟨"PraiseDrawerModel", "trims", "(I)V"⟩, 25) := ⟨⟨by decide +kernel, by decide +kernel⟩, List.mem_of_getElem? (i := 789) (by decide +kernel), List.mem_of_getElem? (i := 800) (by decide +kernel), List.mem_of_getElem? (i := 801) (by decide +kernel)⟩
theorem lw_p22 : lw_okq (⟨"PraiseDrawerModel", "next", "(I)I"⟩, 25) := ⟨⟨by decide +kernel, by decide +kernel⟩, List.mem_of_getElem? (i := 789) (by decide +kernel), List.mem_of_getElem? (i := 897) (by decide +kernel), List.mem_of_getElem? (i := 898) (by decide +kernel)⟩
theorem lw_p23 : lw_okq (⟨"PraiseDrawerModel", "is", "(II)Z"⟩, 25) := ⟨⟨by decide +kernel, by decide +kernel⟩, List.mem_of_getElem? (i := 789) (by decide +kernel), List.mem_of_getElem? (i := 915) (by decide +kernel), List.mem_of_getElem? (i := 916) (by decide +kernel)⟩
theorem lw_p24 : lw_okq (⟨"PraiseDrawerModel", "isUse", "(III)Z"⟩, 25) := ⟨⟨by decide +kernel, by decide +kernel⟩, List.mem_of_getElem? (i := 789) (by decide +kernel), List.mem_of_getElem? (i := 939) (by decide +kernel), List.mem_of_getElem? (i := 940) (by decide +kernel)⟩
theorem lw_p25 : lw_okq (⟨"PraiseDrawerModel", "usesOf", "(IIII)I"⟩, 25) := ⟨⟨by decide +kernel, by decide +kernel⟩, List.mem_of_getElem? (i := 789) (by decide +kernel), List.mem_of_getElem? (i := 943) (by decide +kernel), List.mem_of_getElem? (i := 944) (by decide +kernel)⟩
theorem lw_p26 : lw_okq (⟨"PraiseDrawerModel", "stands", "(II)I"⟩, 25) := ⟨⟨by decide +kernel, by decide +kernel⟩, List.mem_of_getElem? (i := 789) (by decide +kernel), List.mem_of_getElem? (i := 947) (by decide +kernel), List.mem_of_getElem? (i := 948) (by decide +kernel)⟩
theorem lw_p27 : lw_okq (⟨"PraiseDrawerModel", "meanUp", "(IIII)I"⟩, 25) := ⟨⟨by decide +kernel, by decide +kernel⟩, List.mem_of_getElem? (i := 789) (by decide +kernel), List.mem_of_getElem? (i := 955) (by decide +kernel), List.mem_of_getElem? (i := 956) (by decide +kernel)⟩
theorem lw_p28 : lw_okq (⟨"PraiseDrawerModel", "meanDown", "(III)I"⟩, 25) := ⟨⟨by decide +kernel, by decide +kernel⟩, List.mem_of_getElem? (i := 789) (by decide +kernel), List.mem_of_getElem? (i := 959) (by decide +kernel), List.mem_of_getElem? (i := 960) (by decide +kernel)⟩
theorem lw_p29 : lw_okq (⟨"PraiseDrawerModel", "told", "(JJ)I"⟩, 25) := ⟨⟨by decide +kernel, by decide +kernel⟩, List.mem_of_getElem? (i := 789) (by decide +kernel), List.mem_of_getElem? (i := 963) (by decide +kernel), List.mem_of_getElem? (i := 964) (by decide +kernel)⟩
theorem lw_p30 : lw_okq (⟨"PraiseDrawerModel", "lowers", "()V"⟩, 25) := ⟨⟨by decide +kernel, by decide +kernel⟩, List.mem_of_getElem? (i := 789) (by decide +kernel), List.mem_of_getElem? (i := 967) (by decide +kernel), List.mem_of_getElem? (i := 968) (by decide +kernel)⟩
theorem lw_p31 : lw_okq (⟨"PraiseDrawerModel", "isEven", "(I)Z"⟩, 25) := ⟨⟨by decide +kernel, by decide +kernel⟩, List.mem_of_getElem? (i := 789) (by decide +kernel), List.mem_of_getElem? (i := 971) (by decide +kernel), List.mem_of_getElem? (i := 972) (by decide +kernel)⟩
def lw_privs_2 : List (MethodName × Nat) := [(⟨"PraiseDrawer$Deals", "canRead", "(III)Z"⟩, 5), (⟨"PraiseDrawer$Deals", "firstReader", "(II)I"⟩, 5), (⟨"PraiseDrawer$Forms", "ask", "(II)V"⟩, 5), (⟨"PraiseDrawer$Forms", "minutesOf", "(I)I"⟩, 5), (⟨"PraiseDrawerModel", "sets", "(IJ)V"⟩, 25), (⟨"PraiseDrawerModel", "trims", "(I)V"⟩, 25), (⟨"PraiseDrawerModel", "next", "(I)I"⟩, 25), (⟨"PraiseDrawerModel", "is", "(II)Z"⟩, 25), (⟨"PraiseDrawerModel", "isUse", "(III)Z"⟩, 25), (⟨"PraiseDrawerModel", "usesOf", "(IIII)I"⟩, 25), (⟨"PraiseDrawerModel", "stands", "(II)I"⟩, 25), (⟨"PraiseDrawerModel", "meanUp", "(IIII)I"⟩, 25), (⟨"PraiseDrawerModel", "meanDown", "(III)I"⟩, 25), (⟨"PraiseDrawerModel", "told", "(JJ)I"⟩, 25), (⟨"PraiseDrawerModel", "lowers", "()V"⟩, 25), (⟨"PraiseDrawerModel", "isEven", "(I)Z"⟩, 25)]
theorem lw_r2 : ∀ q ∈ lw_privs_2, lw_okq q := List.forall_mem_cons.mpr ⟨lw_p16, List.forall_mem_cons.mpr ⟨lw_p17, List.forall_mem_cons.mpr ⟨lw_p18, List.forall_mem_cons.mpr ⟨lw_p19, List.forall_mem_cons.mpr ⟨lw_p20, List.forall_mem_cons.mpr ⟨lw_p21, List.forall_mem_cons.mpr ⟨lw_p22, List.forall_mem_cons.mpr ⟨lw_p23, List.forall_mem_cons.mpr ⟨lw_p24, List.forall_mem_cons.mpr ⟨lw_p25, List.forall_mem_cons.mpr ⟨lw_p26, List.forall_mem_cons.mpr ⟨lw_p27, List.forall_mem_cons.mpr ⟨lw_p28, List.forall_mem_cons.mpr ⟨lw_p29, List.forall_mem_cons.mpr ⟨lw_p30, List.forall_mem_cons.mpr ⟨lw_p31, fun _ h => absurd h List.not_mem_nil⟩⟩⟩⟩⟩⟩⟩⟩⟩⟩⟩⟩⟩⟩⟩⟩
theorem lw_p32 : lw_okq (⟨"PraiseDrawerModel", "halves", "(I)V"⟩, 25) := ⟨⟨by decide +kernel, by decide +kernel⟩, List.mem_of_getElem? (i := 789) (by decide +kernel), List.mem_of_getElem? (i := 975) (by decide +kernel), List.mem_of_getElem? (i := 976) (by decide +kernel)⟩
theorem lw_p33 : lw_okq (⟨"PraiseDrawerModel", "takes", "(II)V"⟩, 25) := ⟨⟨by decide +kernel, by decide +kernel⟩, List.mem_of_getElem? (i := 789) (by decide +kernel), List.mem_of_getElem? (i := 979) (by decide +kernel), List.mem_of_getElem? (i := 980) (by decide +kernel)⟩
theorem lw_p34 : lw_okq (⟨"PraiseDrawerModel", "against", "(II)I"⟩, 25) := ⟨⟨by decide +kernel, by decide +kernel⟩, List.mem_of_getElem? (i := 789) (by decide +kernel), List.mem_of_getElem? (i := 983) (by decide +kernel), List.mem_of_getElem? (i := 984) (by decide +kernel)⟩
theorem lw_p35 : lw_okq (⟨"PraiseDrawerModel", "lessens", "(II)V"⟩, 25) := ⟨⟨by decide +kernel, by decide +kernel⟩, List.mem_of_getElem? (i := 789) (by decide +kernel), List.mem_of_getElem? (i := 987) (by decide +kernel), List.mem_of_getElem? (i := 988) (by decide +kernel)⟩
theorem lw_p36 : lw_okq (⟨"PraiseDrawerModel", "parts", "(I)V"⟩, 25) := ⟨⟨by decide +kernel, by decide +kernel⟩, List.mem_of_getElem? (i := 789) (by decide +kernel), List.mem_of_getElem? (i := 992) (by decide +kernel), List.mem_of_getElem? (i := 993) (by decide +kernel)⟩
theorem lw_p37 : lw_okq (⟨"PraiseDrawerModel", "wordsOf", "(I)I"⟩, 25) := ⟨⟨by decide +kernel, by decide +kernel⟩, List.mem_of_getElem? (i := 789) (by decide +kernel), List.mem_of_getElem? (i := 1000) (by decide +kernel), List.mem_of_getElem? (i := 1001) (by decide +kernel)⟩
theorem lw_p38 : lw_okq (⟨"PraiseDrawerModel", "weighs", "(I)V"⟩, 25) := ⟨⟨by decide +kernel, by decide +kernel⟩, List.mem_of_getElem? (i := 789) (by decide +kernel), List.mem_of_getElem? (i := 1004) (by decide +kernel), List.mem_of_getElem? (i := 1005) (by decide +kernel)⟩
theorem lw_p39 : lw_okq (⟨"PraiseDrawerModel", "times", "(II)V"⟩, 25) := ⟨⟨by decide +kernel, by decide +kernel⟩, List.mem_of_getElem? (i := 789) (by decide +kernel), List.mem_of_getElem? (i := 1008) (by decide +kernel), List.mem_of_getElem? (i := 1009) (by decide +kernel)⟩
theorem lw_p40 : lw_okq (⟨"PraiseDrawerModel", "shares", "(II)V"⟩, 25) := ⟨⟨by decide +kernel, by decide +kernel⟩, List.mem_of_getElem? (i := 789) (by decide +kernel), List.mem_of_getElem? (i := 1012) (by decide +kernel), List.mem_of_getElem? (i := 1013) (by decide +kernel)⟩
theorem lw_p41 : lw_okq (⟨"PraiseDrawerModel", "multiplies", "(II)V"⟩, 25) := ⟨⟨by decide +kernel, by decide +kernel⟩, List.mem_of_getElem? (i := 789) (by decide +kernel), List.mem_of_getElem? (i := 1016) (by decide +kernel), List.mem_of_getElem? (i := 1017) (by decide +kernel)⟩
theorem lw_p42 : lw_okq (⟨"PraiseDrawerModel", "adds", "(II)V"⟩, 25) := ⟨⟨by decide +kernel, by decide +kernel⟩, List.mem_of_getElem? (i := 789) (by decide +kernel), List.mem_of_getElem? (i := 1020) (by decide +kernel), List.mem_of_getElem? (i := 1021) (by decide +kernel)⟩
theorem lw_p43 : lw_okq (⟨"PraiseDrawerModel", "wordsIn", "(III)I"⟩, 25) := ⟨⟨by decide +kernel, by decide +kernel⟩, List.mem_of_getElem? (i := 789) (by decide +kernel), List.mem_of_getElem? (i := 1039) (by decide +kernel), List.mem_of_getElem? (i := 1040) (by decide +kernel)⟩
theorem lw_p44 : lw_okq (⟨"PraiseDrawerModel", "isAbout", "(II)Z"⟩, 25) := ⟨⟨by decide +kernel, by decide +kernel⟩, List.mem_of_getElem? (i := 789) (by decide +kernel), List.mem_of_getElem? (i := 1051) (by decide +kernel), List.mem_of_getElem? (i := 1052) (by decide +kernel)⟩
theorem lw_p45 : lw_okq (⟨"PraiseDrawerModel", "lettersOf", "(IIIZ)I"⟩, 25) := ⟨⟨by decide +kernel, by decide +kernel⟩, List.mem_of_getElem? (i := 789) (by decide +kernel), List.mem_of_getElem? (i := 1055) (by decide +kernel), List.mem_of_getElem? (i := 1056) (by decide +kernel)⟩
theorem lw_p46 : lw_okq (⟨"PraiseDrawerModel", "runOf", "(II)I"⟩, 25) := ⟨⟨by decide +kernel, by decide +kernel⟩, List.mem_of_getElem? (i := 789) (by decide +kernel), List.mem_of_getElem? (i := 1070) (by decide +kernel), List.mem_of_getElem? (i := 1071) (by decide +kernel)⟩
theorem lw_p47 : lw_okq (⟨"PraiseDrawerModel", "likeOf", "(II)I"⟩, 25) := ⟨⟨by decide +kernel, by decide +kernel⟩, List.mem_of_getElem? (i := 789) (by decide +kernel), List.mem_of_getElem? (i := 1074) (by decide +kernel), List.mem_of_getElem? (i := 1075) (by decide +kernel)⟩
def lw_privs_3 : List (MethodName × Nat) := [(⟨"PraiseDrawerModel", "halves", "(I)V"⟩, 25), (⟨"PraiseDrawerModel", "takes", "(II)V"⟩, 25), (⟨"PraiseDrawerModel", "against", "(II)I"⟩, 25), (⟨"PraiseDrawerModel", "lessens", "(II)V"⟩, 25), (⟨"PraiseDrawerModel", "parts", "(I)V"⟩, 25), (⟨"PraiseDrawerModel", "wordsOf", "(I)I"⟩, 25), (⟨"PraiseDrawerModel", "weighs", "(I)V"⟩, 25), (⟨"PraiseDrawerModel", "times", "(II)V"⟩, 25), (⟨"PraiseDrawerModel", "shares", "(II)V"⟩, 25), (⟨"PraiseDrawerModel", "multiplies", "(II)V"⟩, 25), (⟨"PraiseDrawerModel", "adds", "(II)V"⟩, 25), (⟨"PraiseDrawerModel", "wordsIn", "(III)I"⟩, 25), (⟨"PraiseDrawerModel", "isAbout", "(II)Z"⟩, 25), (⟨"PraiseDrawerModel", "lettersOf", "(IIIZ)I"⟩, 25), (⟨"PraiseDrawerModel", "runOf", "(II)I"⟩, 25), (⟨"PraiseDrawerModel", "likeOf", "(II)I"⟩, 25)]
theorem lw_r3 : ∀ q ∈ lw_privs_3, lw_okq q := List.forall_mem_cons.mpr ⟨lw_p32, List.forall_mem_cons.mpr ⟨lw_p33, List.forall_mem_cons.mpr ⟨lw_p34, List.forall_mem_cons.mpr ⟨lw_p35, List.forall_mem_cons.mpr ⟨lw_p36, List.forall_mem_cons.mpr ⟨lw_p37, List.forall_mem_cons.mpr ⟨lw_p38, List.forall_mem_cons.mpr ⟨lw_p39, List.forall_mem_cons.mpr ⟨lw_p40, List.forall_mem_cons.mpr ⟨lw_p41, List.forall_mem_cons.mpr ⟨lw_p42, List.forall_mem_cons.mpr ⟨lw_p43, List.forall_mem_cons.mpr ⟨lw_p44, List.forall_mem_cons.mpr ⟨lw_p45, List.forall_mem_cons.mpr ⟨lw_p46, List.forall_mem_cons.mpr ⟨lw_p47, fun _ h => absurd h List.not_mem_nil⟩⟩⟩⟩⟩⟩⟩⟩⟩⟩⟩⟩⟩⟩⟩⟩
theorem lw_p48 : lw_okq (⟨"PraiseDrawerModel", "orders", "(II)I"⟩, 25) := ⟨⟨by decide +kernel, by decide +kernel⟩, List.mem_of_getElem? (i := 789) (by decide +kernel), List.mem_of_getElem? (i := 1098) (by decide +kernel), List.mem_of_getElem? (i := 1099) (by decide +kernel)⟩
theorem lw_p49 : lw_okq (⟨"PraiseDrawerModel", "againstNext", "(II)I"⟩, 25) := ⟨⟨by decide +kernel, by decide +kernel⟩, List.mem_of_getElem? (i := 789) (by decide +kernel), List.mem_of_getElem? (i := 1102) (by decide +kernel), List.mem_of_getElem? (i := 1103) (by decide +kernel)⟩
theorem lw_p50 : lw_okq (⟨"PraiseDrawerModel", "deals", "(I)I"⟩, 25) := ⟨⟨by decide +kernel, by decide +kernel⟩, List.mem_of_getElem? (i := 789) (by decide +kernel), List.mem_of_getElem? (i := 1120) (by decide +kernel), List.mem_of_getElem? (i := 1121) (by decide +kernel)⟩
theorem lw_p51 : lw_okq (⟨"PraiseDrawerModel", "isFree", "(I)Z"⟩, 25) := ⟨⟨by decide +kernel, by decide +kernel⟩, List.mem_of_getElem? (i := 789) (by decide +kernel), List.mem_of_getElem? (i := 1124) (by decide +kernel), List.mem_of_getElem? (i := 1125) (by decide +kernel)⟩
theorem lw_p52 : lw_okq (⟨"PraiseDrawerModel", "mayRead", "(II)Z"⟩, 25) := ⟨⟨by decide +kernel, by decide +kernel⟩, List.mem_of_getElem? (i := 789) (by decide +kernel), List.mem_of_getElem? (i := 1128) (by decide +kernel), List.mem_of_getElem? (i := 1129) (by decide +kernel)⟩
theorem lw_p53 : lw_okq (⟨"PraiseDrawerModel", "tellsOf", "(I)J"⟩, 25) := ⟨⟨by decide +kernel, by decide +kernel⟩, List.mem_of_getElem? (i := 789) (by decide +kernel), List.mem_of_getElem? (i := 1150) (by decide +kernel), List.mem_of_getElem? (i := 1151) (by decide +kernel)⟩
theorem lw_p54 : lw_okq (⟨"PraiseDrawerModel", "wholeOf", "()J"⟩, 25) := ⟨⟨by decide +kernel, by decide +kernel⟩, List.mem_of_getElem? (i := 789) (by decide +kernel), List.mem_of_getElem? (i := 1154) (by decide +kernel), List.mem_of_getElem? (i := 1155) (by decide +kernel)⟩
theorem lw_p55 : lw_okq (⟨"PraiseDrawerModel", "minutesOf", "(I)I"⟩, 25) := ⟨⟨by decide +kernel, by decide +kernel⟩, List.mem_of_getElem? (i := 789) (by decide +kernel), List.mem_of_getElem? (i := 1163) (by decide +kernel), List.mem_of_getElem? (i := 1164) (by decide +kernel)⟩
def lw_privs_4 : List (MethodName × Nat) := [(⟨"PraiseDrawerModel", "orders", "(II)I"⟩, 25), (⟨"PraiseDrawerModel", "againstNext", "(II)I"⟩, 25), (⟨"PraiseDrawerModel", "deals", "(I)I"⟩, 25), (⟨"PraiseDrawerModel", "isFree", "(I)Z"⟩, 25), (⟨"PraiseDrawerModel", "mayRead", "(II)Z"⟩, 25), (⟨"PraiseDrawerModel", "tellsOf", "(I)J"⟩, 25), (⟨"PraiseDrawerModel", "wholeOf", "()J"⟩, 25), (⟨"PraiseDrawerModel", "minutesOf", "(I)I"⟩, 25)]
theorem lw_r4 : ∀ q ∈ lw_privs_4, lw_okq q := List.forall_mem_cons.mpr ⟨lw_p48, List.forall_mem_cons.mpr ⟨lw_p49, List.forall_mem_cons.mpr ⟨lw_p50, List.forall_mem_cons.mpr ⟨lw_p51, List.forall_mem_cons.mpr ⟨lw_p52, List.forall_mem_cons.mpr ⟨lw_p53, List.forall_mem_cons.mpr ⟨lw_p54, List.forall_mem_cons.mpr ⟨lw_p55, fun _ h => absurd h List.not_mem_nil⟩⟩⟩⟩⟩⟩⟩⟩
def lw_privs : List (MethodName × Nat) := lw_privs_1 ++ (lw_privs_2 ++ (lw_privs_3 ++ (lw_privs_4)))
def lw_tbl : List Cond := k2_sels lw_privs ++ tables_1
theorem lw_privs_ok : ∀ q ∈ lw_privs, lw_okq q := by
  show ∀ q ∈ lw_privs_1 ++ (lw_privs_2 ++ (lw_privs_3 ++ (lw_privs_4))), lw_okq q
  exact List.forall_mem_append.mpr ⟨lw_r1, List.forall_mem_append.mpr ⟨lw_r2, List.forall_mem_append.mpr ⟨lw_r3, lw_r4⟩⟩⟩
end
section
def RX0 : String := "PraiseDrawer$Big"
def TX0 : u_T := fun k => match k with
  | 0 => ("PraiseDrawer$Big", "limbs", "[I", true)
  | _ => ("PraiseDrawer$Big", "size", "I", false)
def tyX0 : Nat → FieldType := fun k => match k with
  | 0 => .array .int
  | _ => .int
theorem nmX0 : ∀ a, a < 2 → ∀ b, b < 2 → a ≠ b → (TX0 a).2.1 ≠ (TX0 b).2.1 := by decide +kernel
theorem tyX0_ok : ∀ k, k < 2 → parseFieldDescriptor (TX0 k).2.2.1 = some (tyX0 k) := by decide +kernel
abbrev cX0_init : ByteArray := prog_2_method_1_code
def yX0_init : MethodName := ⟨RX0, "<init>", "()V"⟩
abbrev cX0_put : ByteArray := prog_2_method_2_code
def yX0_put : MethodName := ⟨RX0, "put", "(J)V"⟩
abbrev cX0_copy : ByteArray := prog_2_method_3_code
def yX0_copy : MethodName := ⟨RX0, "copy", "(LPraiseDrawer$Big;)V"⟩
abbrev cX0_carryOn : ByteArray := prog_2_method_4_code
def yX0_carryOn : MethodName := ⟨RX0, "carryOn", "(J)V"⟩
abbrev cX0_multiply : ByteArray := prog_2_method_5_code
def yX0_multiply : MethodName := ⟨RX0, "multiply", "(J)V"⟩
abbrev cX0_add : ByteArray := prog_2_method_6_code
def yX0_add : MethodName := ⟨RX0, "add", "(LPraiseDrawer$Big;)V"⟩
abbrev cX0_restOf : ByteArray := prog_2_method_7_code
def yX0_restOf : MethodName := ⟨RX0, "restOf", "(I)I"⟩
abbrev cX0_divide : ByteArray := prog_2_method_8_code
def yX0_divide : MethodName := ⟨RX0, "divide", "(I)V"⟩
abbrev cX0_isAbove : ByteArray := prog_2_method_9_code
def yX0_isAbove : MethodName := ⟨RX0, "isAbove", "(LPraiseDrawer$Big;)Z"⟩
def RX1 : String := "PraiseDrawer$Chances"
def TX1 : u_T := fun k => match k with
  | 0 => ("PraiseDrawer$Chances", "drawer", "LPraiseDrawer$Drawer;", true)
  | 1 => ("PraiseDrawer$Chances", "tally", "LPraiseDrawer$Tally;", true)
  | 2 => ("PraiseDrawer$Chances", "weights", "[I", true)
  | 3 => ("PraiseDrawer$Chances", "shares", "[LPraiseDrawer$Big;", true)
  | _ => ("PraiseDrawer$Chances", "whole", "LPraiseDrawer$Big;", true)
def tyX1 : Nat → FieldType := fun k => match k with
  | 0 => .object "PraiseDrawer$Drawer"
  | 1 => .object "PraiseDrawer$Tally"
  | 2 => .array .int
  | 3 => .array (.object "PraiseDrawer$Big")
  | _ => .object "PraiseDrawer$Big"
theorem nmX1 : ∀ a, a < 5 → ∀ b, b < 5 → a ≠ b → (TX1 a).2.1 ≠ (TX1 b).2.1 := by decide +kernel
theorem tyX1_ok : ∀ k, k < 5 → parseFieldDescriptor (TX1 k).2.2.1 = some (tyX1 k) := by decide +kernel
abbrev cX1_init : ByteArray := prog_3_method_1_code
def yX1_init : MethodName := ⟨RX1, "<init>", "(LPraiseDrawer$Drawer;LPraiseDrawer$Tally;[I)V"⟩
abbrev cX1_wordsFor : ByteArray := prog_3_method_2_code
def yX1_wordsFor : MethodName := ⟨RX1, "wordsFor", "(I)I"⟩
abbrev cX1_takeFor : ByteArray := prog_3_method_3_code
def yX1_takeFor : MethodName := ⟨RX1, "takeFor", "(I)V"⟩
abbrev cX1_takeLetter : ByteArray := prog_3_method_4_code
def yX1_takeLetter : MethodName := ⟨RX1, "takeLetter", "(I)V"⟩
abbrev cX1_factorOf : ByteArray := prog_3_method_5_code
def yX1_factorOf : MethodName := ⟨RX1, "factorOf", "(III)J"⟩
abbrev cX1_greatest : ByteArray := prog_3_method_6_code
def yX1_greatest : MethodName := ⟨RX1, "greatest", "()I"⟩
def RX2 : String := "PraiseDrawer$Deals"
def TX2 : u_T := fun k => match k with
  | 0 => ("PraiseDrawer$Deals", "drawer", "LPraiseDrawer$Drawer;", true)
  | 1 => ("PraiseDrawer$Deals", "kinOfReaders", "[I", true)
  | 2 => ("PraiseDrawer$Deals", "letters", "[I", true)
  | 3 => ("PraiseDrawer$Deals", "size", "I", false)
  | _ => ("PraiseDrawer$Deals", "ways", "[I", true)
def tyX2 : Nat → FieldType := fun k => match k with
  | 0 => .object "PraiseDrawer$Drawer"
  | 1 => .array .int
  | 2 => .array .int
  | 3 => .int
  | _ => .array .int
theorem nmX2 : ∀ a, a < 5 → ∀ b, b < 5 → a ≠ b → (TX2 a).2.1 ≠ (TX2 b).2.1 := by decide +kernel
theorem tyX2_ok : ∀ k, k < 5 → parseFieldDescriptor (TX2 k).2.2.1 = some (tyX2 k) := by decide +kernel
abbrev cX2_init : ByteArray := prog_4_method_1_code
def yX2_init : MethodName := ⟨RX2, "<init>", "(LPraiseDrawer$Drawer;)V"⟩
abbrev cX2_waysOf : ByteArray := prog_4_method_2_code
def yX2_waysOf : MethodName := ⟨RX2, "waysOf", "(I)I"⟩
abbrev cX2_waysBehind : ByteArray := prog_4_method_3_code
def yX2_waysBehind : MethodName := ⟨RX2, "waysBehind", "(I)I"⟩
abbrev cX2_canRead : ByteArray := prog_4_method_4_code
def yX2_canRead : MethodName := ⟨RX2, "canRead", "(III)Z"⟩
abbrev cX2_readerInFirst : ByteArray := prog_4_method_5_code
def yX2_readerInFirst : MethodName := ⟨RX2, "readerInFirst", "(I)I"⟩
abbrev cX2_firstReader : ByteArray := prog_4_method_6_code
def yX2_firstReader : MethodName := ⟨RX2, "firstReader", "(II)I"⟩
def RX3 : String := "PraiseDrawer$Drawer"
def TX3 : u_T := fun k => match k with
  | 0 => ("PraiseDrawer$Drawer", "ranks", "[I", true)
  | 1 => ("PraiseDrawer$Drawer", "wordAbouts", "[I", true)
  | 2 => ("PraiseDrawer$Drawer", "kins", "[I", true)
  | 3 => ("PraiseDrawer$Drawer", "pupilAbouts", "[I", true)
  | 4 => ("PraiseDrawer$Drawer", "gifts", "[I", true)
  | 5 => ("PraiseDrawer$Drawer", "letterHands", "[I", true)
  | 6 => ("PraiseDrawer$Drawer", "letterPupils", "[I", true)
  | 7 => ("PraiseDrawer$Drawer", "letterYears", "[I", true)
  | 8 => ("PraiseDrawer$Drawer", "sizes", "[I", true)
  | 9 => ("PraiseDrawer$Drawer", "texts", "[[I", true)
  | 10 => ("PraiseDrawer$Drawer", "words", "I", false)
  | 11 => ("PraiseDrawer$Drawer", "hands", "I", false)
  | 12 => ("PraiseDrawer$Drawer", "pupils", "I", false)
  | _ => ("PraiseDrawer$Drawer", "letters", "I", false)
def tyX3 : Nat → FieldType := fun k => match k with
  | 0 => .array .int
  | 1 => .array .int
  | 2 => .array .int
  | 3 => .array .int
  | 4 => .array .int
  | 5 => .array .int
  | 6 => .array .int
  | 7 => .array .int
  | 8 => .array .int
  | 9 => .array (.array .int)
  | 10 => .int
  | 11 => .int
  | 12 => .int
  | _ => .int
theorem nmX3 : ∀ a, a < 14 → ∀ b, b < 14 → a ≠ b → (TX3 a).2.1 ≠ (TX3 b).2.1 := by decide +kernel
theorem tyX3_ok : ∀ k, k < 14 → parseFieldDescriptor (TX3 k).2.2.1 = some (tyX3 k) := by decide +kernel
abbrev cX3_init : ByteArray := prog_5_method_1_code
def yX3_init : MethodName := ⟨RX3, "<init>", "()V"⟩
abbrev cX3_addWord : ByteArray := prog_5_method_2_code
def yX3_addWord : MethodName := ⟨RX3, "addWord", "(II)I"⟩
abbrev cX3_addHand : ByteArray := prog_5_method_3_code
def yX3_addHand : MethodName := ⟨RX3, "addHand", "(I)I"⟩
abbrev cX3_addPupil : ByteArray := prog_5_method_4_code
def yX3_addPupil : MethodName := ⟨RX3, "addPupil", "(II)I"⟩
abbrev cX3_addLetter : ByteArray := prog_5_method_5_code
def yX3_addLetter : MethodName := ⟨RX3, "addLetter", "(III)I"⟩
abbrev cX3_addToLetter : ByteArray := prog_5_method_6_code
def yX3_addToLetter : MethodName := ⟨RX3, "addToLetter", "(II)I"⟩
abbrev cX3_lettersOn : ByteArray := prog_5_method_7_code
def yX3_lettersOn : MethodName := ⟨RX3, "lettersOn", "(II)I"⟩
abbrev cX3_lettersWith : ByteArray := prog_5_method_8_code
def yX3_lettersWith : MethodName := ⟨RX3, "lettersWith", "(III)I"⟩
abbrev cX3_isOn : ByteArray := prog_5_method_9_code
def yX3_isOn : MethodName := ⟨RX3, "isOn", "(III)Z"⟩
abbrev cX3_holds : ByteArray := prog_5_method_10_code
def yX3_holds : MethodName := ⟨RX3, "holds", "(II)Z"⟩
abbrev cX3_digestInto : ByteArray := prog_5_method_11_code
def yX3_digestInto : MethodName := ⟨RX3, "digestInto", "(J)J"⟩
def RX4 : String := "PraiseDrawer$Forms"
def TX4 : u_T := fun k => match k with
  | 0 => ("PraiseDrawer$Forms", "weights", "[I", true)
  | 1 => ("PraiseDrawer$Forms", "minutes", "[I", true)
  | 2 => ("PraiseDrawer$Forms", "yes", "[[I", true)
  | 3 => ("PraiseDrawer$Forms", "size", "I", false)
  | _ => ("PraiseDrawer$Forms", "answers", "[[J", true)
def tyX4 : Nat → FieldType := fun k => match k with
  | 0 => .array .int
  | 1 => .array .int
  | 2 => .array (.array .int)
  | 3 => .int
  | _ => .array (.array .long)
theorem nmX4 : ∀ a, a < 5 → ∀ b, b < 5 → a ≠ b → (TX4 a).2.1 ≠ (TX4 b).2.1 := by decide +kernel
theorem tyX4_ok : ∀ k, k < 5 → parseFieldDescriptor (TX4 k).2.2.1 = some (tyX4 k) := by decide +kernel
abbrev cX4_init : ByteArray := prog_6_method_1_code
def yX4_init : MethodName := ⟨RX4, "<init>", "([I)V"⟩
abbrev cX4_add : ByteArray := prog_6_method_2_code
def yX4_add : MethodName := ⟨RX4, "add", "(IIIII)I"⟩
abbrev cX4_guessedRight : ByteArray := prog_6_method_3_code
def yX4_guessedRight : MethodName := ⟨RX4, "guessedRight", "(I)J"⟩
abbrev cX4_ask : ByteArray := prog_6_method_4_code
def yX4_ask : MethodName := ⟨RX4, "ask", "(II)V"⟩
abbrev cX4_allGuesses : ByteArray := prog_6_method_5_code
def yX4_allGuesses : MethodName := ⟨RX4, "allGuesses", "(I)J"⟩
abbrev cX4_hundreds : ByteArray := prog_6_method_6_code
def yX4_hundreds : MethodName := ⟨RX4, "hundreds", "(I)J"⟩
abbrev cX4_minutesOf : ByteArray := prog_6_method_7_code
def yX4_minutesOf : MethodName := ⟨RX4, "minutesOf", "(I)I"⟩
abbrev cX4_bestWithin : ByteArray := prog_6_method_8_code
def yX4_bestWithin : MethodName := ⟨RX4, "bestWithin", "(I)I"⟩
abbrev cX4_digestInto : ByteArray := prog_6_method_9_code
def yX4_digestInto : MethodName := ⟨RX4, "digestInto", "(J)J"⟩
def RX5 : String := "PraiseDrawer$Fraction"
def TX5 : u_T := fun k => match k with
  | 0 => ("PraiseDrawer$Fraction", "above", "LPraiseDrawer$Big;", true)
  | _ => ("PraiseDrawer$Fraction", "below", "LPraiseDrawer$Big;", true)
def tyX5 : Nat → FieldType := fun k => match k with
  | 0 => .object "PraiseDrawer$Big"
  | _ => .object "PraiseDrawer$Big"
theorem nmX5 : ∀ a, a < 2 → ∀ b, b < 2 → a ≠ b → (TX5 a).2.1 ≠ (TX5 b).2.1 := by decide +kernel
theorem tyX5_ok : ∀ k, k < 2 → parseFieldDescriptor (TX5 k).2.2.1 = some (tyX5 k) := by decide +kernel
abbrev cX5_init : ByteArray := prog_7_method_1_code
def yX5_init : MethodName := ⟨RX5, "<init>", "()V"⟩
abbrev cX5_put : ByteArray := prog_7_method_2_code
def yX5_put : MethodName := ⟨RX5, "put", "(JJ)V"⟩
abbrev cX5_commonOf : ByteArray := prog_7_method_3_code
def yX5_commonOf : MethodName := ⟨RX5, "commonOf", "(JJ)J"⟩
abbrev cX5_putBig : ByteArray := prog_7_method_4_code
def yX5_putBig : MethodName := ⟨RX5, "putBig", "(LPraiseDrawer$Big;LPraiseDrawer$Big;)V"⟩
def RX6 : String := "PraiseDrawer$Sayings"
def TX6 : u_T := fun k => match k with
  | 0 => ("PraiseDrawer$Sayings", "hands", "[I", true)
  | 1 => ("PraiseDrawer$Sayings", "betters", "[I", true)
  | 2 => ("PraiseDrawer$Sayings", "thans", "[I", true)
  | 3 => ("PraiseDrawer$Sayings", "size", "I", false)
  | 4 => ("PraiseDrawer$Sayings", "over", "[[I", true)
  | 5 => ("PraiseDrawer$Sayings", "againstAhead", "[[I", true)
  | _ => ("PraiseDrawer$Sayings", "fewest", "[I", true)
def tyX6 : Nat → FieldType := fun k => match k with
  | 0 => .array .int
  | 1 => .array .int
  | 2 => .array .int
  | 3 => .int
  | 4 => .array (.array .int)
  | 5 => .array (.array .int)
  | _ => .array .int
theorem nmX6 : ∀ a, a < 7 → ∀ b, b < 7 → a ≠ b → (TX6 a).2.1 ≠ (TX6 b).2.1 := by decide +kernel
theorem tyX6_ok : ∀ k, k < 7 → parseFieldDescriptor (TX6 k).2.2.1 = some (tyX6 k) := by decide +kernel
abbrev cX6_init : ByteArray := prog_8_method_1_code
def yX6_init : MethodName := ⟨RX6, "<init>", "()V"⟩
abbrev cX6_add : ByteArray := prog_8_method_2_code
def yX6_add : MethodName := ⟨RX6, "add", "(III)I"⟩
abbrev cX6_fewestAgainst : ByteArray := prog_8_method_3_code
def yX6_fewestAgainst : MethodName := ⟨RX6, "fewestAgainst", "(III)I"⟩
abbrev cX6_takeAhead : ByteArray := prog_8_method_4_code
def yX6_takeAhead : MethodName := ⟨RX6, "takeAhead", "(I)V"⟩
abbrev cX6_againstFirst : ByteArray := prog_8_method_5_code
def yX6_againstFirst : MethodName := ⟨RX6, "againstFirst", "(II)I"⟩
abbrev cX6_pupilInPlace : ByteArray := prog_8_method_6_code
def yX6_pupilInPlace : MethodName := ⟨RX6, "pupilInPlace", "(II)I"⟩
abbrev cX6_firstOf : ByteArray := prog_8_method_7_code
def yX6_firstOf : MethodName := ⟨RX6, "firstOf", "(II)I"⟩
abbrev cX6_digestInto : ByteArray := prog_8_method_8_code
def yX6_digestInto : MethodName := ⟨RX6, "digestInto", "(J)J"⟩
def RX7 : String := "PraiseDrawer$Sides"
def TX7 : u_T := fun k => match k with
  | 0 => ("PraiseDrawer$Sides", "drawer", "LPraiseDrawer$Drawer;", true)
  | _ => ("PraiseDrawer$Sides", "alike", "[[I", true)
def tyX7 : Nat → FieldType := fun k => match k with
  | 0 => .object "PraiseDrawer$Drawer"
  | _ => .array (.array .int)
theorem nmX7 : ∀ a, a < 2 → ∀ b, b < 2 → a ≠ b → (TX7 a).2.1 ≠ (TX7 b).2.1 := by decide +kernel
theorem tyX7_ok : ∀ k, k < 2 → parseFieldDescriptor (TX7 k).2.2.1 = some (tyX7 k) := by decide +kernel
abbrev cX7_init : ByteArray := prog_9_method_1_code
def yX7_init : MethodName := ⟨RX7, "<init>", "(LPraiseDrawer$Drawer;)V"⟩
abbrev cX7_longestRun : ByteArray := prog_9_method_2_code
def yX7_longestRun : MethodName := ⟨RX7, "longestRun", "(II)I"⟩
abbrev cX7_mostInOrder : ByteArray := prog_9_method_3_code
def yX7_mostInOrder : MethodName := ⟨RX7, "mostInOrder", "(II)I"⟩
abbrev cX7_leftFrom : ByteArray := prog_9_method_4_code
def yX7_leftFrom : MethodName := ⟨RX7, "leftFrom", "(II)I"⟩
def RX8 : String := "PraiseDrawer$Tally"
def TX8 : u_T := fun k => match k with
  | 0 => ("PraiseDrawer$Tally", "drawer", "LPraiseDrawer$Drawer;", true)
  | 1 => ("PraiseDrawer$Tally", "times", "[[I", true)
  | _ => ("PraiseDrawer$Tally", "timesOfAll", "[I", true)
def tyX8 : Nat → FieldType := fun k => match k with
  | 0 => .object "PraiseDrawer$Drawer"
  | 1 => .array (.array .int)
  | _ => .array .int
theorem nmX8 : ∀ a, a < 3 → ∀ b, b < 3 → a ≠ b → (TX8 a).2.1 ≠ (TX8 b).2.1 := by decide +kernel
theorem tyX8_ok : ∀ k, k < 3 → parseFieldDescriptor (TX8 k).2.2.1 = some (tyX8 k) := by decide +kernel
abbrev cX8_init : ByteArray := prog_10_method_1_code
def yX8_init : MethodName := ⟨RX8, "<init>", "(LPraiseDrawer$Drawer;)V"⟩
abbrev cX8_takeAllBut : ByteArray := prog_10_method_2_code
def yX8_takeAllBut : MethodName := ⟨RX8, "takeAllBut", "(I)V"⟩
abbrev cX8_takeLetter : ByteArray := prog_10_method_3_code
def yX8_takeLetter : MethodName := ⟨RX8, "takeLetter", "(II)V"⟩
abbrev cX8_rowOf : ByteArray := prog_10_method_4_code
def yX8_rowOf : MethodName := ⟨RX8, "rowOf", "(II)I"⟩
abbrev cX8_usesOf : ByteArray := prog_10_method_5_code
def yX8_usesOf : MethodName := ⟨RX8, "usesOf", "(III)I"⟩
abbrev cX8_usesOfAll : ByteArray := prog_10_method_6_code
def yX8_usesOfAll : MethodName := ⟨RX8, "usesOfAll", "(II)I"⟩
abbrev cX8_meantAbove : ByteArray := prog_10_method_7_code
def yX8_meantAbove : MethodName := ⟨RX8, "meantAbove", "(III)J"⟩
abbrev cX8_meantBelow : ByteArray := prog_10_method_8_code
def yX8_meantBelow : MethodName := ⟨RX8, "meantBelow", "(II)J"⟩
def RX9 : String := "PraiseDrawer$Years"
def TX9 : u_T := fun k => match k with
  | 0 => ("PraiseDrawer$Years", "drawer", "LPraiseDrawer$Drawer;", true)
  | 1 => ("PraiseDrawer$Years", "first", "[I", true)
  | _ => ("PraiseDrawer$Years", "second", "[I", true)
def tyX9 : Nat → FieldType := fun k => match k with
  | 0 => .object "PraiseDrawer$Drawer"
  | 1 => .array .int
  | _ => .array .int
theorem nmX9 : ∀ a, a < 3 → ∀ b, b < 3 → a ≠ b → (TX9 a).2.1 ≠ (TX9 b).2.1 := by decide +kernel
theorem tyX9_ok : ∀ k, k < 3 → parseFieldDescriptor (TX9 k).2.2.1 = some (tyX9 k) := by decide +kernel
abbrev cX9_init : ByteArray := prog_11_method_1_code
def yX9_init : MethodName := ⟨RX9, "<init>", "(LPraiseDrawer$Drawer;)V"⟩
abbrev cX9_take : ByteArray := prog_11_method_2_code
def yX9_take : MethodName := ⟨RX9, "take", "([III)V"⟩
abbrev cX9_takeLetter : ByteArray := prog_11_method_3_code
def yX9_takeLetter : MethodName := ⟨RX9, "takeLetter", "([II)V"⟩
abbrev cX9_wordsUpTo : ByteArray := prog_11_method_4_code
def yX9_wordsUpTo : MethodName := ⟨RX9, "wordsUpTo", "([II)I"⟩
abbrev cX9_sumOfRanks : ByteArray := prog_11_method_5_code
def yX9_sumOfRanks : MethodName := ⟨RX9, "sumOfRanks", "([I)I"⟩
abbrev cX9_rankInSecond : ByteArray := prog_11_method_6_code
def yX9_rankInSecond : MethodName := ⟨RX9, "rankInSecond", "(I)I"⟩
def RX10 : String := "PraiseDrawer"
def TX10 : u_T := fun k => match k with
  | 0 => ("PraiseDrawer", "drawer", "LPraiseDrawer$Drawer;", true)
  | 1 => ("PraiseDrawer", "tally", "LPraiseDrawer$Tally;", true)
  | 2 => ("PraiseDrawer", "chances", "LPraiseDrawer$Chances;", true)
  | 3 => ("PraiseDrawer", "years", "LPraiseDrawer$Years;", true)
  | 4 => ("PraiseDrawer", "sides", "LPraiseDrawer$Sides;", true)
  | 5 => ("PraiseDrawer", "sayings", "LPraiseDrawer$Sayings;", true)
  | 6 => ("PraiseDrawer", "deals", "LPraiseDrawer$Deals;", true)
  | 7 => ("PraiseDrawer", "forms", "LPraiseDrawer$Forms;", true)
  | 8 => ("PraiseDrawer", "fraction", "LPraiseDrawer$Fraction;", true)
  | _ => ("PraiseDrawer", "weights", "[I", true)
def tyX10 : Nat → FieldType := fun k => match k with
  | 0 => .object "PraiseDrawer$Drawer"
  | 1 => .object "PraiseDrawer$Tally"
  | 2 => .object "PraiseDrawer$Chances"
  | 3 => .object "PraiseDrawer$Years"
  | 4 => .object "PraiseDrawer$Sides"
  | 5 => .object "PraiseDrawer$Sayings"
  | 6 => .object "PraiseDrawer$Deals"
  | 7 => .object "PraiseDrawer$Forms"
  | 8 => .object "PraiseDrawer$Fraction"
  | _ => .array .int
theorem nmX10 : ∀ a, a < 10 → ∀ b, b < 10 → a ≠ b → (TX10 a).2.1 ≠ (TX10 b).2.1 := by decide +kernel
theorem tyX10_ok : ∀ k, k < 10 → parseFieldDescriptor (TX10 k).2.2.1 = some (tyX10 k) := by decide +kernel
abbrev cX10_init : ByteArray := prog_1_method_1_code
def yX10_init : MethodName := ⟨RX10, "<init>", "()V"⟩
abbrev cX10_word : ByteArray := prog_1_method_2_code
def yX10_word : MethodName := ⟨RX10, "word", "(II)I"⟩
abbrev cX10_hand : ByteArray := prog_1_method_3_code
def yX10_hand : MethodName := ⟨RX10, "hand", "(I)I"⟩
abbrev cX10_pupil : ByteArray := prog_1_method_4_code
def yX10_pupil : MethodName := ⟨RX10, "pupil", "(II)I"⟩
abbrev cX10_became : ByteArray := prog_1_method_5_code
def yX10_became : MethodName := ⟨RX10, "became", "(II)I"⟩
abbrev cX10_letter : ByteArray := prog_1_method_6_code
def yX10_letter : MethodName := ⟨RX10, "letter", "(III)I"⟩
abbrev cX10_write : ByteArray := prog_1_method_7_code
def yX10_write : MethodName := ⟨RX10, "write", "(II)I"⟩
abbrev cX10_weight : ByteArray := prog_1_method_8_code
def yX10_weight : MethodName := ⟨RX10, "weight", "(II)I"⟩
abbrev cX10_uses : ByteArray := prog_1_method_9_code
def yX10_uses : MethodName := ⟨RX10, "uses", "(III)I"⟩
abbrev cX10_means : ByteArray := prog_1_method_10_code
def yX10_means : MethodName := ⟨RX10, "means", "(III)I"⟩
abbrev cX10_odds : ByteArray := prog_1_method_11_code
def yX10_odds : MethodName := ⟨RX10, "odds", "(II)I"⟩
abbrev cX10_likeliest : ByteArray := prog_1_method_12_code
def yX10_likeliest : MethodName := ⟨RX10, "likeliest", "(I)I"⟩
abbrev cX10_says : ByteArray := prog_1_method_13_code
def yX10_says : MethodName := ⟨RX10, "says", "(I)I"⟩
abbrev cX10_year : ByteArray := prog_1_method_14_code
def yX10_year : MethodName := ⟨RX10, "year", "(II)I"⟩
abbrev cX10_asIn : ByteArray := prog_1_method_15_code
def yX10_asIn : MethodName := ⟨RX10, "asIn", "(III)I"⟩
abbrev cX10_about : ByteArray := prog_1_method_16_code
def yX10_about : MethodName := ⟨RX10, "about", "(III)I"⟩
abbrev cX10_chance : ByteArray := prog_1_method_17_code
def yX10_chance : MethodName := ⟨RX10, "chance", "(III)I"⟩
abbrev cX10_like : ByteArray := prog_1_method_18_code
def yX10_like : MethodName := ⟨RX10, "like", "(III)I"⟩
abbrev cX10_left : ByteArray := prog_1_method_19_code
def yX10_left : MethodName := ⟨RX10, "left", "(II)I"⟩
abbrev cX10_slip : ByteArray := prog_1_method_20_code
def yX10_slip : MethodName := ⟨RX10, "slip", "(I)I"⟩
abbrev cX10_said : ByteArray := prog_1_method_21_code
def yX10_said : MethodName := ⟨RX10, "said", "(III)I"⟩
abbrev cX10_order : ByteArray := prog_1_method_22_code
def yX10_order : MethodName := ⟨RX10, "order", "(I)I"⟩
abbrev cX10_sure : ByteArray := prog_1_method_23_code
def yX10_sure : MethodName := ⟨RX10, "sure", "(II)I"⟩
abbrev cX10_kin : ByteArray := prog_1_method_24_code
def yX10_kin : MethodName := ⟨RX10, "kin", "(II)I"⟩
abbrev cX10_dealt : ByteArray := prog_1_method_25_code
def yX10_dealt : MethodName := ⟨RX10, "dealt", "(II)I"⟩
abbrev cX10_bounds : ByteArray := prog_1_method_26_code
def yX10_bounds : MethodName := ⟨RX10, "bounds", "(IIII)I"⟩
abbrev cX10_question : ByteArray := prog_1_method_27_code
def yX10_question : MethodName := ⟨RX10, "question", "(IIIII)I"⟩
abbrev cX10_tells : ByteArray := prog_1_method_28_code
def yX10_tells : MethodName := ⟨RX10, "tells", "(I)I"⟩
abbrev cX10_form : ByteArray := prog_1_method_29_code
def yX10_form : MethodName := ⟨RX10, "form", "(I)I"⟩
abbrev cX10_sign : ByteArray := prog_1_method_30_code
def yX10_sign : MethodName := ⟨RX10, "sign", "(I)I"⟩
abbrev cX10_limb : ByteArray := prog_1_method_31_code
def yX10_limb : MethodName := ⟨RX10, "limb", "(II)I"⟩
abbrev cX10_count : ByteArray := prog_1_method_32_code
def yX10_count : MethodName := ⟨RX10, "count", "(I)I"⟩
abbrev cX10_digest : ByteArray := prog_1_method_33_code
def yX10_digest : MethodName := ⟨RX10, "digest", "()J"⟩
abbrev cX10_digestOfRow : ByteArray := prog_1_method_34_code
def yX10_digestOfRow : MethodName := ⟨RX10, "digestOfRow", "(J[II)J"⟩
abbrev cX10_within : ByteArray := prog_1_method_35_code
def yX10_within : MethodName := ⟨RX10, "within", "(III)Z"⟩
abbrev cX10_isRank : ByteArray := prog_1_method_36_code
def yX10_isRank : MethodName := ⟨RX10, "isRank", "(I)Z"⟩
abbrev cX10_isYear : ByteArray := prog_1_method_37_code
def yX10_isYear : MethodName := ⟨RX10, "isYear", "(I)Z"⟩
abbrev cX10_isGift : ByteArray := prog_1_method_38_code
def yX10_isGift : MethodName := ⟨RX10, "isGift", "(I)Z"⟩
abbrev cX10_isPercent : ByteArray := prog_1_method_39_code
def yX10_isPercent : MethodName := ⟨RX10, "isPercent", "(I)Z"⟩
abbrev cX10_isWord : ByteArray := prog_1_method_40_code
def yX10_isWord : MethodName := ⟨RX10, "isWord", "(I)Z"⟩
abbrev cX10_isHand : ByteArray := prog_1_method_41_code
def yX10_isHand : MethodName := ⟨RX10, "isHand", "(I)Z"⟩
abbrev cX10_isPupil : ByteArray := prog_1_method_42_code
def yX10_isPupil : MethodName := ⟨RX10, "isPupil", "(I)Z"⟩
abbrev cX10_isLetter : ByteArray := prog_1_method_43_code
def yX10_isLetter : MethodName := ⟨RX10, "isLetter", "(I)Z"⟩
abbrev cX10_choices : ByteArray := prog_1_method_44_code
def yX10_choices : MethodName := ⟨RX10, "choices", "(II)J"⟩
def RX11 : String := "PraiseDrawerModel"
def TX11 : u_T := fun k => match k with
  | 0 => ("PraiseDrawerModel", "limbs", "[I", true)
  | 1 => ("PraiseDrawerModel", "wide", "[I", true)
  | 2 => ("PraiseDrawerModel", "counts", "[I", true)
  | 3 => ("PraiseDrawerModel", "ranks", "[I", true)
  | 4 => ("PraiseDrawerModel", "abouts", "[I", true)
  | 5 => ("PraiseDrawerModel", "kins", "[I", true)
  | 6 => ("PraiseDrawerModel", "sexes", "[I", true)
  | 7 => ("PraiseDrawerModel", "gifts", "[I", true)
  | 8 => ("PraiseDrawerModel", "byHand", "[I", true)
  | 9 => ("PraiseDrawerModel", "ofPupil", "[I", true)
  | 10 => ("PraiseDrawerModel", "years", "[I", true)
  | 11 => ("PraiseDrawerModel", "lengths", "[I", true)
  | 12 => ("PraiseDrawerModel", "texts", "[I", true)
  | 13 => ("PraiseDrawerModel", "weights", "[I", true)
  | 14 => ("PraiseDrawerModel", "table", "[I", true)
  | 15 => ("PraiseDrawerModel", "saidBy", "[I", true)
  | 16 => ("PraiseDrawerModel", "better", "[I", true)
  | 17 => ("PraiseDrawerModel", "worse", "[I", true)
  | 18 => ("PraiseDrawerModel", "fewest", "[I", true)
  | 19 => ("PraiseDrawerModel", "readerKin", "[I", true)
  | 20 => ("PraiseDrawerModel", "dealtLetters", "[I", true)
  | 21 => ("PraiseDrawerModel", "row", "[I", true)
  | 22 => ("PraiseDrawerModel", "first", "[I", true)
  | 23 => ("PraiseDrawerModel", "minutes", "[I", true)
  | _ => ("PraiseDrawerModel", "yes", "[I", true)
def tyX11 : Nat → FieldType := fun k => match k with
  | 0 => .array .int
  | 1 => .array .int
  | 2 => .array .int
  | 3 => .array .int
  | 4 => .array .int
  | 5 => .array .int
  | 6 => .array .int
  | 7 => .array .int
  | 8 => .array .int
  | 9 => .array .int
  | 10 => .array .int
  | 11 => .array .int
  | 12 => .array .int
  | 13 => .array .int
  | 14 => .array .int
  | 15 => .array .int
  | 16 => .array .int
  | 17 => .array .int
  | 18 => .array .int
  | 19 => .array .int
  | 20 => .array .int
  | 21 => .array .int
  | 22 => .array .int
  | 23 => .array .int
  | _ => .array .int
theorem nmX11 : ∀ a, a < 25 → ∀ b, b < 25 → a ≠ b → (TX11 a).2.1 ≠ (TX11 b).2.1 := by decide +kernel
theorem tyX11_ok : ∀ k, k < 25 → parseFieldDescriptor (TX11 k).2.2.1 = some (tyX11 k) := by decide +kernel
abbrev cX11_in : ByteArray := prog_13_method_2_code
def yX11_in : MethodName := ⟨RX11, "in", "(JJJ)Z"⟩
abbrev cX11_init : ByteArray := prog_13_method_3_code
def yX11_init : MethodName := ⟨RX11, "<init>", "()V"⟩
abbrev cX11_trims : ByteArray := prog_13_method_4_code
def yX11_trims : MethodName := ⟨RX11, "trims", "(I)V"⟩
abbrev cX11_sets : ByteArray := prog_13_method_5_code
def yX11_sets : MethodName := ⟨RX11, "sets", "(IJ)V"⟩
abbrev cX11_takes : ByteArray := prog_13_method_6_code
def yX11_takes : MethodName := ⟨RX11, "takes", "(II)V"⟩
abbrev cX11_times : ByteArray := prog_13_method_7_code
def yX11_times : MethodName := ⟨RX11, "times", "(II)V"⟩
abbrev cX11_multiplies : ByteArray := prog_13_method_8_code
def yX11_multiplies : MethodName := ⟨RX11, "multiplies", "(II)V"⟩
abbrev cX11_adds : ByteArray := prog_13_method_9_code
def yX11_adds : MethodName := ⟨RX11, "adds", "(II)V"⟩
abbrev cX11_lessens : ByteArray := prog_13_method_10_code
def yX11_lessens : MethodName := ⟨RX11, "lessens", "(II)V"⟩
abbrev cX11_against : ByteArray := prog_13_method_11_code
def yX11_against : MethodName := ⟨RX11, "against", "(II)I"⟩
abbrev cX11_isEven : ByteArray := prog_13_method_12_code
def yX11_isEven : MethodName := ⟨RX11, "isEven", "(I)Z"⟩
abbrev cX11_halves : ByteArray := prog_13_method_13_code
def yX11_halves : MethodName := ⟨RX11, "halves", "(I)V"⟩
abbrev cX11_lowers : ByteArray := prog_13_method_14_code
def yX11_lowers : MethodName := ⟨RX11, "lowers", "()V"⟩
abbrev cX11_parts : ByteArray := prog_13_method_15_code
def yX11_parts : MethodName := ⟨RX11, "parts", "(I)V"⟩
abbrev cX11_told : ByteArray := prog_13_method_16_code
def yX11_told : MethodName := ⟨RX11, "told", "(JJ)I"⟩
abbrev cX11_sign : ByteArray := prog_13_method_17_code
def yX11_sign : MethodName := ⟨RX11, "sign", "(I)I"⟩
abbrev cX11_limb : ByteArray := prog_13_method_18_code
def yX11_limb : MethodName := ⟨RX11, "limb", "(II)I"⟩
abbrev cX11_is : ByteArray := prog_13_method_19_code
def yX11_is : MethodName := ⟨RX11, "is", "(II)Z"⟩
abbrev cX11_next : ByteArray := prog_13_method_20_code
def yX11_next : MethodName := ⟨RX11, "next", "(I)I"⟩
abbrev cX11_word : ByteArray := prog_13_method_21_code
def yX11_word : MethodName := ⟨RX11, "word", "(II)I"⟩
abbrev cX11_hand : ByteArray := prog_13_method_22_code
def yX11_hand : MethodName := ⟨RX11, "hand", "(I)I"⟩
abbrev cX11_pupil : ByteArray := prog_13_method_23_code
def yX11_pupil : MethodName := ⟨RX11, "pupil", "(II)I"⟩
abbrev cX11_became : ByteArray := prog_13_method_24_code
def yX11_became : MethodName := ⟨RX11, "became", "(II)I"⟩
abbrev cX11_letter : ByteArray := prog_13_method_25_code
def yX11_letter : MethodName := ⟨RX11, "letter", "(III)I"⟩
abbrev cX11_write : ByteArray := prog_13_method_26_code
def yX11_write : MethodName := ⟨RX11, "write", "(II)I"⟩
abbrev cX11_isGift : ByteArray := prog_13_method_27_code
def yX11_isGift : MethodName := ⟨RX11, "isGift", "(I)Z"⟩
abbrev cX11_weight : ByteArray := prog_13_method_28_code
def yX11_weight : MethodName := ⟨RX11, "weight", "(II)I"⟩
abbrev cX11_stands : ByteArray := prog_13_method_29_code
def yX11_stands : MethodName := ⟨RX11, "stands", "(II)I"⟩
abbrev cX11_usesOf : ByteArray := prog_13_method_30_code
def yX11_usesOf : MethodName := ⟨RX11, "usesOf", "(IIII)I"⟩
abbrev cX11_isUse : ByteArray := prog_13_method_31_code
def yX11_isUse : MethodName := ⟨RX11, "isUse", "(III)Z"⟩
abbrev cX11_uses : ByteArray := prog_13_method_32_code
def yX11_uses : MethodName := ⟨RX11, "uses", "(III)I"⟩
abbrev cX11_meanUp : ByteArray := prog_13_method_33_code
def yX11_meanUp : MethodName := ⟨RX11, "meanUp", "(IIII)I"⟩
abbrev cX11_meanDown : ByteArray := prog_13_method_34_code
def yX11_meanDown : MethodName := ⟨RX11, "meanDown", "(III)I"⟩
abbrev cX11_means : ByteArray := prog_13_method_35_code
def yX11_means : MethodName := ⟨RX11, "means", "(III)I"⟩
abbrev cX11_wordsOf : ByteArray := prog_13_method_36_code
def yX11_wordsOf : MethodName := ⟨RX11, "wordsOf", "(I)I"⟩
abbrev cX11_weighs : ByteArray := prog_13_method_37_code
def yX11_weighs : MethodName := ⟨RX11, "weighs", "(I)V"⟩
abbrev cX11_shares : ByteArray := prog_13_method_38_code
def yX11_shares : MethodName := ⟨RX11, "shares", "(II)V"⟩
abbrev cX11_odds : ByteArray := prog_13_method_39_code
def yX11_odds : MethodName := ⟨RX11, "odds", "(II)I"⟩
abbrev cX11_likeliest : ByteArray := prog_13_method_40_code
def yX11_likeliest : MethodName := ⟨RX11, "likeliest", "(I)I"⟩
abbrev cX11_says : ByteArray := prog_13_method_41_code
def yX11_says : MethodName := ⟨RX11, "says", "(I)I"⟩
abbrev cX11_isYear : ByteArray := prog_13_method_42_code
def yX11_isYear : MethodName := ⟨RX11, "isYear", "(I)Z"⟩
abbrev cX11_wordsIn : ByteArray := prog_13_method_43_code
def yX11_wordsIn : MethodName := ⟨RX11, "wordsIn", "(III)I"⟩
abbrev cX11_year : ByteArray := prog_13_method_44_code
def yX11_year : MethodName := ⟨RX11, "year", "(II)I"⟩
abbrev cX11_asIn : ByteArray := prog_13_method_45_code
def yX11_asIn : MethodName := ⟨RX11, "asIn", "(III)I"⟩
abbrev cX11_lettersOf : ByteArray := prog_13_method_46_code
def yX11_lettersOf : MethodName := ⟨RX11, "lettersOf", "(IIIZ)I"⟩
abbrev cX11_isAbout : ByteArray := prog_13_method_47_code
def yX11_isAbout : MethodName := ⟨RX11, "isAbout", "(II)Z"⟩
abbrev cX11_about : ByteArray := prog_13_method_48_code
def yX11_about : MethodName := ⟨RX11, "about", "(III)I"⟩
abbrev cX11_ways : ByteArray := prog_13_method_49_code
def yX11_ways : MethodName := ⟨RX11, "ways", "(II)J"⟩
abbrev cX11_chance : ByteArray := prog_13_method_50_code
def yX11_chance : MethodName := ⟨RX11, "chance", "(III)I"⟩
abbrev cX11_runOf : ByteArray := prog_13_method_51_code
def yX11_runOf : MethodName := ⟨RX11, "runOf", "(II)I"⟩
abbrev cX11_greater : ByteArray := prog_13_method_52_code
def yX11_greater : MethodName := ⟨RX11, "greater", "(II)I"⟩
abbrev cX11_likeOf : ByteArray := prog_13_method_53_code
def yX11_likeOf : MethodName := ⟨RX11, "likeOf", "(II)I"⟩
abbrev cX11_like : ByteArray := prog_13_method_54_code
def yX11_like : MethodName := ⟨RX11, "like", "(III)I"⟩
abbrev cX11_left : ByteArray := prog_13_method_55_code
def yX11_left : MethodName := ⟨RX11, "left", "(II)I"⟩
abbrev cX11_slip : ByteArray := prog_13_method_56_code
def yX11_slip : MethodName := ⟨RX11, "slip", "(I)I"⟩
abbrev cX11_said : ByteArray := prog_13_method_57_code
def yX11_said : MethodName := ⟨RX11, "said", "(III)I"⟩
abbrev cX11_againstNext : ByteArray := prog_13_method_58_code
def yX11_againstNext : MethodName := ⟨RX11, "againstNext", "(II)I"⟩
abbrev cX11_orders : ByteArray := prog_13_method_59_code
def yX11_orders : MethodName := ⟨RX11, "orders", "(II)I"⟩
abbrev cX11_order : ByteArray := prog_13_method_60_code
def yX11_order : MethodName := ⟨RX11, "order", "(I)I"⟩
abbrev cX11_sure : ByteArray := prog_13_method_61_code
def yX11_sure : MethodName := ⟨RX11, "sure", "(II)I"⟩
abbrev cX11_kin : ByteArray := prog_13_method_62_code
def yX11_kin : MethodName := ⟨RX11, "kin", "(II)I"⟩
abbrev cX11_mayRead : ByteArray := prog_13_method_63_code
def yX11_mayRead : MethodName := ⟨RX11, "mayRead", "(II)Z"⟩
abbrev cX11_isFree : ByteArray := prog_13_method_64_code
def yX11_isFree : MethodName := ⟨RX11, "isFree", "(I)Z"⟩
abbrev cX11_deals : ByteArray := prog_13_method_65_code
def yX11_deals : MethodName := ⟨RX11, "deals", "(I)I"⟩
abbrev cX11_dealt : ByteArray := prog_13_method_66_code
def yX11_dealt : MethodName := ⟨RX11, "dealt", "(II)I"⟩
abbrev cX11_bounds : ByteArray := prog_13_method_67_code
def yX11_bounds : MethodName := ⟨RX11, "bounds", "(IIII)I"⟩
abbrev cX11_isShare : ByteArray := prog_13_method_68_code
def yX11_isShare : MethodName := ⟨RX11, "isShare", "(I)Z"⟩
abbrev cX11_question : ByteArray := prog_13_method_69_code
def yX11_question : MethodName := ⟨RX11, "question", "(IIIII)I"⟩
abbrev cX11_tellsOf : ByteArray := prog_13_method_70_code
def yX11_tellsOf : MethodName := ⟨RX11, "tellsOf", "(I)J"⟩
abbrev cX11_wholeOf : ByteArray := prog_13_method_71_code
def yX11_wholeOf : MethodName := ⟨RX11, "wholeOf", "()J"⟩
abbrev cX11_tells : ByteArray := prog_13_method_72_code
def yX11_tells : MethodName := ⟨RX11, "tells", "(I)I"⟩
abbrev cX11_minutesOf : ByteArray := prog_13_method_73_code
def yX11_minutesOf : MethodName := ⟨RX11, "minutesOf", "(I)I"⟩
abbrev cX11_form : ByteArray := prog_13_method_74_code
def yX11_form : MethodName := ⟨RX11, "form", "(I)I"⟩
abbrev cX11_count : ByteArray := prog_13_method_75_code
def yX11_count : MethodName := ⟨RX11, "count", "(I)I"⟩
abbrev cX11_mixed : ByteArray := prog_13_method_76_code
def yX11_mixed : MethodName := ⟨RX11, "mixed", "(J[III)J"⟩
abbrev cX11_digest : ByteArray := prog_13_method_77_code
def yX11_digest : MethodName := ⟨RX11, "digest", "()J"⟩
def RJ6 : String := "java/lang/Integer"
def TJ6 : u_T := fun k => match k with
  | _ => ("", "", "", false)
def tyJ6 : Nat → FieldType := fun k => match k with
  | _ => .int
abbrev cJ6_numberOfTrailingZeros_0f7a4 : ByteArray := prog_14_method_48_code
def yJ6_numberOfTrailingZeros_0f7a4 : MethodName := ⟨RJ6, "numberOfTrailingZeros", "(I)I"⟩
abbrev cJ6_bitCount_0f7a4 : ByteArray := prog_14_method_49_code
def yJ6_bitCount_0f7a4 : MethodName := ⟨RJ6, "bitCount", "(I)I"⟩
def RJ9 : String := "java/lang/Math"
def TJ9 : u_T := fun k => match k with
  | _ => ("", "", "", false)
def tyJ9 : Nat → FieldType := fun k => match k with
  | _ => .int
abbrev cJ9_max_7cf53 : ByteArray := prog_15_method_65_code
def yJ9_max_7cf53 : MethodName := ⟨RJ9, "max", "(II)I"⟩
abbrev cJ9_max_f86c9 : ByteArray := prog_15_method_66_code
def yJ9_max_f86c9 : MethodName := ⟨RJ9, "max", "(JJ)J"⟩
abbrev cJ9_min_7cf53 : ByteArray := prog_15_method_69_code
def yJ9_min_7cf53 : MethodName := ⟨RJ9, "min", "(II)I"⟩
abbrev cJ9_min_f86c9 : ByteArray := prog_15_method_70_code
def yJ9_min_f86c9 : MethodName := ⟨RJ9, "min", "(JJ)J"⟩
def RJ10 : String := "java/lang/System"
def TJ10 : u_T := fun k => match k with
  | _ => ("", "", "", false)
def tyJ10 : Nat → FieldType := fun k => match k with
  | _ => .int
def RJ7 : String := "java/util/Arrays"
def TJ7 : u_T := fun k => match k with
  | _ => ("", "", "", false)
def tyJ7 : Nat → FieldType := fun k => match k with
  | _ => .int
abbrev cJ7_fill_53178 : ByteArray := prog_17_method_103_code
def yJ7_fill_53178 : MethodName := ⟨RJ7, "fill", "([II)V"⟩
def RL : String := "PraiseDrawerLaw"
abbrev cL_law : ByteArray := code
def yL_law : MethodName := ⟨RL, "law", "([I)Z"⟩
abbrev vwCl : List vw_C := [(RX0, TX0, 2), (RX1, TX1, 5), (RX2, TX2, 5), (RX3, TX3, 14), (RX4, TX4, 5), (RX5, TX5, 2), (RX6, TX6, 7), (RX7, TX7, 2), (RX8, TX8, 3), (RX9, TX9, 3), (RX10, TX10, 10), (RX11, TX11, 25)]
end
section
/-! THE ABSTRACT MACHINE. Cells are numbered: 0 is the script, 1 .. n the cells that the law's run made, in the order of their making (cell k lies at base + k - 1). Ints and longs are whole numbers, taken modulo 2^32, 2^64. -/
abbrev jV : Type := Int ⊕ Int ⊕ Option Int ⊕ Unit
abbrev jI (x : Int) : jV := .inl x
abbrev jL (x : Int) : jV := .inr (.inl x)
abbrev jR (k : Int) : jV := .inr (.inr (.inl (some k)))
abbrev jN : jV := .inr (.inr (.inl none))
abbrev jU : jV := .inr (.inr (.inr ()))
def jad (base b : Nat) (k : Int) : Nat := if k ≤ 0 then b else base + (k.toNat - 1)
def jvv (base b : Nat) : jV → Value
  | .inl x => .int (Int32.ofInt x)
  | .inr (.inl x) => .long (Int64.ofInt x)
  | .inr (.inr (.inl (some k))) => .ref (jad base b k)
  | .inr (.inr (.inl none)) => .null
  | .inr (.inr (.inr ())) => .null
/-- an object: its class's place in vwCl, its fields; an array: its type's place in jtys, its length, what it holds -/
abbrev jE : Type := (Nat × List jV) ⊕ (Nat × Nat × ((Int → Int) ⊕ (Int → Int) ⊕ (Int → Option Int)))
def jce (base b : Nat) (cA : Nat → ClassId) : jE → va_E
  | .inl (ci, fs) => .inr (ci, fs.map (jvv base b))
  | .inr (t, n, .inl f) => .inl (cA t, n, .inl (fun i => Int32.ofInt (f i)))
  | .inr (t, n, .inr (.inl f)) => .inl (cA t, n, .inr (.inl (fun i => Int64.ofInt (f i))))
  | .inr (t, n, .inr (.inr g)) => .inl (cA t, n, .inr (.inr (.inr (.inr (fun i => (g i).map (jad base b))))))
def jtys (cA : Nat → ClassId) : List (ClassId × FieldType) := [(cA 0, .int), (cA 1, .long), (cA 2, .array .int), (cA 3, .array .long), (cA 4, .object "PraiseDrawer$Big")]
def jW (base b : Nat) (D : va_G) (cA : Nat → ClassId) (SC : jE) (n : Nat) (h : Int → jE) (H : Heap) : Prop :=
  H.size = base + n ∧ h 0 = SC ∧ ∀ k : Nat, 0 < k → k ≤ n → va_at D vwCl (jad base b k, jce base b cA (h k)) H
/-- the script's cell: an int array that no cell of the run is -/
def jSC (b : Nat) (SC : jE) (s : State) : Prop := ∃ (n : Nat) (f : Int → Int), SC = .inr (0, n, .inl f) ∧ va_X b n (fun i => Int32.ofInt (f i)) s s.heap
/-- the links of nest mates -/
def jnest : List (String × Nat × MethodName) := [(RX10, 9, yX3_init), (RX1, 17, yX0_init), (RX10, 60, yX6_init), (RX5, 11, yX0_init), (RX3, 67, yX10_digestOfRow), (RX4, 62, yX10_digestOfRow)]
def jNest (s : State) : Prop := ∀ q ∈ jnest, va_Nw (.methodLinkNest q.1 q.2.1 q.2.2 "PraiseDrawer") s
def jO (s : State) : Prop := jNest s ∧ (Cond.arrayOver (.array .int)).before #[] s = true ∧ (Cond.arrayOver (.array .long)).before #[] s = true ∧ (Cond.arrayOver (.object "PraiseDrawer$Big")).before #[] s = true
def jG (base b : Nat) (D : va_G) (cA : Nat → ClassId) (SC : jE) (s : State) : Prop := va_K D vwCl (jtys cA) s ∧ b < base ∧ base ≤ s.heap.size ∧ jO s ∧ jSC b SC s
def jws : List Cond := lw_tbl.filter goodWord
/-- a method: its class, its name, its code, its locals, what it returns, its room -/
abbrev jM : Type := String × MethodName × ByteArray × Nat × Option FieldType × Room
def jC (me : jM) (p : Program) (s : State) (m : MethodId) (args : Array Value) (meth : Method) (c : Code) : Prop :=
  p.tables.exec = Jvm.exec ∧ c.code = me.2.2.1 ∧ c.maxLocals = me.2.2.2.1 ∧ meth.sig.returnType = me.2.2.2.2.1 ∧ s.vm.findClass me.1 = some m.cls ∧ (∀ w ∈ jws, w.before args s = true) ∧ meth.locks = false ∧ meth.name = me.2.1.name
def jl (base b : Nat) : Nat → List jV → List (Nat × Value)
  | _, [] => []
  | i, .inr (.inr (.inr ())) :: t => jl base b (i + 1) t
  | i, .inl x :: t => (i, jvv base b (.inl x)) :: jl base b (i + 1) t
  | i, .inr (.inl x) :: t => (i, jvv base b (.inr (.inl x))) :: jl base b (i + 1) t
  | i, .inr (.inr (.inl x)) :: t => (i, jvv base b (.inr (.inr (.inl x)))) :: jl base b (i + 1) t
def jis (me : jM) (r : Option jV) (pc : Nat) : Prop :=
  (∃ x : Int, r = some (jI x) ∧ decode me.2.2.1 pc = .ok (.ireturn, 1) ∧ me.2.2.2.2.1 = some .int) ∨ (∃ x : Int, r = some (jI x) ∧ decode me.2.2.1 pc = .ok (.ireturn, 1) ∧ me.2.2.2.2.1 = some .boolean ∧ (x = 0 ∨ x = 1)) ∨
  (∃ x : Int, r = some (jL x) ∧ decode me.2.2.1 pc = .ok (.lreturn, 1) ∧ me.2.2.2.2.1 = some .long) ∨ (r = none ∧ decode me.2.2.1 pc = .ok (.return_, 1) ∧ me.2.2.2.2.1 = none)
def jJ (me : jM) (pc : Nat) (ls st : List jV) (n : Nat) (h : Int → jE) (nc ns : Nat) (Q : Option jV → Nat → (Int → jE) → Prop) : Prop :=
  ∀ (p : Program) (l : Launch) (e : Env) (s : State) (m : MethodId) (args : Array Value) (below : List Frame) (meth : Method) (c : Code) (base b : Nat) (D : va_G) (cA : Nat → ClassId) (SC : jE) (H : Heap) (locs : List Loc) (lsS : Array Slot) (Z : State → Prop),
    jC me p s m args meth c → jG base b D cA SC s → jW base b D cA SC n h H → va_S (fun q => base ≤ q) s.heap H locs → lv_has lsS me.2.2.2.1 (jl base b 0 ls) →
    (∀ (r : Option jV) (n' : Nat) (h' : Int → jE) (H' : Heap) (locs' : List Loc) (pc' : Nat) (ls' : Array Slot), Q r n' h' → jis me r pc' → jW base b D cA SC n' h' H' → va_S (fun q => base ≤ q) s.heap H' locs' → W p l e me.2.2.2.2.2 s m args below meth c H' locs' me.2.2.2.2.2.cells me.2.2.2.2.2.slots Z (F0 m pc' ls' (r.toList.map (jvv base b)))) →
    W p l e me.2.2.2.2.2 s m args below meth c H locs nc ns Z (F0 m pc lsS (st.map (jvv base b)))

/-! plain facts -/
theorem jad_pos {base b : Nat} {k : Int} (h : 0 < k) : jad base b k = base + (k.toNat - 1) := by
  unfold jad; rw [if_neg (by omega)]
theorem jad_inj {base b : Nat} (hb : b < base) {k k' : Int} (h : 0 < k) (h' : 0 ≤ k') (e : jad base b k' = jad base b k) : k' = k := by
  rw [jad_pos h] at e
  unfold jad at e
  split at e <;> omega
theorem jl_mem {base b : Nat} : ∀ (ls : List jV) (i0 i : Nat) (v : jV), ls[i]? = some v → v ≠ jU → (i0 + i, jvv base b v) ∈ jl base b i0 ls
  | [], _, _, _, h, _ => by simp at h
  | a :: t, i0, 0, v, h, hv => by
    simp only [List.getElem?_cons_zero, Option.some.injEq] at h
    subst h
    obtain x | x | x | x := a
    · exact List.mem_cons_self
    · exact List.mem_cons_self
    · exact List.mem_cons_self
    · exact absurd rfl hv
  | a :: t, i0, i + 1, v, h, hv => by
    rw [List.getElem?_cons_succ] at h
    have := jl_mem (base := base) (b := b) t (i0 + 1) i v h hv
    rw [show i0 + 1 + i = i0 + (i + 1) by omega] at this
    obtain x | x | x | x := a
    · exact List.mem_cons_of_mem _ this
    · exact List.mem_cons_of_mem _ this
    · exact List.mem_cons_of_mem _ this
    · exact this
theorem jl_of {base b : Nat} : ∀ (ls : List jV) (i0 : Nat) (q : Nat × Value), q ∈ jl base b i0 ls → ∃ (i : Nat) (v : jV), q = (i0 + i, jvv base b v) ∧ ls[i]? = some v ∧ v ≠ jU
  | [], _, _, h => by cases h
  | a :: t, i0, q, h => by
    have tail : q ∈ jl base b (i0 + 1) t → ∃ (i : Nat) (v : jV), q = (i0 + i, jvv base b v) ∧ (a :: t)[i]? = some v ∧ v ≠ jU := fun h => by
      obtain ⟨i, v, h1, h2, h3⟩ := jl_of t (i0 + 1) q h
      exact ⟨i + 1, v, by rw [h1]; congr 1; omega, by rw [List.getElem?_cons_succ]; exact h2, h3⟩
    obtain x | x | x | x := a
    · rcases List.mem_cons.mp h with h | h
      · exact ⟨0, _, h, rfl, fun z => by cases z⟩
      · exact tail h
    · rcases List.mem_cons.mp h with h | h
      · exact ⟨0, _, h, rfl, fun z => by cases z⟩
      · exact tail h
    · rcases List.mem_cons.mp h with h | h
      · exact ⟨0, _, h, rfl, fun z => by cases z⟩
      · exact tail h
    · exact tail h
theorem jl_at {base b nL : Nat} {lsS : Array Slot} {ls : List jV} (hl : lv_has lsS nL (jl base b 0 ls)) {i : Nat} {v : jV} (h : ls[i]? = some v) (hv : v ≠ jU) : lsS[i]? = some (.val (jvv base b v)) := by
  have := hl.2.2 _ (jl_mem ls 0 i v h hv)
  rw [Nat.zero_add] at this
  exact this
/-- no long stands at i - 1 -/
def jok (ls : List jV) (i : Nat) : Bool := match i with
  | 0 => true
  | k + 1 => match ls[k]? with
    | some (.inr (.inl _)) => false
    | _ => true
theorem jcat2 {base b : Nat} {v : jV} (h : (jvv base b v).category = 2) : ∃ x, v = jL x := by
  obtain x | x | x | x := v
  · simp [jvv, Value.category] at h
  · exact ⟨x, rfl⟩
  · cases x <;> simp [jvv, Value.category] at h
  · simp [jvv, Value.category] at h
theorem jl_set1 {base b nL : Nat} {ls' : Array Slot} {ls : List jV} {i : Nat} {v : jV} (hi : i < ls.length) (hok : jok ls i = true)
    (h : lv_has ls' nL ((i, jvv base b v) :: (jl base b 0 ls).filter (fun q => !(q.1 == i) && !(q.1 + 1 == i && q.2.category == 2)))) : lv_has ls' nL (jl base b 0 (ls.set i v)) := by
  refine ⟨h.1, h.2.1, fun q hq => ?_⟩
  obtain ⟨k, w, rfl, hk, hw⟩ := jl_of _ _ _ hq
  rw [Nat.zero_add]
  by_cases hki : k = i
  · subst hki
    rw [List.getElem?_set_self hi] at hk
    cases hk
    exact h.2.2 _ List.mem_cons_self
  · rw [List.getElem?_set_ne (Ne.symm hki)] at hk
    have hm := jl_mem (base := base) (b := b) ls 0 k w hk hw
    rw [Nat.zero_add] at hm
    refine h.2.2 _ (List.mem_cons_of_mem _ (List.mem_filter.mpr ⟨hm, ?_⟩))
    simp only [Bool.and_eq_true, Bool.not_eq_true', beq_eq_false_iff_ne, ne_eq, Bool.and_eq_false_iff]
    refine ⟨hki, ?_⟩
    by_cases h1 : k + 1 = i
    · right
      intro h2
      obtain ⟨x, rfl⟩ := jcat2 h2
      subst h1
      simp [jok, hk] at hok
    · left; exact h1
theorem jl_set2 {base b nL : Nat} {ls' : Array Slot} {ls : List jV} {i : Nat} {v : jV} (hi : i + 1 < ls.length) (hok : jok ls i = true)
    (h : lv_has ls' nL ((i, jvv base b v) :: (jl base b 0 ls).filter (fun q => !(q.1 == i) && (!(q.1 == i + 1) && !(q.1 + 1 == i && q.2.category == 2))))) : lv_has ls' nL (jl base b 0 ((ls.set i v).set (i + 1) jU)) := by
  refine ⟨h.1, h.2.1, fun q hq => ?_⟩
  obtain ⟨k, w, rfl, hk, hw⟩ := jl_of _ _ _ hq
  rw [Nat.zero_add]
  by_cases hk1 : k = i + 1
  · subst hk1
    rw [List.getElem?_set_self (by rw [List.length_set]; exact hi)] at hk
    cases hk
    exact absurd rfl hw
  · rw [List.getElem?_set_ne (Ne.symm hk1)] at hk
    by_cases hki : k = i
    · subst hki
      rw [List.getElem?_set_self (by omega)] at hk
      cases hk
      exact h.2.2 _ List.mem_cons_self
    · rw [List.getElem?_set_ne (Ne.symm hki)] at hk
      have hm := jl_mem (base := base) (b := b) ls 0 k w hk hw
      rw [Nat.zero_add] at hm
      refine h.2.2 _ (List.mem_cons_of_mem _ (List.mem_filter.mpr ⟨hm, ?_⟩))
      simp only [Bool.and_eq_true, Bool.not_eq_true', beq_eq_false_iff_ne, ne_eq, Bool.and_eq_false_iff]
      refine ⟨hki, hk1, ?_⟩
      by_cases h1 : k + 1 = i
      · right
        intro h2
        obtain ⟨x, rfl⟩ := jcat2 h2
        subst h1
        simp [jok, hk] at hok
      · left; exact h1
abbrev jr32 (x : Int) : Prop := -2147483648 ≤ x ∧ x ≤ 2147483647
abbrev jr64 (x : Int) : Prop := -9223372036854775808 ≤ x ∧ x ≤ 9223372036854775807
theorem j32T {x : Int} (h : jr32 x) : (Int32.ofInt x).toInt = x := Int32.toInt_ofInt_of_le (by have := h.1; omega) (by have := h.2; omega)
theorem j64T {x : Int} (h : jr64 x) : (Int64.ofInt x).toInt = x := Int64.toInt_ofInt_of_le (by have := h.1; omega) (by have := h.2; omega)
theorem j32_lt {x y : Int} (hx : jr32 x) (hy : jr32 y) : Int32.ofInt x < Int32.ofInt y ↔ x < y := by rw [Int32.lt_iff_toInt_lt, j32T hx, j32T hy]
theorem j32_le {x y : Int} (hx : jr32 x) (hy : jr32 y) : Int32.ofInt x ≤ Int32.ofInt y ↔ x ≤ y := by rw [Int32.le_iff_toInt_le, j32T hx, j32T hy]
theorem j32_eq {x y : Int} (hx : jr32 x) (hy : jr32 y) : Int32.ofInt x = Int32.ofInt y ↔ x = y := by rw [← Int32.toInt_inj, j32T hx, j32T hy]
theorem j64_lt {x y : Int} (hx : jr64 x) (hy : jr64 y) : Int64.ofInt x < Int64.ofInt y ↔ x < y := by rw [Int64.lt_iff_toInt_lt, j64T hx, j64T hy]
theorem j64_eq {x y : Int} (hx : jr64 x) (hy : jr64 y) : Int64.ofInt x = Int64.ofInt y ↔ x = y := by rw [← Int64.toInt_inj, j64T hx, j64T hy]
theorem jr32_0 : jr32 0 := ⟨by omega, by omega⟩
theorem jin {x : Int} {N : Nat} (h0 : 0 ≤ x) (h1 : x < N) (hN : N < 2147483648) : vp_in (Int32.ofInt x) N ∧ (((Int32.ofInt x).toNatClampNeg : Nat) : Int) = x := by
  have hx : jr32 x := ⟨by omega, by omega⟩
  have hc : (Int32.ofInt x).toNatClampNeg = x.toNat := Int32.toNatClampNeg_ofInt_of_le (by omega) (by omega)
  refine ⟨?_, by rw [hc]; omega⟩
  unfold vp_in
  rw [hc]
  rintro (h | h)
  · have : Int32.ofInt x < Int32.ofInt 0 := h
    rw [j32_lt hx jr32_0] at this
    omega
  · omega

theorem j_iconst {me : jM} {pc : Nat} {ls st : List jV} {n : Nat} {h : Int → jE} {nc ns : Nat} {Q : Option jV → Nat → (Int → jE) → Prop} {v : Int} (hd : decode me.2.2.1 pc = .ok (.iconst v, 1)) (k : jJ me (pc + 1) ls (jI v :: st) n h nc ns Q) : jJ me (pc) ls (st) n h nc ns Q := by
  intro p l e s m args below meth c base b D cA SC H locs lsS Z C G hW hS hl hZ
  exact lv_iconst C.1 C.2.1 hd rfl (k p l e s m args below meth c base b D cA SC H locs lsS Z C G hW hS hl hZ)

theorem j_bipush {me : jM} {pc : Nat} {ls st : List jV} {n : Nat} {h : Int → jE} {nc ns : Nat} {Q : Option jV → Nat → (Int → jE) → Prop} {v : Int} (hd : decode me.2.2.1 pc = .ok (.bipush v, 2)) (hv : (Int8.ofInt v).toInt32 = Int32.ofInt v) (k : jJ me (pc + 2) ls (jI v :: st) n h nc ns Q) : jJ me (pc) ls (st) n h nc ns Q := by
  intro p l e s m args below meth c base b D cA SC H locs lsS Z C G hW hS hl hZ
  exact lv_bipush C.1 C.2.1 hd hv (k p l e s m args below meth c base b D cA SC H locs lsS Z C G hW hS hl hZ)

theorem j_sipush {me : jM} {pc : Nat} {ls st : List jV} {n : Nat} {h : Int → jE} {nc ns : Nat} {Q : Option jV → Nat → (Int → jE) → Prop} {v : Int} (hd : decode me.2.2.1 pc = .ok (.sipush v, 3)) (hv : (Int16.ofInt v).toInt32 = Int32.ofInt v) (k : jJ me (pc + 3) ls (jI v :: st) n h nc ns Q) : jJ me (pc) ls (st) n h nc ns Q := by
  intro p l e s m args below meth c base b D cA SC H locs lsS Z C G hW hS hl hZ
  exact lv_sipush C.1 C.2.1 hd hv (k p l e s m args below meth c base b D cA SC H locs lsS Z C G hW hS hl hZ)

theorem j_lconst {me : jM} {pc : Nat} {ls st : List jV} {n : Nat} {h : Int → jE} {nc ns : Nat} {Q : Option jV → Nat → (Int → jE) → Prop} {i : Fin 2} (v : Int) (hd : decode me.2.2.1 pc = .ok (.lconst i, 1)) (hv : Int64.ofNat (i : Nat) = Int64.ofInt v) (k : jJ me (pc + 1) ls (jL v :: st) n h nc ns Q) : jJ me (pc) ls (st) n h nc ns Q := by
  intro p l e s m args below meth c base b D cA SC H locs lsS Z C G hW hS hl hZ
  exact lv_lconst C.1 C.2.1 hd hv (k p l e s m args below meth c base b D cA SC H locs lsS Z C G hW hS hl hZ)

theorem j_ldc {me : jM} {pc : Nat} {ls st : List jV} {n : Nat} {h : Int → jE} {nc ns : Nat} {Q : Option jV → Nat → (Int → jE) → Prop} {i : Nat} (w : Int32) (v : Int) (hd : decode me.2.2.1 pc = .ok (.ldc i, 2)) (hw : Cond.constant me.1 i w ∈ jws) (hv : w = Int32.ofInt v) (k : jJ me (pc + 2) ls (jI v :: st) n h nc ns Q) : jJ me (pc) ls (st) n h nc ns Q := by
  intro p l e s m args below meth c base b D cA SC H locs lsS Z C G hW hS hl hZ
  subst hv
  exact lv_ldc C.1 C.2.1 C.2.2.2.2.1 (C.2.2.2.2.2.1 _ hw) hd (k p l e s m args below meth c base b D cA SC H locs lsS Z C G hW hS hl hZ)

theorem j_ldcw {me : jM} {pc : Nat} {ls st : List jV} {n : Nat} {h : Int → jE} {nc ns : Nat} {Q : Option jV → Nat → (Int → jE) → Prop} {i : Nat} (w : Int32) (v : Int) (hd : decode me.2.2.1 pc = .ok (.ldc_w i, 3)) (hw : Cond.constant me.1 i w ∈ jws) (hv : w = Int32.ofInt v) (k : jJ me (pc + 3) ls (jI v :: st) n h nc ns Q) : jJ me (pc) ls (st) n h nc ns Q := by
  intro p l e s m args below meth c base b D cA SC H locs lsS Z C G hW hS hl hZ
  subst hv
  exact lv_ldcw C.1 C.2.1 C.2.2.2.2.1 (C.2.2.2.2.2.1 _ hw) hd (k p l e s m args below meth c base b D cA SC H locs lsS Z C G hW hS hl hZ)

theorem j_ldc2 {me : jM} {pc : Nat} {ls st : List jV} {n : Nat} {h : Int → jE} {nc ns : Nat} {Q : Option jV → Nat → (Int → jE) → Prop} {i : Nat} (w : Int64) (v : Int) (hd : decode me.2.2.1 pc = .ok (.ldc2_w i, 3)) (hw : Cond.constantLong me.1 i w ∈ jws) (hv : w = Int64.ofInt v) (k : jJ me (pc + 3) ls (jL v :: st) n h nc ns Q) : jJ me (pc) ls (st) n h nc ns Q := by
  intro p l e s m args below meth c base b D cA SC H locs lsS Z C G hW hS hl hZ
  subst hv
  exact lv_ldc2 C.1 C.2.1 C.2.2.2.2.1 (C.2.2.2.2.2.1 _ hw) hd (k p l e s m args below meth c base b D cA SC H locs lsS Z C G hW hS hl hZ)

theorem j_iload_n {me : jM} {pc : Nat} {ls st : List jV} {n : Nat} {h : Int → jE} {nc ns : Nat} {Q : Option jV → Nat → (Int → jE) → Prop} {i : Fin 4} {x : Int} (hd : decode me.2.2.1 pc = .ok (.iload_n i, 1)) (hl0 : ls[(i : Nat)]? = some (jI x)) (k : jJ me (pc + 1) ls (jI x :: st) n h nc ns Q) : jJ me (pc) ls (st) n h nc ns Q := by
  intro p l e s m args below meth c base b D cA SC H locs lsS Z C G hW hS hl hZ
  exact lv_iload_n C.1 C.2.1 hd rfl (jl_at hl hl0 (fun z => by cases z)) (k p l e s m args below meth c base b D cA SC H locs lsS Z C G hW hS hl hZ)

theorem j_iload {me : jM} {pc : Nat} {ls st : List jV} {n : Nat} {h : Int → jE} {nc ns : Nat} {Q : Option jV → Nat → (Int → jE) → Prop} {i : Nat} {x : Int} (hd : decode me.2.2.1 pc = .ok (.iload i, 2)) (hl0 : ls[i]? = some (jI x)) (k : jJ me (pc + 2) ls (jI x :: st) n h nc ns Q) : jJ me (pc) ls (st) n h nc ns Q := by
  intro p l e s m args below meth c base b D cA SC H locs lsS Z C G hW hS hl hZ
  exact lv_iload C.1 C.2.1 hd (jl_at hl hl0 (fun z => by cases z)) (k p l e s m args below meth c base b D cA SC H locs lsS Z C G hW hS hl hZ)

theorem j_lload_n {me : jM} {pc : Nat} {ls st : List jV} {n : Nat} {h : Int → jE} {nc ns : Nat} {Q : Option jV → Nat → (Int → jE) → Prop} {i : Fin 4} {x : Int} (hd : decode me.2.2.1 pc = .ok (.lload_n i, 1)) (hl0 : ls[(i : Nat)]? = some (jL x)) (k : jJ me (pc + 1) ls (jL x :: st) n h nc ns Q) : jJ me (pc) ls (st) n h nc ns Q := by
  intro p l e s m args below meth c base b D cA SC H locs lsS Z C G hW hS hl hZ
  exact lv_lload_n C.1 C.2.1 hd rfl (jl_at hl hl0 (fun z => by cases z)) (k p l e s m args below meth c base b D cA SC H locs lsS Z C G hW hS hl hZ)

theorem j_lload {me : jM} {pc : Nat} {ls st : List jV} {n : Nat} {h : Int → jE} {nc ns : Nat} {Q : Option jV → Nat → (Int → jE) → Prop} {i : Nat} {x : Int} (hd : decode me.2.2.1 pc = .ok (.lload i, 2)) (hl0 : ls[i]? = some (jL x)) (k : jJ me (pc + 2) ls (jL x :: st) n h nc ns Q) : jJ me (pc) ls (st) n h nc ns Q := by
  intro p l e s m args below meth c base b D cA SC H locs lsS Z C G hW hS hl hZ
  exact lv_lload C.1 C.2.1 hd (jl_at hl hl0 (fun z => by cases z)) (k p l e s m args below meth c base b D cA SC H locs lsS Z C G hW hS hl hZ)

theorem j_aload_n {me : jM} {pc : Nat} {ls st : List jV} {n : Nat} {h : Int → jE} {nc ns : Nat} {Q : Option jV → Nat → (Int → jE) → Prop} {i : Fin 4} {x : Int} (hd : decode me.2.2.1 pc = .ok (.aload_n i, 1)) (hl0 : ls[(i : Nat)]? = some (jR x)) (k : jJ me (pc + 1) ls (jR x :: st) n h nc ns Q) : jJ me (pc) ls (st) n h nc ns Q := by
  intro p l e s m args below meth c base b D cA SC H locs lsS Z C G hW hS hl hZ
  exact lv_aload_n C.1 C.2.1 hd rfl (jl_at hl hl0 (fun z => by cases z)) (k p l e s m args below meth c base b D cA SC H locs lsS Z C G hW hS hl hZ)

theorem j_aload {me : jM} {pc : Nat} {ls st : List jV} {n : Nat} {h : Int → jE} {nc ns : Nat} {Q : Option jV → Nat → (Int → jE) → Prop} {i : Nat} {x : Int} (hd : decode me.2.2.1 pc = .ok (.aload i, 2)) (hl0 : ls[i]? = some (jR x)) (k : jJ me (pc + 2) ls (jR x :: st) n h nc ns Q) : jJ me (pc) ls (st) n h nc ns Q := by
  intro p l e s m args below meth c base b D cA SC H locs lsS Z C G hW hS hl hZ
  exact lv_aload C.1 C.2.1 hd (jl_at hl hl0 (fun z => by cases z)) (k p l e s m args below meth c base b D cA SC H locs lsS Z C G hW hS hl hZ)

theorem j_istore_n {me : jM} {pc : Nat} {ls st : List jV} {n : Nat} {h : Int → jE} {nc ns : Nat} {Q : Option jV → Nat → (Int → jE) → Prop} {i : Fin 4} {x : Int} (ls' : List jV) (hd : decode me.2.2.1 pc = .ok (.istore_n i, 1)) (hi : decide ((i : Nat) < ls.length) && decide ((i : Nat) < me.2.2.2.1) && jok ls (i : Nat) = true) (hs : ls.set (i : Nat) (jI x) = ls') (k : jJ me (pc + 1) ls' st n h nc ns Q) : jJ me (pc) ls (jI x :: st) n h nc ns Q := by
  intro p l e s m args below meth c base b D cA SC H locs lsS Z C G hW hS hl hZ
  simp only [Bool.and_eq_true, decide_eq_true_eq] at hi
  subst hs
  exact lv_istore_n C.1 C.2.1 hd rfl hl hi.1.2 rfl (fun ls2 h2 => k p l e s m args below meth c base b D cA SC H locs ls2 Z C G hW hS (jl_set1 hi.1.1 hi.2 h2) hZ)

theorem j_istore {me : jM} {pc : Nat} {ls st : List jV} {n : Nat} {h : Int → jE} {nc ns : Nat} {Q : Option jV → Nat → (Int → jE) → Prop} {i : Nat} {x : Int} (ls' : List jV) (hd : decode me.2.2.1 pc = .ok (.istore i, 2)) (hi : decide (i < ls.length) && decide (i < me.2.2.2.1) && jok ls i = true) (hs : ls.set i (jI x) = ls') (k : jJ me (pc + 2) ls' st n h nc ns Q) : jJ me (pc) ls (jI x :: st) n h nc ns Q := by
  intro p l e s m args below meth c base b D cA SC H locs lsS Z C G hW hS hl hZ
  simp only [Bool.and_eq_true, decide_eq_true_eq] at hi
  subst hs
  exact lv_istore C.1 C.2.1 hd hl hi.1.2 rfl (fun ls2 h2 => k p l e s m args below meth c base b D cA SC H locs ls2 Z C G hW hS (jl_set1 hi.1.1 hi.2 h2) hZ)

theorem j_lstore_n {me : jM} {pc : Nat} {ls st : List jV} {n : Nat} {h : Int → jE} {nc ns : Nat} {Q : Option jV → Nat → (Int → jE) → Prop} {i : Fin 4} {x : Int} (ls' : List jV) (hd : decode me.2.2.1 pc = .ok (.lstore_n i, 1)) (hi : decide ((i : Nat) + 1 < ls.length) && decide ((i : Nat) + 1 < me.2.2.2.1) && jok ls (i : Nat) = true) (hs : (ls.set (i : Nat) (jL x)).set ((i : Nat) + 1) jU = ls') (k : jJ me (pc + 1) ls' st n h nc ns Q) : jJ me (pc) ls (jL x :: st) n h nc ns Q := by
  intro p l e s m args below meth c base b D cA SC H locs lsS Z C G hW hS hl hZ
  simp only [Bool.and_eq_true, decide_eq_true_eq] at hi
  subst hs
  exact lv_lstore_n C.1 C.2.1 hd rfl hl hi.1.2 rfl (fun ls2 h2 => k p l e s m args below meth c base b D cA SC H locs ls2 Z C G hW hS (jl_set2 hi.1.1 hi.2 h2) hZ)

theorem j_lstore {me : jM} {pc : Nat} {ls st : List jV} {n : Nat} {h : Int → jE} {nc ns : Nat} {Q : Option jV → Nat → (Int → jE) → Prop} {i : Nat} {x : Int} (ls' : List jV) (hd : decode me.2.2.1 pc = .ok (.lstore i, 2)) (hi : decide (i + 1 < ls.length) && decide (i + 1 < me.2.2.2.1) && jok ls i = true) (hs : (ls.set i (jL x)).set (i + 1) jU = ls') (k : jJ me (pc + 2) ls' st n h nc ns Q) : jJ me (pc) ls (jL x :: st) n h nc ns Q := by
  intro p l e s m args below meth c base b D cA SC H locs lsS Z C G hW hS hl hZ
  simp only [Bool.and_eq_true, decide_eq_true_eq] at hi
  subst hs
  exact lv_lstore C.1 C.2.1 hd hl hi.1.2 rfl (fun ls2 h2 => k p l e s m args below meth c base b D cA SC H locs ls2 Z C G hW hS (jl_set2 hi.1.1 hi.2 h2) hZ)

theorem j_astore_n {me : jM} {pc : Nat} {ls st : List jV} {n : Nat} {h : Int → jE} {nc ns : Nat} {Q : Option jV → Nat → (Int → jE) → Prop} {i : Fin 4} {x : Int} (ls' : List jV) (hd : decode me.2.2.1 pc = .ok (.astore_n i, 1)) (hi : decide ((i : Nat) < ls.length) && decide ((i : Nat) < me.2.2.2.1) && jok ls (i : Nat) = true) (hs : ls.set (i : Nat) (jR x) = ls') (k : jJ me (pc + 1) ls' st n h nc ns Q) : jJ me (pc) ls (jR x :: st) n h nc ns Q := by
  intro p l e s m args below meth c base b D cA SC H locs lsS Z C G hW hS hl hZ
  simp only [Bool.and_eq_true, decide_eq_true_eq] at hi
  subst hs
  exact lv_astore_n C.1 C.2.1 hd rfl hl hi.1.2 rfl (fun ls2 h2 => k p l e s m args below meth c base b D cA SC H locs ls2 Z C G hW hS (jl_set1 hi.1.1 hi.2 h2) hZ)

theorem j_astore {me : jM} {pc : Nat} {ls st : List jV} {n : Nat} {h : Int → jE} {nc ns : Nat} {Q : Option jV → Nat → (Int → jE) → Prop} {i : Nat} {x : Int} (ls' : List jV) (hd : decode me.2.2.1 pc = .ok (.astore i, 2)) (hi : decide (i < ls.length) && decide (i < me.2.2.2.1) && jok ls i = true) (hs : ls.set i (jR x) = ls') (k : jJ me (pc + 2) ls' st n h nc ns Q) : jJ me (pc) ls (jR x :: st) n h nc ns Q := by
  intro p l e s m args below meth c base b D cA SC H locs lsS Z C G hW hS hl hZ
  simp only [Bool.and_eq_true, decide_eq_true_eq] at hi
  subst hs
  exact lv_astore C.1 C.2.1 hd hl hi.1.2 rfl (fun ls2 h2 => k p l e s m args below meth c base b D cA SC H locs ls2 Z C G hW hS (jl_set1 hi.1.1 hi.2 h2) hZ)

theorem j_iinc {me : jM} {pc : Nat} {ls st : List jV} {n : Nat} {h : Int → jE} {nc ns : Nat} {Q : Option jV → Nat → (Int → jE) → Prop} {i : Nat} {d x : Int} (ls' : List jV) (hd : decode me.2.2.1 pc = .ok (.iinc i d, 3)) (hl0 : ls[i]? = some (jI x)) (hi : decide (i < ls.length) && decide (i < me.2.2.2.1) && jok ls i = true) (hs : ls.set i (jI (x + d)) = ls') (k : jJ me (pc + 3) ls' st n h nc ns Q) : jJ me (pc) ls (st) n h nc ns Q := by
  intro p l e s m args below meth c base b D cA SC H locs lsS Z C G hW hS hl hZ
  simp only [Bool.and_eq_true, decide_eq_true_eq] at hi
  subst hs
  obtain ⟨j, hj⟩ := List.getElem?_of_mem (jl_mem (base := base) (b := b) ls 0 i _ hl0 (fun z => by cases z))
  rw [Nat.zero_add] at hj
  refine lv_iinc (v := Int32.ofInt (x + d)) C.1 C.2.1 hd hl hj (by rw [Int32.ofInt_add]) hi.1.2 rfl (fun ls2 h2 => k p l e s m args below meth c base b D cA SC H locs ls2 Z C G hW hS (jl_set1 (v := jI (x + d)) hi.1.1 hi.2 h2) hZ)

theorem j_iadd {me : jM} {pc : Nat} {ls st : List jV} {n : Nat} {h : Int → jE} {nc ns : Nat} {Q : Option jV → Nat → (Int → jE) → Prop} {x y : Int} (hd : decode me.2.2.1 pc = .ok (.iadd, 1)) (k : jJ me (pc + 1) ls (jI (x + y) :: st) n h nc ns Q) : jJ me (pc) ls (jI y :: jI x :: st) n h nc ns Q := by
  intro p l e s m args below meth c base b D cA SC H locs lsS Z C G hW hS hl hZ
  refine lv_iadd C.1 C.2.1 hd ?_
  rw [← Int32.ofInt_add]
  exact k p l e s m args below meth c base b D cA SC H locs lsS Z C G hW hS hl hZ

theorem j_isub {me : jM} {pc : Nat} {ls st : List jV} {n : Nat} {h : Int → jE} {nc ns : Nat} {Q : Option jV → Nat → (Int → jE) → Prop} {x y : Int} (hd : decode me.2.2.1 pc = .ok (.isub, 1)) (k : jJ me (pc + 1) ls (jI (x - y) :: st) n h nc ns Q) : jJ me (pc) ls (jI y :: jI x :: st) n h nc ns Q := by
  intro p l e s m args below meth c base b D cA SC H locs lsS Z C G hW hS hl hZ
  refine lv_isub C.1 C.2.1 hd ?_
  rw [← Int32.ofInt_sub]
  exact k p l e s m args below meth c base b D cA SC H locs lsS Z C G hW hS hl hZ

theorem j_imul {me : jM} {pc : Nat} {ls st : List jV} {n : Nat} {h : Int → jE} {nc ns : Nat} {Q : Option jV → Nat → (Int → jE) → Prop} {x y : Int} (hd : decode me.2.2.1 pc = .ok (.imul, 1)) (k : jJ me (pc + 1) ls (jI (x * y) :: st) n h nc ns Q) : jJ me (pc) ls (jI y :: jI x :: st) n h nc ns Q := by
  intro p l e s m args below meth c base b D cA SC H locs lsS Z C G hW hS hl hZ
  refine lv_imul C.1 C.2.1 hd ?_
  rw [← Int32.ofInt_mul]
  exact k p l e s m args below meth c base b D cA SC H locs lsS Z C G hW hS hl hZ

theorem j_ladd {me : jM} {pc : Nat} {ls st : List jV} {n : Nat} {h : Int → jE} {nc ns : Nat} {Q : Option jV → Nat → (Int → jE) → Prop} {x y : Int} (hd : decode me.2.2.1 pc = .ok (.ladd, 1)) (k : jJ me (pc + 1) ls (jL (x + y) :: st) n h nc ns Q) : jJ me (pc) ls (jL y :: jL x :: st) n h nc ns Q := by
  intro p l e s m args below meth c base b D cA SC H locs lsS Z C G hW hS hl hZ
  refine lv_ladd C.1 C.2.1 hd ?_
  rw [← Int64.ofInt_add]
  exact k p l e s m args below meth c base b D cA SC H locs lsS Z C G hW hS hl hZ

theorem j_lsub {me : jM} {pc : Nat} {ls st : List jV} {n : Nat} {h : Int → jE} {nc ns : Nat} {Q : Option jV → Nat → (Int → jE) → Prop} {x y : Int} (hd : decode me.2.2.1 pc = .ok (.lsub, 1)) (k : jJ me (pc + 1) ls (jL (x - y) :: st) n h nc ns Q) : jJ me (pc) ls (jL y :: jL x :: st) n h nc ns Q := by
  intro p l e s m args below meth c base b D cA SC H locs lsS Z C G hW hS hl hZ
  refine lv_lsub C.1 C.2.1 hd ?_
  rw [← Int64.ofInt_sub]
  exact k p l e s m args below meth c base b D cA SC H locs lsS Z C G hW hS hl hZ

theorem j_lmul {me : jM} {pc : Nat} {ls st : List jV} {n : Nat} {h : Int → jE} {nc ns : Nat} {Q : Option jV → Nat → (Int → jE) → Prop} {x y : Int} (hd : decode me.2.2.1 pc = .ok (.lmul, 1)) (k : jJ me (pc + 1) ls (jL (x * y) :: st) n h nc ns Q) : jJ me (pc) ls (jL y :: jL x :: st) n h nc ns Q := by
  intro p l e s m args below meth c base b D cA SC H locs lsS Z C G hW hS hl hZ
  refine lv_lmul C.1 C.2.1 hd ?_
  rw [← Int64.ofInt_mul]
  exact k p l e s m args below meth c base b D cA SC H locs lsS Z C G hW hS hl hZ

theorem j_lneg {me : jM} {pc : Nat} {ls st : List jV} {n : Nat} {h : Int → jE} {nc ns : Nat} {Q : Option jV → Nat → (Int → jE) → Prop} {x : Int} (hd : decode me.2.2.1 pc = .ok (.lneg, 1)) (k : jJ me (pc + 1) ls (jL (-x) :: st) n h nc ns Q) : jJ me (pc) ls (jL x :: st) n h nc ns Q := by
  intro p l e s m args below meth c base b D cA SC H locs lsS Z C G hW hS hl hZ
  refine lv_lneg C.1 C.2.1 hd ?_
  rw [← Int64.ofInt_neg]
  exact k p l e s m args below meth c base b D cA SC H locs lsS Z C G hW hS hl hZ

theorem j_iand {me : jM} {pc : Nat} {ls st : List jV} {n : Nat} {h : Int → jE} {nc ns : Nat} {Q : Option jV → Nat → (Int → jE) → Prop} {x y : Int} (v : Int) (hd : decode me.2.2.1 pc = .ok (.iand, 1)) (hv : Int32.ofInt x &&& Int32.ofInt y = Int32.ofInt v) (k : jJ me (pc + 1) ls (jI v :: st) n h nc ns Q) : jJ me (pc) ls (jI y :: jI x :: st) n h nc ns Q := by
  intro p l e s m args below meth c base b D cA SC H locs lsS Z C G hW hS hl hZ
  refine lv_iand C.1 C.2.1 hd ?_
  rw [hv]
  exact k p l e s m args below meth c base b D cA SC H locs lsS Z C G hW hS hl hZ

theorem j_ior {me : jM} {pc : Nat} {ls st : List jV} {n : Nat} {h : Int → jE} {nc ns : Nat} {Q : Option jV → Nat → (Int → jE) → Prop} {x y : Int} (v : Int) (hd : decode me.2.2.1 pc = .ok (.ior, 1)) (hv : Int32.ofInt x ||| Int32.ofInt y = Int32.ofInt v) (k : jJ me (pc + 1) ls (jI v :: st) n h nc ns Q) : jJ me (pc) ls (jI y :: jI x :: st) n h nc ns Q := by
  intro p l e s m args below meth c base b D cA SC H locs lsS Z C G hW hS hl hZ
  refine lv_ior C.1 C.2.1 hd ?_
  rw [hv]
  exact k p l e s m args below meth c base b D cA SC H locs lsS Z C G hW hS hl hZ

theorem j_ixor {me : jM} {pc : Nat} {ls st : List jV} {n : Nat} {h : Int → jE} {nc ns : Nat} {Q : Option jV → Nat → (Int → jE) → Prop} {x y : Int} (v : Int) (hd : decode me.2.2.1 pc = .ok (.ixor, 1)) (hv : Int32.ofInt x ^^^ Int32.ofInt y = Int32.ofInt v) (k : jJ me (pc + 1) ls (jI v :: st) n h nc ns Q) : jJ me (pc) ls (jI y :: jI x :: st) n h nc ns Q := by
  intro p l e s m args below meth c base b D cA SC H locs lsS Z C G hW hS hl hZ
  refine lv_ixor C.1 C.2.1 hd ?_
  rw [hv]
  exact k p l e s m args below meth c base b D cA SC H locs lsS Z C G hW hS hl hZ

theorem j_ishl {me : jM} {pc : Nat} {ls st : List jV} {n : Nat} {h : Int → jE} {nc ns : Nat} {Q : Option jV → Nat → (Int → jE) → Prop} {x y : Int} (v : Int) (hd : decode me.2.2.1 pc = .ok (.ishl, 1)) (hv : Int32.ofInt x <<< (Int32.ofInt y &&& 31) = Int32.ofInt v) (k : jJ me (pc + 1) ls (jI v :: st) n h nc ns Q) : jJ me (pc) ls (jI y :: jI x :: st) n h nc ns Q := by
  intro p l e s m args below meth c base b D cA SC H locs lsS Z C G hW hS hl hZ
  refine lv_ishl C.1 C.2.1 hd ?_
  rw [hv]
  exact k p l e s m args below meth c base b D cA SC H locs lsS Z C G hW hS hl hZ

theorem j_ishr {me : jM} {pc : Nat} {ls st : List jV} {n : Nat} {h : Int → jE} {nc ns : Nat} {Q : Option jV → Nat → (Int → jE) → Prop} {x y : Int} (v : Int) (hd : decode me.2.2.1 pc = .ok (.ishr, 1)) (hv : Int32.ofInt x >>> (Int32.ofInt y &&& 31) = Int32.ofInt v) (k : jJ me (pc + 1) ls (jI v :: st) n h nc ns Q) : jJ me (pc) ls (jI y :: jI x :: st) n h nc ns Q := by
  intro p l e s m args below meth c base b D cA SC H locs lsS Z C G hW hS hl hZ
  refine lv_ishr C.1 C.2.1 hd ?_
  rw [hv]
  exact k p l e s m args below meth c base b D cA SC H locs lsS Z C G hW hS hl hZ

theorem j_land {me : jM} {pc : Nat} {ls st : List jV} {n : Nat} {h : Int → jE} {nc ns : Nat} {Q : Option jV → Nat → (Int → jE) → Prop} {x y : Int} (v : Int) (hd : decode me.2.2.1 pc = .ok (.land, 1)) (hv : Int64.ofInt x &&& Int64.ofInt y = Int64.ofInt v) (k : jJ me (pc + 1) ls (jL v :: st) n h nc ns Q) : jJ me (pc) ls (jL y :: jL x :: st) n h nc ns Q := by
  intro p l e s m args below meth c base b D cA SC H locs lsS Z C G hW hS hl hZ
  refine lv_land C.1 C.2.1 hd ?_
  rw [hv]
  exact k p l e s m args below meth c base b D cA SC H locs lsS Z C G hW hS hl hZ

theorem j_lor {me : jM} {pc : Nat} {ls st : List jV} {n : Nat} {h : Int → jE} {nc ns : Nat} {Q : Option jV → Nat → (Int → jE) → Prop} {x y : Int} (v : Int) (hd : decode me.2.2.1 pc = .ok (.lor, 1)) (hv : Int64.ofInt x ||| Int64.ofInt y = Int64.ofInt v) (k : jJ me (pc + 1) ls (jL v :: st) n h nc ns Q) : jJ me (pc) ls (jL y :: jL x :: st) n h nc ns Q := by
  intro p l e s m args below meth c base b D cA SC H locs lsS Z C G hW hS hl hZ
  refine lv_lor C.1 C.2.1 hd ?_
  rw [hv]
  exact k p l e s m args below meth c base b D cA SC H locs lsS Z C G hW hS hl hZ

theorem j_iushr {me : jM} {pc : Nat} {ls st : List jV} {n : Nat} {h : Int → jE} {nc ns : Nat} {Q : Option jV → Nat → (Int → jE) → Prop} {x y : Int} (v : Int) (hd : decode me.2.2.1 pc = .ok (.iushr, 1)) (hv : ((Int32.ofInt x).toUInt32 >>> ((Int32.ofInt y).toUInt32 &&& Int32.toUInt32 31)).toInt32 = Int32.ofInt v) (k : jJ me (pc + 1) ls (jI v :: st) n h nc ns Q) : jJ me (pc) ls (jI y :: jI x :: st) n h nc ns Q := by
  intro p l e s m args below meth c base b D cA SC H locs lsS Z C G hW hS hl hZ
  exact lv_iushr C.1 C.2.1 hd hv (k p l e s m args below meth c base b D cA SC H locs lsS Z C G hW hS hl hZ)

theorem j_lshl {me : jM} {pc : Nat} {ls st : List jV} {n : Nat} {h : Int → jE} {nc ns : Nat} {Q : Option jV → Nat → (Int → jE) → Prop} {x y : Int} (v : Int) (hd : decode me.2.2.1 pc = .ok (.lshl, 1)) (hv : Int64.ofInt x <<< ((Int32.ofInt y).toInt64 &&& 63) = Int64.ofInt v) (k : jJ me (pc + 1) ls (jL v :: st) n h nc ns Q) : jJ me (pc) ls (jI y :: jL x :: st) n h nc ns Q := by
  intro p l e s m args below meth c base b D cA SC H locs lsS Z C G hW hS hl hZ
  exact lv_lshl C.1 C.2.1 hd hv (k p l e s m args below meth c base b D cA SC H locs lsS Z C G hW hS hl hZ)

theorem j_lshr {me : jM} {pc : Nat} {ls st : List jV} {n : Nat} {h : Int → jE} {nc ns : Nat} {Q : Option jV → Nat → (Int → jE) → Prop} {x y : Int} (v : Int) (hd : decode me.2.2.1 pc = .ok (.lshr, 1)) (hv : Int64.ofInt x >>> ((Int32.ofInt y).toInt64 &&& 63) = Int64.ofInt v) (k : jJ me (pc + 1) ls (jL v :: st) n h nc ns Q) : jJ me (pc) ls (jI y :: jL x :: st) n h nc ns Q := by
  intro p l e s m args below meth c base b D cA SC H locs lsS Z C G hW hS hl hZ
  exact lv_lshr C.1 C.2.1 hd hv (k p l e s m args below meth c base b D cA SC H locs lsS Z C G hW hS hl hZ)

theorem jn0_32 {y : Int} (h0 : 0 < y) (h : jr32 y) : ¬ Int32.ofInt y = 0 := fun q => by
  have : Int32.ofInt y = Int32.ofInt 0 := q
  rw [j32_eq h jr32_0] at this
  omega
theorem jn0_64 {y : Int} (h0 : 0 < y) (h : jr64 y) : ¬ Int64.ofInt y = 0 := fun q => by
  have : Int64.ofInt y = Int64.ofInt 0 := q
  rw [j64_eq h ⟨by omega, by omega⟩] at this
  omega
theorem jdiv32 {x y : Int} (hx : 0 ≤ x ∧ x ≤ 2147483647) (hy : 0 < y ∧ y ≤ 2147483647) : Int32.ofInt x / Int32.ofInt y = Int32.ofInt (x / y) := by
  rw [← Int.tdiv_eq_ediv_of_nonneg hx.1, Int32.ofInt_tdiv (by rw [show Int32.minValue.toInt = -2147483648 from rfl]; omega) (by rw [show Int32.maxValue.toInt = 2147483647 from rfl]; omega) (by rw [show Int32.minValue.toInt = -2147483648 from rfl]; omega) (by rw [show Int32.maxValue.toInt = 2147483647 from rfl]; omega)]
theorem jdiv64 {x y : Int} (hx : 0 ≤ x ∧ x ≤ 9223372036854775807) (hy : 0 < y ∧ y ≤ 9223372036854775807) : Int64.ofInt x / Int64.ofInt y = Int64.ofInt (x / y) := by
  rw [← Int.tdiv_eq_ediv_of_nonneg hx.1, Int64.ofInt_tdiv (by rw [show Int64.minValue.toInt = -9223372036854775808 from rfl]; omega) (by rw [show Int64.maxValue.toInt = 9223372036854775807 from rfl]; omega) (by rw [show Int64.minValue.toInt = -9223372036854775808 from rfl]; omega) (by rw [show Int64.maxValue.toInt = 9223372036854775807 from rfl]; omega)]
theorem jmod_e (x y : Int) : x - x / y * y = x % y := by rw [Int.emod_def, Int.mul_comm]

theorem j_idiv {me : jM} {pc : Nat} {ls st : List jV} {n : Nat} {h : Int → jE} {nc ns : Nat} {Q : Option jV → Nat → (Int → jE) → Prop} {x y : Int} (hd : decode me.2.2.1 pc = .ok (.idiv, 1)) (hxy : (0 ≤ x ∧ x ≤ 2147483647) ∧ (0 < y ∧ y ≤ 2147483647)) (k : jJ me (pc + 1) ls (jI (x / y) :: st) n h nc ns Q) : jJ me (pc) ls (jI y :: jI x :: st) n h nc ns Q := by
  intro p l e s m args below meth c base b D cA SC H locs lsS Z C G hW hS hl hZ
  refine lv_idiv C.1 C.2.1 hd (jn0_32 hxy.2.1 ⟨by have := hxy.2.1; omega, hxy.2.2⟩) ?_
  rw [jdiv32 hxy.1 hxy.2]
  exact k p l e s m args below meth c base b D cA SC H locs lsS Z C G hW hS hl hZ

theorem j_irem {me : jM} {pc : Nat} {ls st : List jV} {n : Nat} {h : Int → jE} {nc ns : Nat} {Q : Option jV → Nat → (Int → jE) → Prop} {x y : Int} (hd : decode me.2.2.1 pc = .ok (.irem, 1)) (hxy : (0 ≤ x ∧ x ≤ 2147483647) ∧ (0 < y ∧ y ≤ 2147483647)) (k : jJ me (pc + 1) ls (jI (x % y) :: st) n h nc ns Q) : jJ me (pc) ls (jI y :: jI x :: st) n h nc ns Q := by
  intro p l e s m args below meth c base b D cA SC H locs lsS Z C G hW hS hl hZ
  refine lv_irem C.1 C.2.1 hd (jn0_32 hxy.2.1 ⟨by have := hxy.2.1; omega, hxy.2.2⟩) ?_
  rw [jdiv32 hxy.1 hxy.2, ← Int32.ofInt_mul, ← Int32.ofInt_sub, jmod_e]
  exact k p l e s m args below meth c base b D cA SC H locs lsS Z C G hW hS hl hZ

theorem j_ldiv {me : jM} {pc : Nat} {ls st : List jV} {n : Nat} {h : Int → jE} {nc ns : Nat} {Q : Option jV → Nat → (Int → jE) → Prop} {x y : Int} (hd : decode me.2.2.1 pc = .ok (.ldiv, 1)) (hxy : (0 ≤ x ∧ x ≤ 9223372036854775807) ∧ (0 < y ∧ y ≤ 9223372036854775807)) (k : jJ me (pc + 1) ls (jL (x / y) :: st) n h nc ns Q) : jJ me (pc) ls (jL y :: jL x :: st) n h nc ns Q := by
  intro p l e s m args below meth c base b D cA SC H locs lsS Z C G hW hS hl hZ
  refine lv_ldiv C.1 C.2.1 hd (jn0_64 hxy.2.1 ⟨by have := hxy.2.1; omega, hxy.2.2⟩) ?_
  rw [jdiv64 hxy.1 hxy.2]
  exact k p l e s m args below meth c base b D cA SC H locs lsS Z C G hW hS hl hZ

theorem j_lrem {me : jM} {pc : Nat} {ls st : List jV} {n : Nat} {h : Int → jE} {nc ns : Nat} {Q : Option jV → Nat → (Int → jE) → Prop} {x y : Int} (hd : decode me.2.2.1 pc = .ok (.lrem, 1)) (hxy : (0 ≤ x ∧ x ≤ 9223372036854775807) ∧ (0 < y ∧ y ≤ 9223372036854775807)) (k : jJ me (pc + 1) ls (jL (x % y) :: st) n h nc ns Q) : jJ me (pc) ls (jL y :: jL x :: st) n h nc ns Q := by
  intro p l e s m args below meth c base b D cA SC H locs lsS Z C G hW hS hl hZ
  refine lv_lrem C.1 C.2.1 hd (jn0_64 hxy.2.1 ⟨by have := hxy.2.1; omega, hxy.2.2⟩) ?_
  rw [jdiv64 hxy.1 hxy.2, ← Int64.ofInt_mul, ← Int64.ofInt_sub, jmod_e]
  exact k p l e s m args below meth c base b D cA SC H locs lsS Z C G hW hS hl hZ

theorem j_i2lE {x : Int} (h : jr32 x) : (Int32.ofInt x).toInt64 = Int64.ofInt x := by rw [← Int64.toInt_inj, Int32.toInt_toInt64, j32T h, j64T ⟨by have := h.1; omega, by have := h.2; omega⟩]
theorem j_l2iE (x : Int) : (Int64.ofInt x).toInt32 = Int32.ofInt x := Int64.toInt32_ofInt

theorem j_i2l {me : jM} {pc : Nat} {ls st : List jV} {n : Nat} {h : Int → jE} {nc ns : Nat} {Q : Option jV → Nat → (Int → jE) → Prop} {x : Int} (hd : decode me.2.2.1 pc = .ok (.i2l, 1)) (hx : jr32 x) (k : jJ me (pc + 1) ls (jL x :: st) n h nc ns Q) : jJ me (pc) ls (jI x :: st) n h nc ns Q := by
  intro p l e s m args below meth c base b D cA SC H locs lsS Z C G hW hS hl hZ
  exact lv_i2l C.1 C.2.1 hd (j_i2lE hx) (k p l e s m args below meth c base b D cA SC H locs lsS Z C G hW hS hl hZ)

theorem j_l2i {me : jM} {pc : Nat} {ls st : List jV} {n : Nat} {h : Int → jE} {nc ns : Nat} {Q : Option jV → Nat → (Int → jE) → Prop} {x : Int} (hd : decode me.2.2.1 pc = .ok (.l2i, 1)) (k : jJ me (pc + 1) ls (jI x :: st) n h nc ns Q) : jJ me (pc) ls (jL x :: st) n h nc ns Q := by
  intro p l e s m args below meth c base b D cA SC H locs lsS Z C G hW hS hl hZ
  exact lv_l2i C.1 C.2.1 hd (j_l2iE x) (k p l e s m args below meth c base b D cA SC H locs lsS Z C G hW hS hl hZ)

theorem jcat1 {base b : Nat} {v : jV} (h : match v with | .inr (.inl _) => False | _ => True) : (jvv base b v).category = 1 := by
  obtain x | x | x | x := v
  · rfl
  · exact h.elim
  · cases x <;> rfl
  · rfl
def jc1 (v : jV) : Bool := match v with | .inr (.inl _) => false | _ => true
theorem jc1_cat {base b : Nat} {v : jV} (h : jc1 v = true) : (jvv base b v).category = 1 := by
  obtain x | x | x | x := v
  · rfl
  · cases h
  · cases x <;> rfl
  · rfl

theorem j_dup {me : jM} {pc : Nat} {ls st : List jV} {n : Nat} {h : Int → jE} {nc ns : Nat} {Q : Option jV → Nat → (Int → jE) → Prop} {v : jV} (hd : decode me.2.2.1 pc = .ok (.dup, 1)) (hv : jc1 v = true) (k : jJ me (pc + 1) ls (v :: v :: st) n h nc ns Q) : jJ me (pc) ls (v :: st) n h nc ns Q := by
  intro p l e s m args below meth c base b D cA SC H locs lsS Z C G hW hS hl hZ
  exact lv_dup C.1 C.2.1 hd (jc1_cat hv) (k p l e s m args below meth c base b D cA SC H locs lsS Z C G hW hS hl hZ)

theorem j_dup_x1 {me : jM} {pc : Nat} {ls st : List jV} {n : Nat} {h : Int → jE} {nc ns : Nat} {Q : Option jV → Nat → (Int → jE) → Prop} {v w : jV} (hd : decode me.2.2.1 pc = .ok (.dup_x1, 1)) (hv : (jc1 v && jc1 w) = true) (k : jJ me (pc + 1) ls (v :: w :: v :: st) n h nc ns Q) : jJ me (pc) ls (v :: w :: st) n h nc ns Q := by
  intro p l e s m args below meth c base b D cA SC H locs lsS Z C G hW hS hl hZ
  rw [Bool.and_eq_true] at hv
  exact lv_dup_x1 C.1 C.2.1 hd (jc1_cat hv.1) (jc1_cat hv.2) (k p l e s m args below meth c base b D cA SC H locs lsS Z C G hW hS hl hZ)

theorem j_dup2 {me : jM} {pc : Nat} {ls st : List jV} {n : Nat} {h : Int → jE} {nc ns : Nat} {Q : Option jV → Nat → (Int → jE) → Prop} {v w : jV} (hd : decode me.2.2.1 pc = .ok (.dup2, 1)) (hv : (jc1 v && jc1 w) = true) (k : jJ me (pc + 1) ls (v :: w :: v :: w :: st) n h nc ns Q) : jJ me (pc) ls (v :: w :: st) n h nc ns Q := by
  intro p l e s m args below meth c base b D cA SC H locs lsS Z C G hW hS hl hZ
  rw [Bool.and_eq_true] at hv
  exact lv_dup2_11 C.1 C.2.1 hd (jc1_cat hv.1) (jc1_cat hv.2) (k p l e s m args below meth c base b D cA SC H locs lsS Z C G hW hS hl hZ)

theorem j_icmp_eq {me : jM} {pc : Nat} {ls st : List jV} {n : Nat} {h : Int → jE} {nc ns : Nat} {Q : Option jV → Nat → (Int → jE) → Prop} {x y off : Int} (tgt : Nat) (hd : decode me.2.2.1 pc = .ok (.if_icmp .eq off, 3)) (ht : (pc : Int) + off = (tgt : Int)) (hx : jr32 x) (hy : jr32 y) (kt : x = y → jJ me tgt ls st n h nc ns Q) (kf : ¬ (x = y) → jJ me (pc + 3) ls st n h nc ns Q) : jJ me (pc) ls (jI y :: jI x :: st) n h nc ns Q := by
  intro p l e s m args below meth c base b D cA SC H locs lsS Z C G hW hS hl hZ
  exact lv_icmp_eq C.1 C.2.1 hd ht (fun q => kt ((j32_eq hx hy).mp q) p l e s m args below meth c base b D cA SC H locs lsS Z C G hW hS hl hZ) (fun q => kf (fun q2 => q ((j32_eq hx hy).mpr q2)) p l e s m args below meth c base b D cA SC H locs lsS Z C G hW hS hl hZ)

theorem j_icmp_ne {me : jM} {pc : Nat} {ls st : List jV} {n : Nat} {h : Int → jE} {nc ns : Nat} {Q : Option jV → Nat → (Int → jE) → Prop} {x y off : Int} (tgt : Nat) (hd : decode me.2.2.1 pc = .ok (.if_icmp .ne off, 3)) (ht : (pc : Int) + off = (tgt : Int)) (hx : jr32 x) (hy : jr32 y) (kt : x ≠ y → jJ me tgt ls st n h nc ns Q) (kf : x = y → jJ me (pc + 3) ls st n h nc ns Q) : jJ me (pc) ls (jI y :: jI x :: st) n h nc ns Q := by
  intro p l e s m args below meth c base b D cA SC H locs lsS Z C G hW hS hl hZ
  exact lv_icmp_ne C.1 C.2.1 hd ht (fun q => kt (fun q2 => q ((j32_eq hx hy).mpr q2)) p l e s m args below meth c base b D cA SC H locs lsS Z C G hW hS hl hZ) (fun q => kf ((j32_eq hx hy).mp q) p l e s m args below meth c base b D cA SC H locs lsS Z C G hW hS hl hZ)

theorem j_icmp_lt {me : jM} {pc : Nat} {ls st : List jV} {n : Nat} {h : Int → jE} {nc ns : Nat} {Q : Option jV → Nat → (Int → jE) → Prop} {x y off : Int} (tgt : Nat) (hd : decode me.2.2.1 pc = .ok (.if_icmp .lt off, 3)) (ht : (pc : Int) + off = (tgt : Int)) (hx : jr32 x) (hy : jr32 y) (kt : x < y → jJ me tgt ls st n h nc ns Q) (kf : ¬ (x < y) → jJ me (pc + 3) ls st n h nc ns Q) : jJ me (pc) ls (jI y :: jI x :: st) n h nc ns Q := by
  intro p l e s m args below meth c base b D cA SC H locs lsS Z C G hW hS hl hZ
  exact lv_icmp_lt C.1 C.2.1 hd ht (fun q => kt ((j32_lt hx hy).mp q) p l e s m args below meth c base b D cA SC H locs lsS Z C G hW hS hl hZ) (fun q => kf (fun q2 => q ((j32_lt hx hy).mpr q2)) p l e s m args below meth c base b D cA SC H locs lsS Z C G hW hS hl hZ)

theorem j_icmp_ge {me : jM} {pc : Nat} {ls st : List jV} {n : Nat} {h : Int → jE} {nc ns : Nat} {Q : Option jV → Nat → (Int → jE) → Prop} {x y off : Int} (tgt : Nat) (hd : decode me.2.2.1 pc = .ok (.if_icmp .ge off, 3)) (ht : (pc : Int) + off = (tgt : Int)) (hx : jr32 x) (hy : jr32 y) (kt : y ≤ x → jJ me tgt ls st n h nc ns Q) (kf : ¬ (y ≤ x) → jJ me (pc + 3) ls st n h nc ns Q) : jJ me (pc) ls (jI y :: jI x :: st) n h nc ns Q := by
  intro p l e s m args below meth c base b D cA SC H locs lsS Z C G hW hS hl hZ
  exact lv_icmp_ge C.1 C.2.1 hd ht (fun q => kt ((j32_le hy hx).mp q) p l e s m args below meth c base b D cA SC H locs lsS Z C G hW hS hl hZ) (fun q => kf (fun q2 => q ((j32_le hy hx).mpr q2)) p l e s m args below meth c base b D cA SC H locs lsS Z C G hW hS hl hZ)

theorem j_icmp_gt {me : jM} {pc : Nat} {ls st : List jV} {n : Nat} {h : Int → jE} {nc ns : Nat} {Q : Option jV → Nat → (Int → jE) → Prop} {x y off : Int} (tgt : Nat) (hd : decode me.2.2.1 pc = .ok (.if_icmp .gt off, 3)) (ht : (pc : Int) + off = (tgt : Int)) (hx : jr32 x) (hy : jr32 y) (kt : y < x → jJ me tgt ls st n h nc ns Q) (kf : ¬ (y < x) → jJ me (pc + 3) ls st n h nc ns Q) : jJ me (pc) ls (jI y :: jI x :: st) n h nc ns Q := by
  intro p l e s m args below meth c base b D cA SC H locs lsS Z C G hW hS hl hZ
  exact lv_icmp_gt C.1 C.2.1 hd ht (fun q => kt ((j32_lt hy hx).mp q) p l e s m args below meth c base b D cA SC H locs lsS Z C G hW hS hl hZ) (fun q => kf (fun q2 => q ((j32_lt hy hx).mpr q2)) p l e s m args below meth c base b D cA SC H locs lsS Z C G hW hS hl hZ)

theorem j_icmp_le {me : jM} {pc : Nat} {ls st : List jV} {n : Nat} {h : Int → jE} {nc ns : Nat} {Q : Option jV → Nat → (Int → jE) → Prop} {x y off : Int} (tgt : Nat) (hd : decode me.2.2.1 pc = .ok (.if_icmp .le off, 3)) (ht : (pc : Int) + off = (tgt : Int)) (hx : jr32 x) (hy : jr32 y) (kt : x ≤ y → jJ me tgt ls st n h nc ns Q) (kf : ¬ (x ≤ y) → jJ me (pc + 3) ls st n h nc ns Q) : jJ me (pc) ls (jI y :: jI x :: st) n h nc ns Q := by
  intro p l e s m args below meth c base b D cA SC H locs lsS Z C G hW hS hl hZ
  exact lv_icmp_le C.1 C.2.1 hd ht (fun q => kt ((j32_le hx hy).mp q) p l e s m args below meth c base b D cA SC H locs lsS Z C G hW hS hl hZ) (fun q => kf (fun q2 => q ((j32_le hx hy).mpr q2)) p l e s m args below meth c base b D cA SC H locs lsS Z C G hW hS hl hZ)

theorem j_if_eq {me : jM} {pc : Nat} {ls st : List jV} {n : Nat} {h : Int → jE} {nc ns : Nat} {Q : Option jV → Nat → (Int → jE) → Prop} {x off : Int} (tgt : Nat) (hd : decode me.2.2.1 pc = .ok (.ifCond .eq off, 3)) (ht : (pc : Int) + off = (tgt : Int)) (hx : jr32 x) (kt : x = 0 → jJ me tgt ls st n h nc ns Q) (kf : ¬ (x = 0) → jJ me (pc + 3) ls st n h nc ns Q) : jJ me (pc) ls (jI x :: st) n h nc ns Q := by
  intro p l e s m args below meth c base b D cA SC H locs lsS Z C G hW hS hl hZ
  exact lv_if_eq C.1 C.2.1 hd ht (fun q => kt ((j32_eq hx jr32_0).mp q) p l e s m args below meth c base b D cA SC H locs lsS Z C G hW hS hl hZ) (fun q => kf (fun q2 => q ((j32_eq hx jr32_0).mpr q2)) p l e s m args below meth c base b D cA SC H locs lsS Z C G hW hS hl hZ)

theorem j_if_ne {me : jM} {pc : Nat} {ls st : List jV} {n : Nat} {h : Int → jE} {nc ns : Nat} {Q : Option jV → Nat → (Int → jE) → Prop} {x off : Int} (tgt : Nat) (hd : decode me.2.2.1 pc = .ok (.ifCond .ne off, 3)) (ht : (pc : Int) + off = (tgt : Int)) (hx : jr32 x) (kt : x ≠ 0 → jJ me tgt ls st n h nc ns Q) (kf : x = 0 → jJ me (pc + 3) ls st n h nc ns Q) : jJ me (pc) ls (jI x :: st) n h nc ns Q := by
  intro p l e s m args below meth c base b D cA SC H locs lsS Z C G hW hS hl hZ
  exact lv_if_ne C.1 C.2.1 hd ht (fun q => kt (fun q2 => q ((j32_eq hx jr32_0).mpr q2)) p l e s m args below meth c base b D cA SC H locs lsS Z C G hW hS hl hZ) (fun q => kf ((j32_eq hx jr32_0).mp q) p l e s m args below meth c base b D cA SC H locs lsS Z C G hW hS hl hZ)

theorem j_if_lt {me : jM} {pc : Nat} {ls st : List jV} {n : Nat} {h : Int → jE} {nc ns : Nat} {Q : Option jV → Nat → (Int → jE) → Prop} {x off : Int} (tgt : Nat) (hd : decode me.2.2.1 pc = .ok (.ifCond .lt off, 3)) (ht : (pc : Int) + off = (tgt : Int)) (hx : jr32 x) (kt : x < 0 → jJ me tgt ls st n h nc ns Q) (kf : ¬ (x < 0) → jJ me (pc + 3) ls st n h nc ns Q) : jJ me (pc) ls (jI x :: st) n h nc ns Q := by
  intro p l e s m args below meth c base b D cA SC H locs lsS Z C G hW hS hl hZ
  exact lv_if_lt C.1 C.2.1 hd ht (fun q => kt ((j32_lt hx jr32_0).mp q) p l e s m args below meth c base b D cA SC H locs lsS Z C G hW hS hl hZ) (fun q => kf (fun q2 => q ((j32_lt hx jr32_0).mpr q2)) p l e s m args below meth c base b D cA SC H locs lsS Z C G hW hS hl hZ)

theorem j_if_ge {me : jM} {pc : Nat} {ls st : List jV} {n : Nat} {h : Int → jE} {nc ns : Nat} {Q : Option jV → Nat → (Int → jE) → Prop} {x off : Int} (tgt : Nat) (hd : decode me.2.2.1 pc = .ok (.ifCond .ge off, 3)) (ht : (pc : Int) + off = (tgt : Int)) (hx : jr32 x) (kt : 0 ≤ x → jJ me tgt ls st n h nc ns Q) (kf : ¬ (0 ≤ x) → jJ me (pc + 3) ls st n h nc ns Q) : jJ me (pc) ls (jI x :: st) n h nc ns Q := by
  intro p l e s m args below meth c base b D cA SC H locs lsS Z C G hW hS hl hZ
  exact lv_if_ge C.1 C.2.1 hd ht (fun q => kt ((j32_le jr32_0 hx).mp q) p l e s m args below meth c base b D cA SC H locs lsS Z C G hW hS hl hZ) (fun q => kf (fun q2 => q ((j32_le jr32_0 hx).mpr q2)) p l e s m args below meth c base b D cA SC H locs lsS Z C G hW hS hl hZ)

theorem j_if_gt {me : jM} {pc : Nat} {ls st : List jV} {n : Nat} {h : Int → jE} {nc ns : Nat} {Q : Option jV → Nat → (Int → jE) → Prop} {x off : Int} (tgt : Nat) (hd : decode me.2.2.1 pc = .ok (.ifCond .gt off, 3)) (ht : (pc : Int) + off = (tgt : Int)) (hx : jr32 x) (kt : 0 < x → jJ me tgt ls st n h nc ns Q) (kf : ¬ (0 < x) → jJ me (pc + 3) ls st n h nc ns Q) : jJ me (pc) ls (jI x :: st) n h nc ns Q := by
  intro p l e s m args below meth c base b D cA SC H locs lsS Z C G hW hS hl hZ
  exact lv_if_gt C.1 C.2.1 hd ht (fun q => kt ((j32_lt jr32_0 hx).mp q) p l e s m args below meth c base b D cA SC H locs lsS Z C G hW hS hl hZ) (fun q => kf (fun q2 => q ((j32_lt jr32_0 hx).mpr q2)) p l e s m args below meth c base b D cA SC H locs lsS Z C G hW hS hl hZ)

theorem j_if_le {me : jM} {pc : Nat} {ls st : List jV} {n : Nat} {h : Int → jE} {nc ns : Nat} {Q : Option jV → Nat → (Int → jE) → Prop} {x off : Int} (tgt : Nat) (hd : decode me.2.2.1 pc = .ok (.ifCond .le off, 3)) (ht : (pc : Int) + off = (tgt : Int)) (hx : jr32 x) (kt : x ≤ 0 → jJ me tgt ls st n h nc ns Q) (kf : ¬ (x ≤ 0) → jJ me (pc + 3) ls st n h nc ns Q) : jJ me (pc) ls (jI x :: st) n h nc ns Q := by
  intro p l e s m args below meth c base b D cA SC H locs lsS Z C G hW hS hl hZ
  exact lv_if_le C.1 C.2.1 hd ht (fun q => kt ((j32_le hx jr32_0).mp q) p l e s m args below meth c base b D cA SC H locs lsS Z C G hW hS hl hZ) (fun q => kf (fun q2 => q ((j32_le hx jr32_0).mpr q2)) p l e s m args below meth c base b D cA SC H locs lsS Z C G hW hS hl hZ)

theorem j_goto {me : jM} {pc : Nat} {ls st : List jV} {n : Nat} {h : Int → jE} {nc ns : Nat} {Q : Option jV → Nat → (Int → jE) → Prop} {off : Int} (tgt : Nat) (hd : decode me.2.2.1 pc = .ok (.goto off, 3)) (ht : (pc : Int) + off = (tgt : Int)) (k : jJ me tgt ls st n h nc ns Q) : jJ me pc ls st n h nc ns Q := by
  intro p l e s m args below meth c base b D cA SC H locs lsS Z C G hW hS hl hZ
  exact lv_goto C.1 C.2.1 hd ht (k p l e s m args below meth c base b D cA SC H locs lsS Z C G hW hS hl hZ)

def jcmp (x y : Int) : Int := if y < x then 1 else if x = y then 0 else -1
theorem jcmpE {x y : Int} (hx : jr64 x) (hy : jr64 y) : lg_cmp (Int64.ofInt x) (Int64.ofInt y) = Int32.ofInt (jcmp x y) := by
  unfold lg_cmp jcmp
  simp only [GT.gt, j64_lt hy hx, j64_eq hx hy]
  split
  · rfl
  · split <;> rfl
theorem jcmp_lt {x y : Int} : jcmp x y < 0 ↔ x < y := by unfold jcmp; split <;> (try split) <;> omega
theorem jcmp_gt {x y : Int} : 0 < jcmp x y ↔ y < x := by unfold jcmp; split <;> (try split) <;> omega
theorem jcmp_le {x y : Int} : jcmp x y ≤ 0 ↔ x ≤ y := by unfold jcmp; split <;> (try split) <;> omega
theorem jcmp_ge {x y : Int} : 0 ≤ jcmp x y ↔ y ≤ x := by unfold jcmp; split <;> (try split) <;> omega
theorem jcmp_eq {x y : Int} : jcmp x y = 0 ↔ x = y := by unfold jcmp; split <;> (try split) <;> omega
theorem jcmp_32 (x y : Int) : jr32 (jcmp x y) := by unfold jcmp jr32; split <;> (try split) <;> omega

theorem j_lcmp {me : jM} {pc : Nat} {ls st : List jV} {n : Nat} {h : Int → jE} {nc ns : Nat} {Q : Option jV → Nat → (Int → jE) → Prop} {x y : Int} (hd : decode me.2.2.1 pc = .ok (.lcmp, 1)) (hx : jr64 x) (hy : jr64 y) (k : jJ me (pc + 1) ls (jI (jcmp x y) :: st) n h nc ns Q) : jJ me (pc) ls (jL y :: jL x :: st) n h nc ns Q := by
  intro p l e s m args below meth c base b D cA SC H locs lsS Z C G hW hS hl hZ
  refine W.lcmp C.1 C.2.1 hd ?_
  rw [jcmpE hx hy]
  exact k p l e s m args below meth c base b D cA SC H locs lsS Z C G hW hS hl hZ

theorem j_lcmp_same {me : jM} {pc : Nat} {ls st : List jV} {n : Nat} {h : Int → jE} {nc ns : Nat} {Q : Option jV → Nat → (Int → jE) → Prop} {x y : Int} (hd : decode me.2.2.1 pc = .ok (.lcmp, 1)) (hxy : x = y) (k : jJ me (pc + 1) ls (jI 0 :: st) n h nc ns Q) : jJ me (pc) ls (jL y :: jL x :: st) n h nc ns Q := by
  intro p l e s m args below meth c base b D cA SC H locs lsS Z C G hW hS hl hZ
  subst hxy
  refine W.lcmp C.1 C.2.1 hd ?_
  rw [show lg_cmp (Int64.ofInt x) (Int64.ofInt x) = Int32.ofInt 0 by simp [lg_cmp]]
  exact k p l e s m args below meth c base b D cA SC H locs lsS Z C G hW hS hl hZ

theorem j_lcmp_if_lt {me : jM} {pc : Nat} {ls st : List jV} {n : Nat} {h : Int → jE} {nc ns : Nat} {Q : Option jV → Nat → (Int → jE) → Prop} {x y off : Int} (tgt : Nat) (hd : decode me.2.2.1 pc = .ok (.lcmp, 1)) (hd2 : decode me.2.2.1 (pc + 1) = .ok (.ifCond .lt off, 3)) (ht : ((pc + 1 : Nat) : Int) + off = (tgt : Int)) (hx : jr64 x) (hy : jr64 y) (kt : x < y → jJ me tgt ls st n h nc ns Q) (kf : ¬ (x < y) → jJ me (pc + 4) ls st n h nc ns Q) : jJ me (pc) ls (jL y :: jL x :: st) n h nc ns Q :=
  j_lcmp hd hx hy (j_if_lt tgt hd2 ht (jcmp_32 x y) (fun q => kt (jcmp_lt.mp q)) (fun q => kf (fun q2 => q (jcmp_lt.mpr q2))))
theorem j_lcmp_if_gt {me : jM} {pc : Nat} {ls st : List jV} {n : Nat} {h : Int → jE} {nc ns : Nat} {Q : Option jV → Nat → (Int → jE) → Prop} {x y off : Int} (tgt : Nat) (hd : decode me.2.2.1 pc = .ok (.lcmp, 1)) (hd2 : decode me.2.2.1 (pc + 1) = .ok (.ifCond .gt off, 3)) (ht : ((pc + 1 : Nat) : Int) + off = (tgt : Int)) (hx : jr64 x) (hy : jr64 y) (kt : y < x → jJ me tgt ls st n h nc ns Q) (kf : ¬ (y < x) → jJ me (pc + 4) ls st n h nc ns Q) : jJ me (pc) ls (jL y :: jL x :: st) n h nc ns Q :=
  j_lcmp hd hx hy (j_if_gt tgt hd2 ht (jcmp_32 x y) (fun q => kt (jcmp_gt.mp q)) (fun q => kf (fun q2 => q (jcmp_gt.mpr q2))))
theorem j_lcmp_if_le {me : jM} {pc : Nat} {ls st : List jV} {n : Nat} {h : Int → jE} {nc ns : Nat} {Q : Option jV → Nat → (Int → jE) → Prop} {x y off : Int} (tgt : Nat) (hd : decode me.2.2.1 pc = .ok (.lcmp, 1)) (hd2 : decode me.2.2.1 (pc + 1) = .ok (.ifCond .le off, 3)) (ht : ((pc + 1 : Nat) : Int) + off = (tgt : Int)) (hx : jr64 x) (hy : jr64 y) (kt : x ≤ y → jJ me tgt ls st n h nc ns Q) (kf : ¬ (x ≤ y) → jJ me (pc + 4) ls st n h nc ns Q) : jJ me (pc) ls (jL y :: jL x :: st) n h nc ns Q :=
  j_lcmp hd hx hy (j_if_le tgt hd2 ht (jcmp_32 x y) (fun q => kt (jcmp_le.mp q)) (fun q => kf (fun q2 => q (jcmp_le.mpr q2))))
theorem j_lcmp_if_ge {me : jM} {pc : Nat} {ls st : List jV} {n : Nat} {h : Int → jE} {nc ns : Nat} {Q : Option jV → Nat → (Int → jE) → Prop} {x y off : Int} (tgt : Nat) (hd : decode me.2.2.1 pc = .ok (.lcmp, 1)) (hd2 : decode me.2.2.1 (pc + 1) = .ok (.ifCond .ge off, 3)) (ht : ((pc + 1 : Nat) : Int) + off = (tgt : Int)) (hx : jr64 x) (hy : jr64 y) (kt : y ≤ x → jJ me tgt ls st n h nc ns Q) (kf : ¬ (y ≤ x) → jJ me (pc + 4) ls st n h nc ns Q) : jJ me (pc) ls (jL y :: jL x :: st) n h nc ns Q :=
  j_lcmp hd hx hy (j_if_ge tgt hd2 ht (jcmp_32 x y) (fun q => kt (jcmp_ge.mp q)) (fun q => kf (fun q2 => q (jcmp_ge.mpr q2))))
theorem j_lcmp_if_eq {me : jM} {pc : Nat} {ls st : List jV} {n : Nat} {h : Int → jE} {nc ns : Nat} {Q : Option jV → Nat → (Int → jE) → Prop} {x y off : Int} (tgt : Nat) (hd : decode me.2.2.1 pc = .ok (.lcmp, 1)) (hd2 : decode me.2.2.1 (pc + 1) = .ok (.ifCond .eq off, 3)) (ht : ((pc + 1 : Nat) : Int) + off = (tgt : Int)) (hx : jr64 x) (hy : jr64 y) (kt : x = y → jJ me tgt ls st n h nc ns Q) (kf : ¬ (x = y) → jJ me (pc + 4) ls st n h nc ns Q) : jJ me (pc) ls (jL y :: jL x :: st) n h nc ns Q :=
  j_lcmp hd hx hy (j_if_eq tgt hd2 ht (jcmp_32 x y) (fun q => kt (jcmp_eq.mp q)) (fun q => kf (fun q2 => q (jcmp_eq.mpr q2))))
theorem j_lcmp_if_ne {me : jM} {pc : Nat} {ls st : List jV} {n : Nat} {h : Int → jE} {nc ns : Nat} {Q : Option jV → Nat → (Int → jE) → Prop} {x y off : Int} (tgt : Nat) (hd : decode me.2.2.1 pc = .ok (.lcmp, 1)) (hd2 : decode me.2.2.1 (pc + 1) = .ok (.ifCond .ne off, 3)) (ht : ((pc + 1 : Nat) : Int) + off = (tgt : Int)) (hx : jr64 x) (hy : jr64 y) (kt : x ≠ y → jJ me tgt ls st n h nc ns Q) (kf : x = y → jJ me (pc + 4) ls st n h nc ns Q) : jJ me (pc) ls (jL y :: jL x :: st) n h nc ns Q :=
  j_lcmp hd hx hy (j_if_ne tgt hd2 ht (jcmp_32 x y) (fun q => kt (fun z => q (jcmp_eq.mpr z))) (fun q => kf (jcmp_eq.mp q)))
theorem j_ireturn {me : jM} {pc : Nat} {ls st : List jV} {n : Nat} {h : Int → jE} {nc ns : Nat} {Q : Option jV → Nat → (Int → jE) → Prop} {x : Int} (hd : decode me.2.2.1 pc = .ok (.ireturn, 1)) (hr : me.2.2.2.2.1 = some .int) (hc : nc ≤ me.2.2.2.2.2.cells ∧ ns ≤ me.2.2.2.2.2.slots) (hq : Q (some (jI x)) n h) : jJ me pc ls [jI x] n h nc ns Q := by
  intro p l e s m args below meth c base b D cA SC H locs lsS Z C G hW hS hl hZ
  exact W.widen hc.1 hc.2 (hZ (some (jI x)) n h H locs pc lsS hq (Or.inl ⟨x, rfl, hd, hr⟩) hW hS)
theorem j_zreturn {me : jM} {pc : Nat} {ls st : List jV} {n : Nat} {h : Int → jE} {nc ns : Nat} {Q : Option jV → Nat → (Int → jE) → Prop} {x : Int} (hd : decode me.2.2.1 pc = .ok (.ireturn, 1)) (hr : me.2.2.2.2.1 = some .boolean) (hc : nc ≤ me.2.2.2.2.2.cells ∧ ns ≤ me.2.2.2.2.2.slots) (hx : x = 0 ∨ x = 1) (hq : Q (some (jI x)) n h) : jJ me pc ls [jI x] n h nc ns Q := by
  intro p l e s m args below meth c base b D cA SC H locs lsS Z C G hW hS hl hZ
  exact W.widen hc.1 hc.2 (hZ (some (jI x)) n h H locs pc lsS hq (Or.inr (Or.inl ⟨x, rfl, hd, hr, hx⟩)) hW hS)
theorem j_lreturn {me : jM} {pc : Nat} {ls st : List jV} {n : Nat} {h : Int → jE} {nc ns : Nat} {Q : Option jV → Nat → (Int → jE) → Prop} {x : Int} (hd : decode me.2.2.1 pc = .ok (.lreturn, 1)) (hr : me.2.2.2.2.1 = some .long) (hc : nc ≤ me.2.2.2.2.2.cells ∧ ns ≤ me.2.2.2.2.2.slots) (hq : Q (some (jL x)) n h) : jJ me pc ls [jL x] n h nc ns Q := by
  intro p l e s m args below meth c base b D cA SC H locs lsS Z C G hW hS hl hZ
  exact W.widen hc.1 hc.2 (hZ (some (jL x)) n h H locs pc lsS hq (Or.inr (Or.inr (Or.inl ⟨x, rfl, hd, hr⟩))) hW hS)
theorem j_return {me : jM} {pc : Nat} {ls st : List jV} {n : Nat} {h : Int → jE} {nc ns : Nat} {Q : Option jV → Nat → (Int → jE) → Prop} (hd : decode me.2.2.1 pc = .ok (.return_, 1)) (hr : me.2.2.2.2.1 = none) (hc : nc ≤ me.2.2.2.2.2.cells ∧ ns ≤ me.2.2.2.2.2.slots) (hq : Q none n h) : jJ me pc ls [] n h nc ns Q := by
  intro p l e s m args below meth c base b D cA SC H locs lsS Z C G hW hS hl hZ
  exact W.widen hc.1 hc.2 (hZ none n h H locs pc lsS hq (Or.inr (Or.inr (Or.inr ⟨rfl, hd, hr⟩))) hW hS)

theorem jJ.mono {me : jM} {pc : Nat} {ls st : List jV} {n : Nat} {h : Int → jE} {nc ns : Nat} {Q : Option jV → Nat → (Int → jE) → Prop} {Q2 : Option jV → Nat → (Int → jE) → Prop} (k : jJ me pc ls st n h nc ns Q) (hq : ∀ r n h, Q r n h → Q2 r n h) : jJ me pc ls st n h nc ns Q2 := by
  intro p l e s m args below meth c base b D cA SC H locs lsS Z C G hW hS hl hZ
  exact k p l e s m args below meth c base b D cA SC H locs lsS Z C G hW hS hl (fun r n' h' H' locs' pc' ls' q => hZ r n' h' H' locs' pc' ls' (hq r n' h' q))
end
section
/-! cells: a world's cell read, written, made -/
def jup (h : Int → jE) (k : Int) (c : jE) : Int → jE := fun i => if i = k then c else h i
theorem jW.at {base b : Nat} {D : va_G} {cA : Nat → ClassId} {SC : jE} {n : Nat} {h : Int → jE} {H : Heap} (hW : jW base b D cA SC n h H) {k : Int} (h0 : 0 < k) (h1 : k ≤ n) : va_at D vwCl (jad base b k, jce base b cA (h k)) H := by
  have := hW.2.2 k.toNat (by omega) (by omega)
  rw [show ((k.toNat : Nat) : Int) = k by omega] at this
  exact this
theorem jW.up {base b : Nat} {D : va_G} {cA : Nat → ClassId} {SC : jE} {n : Nat} {h : Int → jE} {H H1 : Heap} (hW : jW base b D cA SC n h H) (hb : b < base) {k : Int} (h0 : 0 < k) (z : H1.size = H.size) (oq : ∀ q : Nat, q ≠ jad base b k → H1[q]? = H[q]?) {c : jE} (he : va_at D vwCl (jad base b k, jce base b cA c) H1) : jW base b D cA SC n (jup h k c) H1 := by
  refine ⟨by rw [z]; exact hW.1, by unfold jup; rw [if_neg (by omega)]; exact hW.2.1, fun k' hk0 hk' => ?_⟩
  by_cases hkk : (k' : Int) = k
  · rw [hkk]
    simp only [jup, if_pos]
    exact he
  · simp only [jup, if_neg hkk]
    exact (hW.2.2 k' hk0 hk').kept (oq _ (fun q => hkk (jad_inj hb h0 (by omega) q)))
theorem jW.push {base b : Nat} {D : va_G} {cA : Nat → ClassId} {SC : jE} {n : Nat} {h : Int → jE} {H H1 : Heap} (hW : jW base b D cA SC n h H) (hb : b < base) (z : H1.size = H.size + 1) (oq : ∀ q : Nat, q < H.size → H1[q]? = H[q]?) {c : jE} (he : va_at D vwCl (H.size, jce base b cA c) H1) : jW base b D cA SC (n + 1) (jup h ((n : Int) + 1) c) H1 := by
  refine ⟨by rw [z, hW.1]; omega, by unfold jup; rw [if_neg (by omega)]; exact hW.2.1, fun k' hk0 hk' => ?_⟩
  by_cases hkk : (k' : Int) = (n : Int) + 1
  · rw [hkk]
    simp only [jup, if_pos]
    rw [jad_pos (by omega), show base + (((n : Int) + 1).toNat - 1) = H.size by rw [hW.1]; omega]
    exact he
  · simp only [jup, if_neg hkk]
    have hat := hW.2.2 k' hk0 (by omega)
    exact hat.kept (oq _ hat.lt)
theorem jsz {base b : Nat} {D : va_G} {cA : Nat → ClassId} {SC : jE} {n : Nat} {h : Int → jE} {H : Heap} (hW : jW base b D cA SC n h H) : jad base b ((n : Int) + 1) = H.size := by
  rw [jad_pos (by omega), hW.1]; omega
theorem jA {base b : Nat} {k : Int} (h0 : 0 < k) : base ≤ jad base b k := by rw [jad_pos h0]; omega
theorem jP1 {D : va_G} {H : Heap} {q : Nat × va_E} (h : va_at D vwCl q H) : va_P D vwCl [q] H := fun k x hx => by
  have hz : k < 1 := (List.getElem?_eq_some_iff.mp hx).1
  rw [show k = 0 by omega] at hx
  cases hx
  exact h
theorem jS.push {base : Nat} {H0 H H1 : Heap} {locs : List Loc} (hS : va_S (fun q => base ≤ q) H0 H locs) (z : H.size ≤ H1.size) (oq : ∀ q : Nat, q < H.size → H1[q]? = H[q]?) : va_S (fun q => base ≤ q) H0 H1 locs :=
  ⟨Nat.le_trans hS.1 z, fun q h1 h2 => (oq q (Nat.lt_of_lt_of_le h1 hS.1)).trans (hS.2.1 q h1 h2), hS.2.2⟩
/-- a field's link: at place idx of own's constants stands field j of class ci -/
def jfd (own : String) (idx ci j : Nat) : Prop := ∃ (C : String) (T : u_T) (N : Nat), vwCl[ci]? = some (C, T, N) ∧ j < N ∧ Cond.fieldLink own idx (T j).1 (T j).2.1 (T j).2.2.1 ∈ jws ∧ ∀ w ∈ u_ws C T N, w ∈ jws
/-- a class's fields: their types, their names apart -/
def jct (ci : Nat) (C : String) (T : u_T) (N : Nat) (ty : Nat → FieldType) : Prop := vwCl[ci]? = some (C, T, N) ∧ (∀ k, k < N → parseFieldDescriptor (T k).2.2.1 = some (ty k)) ∧ (∀ a, a < N → ∀ b, b < N → a ≠ b → (T a).2.1 ≠ (T b).2.1) ∧ ∀ w ∈ u_ws C T N, w ∈ jws

theorem j_get {me : jM} {pc : Nat} {ls st : List jV} {n : Nat} {h : Int → jE} {nc ns : Nat} {Q : Option jV → Nat → (Int → jE) → Prop} {x : Int} {ci idx j : Nat} {fs : List jV} {v : jV} (hd : decode me.2.2.1 pc = .ok (.getfield idx, 3)) (hf : jfd me.1 idx ci j) (hk : h x = .inl (ci, fs)) (hn : 0 < x ∧ x ≤ n) (hv : fs[j]? = some v) (k : jJ me (pc + 3) ls (v :: st) n h nc ns Q) : jJ me pc ls (jR x :: st) n h nc ns Q := by
  intro p l e s m args below meth c base b D cA SC H locs lsS Z C G hW hS hl hZ
  obtain ⟨C0, T, N, hc, hj, hlk, hin⟩ := hf
  have hts := C.2.2.2.2.2.1
  have hat := hW.at hn.1 hn.2
  rw [hk] at hat
  exact va_get C.1 C.2.1 hts hin C.2.2.2.2.1 G.1 (jP1 hat) 0 rfl hc j hj (hts _ hlk) (fun _ q => q) (v := jvv base b v) (by rw [List.getElem?_map, hv]; rfl) hd (k p l e s m args below meth c base b D cA SC H locs lsS Z C G hW hS hl hZ)
theorem j_put {me : jM} {pc : Nat} {ls st : List jV} {n : Nat} {h : Int → jE} {nc ns : Nat} {Q : Option jV → Nat → (Int → jE) → Prop} {x y : Int} {ci idx j : Nat} {fs : List jV} {C0 : String} {T : u_T} {N : Nat} {ty : Nat → FieldType} (hd : decode me.2.2.1 pc = .ok (.putfield idx, 3)) (hct : jct ci C0 T N ty) (hj : j < N) (hlk : Cond.fieldLink me.1 idx (T j).1 (T j).2.1 (T j).2.2.1 ∈ jws) (hfin : (T j).2.2.2 = false) (hty : ty j = .int) (hk : h x = .inl (ci, fs)) (hn : 0 < x ∧ x ≤ n) (hlen : j < fs.length) (k : jJ me (pc + 3) ls st n (jup h x (.inl (ci, fs.set j (jI y)))) nc ns Q) : jJ me pc ls (jI y :: jR x :: st) n h nc ns Q := by
  intro p l e s m args below meth c base b D cA SC H locs lsS Z C G hW hS hl hZ
  obtain ⟨hc, hpt, hnm, hin⟩ := hct
  have hts := C.2.2.2.2.2.1
  have hat := hW.at hn.1 hn.2
  rw [hk] at hat
  have hap := va_apart (own := me.1) hts hin ty hpt hnm G.1 hc
  obtain ⟨r, h1, cell, q1, q2, q3, q4⟩ := hat
  have hr : r = (C0, T, N) := Option.some.inj (h1.symm.trans hc)
  subst hr
  obtain ⟨hSl, hfc, kC, hkC, hkind⟩ := G.1.1 ci _ hc
  obtain ⟨cf, kf, fi, f, hi, hsl⟩ := hSl j hj
  have hlay := hts _ (hin _ (u_in_lay hj))
  unfold u_lay at hlay
  rw [if_neg (by rw [hfin]; decide)] at hlay
  have hst := (u_facts hfc hkC (u_lays hts hin hj) hi).1
  have h6 := u_store hfc hkC hkind hlay hi (hpt j hj) (v := .int (Int32.ofInt y)) (by rw [hty]; rfl) (by rw [hty]; rfl)
  refine W.putK C.1 C.2.1 (f := f) ⟨C.2.2.2.2.1, hts _ hlk, ⟨_, _, _, hi⟩, hst⟩ (by rw [q2]; exact h6) q1 q3 (by rw [hsl]; exact k2_hasslot (q4 j hj)) rfl rfl hd fun H' e1 e2 e3 => ?_
  rw [hsl] at e1 ⊢
  refine k p l e s m args below meth c base b D cA SC _ _ lsS Z C G (hW.up G.2.1 hn.1 e2 e3 ?_) (hS.put e2 e3 (jA hn.1)) hl hZ
  refine ⟨_, hc, t_OB.to (V := updV (vp_V (fs.map (jvv base b))) j (.int (Int32.ofInt y))) ⟨_, e1, q2, q3, t_set q4 hap hj _⟩ (fun i _ => ?_)⟩
  rw [vp_updV_set (by rw [List.length_map]; exact hlen), List.map_set]
  rfl
theorem j_putF {me : jM} {pc : Nat} {ls st : List jV} {n : Nat} {h : Int → jE} {nc ns : Nat} {Q : Option jV → Nat → (Int → jE) → Prop} {x y : Int} {ci idx j : Nat} {fs : List jV} {C0 : String} {T : u_T} {N : Nat} {ty : Nat → FieldType} (hd : decode me.2.2.1 pc = .ok (.putfield idx, 3)) (hct : jct ci C0 T N ty) (hj : j < N) (hlk : Cond.fieldLink me.1 idx (T j).1 (T j).2.1 (T j).2.2.1 ∈ jws) (hfin : (T j).2.2.2 = true) (hin2 : me.2.1.name = "<init>") (hdecl : (T j).1 = me.1) (hty : narrow (ty j) (.ref 0) = .ref 0 ∧ (∀ a : Nat, narrow (ty j) (.ref a) = .ref a ∧ fits (ty j) (.ref a) = true)) (hk : h x = .inl (ci, fs)) (hn : 0 < x ∧ x ≤ n) (hlen : j < fs.length) (k : jJ me (pc + 3) ls st n (jup h x (.inl (ci, fs.set j (jR y)))) nc ns Q) : jJ me pc ls (jR y :: jR x :: st) n h nc ns Q := by
  intro p l e s m args below meth c base b D cA SC H locs lsS Z C G hW hS hl hZ
  obtain ⟨hc, hpt, hnm, hin⟩ := hct
  have hts := C.2.2.2.2.2.1
  have hat := hW.at hn.1 hn.2
  rw [hk] at hat
  have hap := va_apart (own := me.1) hts hin ty hpt hnm G.1 hc
  obtain ⟨r, h1, cell, q1, q2, q3, q4⟩ := hat
  have hr : r = (C0, T, N) := Option.some.inj (h1.symm.trans hc)
  subst hr
  obtain ⟨hSl, hfc, kC, hkC, hkind⟩ := G.1.1 ci _ hc
  obtain ⟨cf, kf, fi, f, hi, hsl⟩ := hSl j hj
  have hlay := hts _ (hin _ (u_in_lay hj))
  unfold u_lay at hlay
  rw [if_pos hfin] at hlay
  have hst := (u_facts hfc hkC (u_lays hts hin hj) hi).1
  have hcf : m.cls = cf := by
    obtain ⟨_, _, c', _, _, _, -, -, hf', -, -, -, hown2, -⟩ := Cond.laysFinal_spec hlay
    have e1 : c' = cf := by have := hi.symm.trans hf'; simp at this; exact this.1.symm
    rw [hdecl] at hown2
    rw [← e1]; exact Option.some.inj (C.2.2.2.2.1.symm.trans hown2)
  have h6 := u_fits hfc hkC hkind (Or.inr hlay) hi (hpt j hj) (v := .ref (jad base b y)) (hty.2 _).1 (hty.2 _).2
  refine W.putFinK C.1 C.2.1 C.2.2.2.2.1 (hts _ hlk) hi hst hcf (C.2.2.2.2.2.2.2.trans hin2) (by rw [q2]; exact h6) q1 q3 (by rw [hsl]; exact k2_hasslot (q4 j hj)) rfl rfl hd fun H' e1 e2 e3 => ?_
  rw [hsl] at e1 ⊢
  refine k p l e s m args below meth c base b D cA SC _ _ lsS Z C G (hW.up G.2.1 hn.1 e2 e3 ?_) (hS.put e2 e3 (jA hn.1)) hl hZ
  refine ⟨_, hc, t_OB.to (V := updV (vp_V (fs.map (jvv base b))) j (.ref (jad base b y))) ⟨_, e1, q2, q3, t_set q4 hap hj _⟩ (fun i _ => ?_)⟩
  rw [vp_updV_set (by rw [List.length_map]; exact hlen), List.map_set]
  rfl

theorem j_iald {me : jM} {pc : Nat} {ls st : List jV} {n : Nat} {h : Int → jE} {nc ns : Nat} {Q : Option jV → Nat → (Int → jE) → Prop} {x i : Int} {len : Nat} {f : Int → Int} (hd : decode me.2.2.1 pc = .ok (.iaload, 1)) (hk : h x = .inr (0, len, .inl f)) (hn : 0 < x ∧ x ≤ n) (hi : 0 ≤ i ∧ i < len) (hlen : len < 2147483648) (k : jJ me (pc + 1) ls (jI (f i) :: st) n h nc ns Q) : jJ me pc ls (jI i :: jR x :: st) n h nc ns Q := by
  intro p l e s m args below meth c base b D cA SC H locs lsS Z C G hW hS hl hZ
  have hat := hW.at hn.1 hn.2
  rw [hk] at hat
  obtain ⟨j1, j2⟩ := jin hi.1 hi.2 hlen
  refine va_iald C.1 C.2.1 G.1 (jP1 hat) 0 0 rfl rfl j1 hd ?_
  rw [j2]
  exact k p l e s m args below meth c base b D cA SC H locs lsS Z C G hW hS hl hZ
theorem j_iast {me : jM} {pc : Nat} {ls st : List jV} {n : Nat} {h : Int → jE} {nc ns : Nat} {Q : Option jV → Nat → (Int → jE) → Prop} {x i y : Int} {len : Nat} {f : Int → Int} (hd : decode me.2.2.1 pc = .ok (.iastore, 1)) (hk : h x = .inr (0, len, .inl f)) (hn : 0 < x ∧ x ≤ n) (hi : 0 ≤ i ∧ i < len) (hlen : len < 2147483648) (k : jJ me (pc + 1) ls st n (jup h x (.inr (0, len, .inl (fun z => if z = i then y else f z)))) nc ns Q) : jJ me pc ls (jI y :: jI i :: jR x :: st) n h nc ns Q := by
  intro p l e s m args below meth c base b D cA SC H locs lsS Z C G hW hS hl hZ
  have hat := hW.at hn.1 hn.2
  rw [hk] at hat
  obtain ⟨j1, j2⟩ := jin hi.1 hi.2 hlen
  refine W.iast C.1 C.2.1 (jP1 hat 0 _ rfl) ((G.1.2 0 _ rfl).1 len (fun j => .int (Int32.ofInt (f j)))) (fun q => by cases q) (by show ¬ (_ < 0 ∨ (arrV _ _ _).slots.size ≤ _); rw [arrV_size]; exact j1) rfl rfl hd fun H1 e1 z oq => ?_
  refine k p l e s m args below meth c base b D cA SC _ _ lsS Z C G (hW.up G.2.1 hn.1 z oq ?_) (hS.put z oq (jA hn.1)) hl hZ
  show H1[_]? = some (vp_cell _ _)
  rw [e1]
  rw [vp_cell_i, vp_cell_i, arrV_store]
  congr 2
  funext q
  by_cases hq : q = (Int32.ofInt i).toNatClampNeg
  · have hq2 : (q : Int) = i := by rw [hq]; exact j2
    simp only [updV, if_pos hq, if_pos hq2]
  · have hq2 : ¬ (q : Int) = i := fun z9 => hq (by omega)
    simp only [updV, if_neg hq, if_neg hq2]

theorem j_lald {me : jM} {pc : Nat} {ls st : List jV} {n : Nat} {h : Int → jE} {nc ns : Nat} {Q : Option jV → Nat → (Int → jE) → Prop} {x i : Int} {len : Nat} {f : Int → Int} (hd : decode me.2.2.1 pc = .ok (.laload, 1)) (hk : h x = .inr (1, len, .inr (.inl f))) (hn : 0 < x ∧ x ≤ n) (hi : 0 ≤ i ∧ i < len) (hlen : len < 2147483648) (k : jJ me (pc + 1) ls (jL (f i) :: st) n h nc ns Q) : jJ me pc ls (jI i :: jR x :: st) n h nc ns Q := by
  intro p l e s m args below meth c base b D cA SC H locs lsS Z C G hW hS hl hZ
  have hat := hW.at hn.1 hn.2
  rw [hk] at hat
  obtain ⟨j1, j2⟩ := jin hi.1 hi.2 hlen
  refine va_lald C.1 C.2.1 G.1 (jP1 hat) 0 1 rfl rfl j1 hd ?_
  rw [j2]
  exact k p l e s m args below meth c base b D cA SC H locs lsS Z C G hW hS hl hZ
theorem j_last {me : jM} {pc : Nat} {ls st : List jV} {n : Nat} {h : Int → jE} {nc ns : Nat} {Q : Option jV → Nat → (Int → jE) → Prop} {x i y : Int} {len : Nat} {f : Int → Int} (hd : decode me.2.2.1 pc = .ok (.lastore, 1)) (hk : h x = .inr (1, len, .inr (.inl f))) (hn : 0 < x ∧ x ≤ n) (hi : 0 ≤ i ∧ i < len) (hlen : len < 2147483648) (k : jJ me (pc + 1) ls st n (jup h x (.inr (1, len, .inr (.inl (fun z => if z = i then y else f z))))) nc ns Q) : jJ me pc ls (jL y :: jI i :: jR x :: st) n h nc ns Q := by
  intro p l e s m args below meth c base b D cA SC H locs lsS Z C G hW hS hl hZ
  have hat := hW.at hn.1 hn.2
  rw [hk] at hat
  obtain ⟨j1, j2⟩ := jin hi.1 hi.2 hlen
  refine W.last C.1 C.2.1 (jP1 hat 0 _ rfl) ((G.1.2 1 _ rfl).1 len (fun j => .long (Int64.ofInt (f j)))) (fun q => by cases q) (by show ¬ (_ < 0 ∨ (arrV _ _ _).slots.size ≤ _); rw [arrV_size]; exact j1) rfl rfl hd fun H1 e1 z oq => ?_
  refine k p l e s m args below meth c base b D cA SC _ _ lsS Z C G (hW.up G.2.1 hn.1 z oq ?_) (hS.put z oq (jA hn.1)) hl hZ
  show H1[_]? = some (vp_cell _ _)
  rw [e1]
  rw [vp_cell_l, vp_cell_l, arrV_store]
  congr 2
  funext q
  by_cases hq : q = (Int32.ofInt i).toNatClampNeg
  · have hq2 : (q : Int) = i := by rw [hq]; exact j2
    simp only [updV, if_pos hq, if_pos hq2]
  · have hq2 : ¬ (q : Int) = i := fun z9 => hq (by omega)
    simp only [updV, if_neg hq, if_neg hq2]

theorem j_aald {me : jM} {pc : Nat} {ls st : List jV} {n : Nat} {h : Int → jE} {nc ns : Nat} {Q : Option jV → Nat → (Int → jE) → Prop} {x i r : Int} {t len : Nat} {g : Int → Option Int} (hd : decode me.2.2.1 pc = .ok (.aaload, 1)) (hk : h x = .inr (t, len, .inr (.inr g))) (ht : t = 2 ∨ t = 3 ∨ t = 4) (hn : 0 < x ∧ x ≤ n) (hi : 0 ≤ i ∧ i < len) (hlen : len < 2147483648) (hg : g i = some r) (k : jJ me (pc + 1) ls (jR r :: st) n h nc ns Q) : jJ me pc ls (jI i :: jR x :: st) n h nc ns Q := by
  intro p l e s m args below meth c base b D cA SC H locs lsS Z C G hW hS hl hZ
  have hat := hW.at hn.1 hn.2
  rw [hk] at hat
  obtain ⟨j1, j2⟩ := jin hi.1 hi.2 hlen
  have hlt : (Int32.ofInt i).toNatClampNeg < len := Nat.not_le.mp fun q => j1 (Or.inr q)
  have key : ∀ ty : FieldType, ty.isReference = true → (jtys cA)[t]? = some (cA t, ty) → W p l e me.2.2.2.2.2 s m args below meth c H locs nc ns Z (F0 m pc lsS (Value.int (Int32.ofInt i) :: Value.ref (jad base b x) :: st.map (jvv base b))) := by
    intro ty hty h9
    refine W.aald (v := va_rf ((g (((Int32.ofInt i).toNatClampNeg : Nat) : Int)).map (jad base b))) (ty := ty) C.1 C.2.1 (jP1 hat 0 _ rfl) ((G.1.2 t _ h9).1 len (fun j => va_rf ((g (j : Int)).map (jad base b)))) hty (fun q => by cases q) (by show ¬ (_ < 0 ∨ (arrV _ _ _).slots.size ≤ _); rw [arrV_size]; exact j1) (by show (arrV _ _ _).slots[_]? = _; rw [arrV_read _ _ hlt]) rfl rfl hd ?_
    rw [j2, hg]
    exact k p l e s m args below meth c base b D cA SC H locs lsS Z C G hW hS hl hZ
  rcases ht with rfl | rfl | rfl
  · exact key (.array .int) rfl rfl
  · exact key (.array .long) rfl rfl
  · exact key (.object "PraiseDrawer$Big") rfl rfl
theorem j_alen {me : jM} {pc : Nat} {ls st : List jV} {n : Nat} {h : Int → jE} {nc ns : Nat} {Q : Option jV → Nat → (Int → jE) → Prop} {x : Int} {t len : Nat} {f : (Int → Int) ⊕ (Int → Int) ⊕ (Int → Option Int)} (hd : decode me.2.2.1 pc = .ok (.arraylength, 1)) (hk : h x = .inr (t, len, f)) (ht : t < 5) (hn : 0 < x ∧ x ≤ n) (k : jJ me (pc + 1) ls (jI len :: st) n h nc ns Q) : jJ me pc ls (jR x :: st) n h nc ns Q := by
  intro p l e s m args below meth c base b D cA SC H locs lsS Z C G hW hS hl hZ
  have hat := hW.at hn.1 hn.2
  rw [hk] at hat
  obtain ⟨ty, hty⟩ : ∃ ty, (jtys cA)[t]? = some (cA t, ty) := by
    rcases (show t = 0 ∨ t = 1 ∨ t = 2 ∨ t = 3 ∨ t = 4 by omega) with rfl | rfl | rfl | rfl | rfl <;> exact ⟨_, rfl⟩
  obtain f | f | f := f
  · exact va_alen C.1 C.2.1 G.1 (jP1 hat) 0 t rfl hty (v := Int32.ofInt len) (by rw [Int32.ofInt_eq_ofNat]) hd (k p l e s m args below meth c base b D cA SC H locs lsS Z C G hW hS hl hZ)
  · exact va_alen C.1 C.2.1 G.1 (jP1 hat) 0 t rfl hty (v := Int32.ofInt len) (by rw [Int32.ofInt_eq_ofNat]) hd (k p l e s m args below meth c base b D cA SC H locs lsS Z C G hW hS hl hZ)
  · exact va_alen C.1 C.2.1 G.1 (jP1 hat) 0 t rfl hty (v := Int32.ofInt len) (by rw [Int32.ofInt_eq_ofNat]) hd (k p l e s m args below meth c base b D cA SC H locs lsS Z C G hW hS hl hZ)

theorem j_sald {me : jM} {pc : Nat} {ls st : List jV} {n : Nat} {h : Int → jE} {nc ns : Nat} {Q : Option jV → Nat → (Int → jE) → Prop} {i : Int} {len : Nat} {f : Int → Int} (hd : decode me.2.2.1 pc = .ok (.iaload, 1)) (hk : h 0 = .inr (0, len, .inl f)) (hi : 0 ≤ i ∧ i < len) (hlen : len < 2147483648) (k : jJ me (pc + 1) ls (jI (f i) :: st) n h nc ns Q) : jJ me pc ls (jI i :: jR 0 :: st) n h nc ns Q := by
  intro p l e s m args below meth c base b D cA SC H locs lsS Z C G hW hS hl hZ
  obtain ⟨n9, f9, e9, hX⟩ := G.2.2.2.2
  have e9 : (Sum.inr (0, len, .inl f) : jE) = .inr (0, n9, .inl f9) := (hk.symm.trans hW.2.1).trans e9
  cases e9
  obtain ⟨j1, j2⟩ := jin hi.1 hi.2 hlen
  have hbl : b < s.heap.size := Nat.lt_of_lt_of_le G.2.1 G.2.2.1
  refine va_sld C.1 C.2.1 hX hbl (A := fun q => base ≤ q) (by show ¬ base ≤ b; have := G.2.1; omega) hS j1 hd ?_
  rw [j2]
  exact k p l e s m args below meth c base b D cA SC H locs lsS Z C G hW hS hl hZ
theorem j_slen {me : jM} {pc : Nat} {ls st : List jV} {n : Nat} {h : Int → jE} {nc ns : Nat} {Q : Option jV → Nat → (Int → jE) → Prop} {len : Nat} {f : Int → Int} (hd : decode me.2.2.1 pc = .ok (.arraylength, 1)) (hk : h 0 = .inr (0, len, .inl f)) (k : jJ me (pc + 1) ls (jI len :: st) n h nc ns Q) : jJ me pc ls (jR 0 :: st) n h nc ns Q := by
  intro p l e s m args below meth c base b D cA SC H locs lsS Z C G hW hS hl hZ
  obtain ⟨n9, f9, e9, hX⟩ := G.2.2.2.2
  have e9 : (Sum.inr (0, len, .inl f) : jE) = .inr (0, n9, .inl f9) := (hk.symm.trans hW.2.1).trans e9
  cases e9
  have hbl : b < s.heap.size := Nat.lt_of_lt_of_le G.2.1 G.2.2.1
  refine va_slen C.1 C.2.1 hX hbl (A := fun q => base ≤ q) (by show ¬ base ≤ b; have := G.2.1; omega) hS hd ?_
  rw [← Int32.ofInt_eq_ofNat]
  exact k p l e s m args below meth c base b D cA SC H locs lsS Z C G hW hS hl hZ

theorem j_objInit {me : jM} {pc : Nat} {ls st : List jV} {n : Nat} {h : Int → jE} {nc ns : Nat} {Q : Option jV → Nat → (Int → jE) → Prop} {x : Int} {idx : Nat} (hd : decode me.2.2.1 pc = .ok (.invokespecial idx, 3)) (hw : Cond.methodLink me.1 idx Lib.objectInit ∈ jws) (hw2 : Cond.instanceMethod Lib.objectInit ∈ jws) (hw3 : Cond.code Lib.objectInit ⟨#[0xb1]⟩ 1 none ∈ jws) (hr : 1 ≤ me.2.2.2.2.2.frames ∧ 20 ≤ me.2.2.2.2.2.locals) (hst : (st.map (fun _ => 2)).sum ≤ 8) (k : jJ me (pc + 3) ls st n h nc ns Q) : jJ me pc ls (jR x :: st) n h nc ns Q := by
  intro p l e s m args below meth c base b D cA SC H locs lsS Z C G hW hS hl hZ
  have hts := C.2.2.2.2.2.1
  refine W.objInit C.1 C.2.1 C.2.2.2.2.1 (hts _ hw) (hts _ hw2) (hts _ hw3) rfl (by rw [C.2.2.1]; exact hl.1) rfl hd hr.1 ?_ (k p l e s m args below meth c base b D cA SC H locs lsS Z C G hW hS hl hZ)
  have : ((st.map (jvv base b)).map fun v => v.category).sum ≤ (st.map (fun _ => 2)).sum := by
    clear hst k
    induction st with
    | nil => exact Nat.le_refl _
    | cons a t ih =>
      simp only [List.map_cons, List.sum_cons]
      have := lv_cat (jvv base b a)
      omega
  show 2 * 0 + _ + 12 ≤ _
  have h9 := hr.2
  show 2 * 0 + ((st.map (jvv base b)).map fun v => v.category).sum + 12 ≤ _
  omega
theorem j_new {me : jM} {pc : Nat} {ls st : List jV} {n : Nat} {h : Int → jE} {nc ns : Nat} {Q : Option jV → Nat → (Int → jE) → Prop} {ci idx : Nat} {C0 : String} {T : u_T} {N : Nat} {ty : Nat → FieldType} (fs : List jV) (hd : decode me.2.2.1 pc = .ok (.new idx, 3)) (hct : jct ci C0 T N ty) (hw : Cond.classLink me.1 idx C0 ∈ jws) (hw2 : Cond.instantiable C0 N ∈ jws) (hw3 : Cond.initialized C0 ∈ jws) (hfs : ∀ base b j, j < N → defaultValue (ty j) = vp_V (fs.map (jvv base b)) j) (hc : nc + 1 ≤ me.2.2.2.2.2.cells ∧ ns + N ≤ me.2.2.2.2.2.slots) (k : jJ me (pc + 3) ls (jR ((n : Int) + 1) :: st) (n + 1) (jup h ((n : Int) + 1) (.inl (ci, fs))) (nc + 1) (ns + N) Q) : jJ me pc ls st n h nc ns Q := by
  intro p l e s m args below meth c base b D cA SC H locs lsS Z C G hW hS hl hZ
  obtain ⟨hcl, hpt, hnm, hin⟩ := hct
  have hts := C.2.2.2.2.2.1
  have hKn := G.1.1 ci _ hcl
  refine W.newcK C.1 C.2.1 C.2.2.2.2.1 (hts _ hw) (hts _ hw2) (hts _ hw3) rfl hd hc.1 hc.2 hKn.2.1 rfl fun H1 kC hkC e1 z1 o1 => ?_
  have e := k p l e s m args below meth c base b D cA SC _ _ lsS Z C G (hW.push G.2.1 z1 o1 ⟨_, hcl, (u_born ty hts hin hKn hkC e1 hpt).to (hfs base b)⟩) (jS.push hS (by omega) o1) hl hZ
  rw [List.map_cons, show jvv base b (jR ((n : Int) + 1)) = Value.ref (jad base b ((n : Int) + 1)) from rfl, jsz hW] at e
  exact e

theorem j_newa_int {me : jM} {pc : Nat} {ls st : List jV} {n : Nat} {h : Int → jE} {nc ns : Nat} {Q : Option jV → Nat → (Int → jE) → Prop} {x : Int} (len : Nat) (hd : decode me.2.2.1 pc = .ok (.newarray .int, 2)) (hw : Cond.arrayClass .int ∈ jws) (hx : x = (len : Int)) (hlen : len ≤ 60000000) (hc : nc + 1 ≤ me.2.2.2.2.2.cells ∧ ns + len ≤ me.2.2.2.2.2.slots) (k : jJ me (pc + 2) ls (jR ((n : Int) + 1) :: st) (n + 1) (jup h ((n : Int) + 1) (.inr (0, len, .inl (fun _ => 0)))) (nc + 1) (ns + len) Q) : jJ me pc ls (jI x :: st) n h nc ns Q := by
  intro p l e s m args below meth c base b D cA SC H locs lsS Z C G hW hS hl hZ
  subst hx
  have hts := C.2.2.2.2.2.1
  have hr : jr32 (len : Int) := ⟨by omega, by omega⟩
  have hcl : (Int32.ofInt (len : Int)).toNatClampNeg = len := by
    have := Int32.toNatClampNeg_ofInt_of_le (n := (len : Int)) (by omega) (by omega)
    rw [this]; rfl
  refine va_newaK C.1 C.2.1 (atype := .int) (hts _ hw) rfl hd rfl (fun q => by have q : Int32.ofInt (len : Int) < Int32.ofInt 0 := q; rw [j32_lt hr jr32_0] at q; omega) hcl (by show len * _ ≤ _; simp [componentBytes, newarray.typeOf]; omega) hc.1 hc.2 rfl fun H1 cA9 e1 z1 o1 hAr hNm => ?_
  have h9 := va_nm_int (G.1.2 0 _ rfl).2
  have ec : cA9 = cA 0 := Option.some.inj (hNm.symm.trans h9)
  subst ec
  have e := k p l e s m args below meth c base b D cA SC _ _ lsS Z C G (hW.push G.2.1 z1 o1 (c := .inr (0, len, .inl (fun _ => 0))) (by
    show H1[H.size]? = some (vp_cell _ _)
    rw [vp_cell_i]
    exact e1)) (jS.push hS (by omega) o1) hl hZ
  rw [List.map_cons, show jvv base b (jR ((n : Int) + 1)) = Value.ref (jad base b ((n : Int) + 1)) from rfl, jsz hW] at e
  exact e

theorem j_newa_long {me : jM} {pc : Nat} {ls st : List jV} {n : Nat} {h : Int → jE} {nc ns : Nat} {Q : Option jV → Nat → (Int → jE) → Prop} {x : Int} (len : Nat) (hd : decode me.2.2.1 pc = .ok (.newarray .long, 2)) (hw : Cond.arrayClass .long ∈ jws) (hx : x = (len : Int)) (hlen : len ≤ 60000000) (hc : nc + 1 ≤ me.2.2.2.2.2.cells ∧ ns + len ≤ me.2.2.2.2.2.slots) (k : jJ me (pc + 2) ls (jR ((n : Int) + 1) :: st) (n + 1) (jup h ((n : Int) + 1) (.inr (1, len, .inr (.inl (fun _ => 0))))) (nc + 1) (ns + len) Q) : jJ me pc ls (jI x :: st) n h nc ns Q := by
  intro p l e s m args below meth c base b D cA SC H locs lsS Z C G hW hS hl hZ
  subst hx
  have hts := C.2.2.2.2.2.1
  have hr : jr32 (len : Int) := ⟨by omega, by omega⟩
  have hcl : (Int32.ofInt (len : Int)).toNatClampNeg = len := by
    have := Int32.toNatClampNeg_ofInt_of_le (n := (len : Int)) (by omega) (by omega)
    rw [this]; rfl
  refine va_newaK C.1 C.2.1 (atype := .long) (hts _ hw) rfl hd rfl (fun q => by have q : Int32.ofInt (len : Int) < Int32.ofInt 0 := q; rw [j32_lt hr jr32_0] at q; omega) hcl (by show len * _ ≤ _; simp [componentBytes, newarray.typeOf]; omega) hc.1 hc.2 rfl fun H1 cA9 e1 z1 o1 hAr hNm => ?_
  have h9 := va_nm_long (G.1.2 1 _ rfl).2
  have ec : cA9 = cA 1 := Option.some.inj (hNm.symm.trans h9)
  subst ec
  have e := k p l e s m args below meth c base b D cA SC _ _ lsS Z C G (hW.push G.2.1 z1 o1 (c := .inr (1, len, .inr (.inl (fun _ => 0)))) (by
    show H1[H.size]? = some (vp_cell _ _)
    rw [vp_cell_l]
    exact e1)) (jS.push hS (by omega) o1) hl hZ
  rw [List.map_cons, show jvv base b (jR ((n : Int) + 1)) = Value.ref (jad base b ((n : Int) + 1)) from rfl, jsz hW] at e
  exact e

theorem j_newq {me : jM} {pc : Nat} {ls st : List jV} {n : Nat} {h : Int → jE} {nc ns : Nat} {Q : Option jV → Nat → (Int → jE) → Prop} {x : Int} {idx : Nat} (len : Nat) (hd : decode me.2.2.1 pc = .ok (.anewarray idx, 3)) (hw : Cond.classLink me.1 idx "PraiseDrawer$Big" ∈ jws) (hx : x = (len : Int)) (hlen : len ≤ 60000000) (hc : nc + 1 ≤ me.2.2.2.2.2.cells ∧ ns + len ≤ me.2.2.2.2.2.slots) (k : jJ me (pc + 3) ls (jR ((n : Int) + 1) :: st) (n + 1) (jup h ((n : Int) + 1) (.inr (4, len, .inr (.inr (fun _ => none))))) (nc + 1) (ns + len) Q) : jJ me pc ls (jI x :: st) n h nc ns Q := by
  intro p l e s m args below meth c base b D cA SC H locs lsS Z C G hW hS hl hZ
  subst hx
  have hts := C.2.2.2.2.2.1
  have hr : jr32 (len : Int) := ⟨by omega, by omega⟩
  have hcl : (Int32.ofInt (len : Int)).toNatClampNeg = len := by
    have := Int32.toNatClampNeg_ofInt_of_le (n := (len : Int)) (by omega) (by omega)
    rw [this]; rfl
  refine W.anew C.1 C.2.1 C.2.2.2.2.1 (hts _ hw) (va_AO.use G.2.2.2.1.2.2.2) rfl hd rfl (fun q => by have q : Int32.ofInt (len : Int) < Int32.ofInt 0 := q; rw [j32_lt hr jr32_0] at q; omega) (by rw [hcl]; omega) hc.1 (by rw [hcl]; exact hc.2) fun cA9 kA comp f1 f2 f3 f4 => ?_
  rw [hcl]
  obtain ⟨kA2, comp2, -, -, -, g4⟩ := (G.1.2 4 _ rfl).2
  have ec : cA9 = cA 4 := Option.some.inj (f1.symm.trans g4)
  subst ec
  generalize hH1 : H.push ({ cls := cA 4, slots := Array.replicate len .null, vm := .none } : Cell) = H1
  have z1 : H1.size = H.size + 1 := by rw [← hH1, Array.size_push]
  have e1 : H1[H.size]? = some (arrV (cA 4) len (fun _ => .null)) := by rw [← hH1, Array.getElem?_push_size, ← arrV_new]
  have o1 : ∀ q : Nat, q < H.size → H1[q]? = H[q]? := fun q hq => by rw [← hH1, Array.getElem?_push, if_neg (Nat.ne_of_lt hq)]
  have e := k p l e s m args below meth c base b D cA SC _ _ lsS Z C G (hW.push G.2.1 z1 o1 (c := .inr (4, len, .inr (.inr (fun _ => none)))) (by
    show H1[H.size]? = some (vp_cell _ _)
    rw [vp_cell_q]
    exact e1)) (jS.push hS (by omega) o1) hl hZ
  rw [List.map_cons, show jvv base b (jR ((n : Int) + 1)) = Value.ref (jad base b ((n : Int) + 1)) from rfl, jsz hW] at e
  exact e
theorem j_aast {me : jM} {pc : Nat} {ls st : List jV} {n : Nat} {h : Int → jE} {nc ns : Nat} {Q : Option jV → Nat → (Int → jE) → Prop} {x i y : Int} {len : Nat} {g : Int → Option Int} {vs : List jV} (hd : decode me.2.2.1 pc = .ok (.aastore, 1)) (hk : h x = .inr (4, len, .inr (.inr g))) (hn : 0 < x ∧ x ≤ n) (hi : 0 ≤ i ∧ i < len) (hlen : len < 2147483648) (hy : h y = .inl (0, vs)) (hny : 0 < y ∧ y ≤ n) (k : jJ me (pc + 1) ls st n (jup h x (.inr (4, len, .inr (.inr (fun z => if z = i then some y else g z))))) nc ns Q) : jJ me pc ls (jR y :: jI i :: jR x :: st) n h nc ns Q := by
  intro p l e s m args below meth c base b D cA SC H locs lsS Z C G hW hS hl hZ
  have hat := hW.at hn.1 hn.2
  rw [hk] at hat
  have hay := hW.at hny.1 hny.2
  rw [hy] at hay
  obtain ⟨j1, j2⟩ := jin hi.1 hi.2 hlen
  have hlt : (Int32.ofInt i).toNatClampNeg < len := Nat.not_le.mp fun q => j1 (Or.inr q)
  obtain ⟨r', hr', cellV, g1, g2, g3, -⟩ := hay
  have hcls := (G.1.1 0 _ rfl).2
  obtain ⟨kA, comp, k1, k2, k3, -⟩ := (G.1.2 4 _ rfl).2
  have hcomp : comp = D.1 0 := Option.some.inj (k3.symm.trans hcls.1)
  subst hcomp
  obtain ⟨kC, hkC, -⟩ := hcls.2
  refine W.aast C.1 C.2.1 (jP1 hat 0 _ rfl) (fun q h => by cases h) (fun h => by cases h) k1 k2 rfl hkC ⟨fun q => j1 (Or.inl q), by show _ < (arrV _ _ _).slots.size; rw [arrV_size]; exact hlt⟩ g1 (fun q h => by rw [g3] at h; cases h) (by rw [g2]; exact hkC) (by rw [g2]; exact va_assign hcls) rfl rfl hd fun H1 e1 z oq => ?_
  refine k p l e s m args below meth c base b D cA SC _ _ lsS Z C G (hW.up G.2.1 hn.1 z oq ?_) (hS.put z oq (jA hn.1)) hl hZ
  show H1[_]? = some (vp_cell _ _)
  rw [e1]
  rw [vp_cell_q, vp_cell_q, arrV_store]
  congr 2
  funext q
  by_cases hq : q = (Int32.ofInt i).toNatClampNeg
  · have hq2 : (q : Int) = i := by rw [hq]; exact j2
    simp only [updV, if_pos hq, if_pos hq2, Option.map_some, va_rf]
  · have hq2 : ¬ (q : Int) = i := fun z9 => hq (by omega)
    simp only [updV, if_neg hq, if_neg hq2]

theorem j_mna_int {me : jM} {pc : Nat} {ls st : List jV} {n : Nat} {h : Int → jE} {nc ns : Nat} {Q : Option jV → Nat → (Int → jE) → Prop} {x y : Int} {idx : Nat} (N M : Nat) (hd : decode me.2.2.1 pc = .ok (.multianewarray idx 2, 4)) (hw : Cond.classLink me.1 idx "[[I" ∈ jws) (hw2 : Cond.arrayClass .int ∈ jws) (hx : x = (N : Int)) (hy : y = (M : Int)) (hN : N ≤ 60000000) (hM : M ≤ 60000000) (hc : nc + (1 + N) ≤ me.2.2.2.2.2.cells ∧ ns + (N + N * M) ≤ me.2.2.2.2.2.slots) (k : jJ me (pc + 4) ls (jR ((n : Int) + 1) :: st) (n + 1 + N) (fun i => if (n : Int) + 1 < i ∧ i ≤ (n : Int) + 1 + N then .inr (0, M, .inl (fun _ => 0)) else if i = (n : Int) + 1 then .inr (2, N, .inr (.inr (fun i => if i < (N : Int) then some ((n : Int) + 2 + i) else none))) else h i) (nc + 1 + N) (ns + N + N * M) Q) : jJ me pc ls (jI y :: jI x :: st) n h nc ns Q := sorry
theorem j_mna_long {me : jM} {pc : Nat} {ls st : List jV} {n : Nat} {h : Int → jE} {nc ns : Nat} {Q : Option jV → Nat → (Int → jE) → Prop} {x y : Int} {idx : Nat} (N M : Nat) (hd : decode me.2.2.1 pc = .ok (.multianewarray idx 2, 4)) (hw : Cond.classLink me.1 idx "[[J" ∈ jws) (hw2 : Cond.arrayClass .long ∈ jws) (hx : x = (N : Int)) (hy : y = (M : Int)) (hN : N ≤ 60000000) (hM : M ≤ 60000000) (hc : nc + (1 + N) ≤ me.2.2.2.2.2.cells ∧ ns + (N + N * M) ≤ me.2.2.2.2.2.slots) (k : jJ me (pc + 4) ls (jR ((n : Int) + 1) :: st) (n + 1 + N) (fun i => if (n : Int) + 1 < i ∧ i ≤ (n : Int) + 1 + N then .inr (1, M, .inr (.inl (fun _ => 0))) else if i = (n : Int) + 1 then .inr (3, N, .inr (.inr (fun i => if i < (N : Int) then some ((n : Int) + 2 + i) else none))) else h i) (nc + 1 + N) (ns + N + N * M) Q) : jJ me pc ls (jI y :: jI x :: st) n h nc ns Q := sorry
end
section
/-! calls: a method walked from its entry is a contract; a call goes on with what the method's walk ends in -/
theorem jgood : ∀ w ∈ jws, goodWord w = true := fun w hw => (List.mem_filter.mp hw).2
theorem jgoodIn {ws : List Cond} (h : ∀ w ∈ ws, w ∈ jws) : GoodIn jws ws := fun w hw => ⟨h w hw, good_of_word (jgood w (h w hw))⟩
theorem jAOA_moved {t : FieldType} {u U : State} (hvm : u.vm.Alike U.vm) (h : (Cond.arrayOver (.array t)).before #[] u = true) : (Cond.arrayOver (.array t)).before #[] U = true := by
  obtain ⟨comp, c, k, h1, h2, h3, h4, h5⟩ := arrayOverA_spec h
  obtain ⟨k', hk', he⟩ := hvm.2.2 _ _ h3
  have hi : (U.vm.classes.findIdx? fun (x : Class) => match x.kind with | .array component _ => component == comp | _ => false) = some c := by
    have e1 := va_idx_bare U.vm comp
    have e2 := va_idx_bare u.vm comp
    first | rw [hvm.bare_eq] at e2 | rw [← hvm.bare_eq] at e2
    exact e1.symm.trans (e2.trans h2)
  have hkind : k'.kind = .array comp (.array t) := by rw [he]; exact h4
  have f1 : U.vm.findClass (FieldType.array t).toString = some comp := by rw [hvm.findClass]; exact h1
  have f2 : U.vm.findClass ("[" ++ (FieldType.array t).toString) = some c := by rw [hvm.findClass]; exact h5
  unfold Cond.before Cond.holds
  simp only [Cond.value]
  rw [f1, Option.bind_some]
  refine (congrArg (fun o : Option Nat => (o.bind (fun c => (U.vm.classes[c]?).map fun (k : Class) => match k.kind with | .array _ ty => decide (ty = FieldType.array t) && decide (U.vm.findClass ("[" ++ (FieldType.array t).toString) = some c) | _ => false) == some true)) hi).trans ?_
  simp [hk', hkind, f2]
theorem jG.moved {base b : Nat} {D : va_G} {cA : Nat → ClassId} {SC : jE} {u U : State} (hvm : u.vm.Alike U.vm) (hn : jNest u → jNest U) (hh : base ≤ U.heap.size) (hb : U.heap[b]? = u.heap[b]?) (h : jG base b D cA SC u) : jG base b D cA SC U :=
  ⟨va_K.moved hvm h.1, h.2.1, hh, ⟨hn h.2.2.2.1.1, jAOA_moved hvm h.2.2.2.1.2.1, jAOA_moved hvm h.2.2.2.1.2.2.1, va_AO.use (va_AO.moved hvm (va_AO.of h.2.2.2.1.2.2.2))⟩, by
    obtain ⟨n9, f9, e9, hX⟩ := h.2.2.2.2
    exact ⟨n9, f9, e9, (hX.moved hvm).kept hb⟩⟩
def jQc (base b : Nat) (D : va_G) (cA : Nat → ClassId) (SC : jE) (Qz : Option jV → Nat → (Int → jE) → Prop) : Array Value → State → Outcome → State → Prop := fun _ st o t =>
  (∃ (r : Option jV) (n' : Nat) (h' : Int → jE), o = .returned (r.map (jvv base b)) ∧ Qz r n' h' ∧ jW base b D cA SC n' h' t.heap) ∧ va_F (fun q => base ≤ q) st t
def jent : List jV → List jV
  | [] => []
  | .inl x :: t => jI x :: jent t
  | .inr (.inl x) :: t => jL x :: jU :: jent t
  | .inr (.inr (.inl x)) :: t => .inr (.inr (.inl x)) :: jent t
  | .inr (.inr (.inr ())) :: t => jU :: jent t
def jen (maxL : Nat) (As : List jV) : List jV := jent As ++ List.replicate (maxL - (jent As).length) jU
def jnu : jV → Bool
  | .inr (.inr (.inr ())) => false
  | _ => true
theorem jl_rep (base b : Nat) : ∀ (k i : Nat), jl base b i (List.replicate k jU) = []
  | 0, _ => rfl
  | k + 1, i => by rw [List.replicate_succ]; exact jl_rep base b k (i + 1)
theorem jl_args (base b : Nat) (k : Nat) : ∀ (As : List jV) (i : Nat), As.all jnu = true → jl base b i (jent As ++ List.replicate k jU) = lv_args i (As.map (jvv base b))
  | [], i, _ => jl_rep base b k i
  | .inl x :: t, i, h => by
    simp only [List.all_cons, Bool.and_eq_true] at h
    exact congrArg (List.cons (i, jvv base b (.inl x))) (jl_args base b k t (i + 1) h.2)
  | .inr (.inl x) :: t, i, h => by
    simp only [List.all_cons, Bool.and_eq_true] at h
    exact congrArg (List.cons (i, jvv base b (.inr (.inl x)))) (jl_args base b k t (i + 1 + 1) h.2)
  | .inr (.inr (.inl none)) :: t, i, h => by
    simp only [List.all_cons, Bool.and_eq_true] at h
    exact congrArg (List.cons (i, jvv base b (.inr (.inr (.inl none))))) (jl_args base b k t (i + 1) h.2)
  | .inr (.inr (.inl (some x))) :: t, i, h => by
    simp only [List.all_cons, Bool.and_eq_true] at h
    exact congrArg (List.cons (i, jvv base b (.inr (.inr (.inl (some x)))))) (jl_args base b k t (i + 1) h.2)
  | .inr (.inr (.inr ())) :: t, i, h => by simp [jnu] at h
theorem lg_sl_cons (v : Value) (vs : List Value) : (lg_sl (v :: vs)).length = (if v.category = 2 then 2 else 1) + (lg_sl vs).length := by
  unfold lg_sl
  rw [List.flatMap_cons, List.length_append]
  split <;> rfl
theorem jl_sl (base b : Nat) : ∀ (As : List jV), As.all jnu = true → (lg_sl (As.map (jvv base b))).length = (jent As).length
  | [], _ => rfl
  | .inl x :: t, h => by
    simp only [List.all_cons, Bool.and_eq_true] at h
    rw [List.map_cons, lg_sl_cons, jl_sl base b t h.2]
    show 1 + _ = (jent t).length + 1
    omega
  | .inr (.inl x) :: t, h => by
    simp only [List.all_cons, Bool.and_eq_true] at h
    rw [List.map_cons, lg_sl_cons, jl_sl base b t h.2]
    show 2 + _ = (jent t).length + 1 + 1
    omega
  | .inr (.inr (.inl none)) :: t, h => by
    simp only [List.all_cons, Bool.and_eq_true] at h
    rw [List.map_cons, lg_sl_cons, jl_sl base b t h.2]
    show 1 + _ = (jent t).length + 1
    omega
  | .inr (.inr (.inl (some x))) :: t, h => by
    simp only [List.all_cons, Bool.and_eq_true] at h
    rw [List.map_cons, lg_sl_cons, jl_sl base b t h.2]
    show 1 + _ = (jent t).length + 1
    omega
  | .inr (.inr (.inr ())) :: t, h => by simp [jnu] at h
theorem j_met {z : jM} {As : List jV} {n : Nat} {h : Int → jE} {Qz : Option jV → Nat → (Int → jE) → Prop} (hp : plainName z.2.1.cls = true) (hown : z.2.1.cls = z.1) (hu : As.all jnu = true) (hlen : (jent As).length ≤ z.2.2.2.1) (hz : jJ z 0 (jen z.2.2.2.1 As) [] n h 0 0 Qz) (l : Launch) (base b : Nat) (D : va_G) (cA : Nat → ClassId) (SC : jE) :
    Met l z.2.1 (Cond.code z.2.1 z.2.2.1 z.2.2.2.1 z.2.2.2.2.1 :: jws) z.2.2.2.2.2 (va_Pc (As.map (jvv base b)) (fun U => jG base b D cA SC U ∧ jW base b D cA SC n h U.heap)) (jQc base b D cA SC Qz) z.2.2.2.2.2.cells z.2.2.2.2.2.slots (fun q => base ≤ q) := by
  refine Met.ofW (cc := z.2.2.1) (maxL := z.2.2.2.1) (ret := z.2.2.2.2.1) hp rfl ?_
  intro p e s m args below meth c s₁ B hml hv
  obtain ⟨rfl, hG, hW⟩ := hv
  have hts := atoms_spec (ws := Cond.code z.2.1 z.2.2.1 z.2.2.2.1 z.2.2.2.2.1 :: jws) B.pre
  have hown2 : s.vm.findClass z.1 = some m.cls := by rw [← hown]; exact findClass_of_methodNamed B.named
  have hC : jC z p s m (As.map (jvv base b)).toArray meth c := ⟨B.exec, B.bytes, hml, B.returns, hown2, fun w hw => hts w (List.mem_cons_of_mem _ hw), B.notSynchronized, (name_of_methodNamed B.named B.method).1⟩
  have hl := lv_entry (As.map (jvv base b)) (n := z.2.2.2.1) (by rw [jl_sl base b As hu]; exact hlen)
  rw [← jl_args base b (z.2.2.2.1 - (jent As).length) As 0 hu] at hl
  rw [lg_entry_eq]
  refine hz p l e s m _ below meth c base b D cA SC s.heap [] _ _ hC hG hW va_S.rf hl (fun r n' h' H' locs' pc' ls' q hr hW' hS' => ?_)
  rcases hr with ⟨x, rfl, hd, hret⟩ | ⟨x, rfl, hd, hret, hx⟩ | ⟨x, rfl, hd, hret⟩ | ⟨rfl, hd, hret⟩
  · exact W.iret (v := Int32.ofInt x) B.exec B.bytes (B.returns.trans hret) (fun t ht hWm => ⟨⟨some (jI x), n', h', rfl, q, by rw [ht]; exact hW'⟩, hS'.F ht⟩) hS'.2.2 hd
  · exact W.zret (ty := .boolean) (v := Int32.ofInt x) B.exec B.bytes (B.returns.trans hret) (by rcases hx with rfl | rfl <;> rfl) (fun t ht hWm => ⟨⟨some (jI x), n', h', rfl, q, by rw [ht]; exact hW'⟩, hS'.F ht⟩) hS'.2.2 hd
  · exact W.lret (v := Int64.ofInt x) B.exec B.bytes (B.returns.trans hret) (fun t ht hWm => ⟨⟨some (jL x), n', h', rfl, q, by rw [ht]; exact hW'⟩, hS'.F ht⟩) hS'.2.2 hd
  · exact W.vret B.exec B.bytes (B.returns.trans hret) (fun t ht hWm => ⟨⟨none, n', h', rfl, q, by rw [ht]; exact hW'⟩, hS'.F ht⟩) hS'.2.2 hd
section JCALL
variable {p : Program} {l : Launch} {e : Env} {R : Room} {s : State} {m : MethodId} {args : Array Value} {below : List Frame} {meth : Method} {c : Code} {H : Heap} {locs : List Loc} {cells slots : Nat} {Q : State → Prop}
theorem j_after {base b mc ms pc : Nat} {D : va_G} {cA : Nat → ClassId} {SC : jE} {Qz : Option jV → Nat → (Int → jE) → Prop} {lsS : Array Slot} {st0 rest : List Value} {a : Array Value} (hr : va_Run p l e R s m args below meth c H locs cells slots mc ms (F0 m pc lsS st0) rest (jQc base b D cA SC Qz a) (fun q => base ≤ q)) (hS : va_S (fun q => base ≤ q) s.heap H locs)
    (kk : ∀ (r : Option jV) (n' : Nat) (h' : Int → jE) (H' : Heap) (locs' : List Loc), Qz r n' h' → jW base b D cA SC n' h' H' → va_S (fun q => base ≤ q) s.heap H' locs' → W p l e R s m args below meth c H' locs' (cells + mc) (slots + ms) Q (F0 m (pc + 3) lsS ((r.map (jvv base b)).toList ++ rest))) : W p l e R s m args below meth c H locs cells slots Q (F0 m pc lsS st0) := by
  intro T hT X
  obtain ⟨v, st₀, t, T', L, h0, X', hL, e1, e2, ⟨⟨r, n', h', hv, hq, hw⟩, hz, hk⟩, st⟩ := hr T hT X
  cases hv
  rw [h0] at hz hk
  obtain ⟨t2, a1, b1⟩ := kk r n' h' T'.heap (locs ++ L) hq (by rw [e1]; exact hw)
    ⟨Nat.le_trans hS.1 (by rw [e1]; exact hz), fun q h1 h2 => by rw [e1, hk q (Nat.lt_of_lt_of_le h1 hS.1) h2]; exact hS.2.1 q h1 h2, fun q hq => by
      rcases List.mem_append.mp hq with h | h
      · exact hS.2.2 q h
      · exact hL q h⟩ T' rfl X'
  exact ⟨t2, st t2 a1, b1⟩
end JCALL
def jcat : jV → Nat
  | .inr (.inl _) => 2
  | _ => 1
theorem jcat_sum (base b : Nat) : ∀ st : List jV, ((st.map (jvv base b)).map fun v => v.category).sum = (st.map jcat).sum
  | [] => rfl
  | a :: t => by
    simp only [List.map_cons, List.sum_cons]
    rw [jcat_sum base b t]
    congr 1
    obtain x | x | x | x := a
    · rfl
    · rfl
    · cases x <;> rfl
    · rfl
/-- what the tables say of a call's method, whatever the kind of call -/
def jcm (z : jM) (np : Nat) : Prop := Cond.code z.2.1 z.2.2.1 z.2.2.2.1 z.2.2.2.2.1 ∈ jws ∧ Cond.initialized z.1 ∈ jws ∧ z.2.1.cls = z.1 ∧ plainName z.2.1.cls = true ∧ (z.2.1.cls ≠ "java/lang/invoke/MethodHandle" ∧ z.2.1.cls ≠ "java/lang/invoke/VarHandle") ∧ (parseMethodDescriptor z.2.1.desc).map (fun d => d.parameters.length) = some np
def jrm (me z : jM) (nc ns : Nat) : Bool := decide (z.2.2.2.2.2.frames + 1 ≤ me.2.2.2.2.2.frames) && (decide (8 + (z.2.2.2.1 + 11) + z.2.2.2.2.2.locals ≤ me.2.2.2.2.2.locals) && (decide (nc + z.2.2.2.2.2.cells ≤ me.2.2.2.2.2.cells) && decide (ns + z.2.2.2.2.2.slots ≤ me.2.2.2.2.2.slots)))
theorem jblind {As : List jV} {base b : Nat} {D : va_G} {cA : Nat → ClassId} {SC : jE} {n : Nat} {h : Int → jE} : FrameBlind (va_Pc (As.map (jvv base b)) (fun U => jG base b D cA SC U ∧ jW base b D cA SC n h U.heap)) := fun a U g mk q => ⟨q.1, jG.moved (u := U) (U := U.calling g mk a) (Vm.Alike.refl U.vm) (fun hq w hw => va_Nw.same rfl rfl (hq w hw)) q.2.1.2.2.1 rfl q.2.1, q.2.2⟩
theorem jpre {As : List jV} {base b : Nat} {D : va_G} {cA : Nat → ClassId} {SC : jE} {n : Nat} {h : Int → jE} {s : State} {H : Heap} {locs : List Loc} (hS : va_S (fun q => base ≤ q) s.heap H locs) (G : jG base b D cA SC s) (hW : jW base b D cA SC n h H) (U : State) (hU : U.heap = H) (hw : s.WarmedH U.vm) : va_Pc (As.map (jvv base b)) (fun U => jG base b D cA SC U ∧ jW base b D cA SC n h U.heap) (As.map (jvv base b)).toArray U :=
  ⟨rfl, jG.moved hw.alike (fun hq w hw9 => va_Nw.warmM hw (hq w hw9)) (by rw [hU, hW.1]; omega) (by rw [hU]; exact hS.2.1 b (Nat.lt_of_lt_of_le G.2.1 G.2.2.1) (by show ¬ base ≤ b; have := G.2.1; omega)) G, by rw [hU]; exact hW⟩
-- ===== the call rules (gen/calls.py) =====
theorem j_invV {me : jM} {pc : Nat} {ls st : List jV} {n : Nat} {h : Int → jE} {nc ns : Nat} {Q : Option jV → Nat → (Int → jE) → Prop} {z : jM} {x : Int} {idx np : Nat} {Qz : Option jV → Nat → (Int → jE) → Prop} {ls0 : List jV} (As rest : List jV) {ci : Nat} {fs : List jV} (hd : decode me.2.2.1 pc = .ok (.invokevirtual idx, 3)) (hcm : jcm z np) (hw : Cond.methodLink me.1 idx z.2.1 ∈ jws) (hw2 : Cond.instanceMethod z.2.1 ∈ jws) (hw3 : Cond.selects z.1 z.2.1 z.2.1 ∈ jws) (hc : (vwCl[ci]?).map (fun q => q.1) = some z.1) (hk : h x = .inl (ci, fs)) (hroom : jrm me z nc ns = true) (hs : st = As.reverse ++ jR x :: rest) (hnp : As.length = np) (hcat : (rest.map jcat).sum ≤ 8) (hu : (jR x :: As).all jnu = true) (hlen : (jent (jR x :: As)).length ≤ z.2.2.2.1) (hls : jen z.2.2.2.1 (jR x :: As) = ls0) (hx : 0 < x ∧ x ≤ n) (hz : jJ z 0 ls0 [] n h 0 0 Qz) (kk : ∀ r n' h', Qz r n' h' → jJ me (pc + 3) ls (r.toList ++ rest) n' h' (nc + z.2.2.2.2.2.cells) (ns + z.2.2.2.2.2.slots) Q) : jJ me pc ls st n h nc ns Q := by
  intro p l e s m args below meth c base b D cA SC H locs lsS Z C G hW hS hl hZ
  subst hs
  subst hls
  obtain ⟨hcode, hini, hcls, hpl, hmh, hpd⟩ := hcm
  simp only [jrm, Bool.and_eq_true, decide_eq_true_eq] at hroom
  obtain ⟨r1, r2, r3, r4⟩ := hroom
  have hts := C.2.2.2.2.2.1
  have hM := j_met (n := n) (h := h) hpl hcls hu hlen hz l base b D cA SC
  have hini2 : Cond.initialized z.2.1.cls ∈ jws := by rw [hcls]; exact hini
  have hG : ∀ w ∈ (Cond.code z.2.1 z.2.2.1 z.2.2.2.1 z.2.2.2.2.1 :: jws), w ∈ jws := fun w hw => by
    rcases List.mem_cons.mp hw with rfl | hw
    · exact hcode
    · exact hw
  have hrest : 2 * (F0 m pc lsS ((As.reverse ++ jR x :: rest).map (jvv base b))).monitorRoom + ((rest.map (jvv base b)).map fun v => v.category).sum ≤ 8 := by rw [jcat_sum]; show 2 * 0 + _ ≤ 8; omega
  have hstk : (F0 m pc lsS ((As.reverse ++ jR x :: rest).map (jvv base b))).stack = (As.map (jvv base b)).reverse ++ Value.ref (jad base b x) :: rest.map (jvv base b) := by
    show (As.reverse ++ jR x :: rest).map (jvv base b) = _
    rw [List.map_append, List.map_reverse]
    rfl
  have cw : CallW me.2.2.2.2.2 s args me.1 z.1 idx z.2.1 z.2.2.1 z.2.2.2.1 z.2.2.2.2.1 (Cond.code z.2.1 z.2.2.1 z.2.2.2.1 z.2.2.2.2.1 :: jws) z.2.2.2.2.2 z.2.2.2.2.2.cells z.2.2.2.2.2.slots np :=
    cwV np hts (jgoodIn (fun w hw9 => by
      rcases List.mem_append.mp hw9 with q | q
      · simp only [List.mem_cons, List.not_mem_nil, or_false] at q
        rcases q with rfl | rfl | rfl | rfl
        · exact hw
        · exact hw2
        · exact hw3
        · exact hini
      · exact hG w q)) rfl rfl rfl ⟨hcls, hmh.1, hmh.2, hpd⟩ ⟨r1, r2⟩
  have hat := hW.at hx.1 hx.2
  rw [hk] at hat
  have hrecv : ∃ cell : Cell, H[jad base b x]? = some cell ∧ cell.vm.isStatics = false ∧ s.vm.findClass z.1 = some cell.cls := by
    cases hv : vwCl[ci]? with
    | none => rw [hv] at hc; cases hc
    | some q9 =>
      rw [hv] at hc
      have := va_recv G.1 (jP1 hat) hv (q0 := 0) rfl
      rw [show q9.1 = z.1 from Option.some.inj hc] at this
      exact this
  refine j_after (Q := Z) (va_runV (C := z.1) (As := As.map (jvv base b)) (rest := rest.map (jvv base b)) (b := jad base b x) ⟨C.1, C.2.1, C.2.2.1, C.2.2.2.2.1, hts⟩ hM cw ⟨jblind, hrecv, fun U hU hw => jpre hS G hW U hU hw⟩ rfl (by rw [List.length_map]; exact hnp) hl.1 hstk hrest hd ⟨r3, r4⟩) hS (fun r n' h' H' locs' q hW' hS' => ?_)
  have e9 := kk r n' h' q p l e s m args below meth c base b D cA SC H' locs' lsS Z C G hW' hS' hl hZ
  have e8 : (r.map (jvv base b)).toList ++ rest.map (jvv base b) = (r.toList ++ rest).map (jvv base b) := by rw [List.map_append]; cases r <;> rfl
  rw [e8]
  exact e9
theorem j_invS {me : jM} {pc : Nat} {ls st : List jV} {n : Nat} {h : Int → jE} {nc ns : Nat} {Q : Option jV → Nat → (Int → jE) → Prop} {z : jM} {x : Int} {idx np : Nat} {Qz : Option jV → Nat → (Int → jE) → Prop} {ls0 : List jV} (As rest : List jV) (hd : decode me.2.2.1 pc = .ok (.invokestatic idx, 3)) (hcm : jcm z np) (hw : Cond.methodLink me.1 idx z.2.1 ∈ jws) (hw2 : Cond.static z.2.1 ∈ jws) (hroom : jrm me z nc ns = true) (hs : st = As.reverse ++ rest) (hnp : As.length = np) (hcat : (rest.map jcat).sum ≤ 8) (hu : (As).all jnu = true) (hlen : (jent (As)).length ≤ z.2.2.2.1) (hls : jen z.2.2.2.1 (As) = ls0) (hz : jJ z 0 ls0 [] n h 0 0 Qz) (kk : ∀ r n' h', Qz r n' h' → jJ me (pc + 3) ls (r.toList ++ rest) n' h' (nc + z.2.2.2.2.2.cells) (ns + z.2.2.2.2.2.slots) Q) : jJ me pc ls st n h nc ns Q := by
  intro p l e s m args below meth c base b D cA SC H locs lsS Z C G hW hS hl hZ
  subst hs
  subst hls
  obtain ⟨hcode, hini, hcls, hpl, hmh, hpd⟩ := hcm
  simp only [jrm, Bool.and_eq_true, decide_eq_true_eq] at hroom
  obtain ⟨r1, r2, r3, r4⟩ := hroom
  have hts := C.2.2.2.2.2.1
  have hM := j_met (n := n) (h := h) hpl hcls hu hlen hz l base b D cA SC
  have hini2 : Cond.initialized z.2.1.cls ∈ jws := by rw [hcls]; exact hini
  have hG : ∀ w ∈ (Cond.code z.2.1 z.2.2.1 z.2.2.2.1 z.2.2.2.2.1 :: jws), w ∈ jws := fun w hw => by
    rcases List.mem_cons.mp hw with rfl | hw
    · exact hcode
    · exact hw
  have hrest : 2 * (F0 m pc lsS ((As.reverse ++ rest).map (jvv base b))).monitorRoom + ((rest.map (jvv base b)).map fun v => v.category).sum ≤ 8 := by rw [jcat_sum]; show 2 * 0 + _ ≤ 8; omega
  have hstk : (F0 m pc lsS ((As.reverse ++ rest).map (jvv base b))).stack = (As.map (jvv base b)).reverse ++ rest.map (jvv base b) := by
    show (As.reverse ++ rest).map (jvv base b) = _
    rw [List.map_append, List.map_reverse]
  have cw := va_cwS (R := me.2.2.2.2.2) (args := args) (own := me.1) (index := idx) (bytes := z.2.2.1) (maxL := z.2.2.2.1) (ret := z.2.2.2.2.1) (rm := z.2.2.2.2.2) np hts (jgoodIn (ws := va_wsS me.1 idx z.2.1 (Cond.code z.2.1 z.2.2.1 z.2.2.2.1 z.2.2.2.2.1 :: jws)) (fun w hw9 => by
      rcases List.mem_append.mp hw9 with q | q
      · simp only [List.mem_cons, List.not_mem_nil, or_false] at q
        rcases q with rfl | rfl | rfl
        · exact hw
        · exact hw2
        · exact hini2
      · exact hG w q)) rfl rfl rfl ⟨hmh.1, hmh.2, hpd⟩ ⟨r1, r2⟩
  refine j_after (Q := Z) (va_runS (As := As.map (jvv base b)) (rest := rest.map (jvv base b)) ⟨C.1, C.2.1, C.2.2.1, C.2.2.2.2.1, hts⟩ hM cw ⟨jblind, fun U hU hw => jpre hS G hW U hU hw⟩ rfl (by rw [List.length_map]; exact hnp) hl.1 hstk hrest hd ⟨r3, r4⟩) hS (fun r n' h' H' locs' q hW' hS' => ?_)
  have e9 := kk r n' h' q p l e s m args below meth c base b D cA SC H' locs' lsS Z C G hW' hS' hl hZ
  have e8 : (r.map (jvv base b)).toList ++ rest.map (jvv base b) = (r.toList ++ rest).map (jvv base b) := by rw [List.map_append]; cases r <;> rfl
  rw [e8]
  exact e9
theorem j_invSN {me : jM} {pc : Nat} {ls st : List jV} {n : Nat} {h : Int → jE} {nc ns : Nat} {Q : Option jV → Nat → (Int → jE) → Prop} {z : jM} {x : Int} {idx np : Nat} {Qz : Option jV → Nat → (Int → jE) → Prop} {ls0 : List jV} (As rest : List jV) (hd : decode me.2.2.1 pc = .ok (.invokestatic idx, 3)) (hcm : jcm z np) (hw : (me.1, idx, z.2.1) ∈ jnest) (hw2 : Cond.static z.2.1 ∈ jws) (hroom : jrm me z nc ns = true) (hs : st = As.reverse ++ rest) (hnp : As.length = np) (hcat : (rest.map jcat).sum ≤ 8) (hu : (As).all jnu = true) (hlen : (jent (As)).length ≤ z.2.2.2.1) (hls : jen z.2.2.2.1 (As) = ls0) (hz : jJ z 0 ls0 [] n h 0 0 Qz) (kk : ∀ r n' h', Qz r n' h' → jJ me (pc + 3) ls (r.toList ++ rest) n' h' (nc + z.2.2.2.2.2.cells) (ns + z.2.2.2.2.2.slots) Q) : jJ me pc ls st n h nc ns Q := by
  intro p l e s m args below meth c base b D cA SC H locs lsS Z C G hW hS hl hZ
  subst hs
  subst hls
  obtain ⟨hcode, hini, hcls, hpl, hmh, hpd⟩ := hcm
  simp only [jrm, Bool.and_eq_true, decide_eq_true_eq] at hroom
  obtain ⟨r1, r2, r3, r4⟩ := hroom
  have hts := C.2.2.2.2.2.1
  have hM := j_met (n := n) (h := h) hpl hcls hu hlen hz l base b D cA SC
  have hini2 : Cond.initialized z.2.1.cls ∈ jws := by rw [hcls]; exact hini
  have hG : ∀ w ∈ (Cond.code z.2.1 z.2.2.1 z.2.2.2.1 z.2.2.2.2.1 :: jws), w ∈ jws := fun w hw => by
    rcases List.mem_cons.mp hw with rfl | hw
    · exact hcode
    · exact hw
  have hrest : 2 * (F0 m pc lsS ((As.reverse ++ rest).map (jvv base b))).monitorRoom + ((rest.map (jvv base b)).map fun v => v.category).sum ≤ 8 := by rw [jcat_sum]; show 2 * 0 + _ ≤ 8; omega
  have hstk : (F0 m pc lsS ((As.reverse ++ rest).map (jvv base b))).stack = (As.map (jvv base b)).reverse ++ rest.map (jvv base b) := by
    show (As.reverse ++ rest).map (jvv base b) = _
    rw [List.map_append, List.map_reverse]
  have cw := va_cnB (R := me.2.2.2.2.2) (args := args) (own := me.1) (host := "PraiseDrawer") (index := idx) (bytes := z.2.2.1) (maxL := z.2.2.2.1) (ret := z.2.2.2.2.1) (rm := z.2.2.2.2.2) np hts (jgoodIn hG) rfl rfl rfl (G.2.2.2.1.1 _ hw) (hts _ hini2) ⟨hmh.1, hmh.2, hpd⟩ ⟨r1, r2⟩
  refine j_after (Q := Z) (va_runSN (As := As.map (jvv base b)) (rest := rest.map (jvv base b)) ⟨C.1, C.2.1, C.2.2.1, C.2.2.2.2.1, hts⟩ hM ⟨cw, hts _ hw2, trivial⟩ ⟨jblind, fun U hU hw => jpre hS G hW U hU hw⟩ rfl (by rw [List.length_map]; exact hnp) hl.1 hstk hrest hd ⟨r3, r4⟩) hS (fun r n' h' H' locs' q hW' hS' => ?_)
  have e9 := kk r n' h' q p l e s m args below meth c base b D cA SC H' locs' lsS Z C G hW' hS' hl hZ
  have e8 : (r.map (jvv base b)).toList ++ rest.map (jvv base b) = (r.toList ++ rest).map (jvv base b) := by rw [List.map_append]; cases r <;> rfl
  rw [e8]
  exact e9
theorem j_invI {me : jM} {pc : Nat} {ls st : List jV} {n : Nat} {h : Int → jE} {nc ns : Nat} {Q : Option jV → Nat → (Int → jE) → Prop} {z : jM} {x : Int} {idx np : Nat} {Qz : Option jV → Nat → (Int → jE) → Prop} {ls0 : List jV} (As rest : List jV) (hd : decode me.2.2.1 pc = .ok (.invokespecial idx, 3)) (hcm : jcm z np) (hw : Cond.methodLink me.1 idx z.2.1 ∈ jws) (hw2 : Cond.instanceMethod z.2.1 ∈ jws) (hnm : z.2.1.name = "<init>") (hret : z.2.2.2.2.1 = none) (hroom : jrm me z nc ns = true) (hs : st = As.reverse ++ jR x :: rest) (hnp : As.length = np) (hcat : (rest.map jcat).sum ≤ 8) (hu : (jR x :: As).all jnu = true) (hlen : (jent (jR x :: As)).length ≤ z.2.2.2.1) (hls : jen z.2.2.2.1 (jR x :: As) = ls0) (hz : jJ z 0 ls0 [] n h 0 0 Qz) (kk : ∀ r n' h', Qz r n' h' → jJ me (pc + 3) ls (r.toList ++ rest) n' h' (nc + z.2.2.2.2.2.cells) (ns + z.2.2.2.2.2.slots) Q) : jJ me pc ls st n h nc ns Q := by
  intro p l e s m args below meth c base b D cA SC H locs lsS Z C G hW hS hl hZ
  subst hs
  subst hls
  obtain ⟨hcode, hini, hcls, hpl, hmh, hpd⟩ := hcm
  simp only [jrm, Bool.and_eq_true, decide_eq_true_eq] at hroom
  obtain ⟨r1, r2, r3, r4⟩ := hroom
  have hts := C.2.2.2.2.2.1
  have hM := j_met (n := n) (h := h) hpl hcls hu hlen hz l base b D cA SC
  have hini2 : Cond.initialized z.2.1.cls ∈ jws := by rw [hcls]; exact hini
  have hG : ∀ w ∈ (Cond.code z.2.1 z.2.2.1 z.2.2.2.1 z.2.2.2.2.1 :: jws), w ∈ jws := fun w hw => by
    rcases List.mem_cons.mp hw with rfl | hw
    · exact hcode
    · exact hw
  have hrest : 2 * (F0 m pc lsS ((As.reverse ++ jR x :: rest).map (jvv base b))).monitorRoom + ((rest.map (jvv base b)).map fun v => v.category).sum ≤ 8 := by rw [jcat_sum]; show 2 * 0 + _ ≤ 8; omega
  have hstk : (F0 m pc lsS ((As.reverse ++ jR x :: rest).map (jvv base b))).stack = (As.map (jvv base b)).reverse ++ Value.ref (jad base b x) :: rest.map (jvv base b) := by
    show (As.reverse ++ jR x :: rest).map (jvv base b) = _
    rw [List.map_append, List.map_reverse]
    rfl
  rw [hret] at hM hcode
  have cw := cwI (R := me.2.2.2.2.2) (args := args) (own := me.1) (index := idx) (bytes := z.2.2.1) (maxL := z.2.2.2.1) (rm := z.2.2.2.2.2) (ws := Cond.code z.2.1 z.2.2.1 z.2.2.2.1 none :: jws) np hts (jgoodIn (by rw [hret] at hG; exact hG)) rfl rfl rfl (hts _ hini2) (hts _ hw) (hts _ hw2) hnm ⟨hmh.1, hmh.2, hpd⟩ ⟨r1, r2⟩
  refine j_after (Q := Z) (va_runI (As := As.map (jvv base b)) (rest := rest.map (jvv base b)) (b := jad base b x) ⟨C.1, C.2.1, C.2.2.1, C.2.2.2.2.1, hts⟩ hM cw ⟨jblind, fun U hU hw => jpre hS G hW U hU hw⟩ rfl (by rw [List.length_map]; exact hnp) hl.1 hstk hrest hd ⟨r3, r4⟩) hS (fun r n' h' H' locs' q hW' hS' => ?_)
  have e9 := kk r n' h' q p l e s m args below meth c base b D cA SC H' locs' lsS Z C G hW' hS' hl hZ
  have e8 : (r.map (jvv base b)).toList ++ rest.map (jvv base b) = (r.toList ++ rest).map (jvv base b) := by rw [List.map_append]; cases r <;> rfl
  rw [e8]
  exact e9
theorem j_invIN {me : jM} {pc : Nat} {ls st : List jV} {n : Nat} {h : Int → jE} {nc ns : Nat} {Q : Option jV → Nat → (Int → jE) → Prop} {z : jM} {x : Int} {idx np : Nat} {Qz : Option jV → Nat → (Int → jE) → Prop} {ls0 : List jV} (As rest : List jV) (hd : decode me.2.2.1 pc = .ok (.invokespecial idx, 3)) (hcm : jcm z np) (hw : (me.1, idx, z.2.1) ∈ jnest) (hw2 : Cond.instanceMethod z.2.1 ∈ jws) (hnm : z.2.1.name = "<init>") (hret : z.2.2.2.2.1 = none) (hroom : jrm me z nc ns = true) (hs : st = As.reverse ++ jR x :: rest) (hnp : As.length = np) (hcat : (rest.map jcat).sum ≤ 8) (hu : (jR x :: As).all jnu = true) (hlen : (jent (jR x :: As)).length ≤ z.2.2.2.1) (hls : jen z.2.2.2.1 (jR x :: As) = ls0) (hz : jJ z 0 ls0 [] n h 0 0 Qz) (kk : ∀ r n' h', Qz r n' h' → jJ me (pc + 3) ls (r.toList ++ rest) n' h' (nc + z.2.2.2.2.2.cells) (ns + z.2.2.2.2.2.slots) Q) : jJ me pc ls st n h nc ns Q := by
  intro p l e s m args below meth c base b D cA SC H locs lsS Z C G hW hS hl hZ
  subst hs
  subst hls
  obtain ⟨hcode, hini, hcls, hpl, hmh, hpd⟩ := hcm
  simp only [jrm, Bool.and_eq_true, decide_eq_true_eq] at hroom
  obtain ⟨r1, r2, r3, r4⟩ := hroom
  have hts := C.2.2.2.2.2.1
  have hM := j_met (n := n) (h := h) hpl hcls hu hlen hz l base b D cA SC
  have hini2 : Cond.initialized z.2.1.cls ∈ jws := by rw [hcls]; exact hini
  have hG : ∀ w ∈ (Cond.code z.2.1 z.2.2.1 z.2.2.2.1 z.2.2.2.2.1 :: jws), w ∈ jws := fun w hw => by
    rcases List.mem_cons.mp hw with rfl | hw
    · exact hcode
    · exact hw
  have hrest : 2 * (F0 m pc lsS ((As.reverse ++ jR x :: rest).map (jvv base b))).monitorRoom + ((rest.map (jvv base b)).map fun v => v.category).sum ≤ 8 := by rw [jcat_sum]; show 2 * 0 + _ ≤ 8; omega
  have hstk : (F0 m pc lsS ((As.reverse ++ jR x :: rest).map (jvv base b))).stack = (As.map (jvv base b)).reverse ++ Value.ref (jad base b x) :: rest.map (jvv base b) := by
    show (As.reverse ++ jR x :: rest).map (jvv base b) = _
    rw [List.map_append, List.map_reverse]
    rfl
  rw [hret] at hM hcode
  have cw := va_cnB (R := me.2.2.2.2.2) (args := args) (own := me.1) (host := "PraiseDrawer") (index := idx) (bytes := z.2.2.1) (maxL := z.2.2.2.1) (ret := none) (rm := z.2.2.2.2.2) (ws := Cond.code z.2.1 z.2.2.1 z.2.2.2.1 none :: jws) np hts (jgoodIn (by rw [hret] at hG; exact hG)) rfl rfl rfl (G.2.2.2.1.1 _ hw) (hts _ hini2) ⟨hmh.1, hmh.2, hpd⟩ ⟨r1, r2⟩
  refine j_after (Q := Z) (va_runIN (As := As.map (jvv base b)) (rest := rest.map (jvv base b)) (b := jad base b x) ⟨C.1, C.2.1, C.2.2.1, C.2.2.2.2.1, hts⟩ hM ⟨cw, hnm, hts _ hw2⟩ ⟨jblind, fun U hU hw => jpre hS G hW U hU hw⟩ rfl (by rw [List.length_map]; exact hnp) hl.1 hstk hrest hd ⟨r3, r4⟩) hS (fun r n' h' H' locs' q hW' hS' => ?_)
  have e9 := kk r n' h' q p l e s m args below meth c base b D cA SC H' locs' lsS Z C G hW' hS' hl hZ
  have e8 : (r.map (jvv base b)).toList ++ rest.map (jvv base b) = (r.toList ++ rest).map (jvv base b) := by rw [List.map_append]; cases r <;> rfl
  rw [e8]
  exact e9
end
