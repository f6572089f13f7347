section
-- ===== PART A: goes FIRST, ahead of the names: the tables' words, and 'selects' of the private methods out of them =====
/-- a private method of a class that the tables say can be made, by its rows of tables_1 -/
def lw_okq (q : MethodName × Nat) : Prop := (q.1.cls ≠ "java/lang/invoke/MethodHandle" ∧ q.1.cls ≠ "java/lang/invoke/VarHandle") ∧ Cond.instantiable q.1.cls q.2 ∈ tables_1 ∧ Cond.privateMethod q.1 ∈ tables_1 ∧ Cond.instanceMethod q.1 ∈ tables_1
theorem lw_p0 : lw_okq (⟨"PraiseDrawer$Big", "carryOn", "(J)V"⟩, 2) := ⟨⟨by decide +kernel, by decide +kernel⟩, List.mem_of_getElem? (i := 141) (by decide +kernel), List.mem_of_getElem? (i := 298) (by decide +kernel), List.mem_of_getElem? (i := 299) (by decide +kernel)⟩
theorem lw_p1 : lw_okq (⟨"PraiseDrawer", "isHand", "(I)Z"⟩, 10) := ⟨⟨by decide +kernel, by decide +kernel⟩, List.mem_of_getElem? (i := 18) (by decide +kernel), List.mem_of_getElem? (i := 361) (by decide +kernel), List.mem_of_getElem? (i := 362) (by decide +kernel)⟩
theorem lw_p2 : lw_okq (⟨"PraiseDrawer", "isPupil", "(I)Z"⟩, 10) := ⟨⟨by decide +kernel, by decide +kernel⟩, List.mem_of_getElem? (i := 18) (by decide +kernel), List.mem_of_getElem? (i := 381) (by decide +kernel), List.mem_of_getElem? (i := 382) (by decide +kernel)⟩
theorem lw_p3 : lw_okq (⟨"PraiseDrawer", "isLetter", "(I)Z"⟩, 10) := ⟨⟨by decide +kernel, by decide +kernel⟩, List.mem_of_getElem? (i := 18) (by decide +kernel), List.mem_of_getElem? (i := 400) (by decide +kernel), List.mem_of_getElem? (i := 401) (by decide +kernel)⟩
theorem lw_p4 : lw_okq (⟨"PraiseDrawer", "isWord", "(I)Z"⟩, 10) := ⟨⟨by decide +kernel, by decide +kernel⟩, List.mem_of_getElem? (i := 18) (by decide +kernel), List.mem_of_getElem? (i := 404) (by decide +kernel), List.mem_of_getElem? (i := 405) (by decide +kernel)⟩
theorem lw_p5 : lw_okq (⟨"PraiseDrawer$Tally", "takeLetter", "(II)V"⟩, 3) := ⟨⟨by decide +kernel, by decide +kernel⟩, List.mem_of_getElem? (i := 114) (by decide +kernel), List.mem_of_getElem? (i := 431) (by decide +kernel), List.mem_of_getElem? (i := 432) (by decide +kernel)⟩
theorem lw_p6 : lw_okq (⟨"PraiseDrawer$Tally", "usesOfAll", "(II)I"⟩, 3) := ⟨⟨by decide +kernel, by decide +kernel⟩, List.mem_of_getElem? (i := 114) (by decide +kernel), List.mem_of_getElem? (i := 452) (by decide +kernel), List.mem_of_getElem? (i := 453) (by decide +kernel)⟩
theorem lw_p7 : lw_okq (⟨"PraiseDrawer$Chances", "takeLetter", "(I)V"⟩, 5) := ⟨⟨by decide +kernel, by decide +kernel⟩, List.mem_of_getElem? (i := 134) (by decide +kernel), List.mem_of_getElem? (i := 477) (by decide +kernel), List.mem_of_getElem? (i := 478) (by decide +kernel)⟩
theorem lw_p8 : lw_okq (⟨"PraiseDrawer$Chances", "factorOf", "(III)J"⟩, 5) := ⟨⟨by decide +kernel, by decide +kernel⟩, List.mem_of_getElem? (i := 134) (by decide +kernel), List.mem_of_getElem? (i := 481) (by decide +kernel), List.mem_of_getElem? (i := 482) (by decide +kernel)⟩
theorem lw_p9 : lw_okq (⟨"PraiseDrawer$Years", "takeLetter", "([II)V"⟩, 3) := ⟨⟨by decide +kernel, by decide +kernel⟩, List.mem_of_getElem? (i := 174) (by decide +kernel), List.mem_of_getElem? (i := 539) (by decide +kernel), List.mem_of_getElem? (i := 540) (by decide +kernel)⟩
theorem lw_p10 : lw_okq (⟨"PraiseDrawer$Drawer", "isOn", "(III)Z"⟩, 14) := ⟨⟨by decide +kernel, by decide +kernel⟩, List.mem_of_getElem? (i := 26) (by decide +kernel), List.mem_of_getElem? (i := 568) (by decide +kernel), List.mem_of_getElem? (i := 569) (by decide +kernel)⟩
theorem lw_p11 : lw_okq (⟨"PraiseDrawer$Drawer", "holds", "(II)Z"⟩, 14) := ⟨⟨by decide +kernel, by decide +kernel⟩, List.mem_of_getElem? (i := 26) (by decide +kernel), List.mem_of_getElem? (i := 576) (by decide +kernel), List.mem_of_getElem? (i := 577) (by decide +kernel)⟩
theorem lw_p12 : lw_okq (⟨"PraiseDrawer$Sayings", "takeAhead", "(I)V"⟩, 7) := ⟨⟨by decide +kernel, by decide +kernel⟩, List.mem_of_getElem? (i := 206) (by decide +kernel), List.mem_of_getElem? (i := 634) (by decide +kernel), List.mem_of_getElem? (i := 635) (by decide +kernel)⟩
theorem lw_p13 : lw_okq (⟨"PraiseDrawer$Sayings", "againstFirst", "(II)I"⟩, 7) := ⟨⟨by decide +kernel, by decide +kernel⟩, List.mem_of_getElem? (i := 206) (by decide +kernel), List.mem_of_getElem? (i := 642) (by decide +kernel), List.mem_of_getElem? (i := 643) (by decide +kernel)⟩
theorem lw_p14 : lw_okq (⟨"PraiseDrawer$Sayings", "firstOf", "(II)I"⟩, 7) := ⟨⟨by decide +kernel, by decide +kernel⟩, List.mem_of_getElem? (i := 206) (by decide +kernel), List.mem_of_getElem? (i := 653) (by decide +kernel), List.mem_of_getElem? (i := 654) (by decide +kernel)⟩
theorem lw_p15 : lw_okq (⟨"PraiseDrawer$Deals", "waysBehind", "(I)I"⟩, 5) := ⟨⟨by decide +kernel, by decide +kernel⟩, List.mem_of_getElem? (i := 236) (by decide +kernel), List.mem_of_getElem? (i := 679) (by decide +kernel), List.mem_of_getElem? (i := 680) (by decide +kernel)⟩
def lw_privs_1 : List (MethodName × Nat) := [(⟨"PraiseDrawer$Big", "carryOn", "(J)V"⟩, 2), (⟨"PraiseDrawer", "isHand", "(I)Z"⟩, 10), (⟨"PraiseDrawer", "isPupil", "(I)Z"⟩, 10), (⟨"PraiseDrawer", "isLetter", "(I)Z"⟩, 10), (⟨"PraiseDrawer", "isWord", "(I)Z"⟩, 10), (⟨"PraiseDrawer$Tally", "takeLetter", "(II)V"⟩, 3), (⟨"PraiseDrawer$Tally", "usesOfAll", "(II)I"⟩, 3), (⟨"PraiseDrawer$Chances", "takeLetter", "(I)V"⟩, 5), (⟨"PraiseDrawer$Chances", "factorOf", "(III)J"⟩, 5), (⟨"PraiseDrawer$Years", "takeLetter", "([II)V"⟩, 3), (⟨"PraiseDrawer$Drawer", "isOn", "(III)Z"⟩, 14), (⟨"PraiseDrawer$Drawer", "holds", "(II)Z"⟩, 14), (⟨"PraiseDrawer$Sayings", "takeAhead", "(I)V"⟩, 7), (⟨"PraiseDrawer$Sayings", "againstFirst", "(II)I"⟩, 7), (⟨"PraiseDrawer$Sayings", "firstOf", "(II)I"⟩, 7), (⟨"PraiseDrawer$Deals", "waysBehind", "(I)I"⟩, 5)]
theorem lw_r1 : ∀ q ∈ lw_privs_1, lw_okq q := List.forall_mem_cons.mpr ⟨lw_p0, List.forall_mem_cons.mpr ⟨lw_p1, List.forall_mem_cons.mpr ⟨lw_p2, List.forall_mem_cons.mpr ⟨lw_p3, List.forall_mem_cons.mpr ⟨lw_p4, List.forall_mem_cons.mpr ⟨lw_p5, List.forall_mem_cons.mpr ⟨lw_p6, List.forall_mem_cons.mpr ⟨lw_p7, List.forall_mem_cons.mpr ⟨lw_p8, List.forall_mem_cons.mpr ⟨lw_p9, List.forall_mem_cons.mpr ⟨lw_p10, List.forall_mem_cons.mpr ⟨lw_p11, List.forall_mem_cons.mpr ⟨lw_p12, List.forall_mem_cons.mpr ⟨lw_p13, List.forall_mem_cons.mpr ⟨lw_p14, List.forall_mem_cons.mpr ⟨lw_p15, fun _ h => absurd h List.not_mem_nil⟩⟩⟩⟩⟩⟩⟩⟩⟩⟩⟩⟩⟩⟩⟩⟩
theorem lw_p16 : lw_okq (⟨"PraiseDrawer$Deals", "canRead", "(III)Z"⟩, 5) := ⟨⟨by decide +kernel, by decide +kernel⟩, List.mem_of_getElem? (i := 236) (by decide +kernel), List.mem_of_getElem? (i := 684) (by decide +kernel), List.mem_of_getElem? (i := 685) (by decide +kernel)⟩
theorem lw_p17 : lw_okq (⟨"PraiseDrawer$Deals", "firstReader", "(II)I"⟩, 5) := ⟨⟨by decide +kernel, by decide +kernel⟩, List.mem_of_getElem? (i := 236) (by decide +kernel), List.mem_of_getElem? (i := 692) (by decide +kernel), List.mem_of_getElem? (i := 693) (by decide +kernel)⟩
theorem lw_p18 : lw_okq (⟨"PraiseDrawer$Forms", "ask", "(II)V"⟩, 5) := ⟨⟨by decide +kernel, by decide +kernel⟩, List.mem_of_getElem? (i := 259) (by decide +kernel), List.mem_of_getElem? (i := 719) (by decide +kernel), List.mem_of_getElem? (i := 720) (by decide +kernel)⟩
theorem lw_p19 : lw_okq (⟨"PraiseDrawer$Forms", "minutesOf", "(I)I"⟩, 5) := ⟨⟨by decide +kernel, by decide +kernel⟩, List.mem_of_getElem? (i := 259) (by decide +kernel), List.mem_of_getElem? (i := 743) (by decide +kernel), List.mem_of_getElem? (i := 744) (by decide +kernel)⟩
theorem lw_p20 : lw_okq (⟨"PraiseDrawerModel", "sets", "(IJ)V"⟩, 25) := ⟨⟨by decide +kernel, by decide +kernel⟩, List.mem_of_getElem? (i := 789) (by decide +kernel), List.mem_of_getElem? (i := 795) (by decide +kernel), List.mem_of_getElem? (i := 796) (by decide +kernel)⟩
theorem lw_p21 : lw_okq (⟨"PraiseDrawerModel", "trims", "(I)V"⟩, 25) := ⟨⟨by decide +kernel, by decide +kernel⟩, List.mem_of_getElem? (i := 789) (by decide +kernel), List.mem_of_getElem? (i := 800) (by decide +kernel), List.mem_of_getElem? (i := 801) (by decide +kernel)⟩
theorem lw_p22 : lw_okq (⟨"PraiseDrawerModel", "next", "(I)I"⟩, 25) := ⟨⟨by decide +kernel, by decide +kernel⟩, List.mem_of_getElem? (i := 789) (by decide +kernel), List.mem_of_getElem? (i := 897) (by decide +kernel), List.mem_of_getElem? (i := 898) (by decide +kernel)⟩
theorem lw_p23 : lw_okq (⟨"PraiseDrawerModel", "is", "(II)Z"⟩, 25) := ⟨⟨by decide +kernel, by decide +kernel⟩, List.mem_of_getElem? (i := 789) (by decide +kernel), List.mem_of_getElem? (i := 915) (by decide +kernel), List.mem_of_getElem? (i := 916) (by decide +kernel)⟩
theorem lw_p24 : lw_okq (⟨"PraiseDrawerModel", "isUse", "(III)Z"⟩, 25) := ⟨⟨by decide +kernel, by decide +kernel⟩, List.mem_of_getElem? (i := 789) (by decide +kernel), List.mem_of_getElem? (i := 939) (by decide +kernel), List.mem_of_getElem? (i := 940) (by decide +kernel)⟩
theorem lw_p25 : lw_okq (⟨"PraiseDrawerModel", "usesOf", "(IIII)I"⟩, 25) := ⟨⟨by decide +kernel, by decide +kernel⟩, List.mem_of_getElem? (i := 789) (by decide +kernel), List.mem_of_getElem? (i := 943) (by decide +kernel), List.mem_of_getElem? (i := 944) (by decide +kernel)⟩
theorem lw_p26 : lw_okq (⟨"PraiseDrawerModel", "stands", "(II)I"⟩, 25) := ⟨⟨by decide +kernel, by decide +kernel⟩, List.mem_of_getElem? (i := 789) (by decide +kernel), List.mem_of_getElem? (i := 947) (by decide +kernel), List.mem_of_getElem? (i := 948) (by decide +kernel)⟩
theorem lw_p27 : lw_okq (⟨"PraiseDrawerModel", "meanUp", "(IIII)I"⟩, 25) := ⟨⟨by decide +kernel, by decide +kernel⟩, List.mem_of_getElem? (i := 789) (by decide +kernel), List.mem_of_getElem? (i := 955) (by decide +kernel), List.mem_of_getElem? (i := 956) (by decide +kernel)⟩
theorem lw_p28 : lw_okq (⟨"PraiseDrawerModel", "meanDown", "(III)I"⟩, 25) := ⟨⟨by decide +kernel, by decide +kernel⟩, List.mem_of_getElem? (i := 789) (by decide +kernel), List.mem_of_getElem? (i := 959) (by decide +kernel), List.mem_of_getElem? (i := 960) (by decide +kernel)⟩
theorem lw_p29 : lw_okq (⟨"PraiseDrawerModel", "told", "(JJ)I"⟩, 25) := ⟨⟨by decide +kernel, by decide +kernel⟩, List.mem_of_getElem? (i := 789) (by decide +kernel), List.mem_of_getElem? (i := 963) (by decide +kernel), List.mem_of_getElem? (i := 964) (by decide +kernel)⟩
theorem lw_p30 : lw_okq (⟨"PraiseDrawerModel", "lowers", "()V"⟩, 25) := ⟨⟨by decide +kernel, by decide +kernel⟩, List.mem_of_getElem? (i := 789) (by decide +kernel), List.mem_of_getElem? (i := 967) (by decide +kernel), List.mem_of_getElem? (i := 968) (by decide +kernel)⟩
theorem lw_p31 : lw_okq (⟨"PraiseDrawerModel", "isEven", "(I)Z"⟩, 25) := ⟨⟨by decide +kernel, by decide +kernel⟩, List.mem_of_getElem? (i := 789) (by decide +kernel), List.mem_of_getElem? (i := 971) (by decide +kernel), List.mem_of_getElem? (i := 972) (by decide +kernel)⟩
def lw_privs_2 : List (MethodName × Nat) := [(⟨"PraiseDrawer$Deals", "canRead", "(III)Z"⟩, 5), (⟨"PraiseDrawer$Deals", "firstReader", "(II)I"⟩, 5), (⟨"PraiseDrawer$Forms", "ask", "(II)V"⟩, 5), (⟨"PraiseDrawer$Forms", "minutesOf", "(I)I"⟩, 5), (⟨"PraiseDrawerModel", "sets", "(IJ)V"⟩, 25), (⟨"PraiseDrawerModel", "trims", "(I)V"⟩, 25), (⟨"PraiseDrawerModel", "next", "(I)I"⟩, 25), (⟨"PraiseDrawerModel", "is", "(II)Z"⟩, 25), (⟨"PraiseDrawerModel", "isUse", "(III)Z"⟩, 25), (⟨"PraiseDrawerModel", "usesOf", "(IIII)I"⟩, 25), (⟨"PraiseDrawerModel", "stands", "(II)I"⟩, 25), (⟨"PraiseDrawerModel", "meanUp", "(IIII)I"⟩, 25), (⟨"PraiseDrawerModel", "meanDown", "(III)I"⟩, 25), (⟨"PraiseDrawerModel", "told", "(JJ)I"⟩, 25), (⟨"PraiseDrawerModel", "lowers", "()V"⟩, 25), (⟨"PraiseDrawerModel", "isEven", "(I)Z"⟩, 25)]
theorem lw_r2 : ∀ q ∈ lw_privs_2, lw_okq q := List.forall_mem_cons.mpr ⟨lw_p16, List.forall_mem_cons.mpr ⟨lw_p17, List.forall_mem_cons.mpr ⟨lw_p18, List.forall_mem_cons.mpr ⟨lw_p19, List.forall_mem_cons.mpr ⟨lw_p20, List.forall_mem_cons.mpr ⟨lw_p21, List.forall_mem_cons.mpr ⟨lw_p22, List.forall_mem_cons.mpr ⟨lw_p23, List.forall_mem_cons.mpr ⟨lw_p24, List.forall_mem_cons.mpr ⟨lw_p25, List.forall_mem_cons.mpr ⟨lw_p26, List.forall_mem_cons.mpr ⟨lw_p27, List.forall_mem_cons.mpr ⟨lw_p28, List.forall_mem_cons.mpr ⟨lw_p29, List.forall_mem_cons.mpr ⟨lw_p30, List.forall_mem_cons.mpr ⟨lw_p31, fun _ h => absurd h List.not_mem_nil⟩⟩⟩⟩⟩⟩⟩⟩⟩⟩⟩⟩⟩⟩⟩⟩
theorem lw_p32 : lw_okq (⟨"PraiseDrawerModel", "halves", "(I)V"⟩, 25) := ⟨⟨by decide +kernel, by decide +kernel⟩, List.mem_of_getElem? (i := 789) (by decide +kernel), List.mem_of_getElem? (i := 975) (by decide +kernel), List.mem_of_getElem? (i := 976) (by decide +kernel)⟩
theorem lw_p33 : lw_okq (⟨"PraiseDrawerModel", "takes", "(II)V"⟩, 25) := ⟨⟨by decide +kernel, by decide +kernel⟩, List.mem_of_getElem? (i := 789) (by decide +kernel), List.mem_of_getElem? (i := 979) (by decide +kernel), List.mem_of_getElem? (i := 980) (by decide +kernel)⟩
theorem lw_p34 : lw_okq (⟨"PraiseDrawerModel", "against", "(II)I"⟩, 25) := ⟨⟨by decide +kernel, by decide +kernel⟩, List.mem_of_getElem? (i := 789) (by decide +kernel), List.mem_of_getElem? (i := 983) (by decide +kernel), List.mem_of_getElem? (i := 984) (by decide +kernel)⟩
theorem lw_p35 : lw_okq (⟨"PraiseDrawerModel", "lessens", "(II)V"⟩, 25) := ⟨⟨by decide +kernel, by decide +kernel⟩, List.mem_of_getElem? (i := 789) (by decide +kernel), List.mem_of_getElem? (i := 987) (by decide +kernel), List.mem_of_getElem? (i := 988) (by decide +kernel)⟩
theorem lw_p36 : lw_okq (⟨"PraiseDrawerModel", "parts", "(I)V"⟩, 25) := ⟨⟨by decide +kernel, by decide +kernel⟩, List.mem_of_getElem? (i := 789) (by decide +kernel), List.mem_of_getElem? (i := 992) (by decide +kernel), List.mem_of_getElem? (i := 993) (by decide +kernel)⟩
theorem lw_p37 : lw_okq (⟨"PraiseDrawerModel", "wordsOf", "(I)I"⟩, 25) := ⟨⟨by decide +kernel, by decide +kernel⟩, List.mem_of_getElem? (i := 789) (by decide +kernel), List.mem_of_getElem? (i := 1000) (by decide +kernel), List.mem_of_getElem? (i := 1001) (by decide +kernel)⟩
theorem lw_p38 : lw_okq (⟨"PraiseDrawerModel", "weighs", "(I)V"⟩, 25) := ⟨⟨by decide +kernel, by decide +kernel⟩, List.mem_of_getElem? (i := 789) (by decide +kernel), List.mem_of_getElem? (i := 1004) (by decide +kernel), List.mem_of_getElem? (i := 1005) (by decide +kernel)⟩
theorem lw_p39 : lw_okq (⟨"PraiseDrawerModel", "times", "(II)V"⟩, 25) := ⟨⟨by decide +kernel, by decide +kernel⟩, List.mem_of_getElem? (i := 789) (by decide +kernel), List.mem_of_getElem? (i := 1008) (by decide +kernel), List.mem_of_getElem? (i := 1009) (by decide +kernel)⟩
theorem lw_p40 : lw_okq (⟨"PraiseDrawerModel", "shares", "(II)V"⟩, 25) := ⟨⟨by decide +kernel, by decide +kernel⟩, List.mem_of_getElem? (i := 789) (by decide +kernel), List.mem_of_getElem? (i := 1012) (by decide +kernel), List.mem_of_getElem? (i := 1013) (by decide +kernel)⟩
theorem lw_p41 : lw_okq (⟨"PraiseDrawerModel", "multiplies", "(II)V"⟩, 25) := ⟨⟨by decide +kernel, by decide +kernel⟩, List.mem_of_getElem? (i := 789) (by decide +kernel), List.mem_of_getElem? (i := 1016) (by decide +kernel), List.mem_of_getElem? (i := 1017) (by decide +kernel)⟩
theorem lw_p42 : lw_okq (⟨"PraiseDrawerModel", "adds", "(II)V"⟩, 25) := ⟨⟨by decide +kernel, by decide +kernel⟩, List.mem_of_getElem? (i := 789) (by decide +kernel), List.mem_of_getElem? (i := 1020) (by decide +kernel), List.mem_of_getElem? (i := 1021) (by decide +kernel)⟩
theorem lw_p43 : lw_okq (⟨"PraiseDrawerModel", "wordsIn", "(III)I"⟩, 25) := ⟨⟨by decide +kernel, by decide +kernel⟩, List.mem_of_getElem? (i := 789) (by decide +kernel), List.mem_of_getElem? (i := 1039) (by decide +kernel), List.mem_of_getElem? (i := 1040) (by decide +kernel)⟩
theorem lw_p44 : lw_okq (⟨"PraiseDrawerModel", "isAbout", "(II)Z"⟩, 25) := ⟨⟨by decide +kernel, by decide +kernel⟩, List.mem_of_getElem? (i := 789) (by decide +kernel), List.mem_of_getElem? (i := 1051) (by decide +kernel), List.mem_of_getElem? (i := 1052) (by decide +kernel)⟩
theorem lw_p45 : lw_okq (⟨"PraiseDrawerModel", "lettersOf", "(IIIZ)I"⟩, 25) := ⟨⟨by decide +kernel, by decide +kernel⟩, List.mem_of_getElem? (i := 789) (by decide +kernel), List.mem_of_getElem? (i := 1055) (by decide +kernel), List.mem_of_getElem? (i := 1056) (by decide +kernel)⟩
theorem lw_p46 : lw_okq (⟨"PraiseDrawerModel", "runOf", "(II)I"⟩, 25) := ⟨⟨by decide +kernel, by decide +kernel⟩, List.mem_of_getElem? (i := 789) (by decide +kernel), List.mem_of_getElem? (i := 1070) (by decide +kernel), List.mem_of_getElem? (i := 1071) (by decide +kernel)⟩
theorem lw_p47 : lw_okq (⟨"PraiseDrawerModel", "likeOf", "(II)I"⟩, 25) := ⟨⟨by decide +kernel, by decide +kernel⟩, List.mem_of_getElem? (i := 789) (by decide +kernel), List.mem_of_getElem? (i := 1074) (by decide +kernel), List.mem_of_getElem? (i := 1075) (by decide +kernel)⟩
def lw_privs_3 : List (MethodName × Nat) := [(⟨"PraiseDrawerModel", "halves", "(I)V"⟩, 25), (⟨"PraiseDrawerModel", "takes", "(II)V"⟩, 25), (⟨"PraiseDrawerModel", "against", "(II)I"⟩, 25), (⟨"PraiseDrawerModel", "lessens", "(II)V"⟩, 25), (⟨"PraiseDrawerModel", "parts", "(I)V"⟩, 25), (⟨"PraiseDrawerModel", "wordsOf", "(I)I"⟩, 25), (⟨"PraiseDrawerModel", "weighs", "(I)V"⟩, 25), (⟨"PraiseDrawerModel", "times", "(II)V"⟩, 25), (⟨"PraiseDrawerModel", "shares", "(II)V"⟩, 25), (⟨"PraiseDrawerModel", "multiplies", "(II)V"⟩, 25), (⟨"PraiseDrawerModel", "adds", "(II)V"⟩, 25), (⟨"PraiseDrawerModel", "wordsIn", "(III)I"⟩, 25), (⟨"PraiseDrawerModel", "isAbout", "(II)Z"⟩, 25), (⟨"PraiseDrawerModel", "lettersOf", "(IIIZ)I"⟩, 25), (⟨"PraiseDrawerModel", "runOf", "(II)I"⟩, 25), (⟨"PraiseDrawerModel", "likeOf", "(II)I"⟩, 25)]
theorem lw_r3 : ∀ q ∈ lw_privs_3, lw_okq q := List.forall_mem_cons.mpr ⟨lw_p32, List.forall_mem_cons.mpr ⟨lw_p33, List.forall_mem_cons.mpr ⟨lw_p34, List.forall_mem_cons.mpr ⟨lw_p35, List.forall_mem_cons.mpr ⟨lw_p36, List.forall_mem_cons.mpr ⟨lw_p37, List.forall_mem_cons.mpr ⟨lw_p38, List.forall_mem_cons.mpr ⟨lw_p39, List.forall_mem_cons.mpr ⟨lw_p40, List.forall_mem_cons.mpr ⟨lw_p41, List.forall_mem_cons.mpr ⟨lw_p42, List.forall_mem_cons.mpr ⟨lw_p43, List.forall_mem_cons.mpr ⟨lw_p44, List.forall_mem_cons.mpr ⟨lw_p45, List.forall_mem_cons.mpr ⟨lw_p46, List.forall_mem_cons.mpr ⟨lw_p47, fun _ h => absurd h List.not_mem_nil⟩⟩⟩⟩⟩⟩⟩⟩⟩⟩⟩⟩⟩⟩⟩⟩
theorem lw_p48 : lw_okq (⟨"PraiseDrawerModel", "orders", "(II)I"⟩, 25) := ⟨⟨by decide +kernel, by decide +kernel⟩, List.mem_of_getElem? (i := 789) (by decide +kernel), List.mem_of_getElem? (i := 1098) (by decide +kernel), List.mem_of_getElem? (i := 1099) (by decide +kernel)⟩
theorem lw_p49 : lw_okq (⟨"PraiseDrawerModel", "againstNext", "(II)I"⟩, 25) := ⟨⟨by decide +kernel, by decide +kernel⟩, List.mem_of_getElem? (i := 789) (by decide +kernel), List.mem_of_getElem? (i := 1102) (by decide +kernel), List.mem_of_getElem? (i := 1103) (by decide +kernel)⟩
theorem lw_p50 : lw_okq (⟨"PraiseDrawerModel", "deals", "(I)I"⟩, 25) := ⟨⟨by decide +kernel, by decide +kernel⟩, List.mem_of_getElem? (i := 789) (by decide +kernel), List.mem_of_getElem? (i := 1120) (by decide +kernel), List.mem_of_getElem? (i := 1121) (by decide +kernel)⟩
theorem lw_p51 : lw_okq (⟨"PraiseDrawerModel", "isFree", "(I)Z"⟩, 25) := ⟨⟨by decide +kernel, by decide +kernel⟩, List.mem_of_getElem? (i := 789) (by decide +kernel), List.mem_of_getElem? (i := 1124) (by decide +kernel), List.mem_of_getElem? (i := 1125) (by decide +kernel)⟩
theorem lw_p52 : lw_okq (⟨"PraiseDrawerModel", "mayRead", "(II)Z"⟩, 25) := ⟨⟨by decide +kernel, by decide +kernel⟩, List.mem_of_getElem? (i := 789) (by decide +kernel), List.mem_of_getElem? (i := 1128) (by decide +kernel), List.mem_of_getElem? (i := 1129) (by decide +kernel)⟩
theorem lw_p53 : lw_okq (⟨"PraiseDrawerModel", "tellsOf", "(I)J"⟩, 25) := ⟨⟨by decide +kernel, by decide +kernel⟩, List.mem_of_getElem? (i := 789) (by decide +kernel), List.mem_of_getElem? (i := 1150) (by decide +kernel), List.mem_of_getElem? (i := 1151) (by decide +kernel)⟩
theorem lw_p54 : lw_okq (⟨"PraiseDrawerModel", "wholeOf", "()J"⟩, 25) := ⟨⟨by decide +kernel, by decide +kernel⟩, List.mem_of_getElem? (i := 789) (by decide +kernel), List.mem_of_getElem? (i := 1154) (by decide +kernel), List.mem_of_getElem? (i := 1155) (by decide +kernel)⟩
theorem lw_p55 : lw_okq (⟨"PraiseDrawerModel", "minutesOf", "(I)I"⟩, 25) := ⟨⟨by decide +kernel, by decide +kernel⟩, List.mem_of_getElem? (i := 789) (by decide +kernel), List.mem_of_getElem? (i := 1163) (by decide +kernel), List.mem_of_getElem? (i := 1164) (by decide +kernel)⟩
def lw_privs_4 : List (MethodName × Nat) := [(⟨"PraiseDrawerModel", "orders", "(II)I"⟩, 25), (⟨"PraiseDrawerModel", "againstNext", "(II)I"⟩, 25), (⟨"PraiseDrawerModel", "deals", "(I)I"⟩, 25), (⟨"PraiseDrawerModel", "isFree", "(I)Z"⟩, 25), (⟨"PraiseDrawerModel", "mayRead", "(II)Z"⟩, 25), (⟨"PraiseDrawerModel", "tellsOf", "(I)J"⟩, 25), (⟨"PraiseDrawerModel", "wholeOf", "()J"⟩, 25), (⟨"PraiseDrawerModel", "minutesOf", "(I)I"⟩, 25)]
theorem lw_r4 : ∀ q ∈ lw_privs_4, lw_okq q := List.forall_mem_cons.mpr ⟨lw_p48, List.forall_mem_cons.mpr ⟨lw_p49, List.forall_mem_cons.mpr ⟨lw_p50, List.forall_mem_cons.mpr ⟨lw_p51, List.forall_mem_cons.mpr ⟨lw_p52, List.forall_mem_cons.mpr ⟨lw_p53, List.forall_mem_cons.mpr ⟨lw_p54, List.forall_mem_cons.mpr ⟨lw_p55, fun _ h => absurd h List.not_mem_nil⟩⟩⟩⟩⟩⟩⟩⟩
def lw_privs : List (MethodName × Nat) := lw_privs_1 ++ (lw_privs_2 ++ (lw_privs_3 ++ (lw_privs_4)))
def lw_tbl : List Cond := k2_sels lw_privs ++ tables_1
theorem lw_privs_ok : ∀ q ∈ lw_privs, lw_okq q := by
  show ∀ q ∈ lw_privs_1 ++ (lw_privs_2 ++ (lw_privs_3 ++ (lw_privs_4))), lw_okq q
  exact List.forall_mem_append.mpr ⟨lw_r1, List.forall_mem_append.mpr ⟨lw_r2, List.forall_mem_append.mpr ⟨lw_r3, lw_r4⟩⟩⟩
end
section
def RX0 : String := "PraiseDrawer$Big"
def TX0 : u_T := fun k => match k with
  | 0 => ("PraiseDrawer$Big", "limbs", "[I", true)
  | _ => ("PraiseDrawer$Big", "size", "I", false)
def tyX0 : Nat → FieldType := fun k => match k with
  | 0 => .array .int
  | _ => .int
theorem nmX0 : ∀ a, a < 2 → ∀ b, b < 2 → a ≠ b → (TX0 a).2.1 ≠ (TX0 b).2.1 := by decide +kernel
theorem tyX0_ok : ∀ k, k < 2 → parseFieldDescriptor (TX0 k).2.2.1 = some (tyX0 k) := by decide +kernel
abbrev cX0_init : ByteArray := prog_2_method_1_code
def yX0_init : MethodName := ⟨RX0, "<init>", "()V"⟩
abbrev cX0_put : ByteArray := prog_2_method_2_code
def yX0_put : MethodName := ⟨RX0, "put", "(J)V"⟩
abbrev cX0_copy : ByteArray := prog_2_method_3_code
def yX0_copy : MethodName := ⟨RX0, "copy", "(LPraiseDrawer$Big;)V"⟩
abbrev cX0_carryOn : ByteArray := prog_2_method_4_code
def yX0_carryOn : MethodName := ⟨RX0, "carryOn", "(J)V"⟩
abbrev cX0_multiply : ByteArray := prog_2_method_5_code
def yX0_multiply : MethodName := ⟨RX0, "multiply", "(J)V"⟩
abbrev cX0_add : ByteArray := prog_2_method_6_code
def yX0_add : MethodName := ⟨RX0, "add", "(LPraiseDrawer$Big;)V"⟩
abbrev cX0_restOf : ByteArray := prog_2_method_7_code
def yX0_restOf : MethodName := ⟨RX0, "restOf", "(I)I"⟩
abbrev cX0_divide : ByteArray := prog_2_method_8_code
def yX0_divide : MethodName := ⟨RX0, "divide", "(I)V"⟩
abbrev cX0_isAbove : ByteArray := prog_2_method_9_code
def yX0_isAbove : MethodName := ⟨RX0, "isAbove", "(LPraiseDrawer$Big;)Z"⟩
def RX1 : String := "PraiseDrawer$Chances"
def TX1 : u_T := fun k => match k with
  | 0 => ("PraiseDrawer$Chances", "drawer", "LPraiseDrawer$Drawer;", true)
  | 1 => ("PraiseDrawer$Chances", "tally", "LPraiseDrawer$Tally;", true)
  | 2 => ("PraiseDrawer$Chances", "weights", "[I", true)
  | 3 => ("PraiseDrawer$Chances", "shares", "[LPraiseDrawer$Big;", true)
  | _ => ("PraiseDrawer$Chances", "whole", "LPraiseDrawer$Big;", true)
def tyX1 : Nat → FieldType := fun k => match k with
  | 0 => .object "PraiseDrawer$Drawer"
  | 1 => .object "PraiseDrawer$Tally"
  | 2 => .array .int
  | 3 => .array (.object "PraiseDrawer$Big")
  | _ => .object "PraiseDrawer$Big"
theorem nmX1 : ∀ a, a < 5 → ∀ b, b < 5 → a ≠ b → (TX1 a).2.1 ≠ (TX1 b).2.1 := by decide +kernel
theorem tyX1_ok : ∀ k, k < 5 → parseFieldDescriptor (TX1 k).2.2.1 = some (tyX1 k) := by decide +kernel
abbrev cX1_init : ByteArray := prog_3_method_1_code
def yX1_init : MethodName := ⟨RX1, "<init>", "(LPraiseDrawer$Drawer;LPraiseDrawer$Tally;[I)V"⟩
abbrev cX1_wordsFor : ByteArray := prog_3_method_2_code
def yX1_wordsFor : MethodName := ⟨RX1, "wordsFor", "(I)I"⟩
abbrev cX1_takeFor : ByteArray := prog_3_method_3_code
def yX1_takeFor : MethodName := ⟨RX1, "takeFor", "(I)V"⟩
abbrev cX1_takeLetter : ByteArray := prog_3_method_4_code
def yX1_takeLetter : MethodName := ⟨RX1, "takeLetter", "(I)V"⟩
abbrev cX1_factorOf : ByteArray := prog_3_method_5_code
def yX1_factorOf : MethodName := ⟨RX1, "factorOf", "(III)J"⟩
abbrev cX1_greatest : ByteArray := prog_3_method_6_code
def yX1_greatest : MethodName := ⟨RX1, "greatest", "()I"⟩
def RX2 : String := "PraiseDrawer$Deals"
def TX2 : u_T := fun k => match k with
  | 0 => ("PraiseDrawer$Deals", "drawer", "LPraiseDrawer$Drawer;", true)
  | 1 => ("PraiseDrawer$Deals", "kinOfReaders", "[I", true)
  | 2 => ("PraiseDrawer$Deals", "letters", "[I", true)
  | 3 => ("PraiseDrawer$Deals", "size", "I", false)
  | _ => ("PraiseDrawer$Deals", "ways", "[I", true)
def tyX2 : Nat → FieldType := fun k => match k with
  | 0 => .object "PraiseDrawer$Drawer"
  | 1 => .array .int
  | 2 => .array .int
  | 3 => .int
  | _ => .array .int
theorem nmX2 : ∀ a, a < 5 → ∀ b, b < 5 → a ≠ b → (TX2 a).2.1 ≠ (TX2 b).2.1 := by decide +kernel
theorem tyX2_ok : ∀ k, k < 5 → parseFieldDescriptor (TX2 k).2.2.1 = some (tyX2 k) := by decide +kernel
abbrev cX2_init : ByteArray := prog_4_method_1_code
def yX2_init : MethodName := ⟨RX2, "<init>", "(LPraiseDrawer$Drawer;)V"⟩
abbrev cX2_waysOf : ByteArray := prog_4_method_2_code
def yX2_waysOf : MethodName := ⟨RX2, "waysOf", "(I)I"⟩
abbrev cX2_waysBehind : ByteArray := prog_4_method_3_code
def yX2_waysBehind : MethodName := ⟨RX2, "waysBehind", "(I)I"⟩
abbrev cX2_canRead : ByteArray := prog_4_method_4_code
def yX2_canRead : MethodName := ⟨RX2, "canRead", "(III)Z"⟩
abbrev cX2_readerInFirst : ByteArray := prog_4_method_5_code
def yX2_readerInFirst : MethodName := ⟨RX2, "readerInFirst", "(I)I"⟩
abbrev cX2_firstReader : ByteArray := prog_4_method_6_code
def yX2_firstReader : MethodName := ⟨RX2, "firstReader", "(II)I"⟩
def RX3 : String := "PraiseDrawer$Drawer"
def TX3 : u_T := fun k => match k with
  | 0 => ("PraiseDrawer$Drawer", "ranks", "[I", true)
  | 1 => ("PraiseDrawer$Drawer", "wordAbouts", "[I", true)
  | 2 => ("PraiseDrawer$Drawer", "kins", "[I", true)
  | 3 => ("PraiseDrawer$Drawer", "pupilAbouts", "[I", true)
  | 4 => ("PraiseDrawer$Drawer", "gifts", "[I", true)
  | 5 => ("PraiseDrawer$Drawer", "letterHands", "[I", true)
  | 6 => ("PraiseDrawer$Drawer", "letterPupils", "[I", true)
  | 7 => ("PraiseDrawer$Drawer", "letterYears", "[I", true)
  | 8 => ("PraiseDrawer$Drawer", "sizes", "[I", true)
  | 9 => ("PraiseDrawer$Drawer", "texts", "[[I", true)
  | 10 => ("PraiseDrawer$Drawer", "words", "I", false)
  | 11 => ("PraiseDrawer$Drawer", "hands", "I", false)
  | 12 => ("PraiseDrawer$Drawer", "pupils", "I", false)
  | _ => ("PraiseDrawer$Drawer", "letters", "I", false)
def tyX3 : Nat → FieldType := fun k => match k with
  | 0 => .array .int
  | 1 => .array .int
  | 2 => .array .int
  | 3 => .array .int
  | 4 => .array .int
  | 5 => .array .int
  | 6 => .array .int
  | 7 => .array .int
  | 8 => .array .int
  | 9 => .array (.array .int)
  | 10 => .int
  | 11 => .int
  | 12 => .int
  | _ => .int
theorem nmX3 : ∀ a, a < 14 → ∀ b, b < 14 → a ≠ b → (TX3 a).2.1 ≠ (TX3 b).2.1 := by decide +kernel
theorem tyX3_ok : ∀ k, k < 14 → parseFieldDescriptor (TX3 k).2.2.1 = some (tyX3 k) := by decide +kernel
abbrev cX3_init : ByteArray := prog_5_method_1_code
def yX3_init : MethodName := ⟨RX3, "<init>", "()V"⟩
abbrev cX3_addWord : ByteArray := prog_5_method_2_code
def yX3_addWord : MethodName := ⟨RX3, "addWord", "(II)I"⟩
abbrev cX3_addHand : ByteArray := prog_5_method_3_code
def yX3_addHand : MethodName := ⟨RX3, "addHand", "(I)I"⟩
abbrev cX3_addPupil : ByteArray := prog_5_method_4_code
def yX3_addPupil : MethodName := ⟨RX3, "addPupil", "(II)I"⟩
abbrev cX3_addLetter : ByteArray := prog_5_method_5_code
def yX3_addLetter : MethodName := ⟨RX3, "addLetter", "(III)I"⟩
abbrev cX3_addToLetter : ByteArray := prog_5_method_6_code
def yX3_addToLetter : MethodName := ⟨RX3, "addToLetter", "(II)I"⟩
abbrev cX3_lettersOn : ByteArray := prog_5_method_7_code
def yX3_lettersOn : MethodName := ⟨RX3, "lettersOn", "(II)I"⟩
abbrev cX3_lettersWith : ByteArray := prog_5_method_8_code
def yX3_lettersWith : MethodName := ⟨RX3, "lettersWith", "(III)I"⟩
abbrev cX3_isOn : ByteArray := prog_5_method_9_code
def yX3_isOn : MethodName := ⟨RX3, "isOn", "(III)Z"⟩
abbrev cX3_holds : ByteArray := prog_5_method_10_code
def yX3_holds : MethodName := ⟨RX3, "holds", "(II)Z"⟩
abbrev cX3_digestInto : ByteArray := prog_5_method_11_code
def yX3_digestInto : MethodName := ⟨RX3, "digestInto", "(J)J"⟩
def RX4 : String := "PraiseDrawer$Forms"
def TX4 : u_T := fun k => match k with
  | 0 => ("PraiseDrawer$Forms", "weights", "[I", true)
  | 1 => ("PraiseDrawer$Forms", "minutes", "[I", true)
  | 2 => ("PraiseDrawer$Forms", "yes", "[[I", true)
  | 3 => ("PraiseDrawer$Forms", "size", "I", false)
  | _ => ("PraiseDrawer$Forms", "answers", "[[J", true)
def tyX4 : Nat → FieldType := fun k => match k with
  | 0 => .array .int
  | 1 => .array .int
  | 2 => .array (.array .int)
  | 3 => .int
  | _ => .array (.array .long)
theorem nmX4 : ∀ a, a < 5 → ∀ b, b < 5 → a ≠ b → (TX4 a).2.1 ≠ (TX4 b).2.1 := by decide +kernel
theorem tyX4_ok : ∀ k, k < 5 → parseFieldDescriptor (TX4 k).2.2.1 = some (tyX4 k) := by decide +kernel
abbrev cX4_init : ByteArray := prog_6_method_1_code
def yX4_init : MethodName := ⟨RX4, "<init>", "([I)V"⟩
abbrev cX4_add : ByteArray := prog_6_method_2_code
def yX4_add : MethodName := ⟨RX4, "add", "(IIIII)I"⟩
abbrev cX4_guessedRight : ByteArray := prog_6_method_3_code
def yX4_guessedRight : MethodName := ⟨RX4, "guessedRight", "(I)J"⟩
abbrev cX4_ask : ByteArray := prog_6_method_4_code
def yX4_ask : MethodName := ⟨RX4, "ask", "(II)V"⟩
abbrev cX4_allGuesses : ByteArray := prog_6_method_5_code
def yX4_allGuesses : MethodName := ⟨RX4, "allGuesses", "(I)J"⟩
abbrev cX4_hundreds : ByteArray := prog_6_method_6_code
def yX4_hundreds : MethodName := ⟨RX4, "hundreds", "(I)J"⟩
abbrev cX4_minutesOf : ByteArray := prog_6_method_7_code
def yX4_minutesOf : MethodName := ⟨RX4, "minutesOf", "(I)I"⟩
abbrev cX4_bestWithin : ByteArray := prog_6_method_8_code
def yX4_bestWithin : MethodName := ⟨RX4, "bestWithin", "(I)I"⟩
abbrev cX4_digestInto : ByteArray := prog_6_method_9_code
def yX4_digestInto : MethodName := ⟨RX4, "digestInto", "(J)J"⟩
def RX5 : String := "PraiseDrawer$Fraction"
def TX5 : u_T := fun k => match k with
  | 0 => ("PraiseDrawer$Fraction", "above", "LPraiseDrawer$Big;", true)
  | _ => ("PraiseDrawer$Fraction", "below", "LPraiseDrawer$Big;", true)
def tyX5 : Nat → FieldType := fun k => match k with
  | 0 => .object "PraiseDrawer$Big"
  | _ => .object "PraiseDrawer$Big"
theorem nmX5 : ∀ a, a < 2 → ∀ b, b < 2 → a ≠ b → (TX5 a).2.1 ≠ (TX5 b).2.1 := by decide +kernel
theorem tyX5_ok : ∀ k, k < 2 → parseFieldDescriptor (TX5 k).2.2.1 = some (tyX5 k) := by decide +kernel
abbrev cX5_init : ByteArray := prog_7_method_1_code
def yX5_init : MethodName := ⟨RX5, "<init>", "()V"⟩
abbrev cX5_put : ByteArray := prog_7_method_2_code
def yX5_put : MethodName := ⟨RX5, "put", "(JJ)V"⟩
abbrev cX5_commonOf : ByteArray := prog_7_method_3_code
def yX5_commonOf : MethodName := ⟨RX5, "commonOf", "(JJ)J"⟩
abbrev cX5_putBig : ByteArray := prog_7_method_4_code
def yX5_putBig : MethodName := ⟨RX5, "putBig", "(LPraiseDrawer$Big;LPraiseDrawer$Big;)V"⟩
def RX6 : String := "PraiseDrawer$Sayings"
def TX6 : u_T := fun k => match k with
  | 0 => ("PraiseDrawer$Sayings", "hands", "[I", true)
  | 1 => ("PraiseDrawer$Sayings", "betters", "[I", true)
  | 2 => ("PraiseDrawer$Sayings", "thans", "[I", true)
  | 3 => ("PraiseDrawer$Sayings", "size", "I", false)
  | 4 => ("PraiseDrawer$Sayings", "over", "[[I", true)
  | 5 => ("PraiseDrawer$Sayings", "againstAhead", "[[I", true)
  | _ => ("PraiseDrawer$Sayings", "fewest", "[I", true)
def tyX6 : Nat → FieldType := fun k => match k with
  | 0 => .array .int
  | 1 => .array .int
  | 2 => .array .int
  | 3 => .int
  | 4 => .array (.array .int)
  | 5 => .array (.array .int)
  | _ => .array .int
theorem nmX6 : ∀ a, a < 7 → ∀ b, b < 7 → a ≠ b → (TX6 a).2.1 ≠ (TX6 b).2.1 := by decide +kernel
theorem tyX6_ok : ∀ k, k < 7 → parseFieldDescriptor (TX6 k).2.2.1 = some (tyX6 k) := by decide +kernel
abbrev cX6_init : ByteArray := prog_8_method_1_code
def yX6_init : MethodName := ⟨RX6, "<init>", "()V"⟩
abbrev cX6_add : ByteArray := prog_8_method_2_code
def yX6_add : MethodName := ⟨RX6, "add", "(III)I"⟩
abbrev cX6_fewestAgainst : ByteArray := prog_8_method_3_code
def yX6_fewestAgainst : MethodName := ⟨RX6, "fewestAgainst", "(III)I"⟩
abbrev cX6_takeAhead : ByteArray := prog_8_method_4_code
def yX6_takeAhead : MethodName := ⟨RX6, "takeAhead", "(I)V"⟩
abbrev cX6_againstFirst : ByteArray := prog_8_method_5_code
def yX6_againstFirst : MethodName := ⟨RX6, "againstFirst", "(II)I"⟩
abbrev cX6_pupilInPlace : ByteArray := prog_8_method_6_code
def yX6_pupilInPlace : MethodName := ⟨RX6, "pupilInPlace", "(II)I"⟩
abbrev cX6_firstOf : ByteArray := prog_8_method_7_code
def yX6_firstOf : MethodName := ⟨RX6, "firstOf", "(II)I"⟩
abbrev cX6_digestInto : ByteArray := prog_8_method_8_code
def yX6_digestInto : MethodName := ⟨RX6, "digestInto", "(J)J"⟩
def RX7 : String := "PraiseDrawer$Sides"
def TX7 : u_T := fun k => match k with
  | 0 => ("PraiseDrawer$Sides", "drawer", "LPraiseDrawer$Drawer;", true)
  | _ => ("PraiseDrawer$Sides", "alike", "[[I", true)
def tyX7 : Nat → FieldType := fun k => match k with
  | 0 => .object "PraiseDrawer$Drawer"
  | _ => .array (.array .int)
theorem nmX7 : ∀ a, a < 2 → ∀ b, b < 2 → a ≠ b → (TX7 a).2.1 ≠ (TX7 b).2.1 := by decide +kernel
theorem tyX7_ok : ∀ k, k < 2 → parseFieldDescriptor (TX7 k).2.2.1 = some (tyX7 k) := by decide +kernel
abbrev cX7_init : ByteArray := prog_9_method_1_code
def yX7_init : MethodName := ⟨RX7, "<init>", "(LPraiseDrawer$Drawer;)V"⟩
abbrev cX7_longestRun : ByteArray := prog_9_method_2_code
def yX7_longestRun : MethodName := ⟨RX7, "longestRun", "(II)I"⟩
abbrev cX7_mostInOrder : ByteArray := prog_9_method_3_code
def yX7_mostInOrder : MethodName := ⟨RX7, "mostInOrder", "(II)I"⟩
abbrev cX7_leftFrom : ByteArray := prog_9_method_4_code
def yX7_leftFrom : MethodName := ⟨RX7, "leftFrom", "(II)I"⟩
def RX8 : String := "PraiseDrawer$Tally"
def TX8 : u_T := fun k => match k with
  | 0 => ("PraiseDrawer$Tally", "drawer", "LPraiseDrawer$Drawer;", true)
  | 1 => ("PraiseDrawer$Tally", "times", "[[I", true)
  | _ => ("PraiseDrawer$Tally", "timesOfAll", "[I", true)
def tyX8 : Nat → FieldType := fun k => match k with
  | 0 => .object "PraiseDrawer$Drawer"
  | 1 => .array (.array .int)
  | _ => .array .int
theorem nmX8 : ∀ a, a < 3 → ∀ b, b < 3 → a ≠ b → (TX8 a).2.1 ≠ (TX8 b).2.1 := by decide +kernel
theorem tyX8_ok : ∀ k, k < 3 → parseFieldDescriptor (TX8 k).2.2.1 = some (tyX8 k) := by decide +kernel
abbrev cX8_init : ByteArray := prog_10_method_1_code
def yX8_init : MethodName := ⟨RX8, "<init>", "(LPraiseDrawer$Drawer;)V"⟩
abbrev cX8_takeAllBut : ByteArray := prog_10_method_2_code
def yX8_takeAllBut : MethodName := ⟨RX8, "takeAllBut", "(I)V"⟩
abbrev cX8_takeLetter : ByteArray := prog_10_method_3_code
def yX8_takeLetter : MethodName := ⟨RX8, "takeLetter", "(II)V"⟩
abbrev cX8_rowOf : ByteArray := prog_10_method_4_code
def yX8_rowOf : MethodName := ⟨RX8, "rowOf", "(II)I"⟩
abbrev cX8_usesOf : ByteArray := prog_10_method_5_code
def yX8_usesOf : MethodName := ⟨RX8, "usesOf", "(III)I"⟩
abbrev cX8_usesOfAll : ByteArray := prog_10_method_6_code
def yX8_usesOfAll : MethodName := ⟨RX8, "usesOfAll", "(II)I"⟩
abbrev cX8_meantAbove : ByteArray := prog_10_method_7_code
def yX8_meantAbove : MethodName := ⟨RX8, "meantAbove", "(III)J"⟩
abbrev cX8_meantBelow : ByteArray := prog_10_method_8_code
def yX8_meantBelow : MethodName := ⟨RX8, "meantBelow", "(II)J"⟩
def RX9 : String := "PraiseDrawer$Years"
def TX9 : u_T := fun k => match k with
  | 0 => ("PraiseDrawer$Years", "drawer", "LPraiseDrawer$Drawer;", true)
  | 1 => ("PraiseDrawer$Years", "first", "[I", true)
  | _ => ("PraiseDrawer$Years", "second", "[I", true)
def tyX9 : Nat → FieldType := fun k => match k with
  | 0 => .object "PraiseDrawer$Drawer"
  | 1 => .array .int
  | _ => .array .int
theorem nmX9 : ∀ a, a < 3 → ∀ b, b < 3 → a ≠ b → (TX9 a).2.1 ≠ (TX9 b).2.1 := by decide +kernel
theorem tyX9_ok : ∀ k, k < 3 → parseFieldDescriptor (TX9 k).2.2.1 = some (tyX9 k) := by decide +kernel
abbrev cX9_init : ByteArray := prog_11_method_1_code
def yX9_init : MethodName := ⟨RX9, "<init>", "(LPraiseDrawer$Drawer;)V"⟩
abbrev cX9_take : ByteArray := prog_11_method_2_code
def yX9_take : MethodName := ⟨RX9, "take", "([III)V"⟩
abbrev cX9_takeLetter : ByteArray := prog_11_method_3_code
def yX9_takeLetter : MethodName := ⟨RX9, "takeLetter", "([II)V"⟩
abbrev cX9_wordsUpTo : ByteArray := prog_11_method_4_code
def yX9_wordsUpTo : MethodName := ⟨RX9, "wordsUpTo", "([II)I"⟩
abbrev cX9_sumOfRanks : ByteArray := prog_11_method_5_code
def yX9_sumOfRanks : MethodName := ⟨RX9, "sumOfRanks", "([I)I"⟩
abbrev cX9_rankInSecond : ByteArray := prog_11_method_6_code
def yX9_rankInSecond : MethodName := ⟨RX9, "rankInSecond", "(I)I"⟩
def RX10 : String := "PraiseDrawer"
def TX10 : u_T := fun k => match k with
  | 0 => ("PraiseDrawer", "drawer", "LPraiseDrawer$Drawer;", true)
  | 1 => ("PraiseDrawer", "tally", "LPraiseDrawer$Tally;", true)
  | 2 => ("PraiseDrawer", "chances", "LPraiseDrawer$Chances;", true)
  | 3 => ("PraiseDrawer", "years", "LPraiseDrawer$Years;", true)
  | 4 => ("PraiseDrawer", "sides", "LPraiseDrawer$Sides;", true)
  | 5 => ("PraiseDrawer", "sayings", "LPraiseDrawer$Sayings;", true)
  | 6 => ("PraiseDrawer", "deals", "LPraiseDrawer$Deals;", true)
  | 7 => ("PraiseDrawer", "forms", "LPraiseDrawer$Forms;", true)
  | 8 => ("PraiseDrawer", "fraction", "LPraiseDrawer$Fraction;", true)
  | _ => ("PraiseDrawer", "weights", "[I", true)
def tyX10 : Nat → FieldType := fun k => match k with
  | 0 => .object "PraiseDrawer$Drawer"
  | 1 => .object "PraiseDrawer$Tally"
  | 2 => .object "PraiseDrawer$Chances"
  | 3 => .object "PraiseDrawer$Years"
  | 4 => .object "PraiseDrawer$Sides"
  | 5 => .object "PraiseDrawer$Sayings"
  | 6 => .object "PraiseDrawer$Deals"
  | 7 => .object "PraiseDrawer$Forms"
  | 8 => .object "PraiseDrawer$Fraction"
  | _ => .array .int
theorem nmX10 : ∀ a, a < 10 → ∀ b, b < 10 → a ≠ b → (TX10 a).2.1 ≠ (TX10 b).2.1 := by decide +kernel
theorem tyX10_ok : ∀ k, k < 10 → parseFieldDescriptor (TX10 k).2.2.1 = some (tyX10 k) := by decide +kernel
abbrev cX10_init : ByteArray := prog_1_method_1_code
def yX10_init : MethodName := ⟨RX10, "<init>", "()V"⟩
abbrev cX10_word : ByteArray := prog_1_method_2_code
def yX10_word : MethodName := ⟨RX10, "word", "(II)I"⟩
abbrev cX10_hand : ByteArray := prog_1_method_3_code
def yX10_hand : MethodName := ⟨RX10, "hand", "(I)I"⟩
abbrev cX10_pupil : ByteArray := prog_1_method_4_code
def yX10_pupil : MethodName := ⟨RX10, "pupil", "(II)I"⟩
abbrev cX10_became : ByteArray := prog_1_method_5_code
def yX10_became : MethodName := ⟨RX10, "became", "(II)I"⟩
abbrev cX10_letter : ByteArray := prog_1_method_6_code
def yX10_letter : MethodName := ⟨RX10, "letter", "(III)I"⟩
abbrev cX10_write : ByteArray := prog_1_method_7_code
def yX10_write : MethodName := ⟨RX10, "write", "(II)I"⟩
abbrev cX10_weight : ByteArray := prog_1_method_8_code
def yX10_weight : MethodName := ⟨RX10, "weight", "(II)I"⟩
abbrev cX10_uses : ByteArray := prog_1_method_9_code
def yX10_uses : MethodName := ⟨RX10, "uses", "(III)I"⟩
abbrev cX10_means : ByteArray := prog_1_method_10_code
def yX10_means : MethodName := ⟨RX10, "means", "(III)I"⟩
abbrev cX10_odds : ByteArray := prog_1_method_11_code
def yX10_odds : MethodName := ⟨RX10, "odds", "(II)I"⟩
abbrev cX10_likeliest : ByteArray := prog_1_method_12_code
def yX10_likeliest : MethodName := ⟨RX10, "likeliest", "(I)I"⟩
abbrev cX10_says : ByteArray := prog_1_method_13_code
def yX10_says : MethodName := ⟨RX10, "says", "(I)I"⟩
abbrev cX10_year : ByteArray := prog_1_method_14_code
def yX10_year : MethodName := ⟨RX10, "year", "(II)I"⟩
abbrev cX10_asIn : ByteArray := prog_1_method_15_code
def yX10_asIn : MethodName := ⟨RX10, "asIn", "(III)I"⟩
abbrev cX10_about : ByteArray := prog_1_method_16_code
def yX10_about : MethodName := ⟨RX10, "about", "(III)I"⟩
abbrev cX10_chance : ByteArray := prog_1_method_17_code
def yX10_chance : MethodName := ⟨RX10, "chance", "(III)I"⟩
abbrev cX10_like : ByteArray := prog_1_method_18_code
def yX10_like : MethodName := ⟨RX10, "like", "(III)I"⟩
abbrev cX10_left : ByteArray := prog_1_method_19_code
def yX10_left : MethodName := ⟨RX10, "left", "(II)I"⟩
abbrev cX10_slip : ByteArray := prog_1_method_20_code
def yX10_slip : MethodName := ⟨RX10, "slip", "(I)I"⟩
abbrev cX10_said : ByteArray := prog_1_method_21_code
def yX10_said : MethodName := ⟨RX10, "said", "(III)I"⟩
abbrev cX10_order : ByteArray := prog_1_method_22_code
def yX10_order : MethodName := ⟨RX10, "order", "(I)I"⟩
abbrev cX10_sure : ByteArray := prog_1_method_23_code
def yX10_sure : MethodName := ⟨RX10, "sure", "(II)I"⟩
abbrev cX10_kin : ByteArray := prog_1_method_24_code
def yX10_kin : MethodName := ⟨RX10, "kin", "(II)I"⟩
abbrev cX10_dealt : ByteArray := prog_1_method_25_code
def yX10_dealt : MethodName := ⟨RX10, "dealt", "(II)I"⟩
abbrev cX10_bounds : ByteArray := prog_1_method_26_code
def yX10_bounds : MethodName := ⟨RX10, "bounds", "(IIII)I"⟩
abbrev cX10_question : ByteArray := prog_1_method_27_code
def yX10_question : MethodName := ⟨RX10, "question", "(IIIII)I"⟩
abbrev cX10_tells : ByteArray := prog_1_method_28_code
def yX10_tells : MethodName := ⟨RX10, "tells", "(I)I"⟩
abbrev cX10_form : ByteArray := prog_1_method_29_code
def yX10_form : MethodName := ⟨RX10, "form", "(I)I"⟩
abbrev cX10_sign : ByteArray := prog_1_method_30_code
def yX10_sign : MethodName := ⟨RX10, "sign", "(I)I"⟩
abbrev cX10_limb : ByteArray := prog_1_method_31_code
def yX10_limb : MethodName := ⟨RX10, "limb", "(II)I"⟩
abbrev cX10_count : ByteArray := prog_1_method_32_code
def yX10_count : MethodName := ⟨RX10, "count", "(I)I"⟩
abbrev cX10_digest : ByteArray := prog_1_method_33_code
def yX10_digest : MethodName := ⟨RX10, "digest", "()J"⟩
abbrev cX10_digestOfRow : ByteArray := prog_1_method_34_code
def yX10_digestOfRow : MethodName := ⟨RX10, "digestOfRow", "(J[II)J"⟩
abbrev cX10_within : ByteArray := prog_1_method_35_code
def yX10_within : MethodName := ⟨RX10, "within", "(III)Z"⟩
abbrev cX10_isRank : ByteArray := prog_1_method_36_code
def yX10_isRank : MethodName := ⟨RX10, "isRank", "(I)Z"⟩
abbrev cX10_isYear : ByteArray := prog_1_method_37_code
def yX10_isYear : MethodName := ⟨RX10, "isYear", "(I)Z"⟩
abbrev cX10_isGift : ByteArray := prog_1_method_38_code
def yX10_isGift : MethodName := ⟨RX10, "isGift", "(I)Z"⟩
abbrev cX10_isPercent : ByteArray := prog_1_method_39_code
def yX10_isPercent : MethodName := ⟨RX10, "isPercent", "(I)Z"⟩
abbrev cX10_isWord : ByteArray := prog_1_method_40_code
def yX10_isWord : MethodName := ⟨RX10, "isWord", "(I)Z"⟩
abbrev cX10_isHand : ByteArray := prog_1_method_41_code
def yX10_isHand : MethodName := ⟨RX10, "isHand", "(I)Z"⟩
abbrev cX10_isPupil : ByteArray := prog_1_method_42_code
def yX10_isPupil : MethodName := ⟨RX10, "isPupil", "(I)Z"⟩
abbrev cX10_isLetter : ByteArray := prog_1_method_43_code
def yX10_isLetter : MethodName := ⟨RX10, "isLetter", "(I)Z"⟩
abbrev cX10_choices : ByteArray := prog_1_method_44_code
def yX10_choices : MethodName := ⟨RX10, "choices", "(II)J"⟩
def RX11 : String := "PraiseDrawerModel"
def TX11 : u_T := fun k => match k with
  | 0 => ("PraiseDrawerModel", "limbs", "[I", true)
  | 1 => ("PraiseDrawerModel", "wide", "[I", true)
  | 2 => ("PraiseDrawerModel", "counts", "[I", true)
  | 3 => ("PraiseDrawerModel", "ranks", "[I", true)
  | 4 => ("PraiseDrawerModel", "abouts", "[I", true)
  | 5 => ("PraiseDrawerModel", "kins", "[I", true)
  | 6 => ("PraiseDrawerModel", "sexes", "[I", true)
  | 7 => ("PraiseDrawerModel", "gifts", "[I", true)
  | 8 => ("PraiseDrawerModel", "byHand", "[I", true)
  | 9 => ("PraiseDrawerModel", "ofPupil", "[I", true)
  | 10 => ("PraiseDrawerModel", "years", "[I", true)
  | 11 => ("PraiseDrawerModel", "lengths", "[I", true)
  | 12 => ("PraiseDrawerModel", "texts", "[I", true)
  | 13 => ("PraiseDrawerModel", "weights", "[I", true)
  | 14 => ("PraiseDrawerModel", "table", "[I", true)
  | 15 => ("PraiseDrawerModel", "saidBy", "[I", true)
  | 16 => ("PraiseDrawerModel", "better", "[I", true)
  | 17 => ("PraiseDrawerModel", "worse", "[I", true)
  | 18 => ("PraiseDrawerModel", "fewest", "[I", true)
  | 19 => ("PraiseDrawerModel", "readerKin", "[I", true)
  | 20 => ("PraiseDrawerModel", "dealtLetters", "[I", true)
  | 21 => ("PraiseDrawerModel", "row", "[I", true)
  | 22 => ("PraiseDrawerModel", "first", "[I", true)
  | 23 => ("PraiseDrawerModel", "minutes", "[I", true)
  | _ => ("PraiseDrawerModel", "yes", "[I", true)
def tyX11 : Nat → FieldType := fun k => match k with
  | 0 => .array .int
  | 1 => .array .int
  | 2 => .array .int
  | 3 => .array .int
  | 4 => .array .int
  | 5 => .array .int
  | 6 => .array .int
  | 7 => .array .int
  | 8 => .array .int
  | 9 => .array .int
  | 10 => .array .int
  | 11 => .array .int
  | 12 => .array .int
  | 13 => .array .int
  | 14 => .array .int
  | 15 => .array .int
  | 16 => .array .int
  | 17 => .array .int
  | 18 => .array .int
  | 19 => .array .int
  | 20 => .array .int
  | 21 => .array .int
  | 22 => .array .int
  | 23 => .array .int
  | _ => .array .int
theorem nmX11 : ∀ a, a < 25 → ∀ b, b < 25 → a ≠ b → (TX11 a).2.1 ≠ (TX11 b).2.1 := by decide +kernel
theorem tyX11_ok : ∀ k, k < 25 → parseFieldDescriptor (TX11 k).2.2.1 = some (tyX11 k) := by decide +kernel
abbrev cX11_in : ByteArray := prog_13_method_2_code
def yX11_in : MethodName := ⟨RX11, "in", "(JJJ)Z"⟩
abbrev cX11_init : ByteArray := prog_13_method_3_code
def yX11_init : MethodName := ⟨RX11, "<init>", "()V"⟩
abbrev cX11_trims : ByteArray := prog_13_method_4_code
def yX11_trims : MethodName := ⟨RX11, "trims", "(I)V"⟩
abbrev cX11_sets : ByteArray := prog_13_method_5_code
def yX11_sets : MethodName := ⟨RX11, "sets", "(IJ)V"⟩
abbrev cX11_takes : ByteArray := prog_13_method_6_code
def yX11_takes : MethodName := ⟨RX11, "takes", "(II)V"⟩
abbrev cX11_times : ByteArray := prog_13_method_7_code
def yX11_times : MethodName := ⟨RX11, "times", "(II)V"⟩
abbrev cX11_multiplies : ByteArray := prog_13_method_8_code
def yX11_multiplies : MethodName := ⟨RX11, "multiplies", "(II)V"⟩
abbrev cX11_adds : ByteArray := prog_13_method_9_code
def yX11_adds : MethodName := ⟨RX11, "adds", "(II)V"⟩
abbrev cX11_lessens : ByteArray := prog_13_method_10_code
def yX11_lessens : MethodName := ⟨RX11, "lessens", "(II)V"⟩
abbrev cX11_against : ByteArray := prog_13_method_11_code
def yX11_against : MethodName := ⟨RX11, "against", "(II)I"⟩
abbrev cX11_isEven : ByteArray := prog_13_method_12_code
def yX11_isEven : MethodName := ⟨RX11, "isEven", "(I)Z"⟩
abbrev cX11_halves : ByteArray := prog_13_method_13_code
def yX11_halves : MethodName := ⟨RX11, "halves", "(I)V"⟩
abbrev cX11_lowers : ByteArray := prog_13_method_14_code
def yX11_lowers : MethodName := ⟨RX11, "lowers", "()V"⟩
abbrev cX11_parts : ByteArray := prog_13_method_15_code
def yX11_parts : MethodName := ⟨RX11, "parts", "(I)V"⟩
abbrev cX11_told : ByteArray := prog_13_method_16_code
def yX11_told : MethodName := ⟨RX11, "told", "(JJ)I"⟩
abbrev cX11_sign : ByteArray := prog_13_method_17_code
def yX11_sign : MethodName := ⟨RX11, "sign", "(I)I"⟩
abbrev cX11_limb : ByteArray := prog_13_method_18_code
def yX11_limb : MethodName := ⟨RX11, "limb", "(II)I"⟩
abbrev cX11_is : ByteArray := prog_13_method_19_code
def yX11_is : MethodName := ⟨RX11, "is", "(II)Z"⟩
abbrev cX11_next : ByteArray := prog_13_method_20_code
def yX11_next : MethodName := ⟨RX11, "next", "(I)I"⟩
abbrev cX11_word : ByteArray := prog_13_method_21_code
def yX11_word : MethodName := ⟨RX11, "word", "(II)I"⟩
abbrev cX11_hand : ByteArray := prog_13_method_22_code
def yX11_hand : MethodName := ⟨RX11, "hand", "(I)I"⟩
abbrev cX11_pupil : ByteArray := prog_13_method_23_code
def yX11_pupil : MethodName := ⟨RX11, "pupil", "(II)I"⟩
abbrev cX11_became : ByteArray := prog_13_method_24_code
def yX11_became : MethodName := ⟨RX11, "became", "(II)I"⟩
abbrev cX11_letter : ByteArray := prog_13_method_25_code
def yX11_letter : MethodName := ⟨RX11, "letter", "(III)I"⟩
abbrev cX11_write : ByteArray := prog_13_method_26_code
def yX11_write : MethodName := ⟨RX11, "write", "(II)I"⟩
abbrev cX11_isGift : ByteArray := prog_13_method_27_code
def yX11_isGift : MethodName := ⟨RX11, "isGift", "(I)Z"⟩
abbrev cX11_weight : ByteArray := prog_13_method_28_code
def yX11_weight : MethodName := ⟨RX11, "weight", "(II)I"⟩
abbrev cX11_stands : ByteArray := prog_13_method_29_code
def yX11_stands : MethodName := ⟨RX11, "stands", "(II)I"⟩
abbrev cX11_usesOf : ByteArray := prog_13_method_30_code
def yX11_usesOf : MethodName := ⟨RX11, "usesOf", "(IIII)I"⟩
abbrev cX11_isUse : ByteArray := prog_13_method_31_code
def yX11_isUse : MethodName := ⟨RX11, "isUse", "(III)Z"⟩
abbrev cX11_uses : ByteArray := prog_13_method_32_code
def yX11_uses : MethodName := ⟨RX11, "uses", "(III)I"⟩
abbrev cX11_meanUp : ByteArray := prog_13_method_33_code
def yX11_meanUp : MethodName := ⟨RX11, "meanUp", "(IIII)I"⟩
abbrev cX11_meanDown : ByteArray := prog_13_method_34_code
def yX11_meanDown : MethodName := ⟨RX11, "meanDown", "(III)I"⟩
abbrev cX11_means : ByteArray := prog_13_method_35_code
def yX11_means : MethodName := ⟨RX11, "means", "(III)I"⟩
abbrev cX11_wordsOf : ByteArray := prog_13_method_36_code
def yX11_wordsOf : MethodName := ⟨RX11, "wordsOf", "(I)I"⟩
abbrev cX11_weighs : ByteArray := prog_13_method_37_code
def yX11_weighs : MethodName := ⟨RX11, "weighs", "(I)V"⟩
abbrev cX11_shares : ByteArray := prog_13_method_38_code
def yX11_shares : MethodName := ⟨RX11, "shares", "(II)V"⟩
abbrev cX11_odds : ByteArray := prog_13_method_39_code
def yX11_odds : MethodName := ⟨RX11, "odds", "(II)I"⟩
abbrev cX11_likeliest : ByteArray := prog_13_method_40_code
def yX11_likeliest : MethodName := ⟨RX11, "likeliest", "(I)I"⟩
abbrev cX11_says : ByteArray := prog_13_method_41_code
def yX11_says : MethodName := ⟨RX11, "says", "(I)I"⟩
abbrev cX11_isYear : ByteArray := prog_13_method_42_code
def yX11_isYear : MethodName := ⟨RX11, "isYear", "(I)Z"⟩
abbrev cX11_wordsIn : ByteArray := prog_13_method_43_code
def yX11_wordsIn : MethodName := ⟨RX11, "wordsIn", "(III)I"⟩
abbrev cX11_year : ByteArray := prog_13_method_44_code
def yX11_year : MethodName := ⟨RX11, "year", "(II)I"⟩
abbrev cX11_asIn : ByteArray := prog_13_method_45_code
def yX11_asIn : MethodName := ⟨RX11, "asIn", "(III)I"⟩
abbrev cX11_lettersOf : ByteArray := prog_13_method_46_code
def yX11_lettersOf : MethodName := ⟨RX11, "lettersOf", "(IIIZ)I"⟩
abbrev cX11_isAbout : ByteArray := prog_13_method_47_code
def yX11_isAbout : MethodName := ⟨RX11, "isAbout", "(II)Z"⟩
abbrev cX11_about : ByteArray := prog_13_method_48_code
def yX11_about : MethodName := ⟨RX11, "about", "(III)I"⟩
abbrev cX11_ways : ByteArray := prog_13_method_49_code
def yX11_ways : MethodName := ⟨RX11, "ways", "(II)J"⟩
abbrev cX11_chance : ByteArray := prog_13_method_50_code
def yX11_chance : MethodName := ⟨RX11, "chance", "(III)I"⟩
abbrev cX11_runOf : ByteArray := prog_13_method_51_code
def yX11_runOf : MethodName := ⟨RX11, "runOf", "(II)I"⟩
abbrev cX11_greater : ByteArray := prog_13_method_52_code
def yX11_greater : MethodName := ⟨RX11, "greater", "(II)I"⟩
abbrev cX11_likeOf : ByteArray := prog_13_method_53_code
def yX11_likeOf : MethodName := ⟨RX11, "likeOf", "(II)I"⟩
abbrev cX11_like : ByteArray := prog_13_method_54_code
def yX11_like : MethodName := ⟨RX11, "like", "(III)I"⟩
abbrev cX11_left : ByteArray := prog_13_method_55_code
def yX11_left : MethodName := ⟨RX11, "left", "(II)I"⟩
abbrev cX11_slip : ByteArray := prog_13_method_56_code
def yX11_slip : MethodName := ⟨RX11, "slip", "(I)I"⟩
abbrev cX11_said : ByteArray := prog_13_method_57_code
def yX11_said : MethodName := ⟨RX11, "said", "(III)I"⟩
abbrev cX11_againstNext : ByteArray := prog_13_method_58_code
def yX11_againstNext : MethodName := ⟨RX11, "againstNext", "(II)I"⟩
abbrev cX11_orders : ByteArray := prog_13_method_59_code
def yX11_orders : MethodName := ⟨RX11, "orders", "(II)I"⟩
abbrev cX11_order : ByteArray := prog_13_method_60_code
def yX11_order : MethodName := ⟨RX11, "order", "(I)I"⟩
abbrev cX11_sure : ByteArray := prog_13_method_61_code
def yX11_sure : MethodName := ⟨RX11, "sure", "(II)I"⟩
abbrev cX11_kin : ByteArray := prog_13_method_62_code
def yX11_kin : MethodName := ⟨RX11, "kin", "(II)I"⟩
abbrev cX11_mayRead : ByteArray := prog_13_method_63_code
def yX11_mayRead : MethodName := ⟨RX11, "mayRead", "(II)Z"⟩
abbrev cX11_isFree : ByteArray := prog_13_method_64_code
def yX11_isFree : MethodName := ⟨RX11, "isFree", "(I)Z"⟩
abbrev cX11_deals : ByteArray := prog_13_method_65_code
def yX11_deals : MethodName := ⟨RX11, "deals", "(I)I"⟩
abbrev cX11_dealt : ByteArray := prog_13_method_66_code
def yX11_dealt : MethodName := ⟨RX11, "dealt", "(II)I"⟩
abbrev cX11_bounds : ByteArray := prog_13_method_67_code
def yX11_bounds : MethodName := ⟨RX11, "bounds", "(IIII)I"⟩
abbrev cX11_isShare : ByteArray := prog_13_method_68_code
def yX11_isShare : MethodName := ⟨RX11, "isShare", "(I)Z"⟩
abbrev cX11_question : ByteArray := prog_13_method_69_code
def yX11_question : MethodName := ⟨RX11, "question", "(IIIII)I"⟩
abbrev cX11_tellsOf : ByteArray := prog_13_method_70_code
def yX11_tellsOf : MethodName := ⟨RX11, "tellsOf", "(I)J"⟩
abbrev cX11_wholeOf : ByteArray := prog_13_method_71_code
def yX11_wholeOf : MethodName := ⟨RX11, "wholeOf", "()J"⟩
abbrev cX11_tells : ByteArray := prog_13_method_72_code
def yX11_tells : MethodName := ⟨RX11, "tells", "(I)I"⟩
abbrev cX11_minutesOf : ByteArray := prog_13_method_73_code
def yX11_minutesOf : MethodName := ⟨RX11, "minutesOf", "(I)I"⟩
abbrev cX11_form : ByteArray := prog_13_method_74_code
def yX11_form : MethodName := ⟨RX11, "form", "(I)I"⟩
abbrev cX11_count : ByteArray := prog_13_method_75_code
def yX11_count : MethodName := ⟨RX11, "count", "(I)I"⟩
abbrev cX11_mixed : ByteArray := prog_13_method_76_code
def yX11_mixed : MethodName := ⟨RX11, "mixed", "(J[III)J"⟩
abbrev cX11_digest : ByteArray := prog_13_method_77_code
def yX11_digest : MethodName := ⟨RX11, "digest", "()J"⟩
def RJ6 : String := "java/lang/Integer"
def TJ6 : u_T := fun k => match k with
  | _ => ("", "", "", false)
def tyJ6 : Nat → FieldType := fun k => match k with
  | _ => .int
abbrev cJ6_numberOfTrailingZeros_0f7a4 : ByteArray := prog_14_method_48_code
def yJ6_numberOfTrailingZeros_0f7a4 : MethodName := ⟨RJ6, "numberOfTrailingZeros", "(I)I"⟩
abbrev cJ6_bitCount_0f7a4 : ByteArray := prog_14_method_49_code
def yJ6_bitCount_0f7a4 : MethodName := ⟨RJ6, "bitCount", "(I)I"⟩
def RJ9 : String := "java/lang/Math"
def TJ9 : u_T := fun k => match k with
  | _ => ("", "", "", false)
def tyJ9 : Nat → FieldType := fun k => match k with
  | _ => .int
abbrev cJ9_max_7cf53 : ByteArray := prog_15_method_65_code
def yJ9_max_7cf53 : MethodName := ⟨RJ9, "max", "(II)I"⟩
abbrev cJ9_max_f86c9 : ByteArray := prog_15_method_66_code
def yJ9_max_f86c9 : MethodName := ⟨RJ9, "max", "(JJ)J"⟩
abbrev cJ9_min_7cf53 : ByteArray := prog_15_method_69_code
def yJ9_min_7cf53 : MethodName := ⟨RJ9, "min", "(II)I"⟩
abbrev cJ9_min_f86c9 : ByteArray := prog_15_method_70_code
def yJ9_min_f86c9 : MethodName := ⟨RJ9, "min", "(JJ)J"⟩
def RJ10 : String := "java/lang/System"
def TJ10 : u_T := fun k => match k with
  | _ => ("", "", "", false)
def tyJ10 : Nat → FieldType := fun k => match k with
  | _ => .int
def RJ7 : String := "java/util/Arrays"
def TJ7 : u_T := fun k => match k with
  | _ => ("", "", "", false)
def tyJ7 : Nat → FieldType := fun k => match k with
  | _ => .int
abbrev cJ7_fill_53178 : ByteArray := prog_17_method_103_code
def yJ7_fill_53178 : MethodName := ⟨RJ7, "fill", "([II)V"⟩
def RL : String := "PraiseDrawerLaw"
abbrev cL_law : ByteArray := code
def yL_law : MethodName := ⟨RL, "law", "([I)Z"⟩
abbrev vwCl : List vw_C := [(RX0, TX0, 2), (RX1, TX1, 5), (RX2, TX2, 5), (RX3, TX3, 14), (RX4, TX4, 5), (RX5, TX5, 2), (RX6, TX6, 7), (RX7, TX7, 2), (RX8, TX8, 3), (RX9, TX9, 3), (RX10, TX10, 10), (RX11, TX11, 25)]
end
section
/-! THE ABSTRACT MACHINE. Cells are numbered: 0 is the script, 1 .. n the cells that the law's run made, in the order of their making (cell k lies at base + k - 1). Ints and longs are whole numbers, taken modulo 2^32, 2^64. -/
abbrev jV : Type := Int ⊕ Int ⊕ Option Int ⊕ Unit
abbrev jI (x : Int) : jV := .inl x
abbrev jL (x : Int) : jV := .inr (.inl x)
abbrev jR (k : Int) : jV := .inr (.inr (.inl (some k)))
abbrev jN : jV := .inr (.inr (.inl none))
abbrev jU : jV := .inr (.inr (.inr ()))
def jad (base b : Nat) (k : Int) : Nat := if k ≤ 0 then b else base + (k.toNat - 1)
def jvv (base b : Nat) : jV → Value
  | .inl x => .int (Int32.ofInt x)
  | .inr (.inl x) => .long (Int64.ofInt x)
  | .inr (.inr (.inl (some k))) => .ref (jad base b k)
  | .inr (.inr (.inl none)) => .null
  | .inr (.inr (.inr ())) => .null
/-- an object: its class's place in vwCl, its fields; an array: its type's place in jtys, its length, what it holds -/
abbrev jE : Type := (Nat × List jV) ⊕ (Nat × Nat × ((Int → Int) ⊕ (Int → Int) ⊕ (Int → Option Int)))
def jce (base b : Nat) (cA : Nat → ClassId) : jE → va_E
  | .inl (ci, fs) => .inr (ci, fs.map (jvv base b))
  | .inr (t, n, .inl f) => .inl (cA t, n, .inl (fun i => Int32.ofInt (f i)))
  | .inr (t, n, .inr (.inl f)) => .inl (cA t, n, .inr (.inl (fun i => Int64.ofInt (f i))))
  | .inr (t, n, .inr (.inr g)) => .inl (cA t, n, .inr (.inr (.inr (.inr (fun i => (g i).map (jad base b))))))
def jtys (cA : Nat → ClassId) : List (ClassId × FieldType) := [(cA 0, .int), (cA 1, .long), (cA 2, .array .int), (cA 3, .array .long), (cA 4, .object "PraiseDrawer$Big")]
def jW (base b : Nat) (D : va_G) (cA : Nat → ClassId) (n : Nat) (h : Int → jE) (H : Heap) : Prop :=
  H.size = base + n ∧ ∀ k : Nat, k ≤ n → va_at D vwCl (jad base b k, jce base b cA (h k)) H
/-- the links of nest mates -/
def jnest : List (String × Nat × MethodName) := [(RX10, 9, yX3_init), (RX1, 17, yX0_init), (RX10, 60, yX6_init), (RX5, 11, yX0_init), (RX3, 67, yX10_digestOfRow), (RX4, 62, yX10_digestOfRow)]
def jNest (s : State) : Prop := ∀ q ∈ jnest, va_Nw (.methodLinkNest q.1 q.2.1 q.2.2 "PraiseDrawer") s
def jO (s : State) : Prop := jNest s ∧ (Cond.arrayOver (.array .int)).before #[] s = true ∧ (Cond.arrayOver (.array .long)).before #[] s = true ∧ (Cond.arrayOver (.object "PraiseDrawer$Big")).before #[] s = true
def jG (base b : Nat) (D : va_G) (cA : Nat → ClassId) (s : State) : Prop := va_K D vwCl (jtys cA) s ∧ b < base ∧ base ≤ s.heap.size ∧ jO s
def jws : List Cond := lw_tbl.filter goodWord
/-- a method: its class, its name, its code, its locals, what it returns, its room -/
abbrev jM : Type := String × MethodName × ByteArray × Nat × Option FieldType × Room
def jC (me : jM) (p : Program) (s : State) (m : MethodId) (args : Array Value) (meth : Method) (c : Code) : Prop :=
  p.tables.exec = Jvm.exec ∧ c.code = me.2.2.1 ∧ c.maxLocals = me.2.2.2.1 ∧ meth.sig.returnType = me.2.2.2.2.1 ∧ s.vm.findClass me.1 = some m.cls ∧ (∀ w ∈ jws, w.before args s = true) ∧ meth.locks = false ∧ meth.name = me.2.1.name
def jl (base b : Nat) : Nat → List jV → List (Nat × Value)
  | _, [] => []
  | i, .inr (.inr (.inr ())) :: t => jl base b (i + 1) t
  | i, .inl x :: t => (i, jvv base b (.inl x)) :: jl base b (i + 1) t
  | i, .inr (.inl x) :: t => (i, jvv base b (.inr (.inl x))) :: jl base b (i + 1) t
  | i, .inr (.inr (.inl x)) :: t => (i, jvv base b (.inr (.inr (.inl x)))) :: jl base b (i + 1) t
def jis (me : jM) (r : Option jV) (pc : Nat) : Prop :=
  (∃ x : Int, r = some (jI x) ∧ decode me.2.2.1 pc = .ok (.ireturn, 1) ∧ me.2.2.2.2.1 = some .int) ∨ (∃ x : Int, r = some (jI x) ∧ decode me.2.2.1 pc = .ok (.ireturn, 1) ∧ me.2.2.2.2.1 = some .boolean ∧ (x = 0 ∨ x = 1)) ∨
  (∃ x : Int, r = some (jL x) ∧ decode me.2.2.1 pc = .ok (.lreturn, 1) ∧ me.2.2.2.2.1 = some .long) ∨ (r = none ∧ decode me.2.2.1 pc = .ok (.return_, 1) ∧ me.2.2.2.2.1 = none)
def jJ (me : jM) (pc : Nat) (ls st : List jV) (n : Nat) (h : Int → jE) (nc ns : Nat) (Q : Option jV → Nat → (Int → jE) → Prop) : Prop :=
  ∀ (p : Program) (l : Launch) (e : Env) (s : State) (m : MethodId) (args : Array Value) (below : List Frame) (meth : Method) (c : Code) (base b : Nat) (D : va_G) (cA : Nat → ClassId) (H : Heap) (locs : List Loc) (lsS : Array Slot) (Z : State → Prop),
    jC me p s m args meth c → jG base b D cA s → jW base b D cA n h H → va_S (fun q => base ≤ q) s.heap H locs → lv_has lsS me.2.2.2.1 (jl base b 0 ls) →
    (∀ (r : Option jV) (n' : Nat) (h' : Int → jE) (H' : Heap) (locs' : List Loc) (pc' : Nat) (ls' : Array Slot), Q r n' h' → jis me r pc' → jW base b D cA n' h' H' → va_S (fun q => base ≤ q) s.heap H' locs' → W p l e me.2.2.2.2.2 s m args below meth c H' locs' me.2.2.2.2.2.cells me.2.2.2.2.2.slots Z (F0 m pc' ls' (r.toList.map (jvv base b)))) →
    W p l e me.2.2.2.2.2 s m args below meth c H locs nc ns Z (F0 m pc lsS (st.map (jvv base b)))

/-! plain facts -/
theorem jad_pos {base b : Nat} {k : Int} (h : 0 < k) : jad base b k = base + (k.toNat - 1) := by
  unfold jad; rw [if_neg (by omega)]
theorem jad_inj {base b : Nat} (hb : b < base) {k k' : Int} (h : 0 < k) (h' : 0 ≤ k') (e : jad base b k' = jad base b k) : k' = k := by
  rw [jad_pos h] at e
  unfold jad at e
  split at e <;> omega
theorem jl_mem {base b : Nat} : ∀ (ls : List jV) (i0 i : Nat) (v : jV), ls[i]? = some v → v ≠ jU → (i0 + i, jvv base b v) ∈ jl base b i0 ls
  | [], _, _, _, h, _ => by simp at h
  | a :: t, i0, 0, v, h, hv => by
    simp only [List.getElem?_cons_zero, Option.some.injEq] at h
    subst h
    obtain x | x | x | x := a
    · exact List.mem_cons_self
    · exact List.mem_cons_self
    · exact List.mem_cons_self
    · exact absurd rfl hv
  | a :: t, i0, i + 1, v, h, hv => by
    rw [List.getElem?_cons_succ] at h
    have := jl_mem (base := base) (b := b) t (i0 + 1) i v h hv
    rw [show i0 + 1 + i = i0 + (i + 1) by omega] at this
    obtain x | x | x | x := a
    · exact List.mem_cons_of_mem _ this
    · exact List.mem_cons_of_mem _ this
    · exact List.mem_cons_of_mem _ this
    · exact this
theorem jl_of {base b : Nat} : ∀ (ls : List jV) (i0 : Nat) (q : Nat × Value), q ∈ jl base b i0 ls → ∃ (i : Nat) (v : jV), q = (i0 + i, jvv base b v) ∧ ls[i]? = some v ∧ v ≠ jU
  | [], _, _, h => by cases h
  | a :: t, i0, q, h => by
    have tail : q ∈ jl base b (i0 + 1) t → ∃ (i : Nat) (v : jV), q = (i0 + i, jvv base b v) ∧ (a :: t)[i]? = some v ∧ v ≠ jU := fun h => by
      obtain ⟨i, v, h1, h2, h3⟩ := jl_of t (i0 + 1) q h
      exact ⟨i + 1, v, by rw [h1]; congr 1; omega, by rw [List.getElem?_cons_succ]; exact h2, h3⟩
    obtain x | x | x | x := a
    · rcases List.mem_cons.mp h with h | h
      · exact ⟨0, _, h, rfl, fun z => by cases z⟩
      · exact tail h
    · rcases List.mem_cons.mp h with h | h
      · exact ⟨0, _, h, rfl, fun z => by cases z⟩
      · exact tail h
    · rcases List.mem_cons.mp h with h | h
      · exact ⟨0, _, h, rfl, fun z => by cases z⟩
      · exact tail h
    · exact tail h
theorem jl_at {base b nL : Nat} {lsS : Array Slot} {ls : List jV} (hl : lv_has lsS nL (jl base b 0 ls)) {i : Nat} {v : jV} (h : ls[i]? = some v) (hv : v ≠ jU) : lsS[i]? = some (.val (jvv base b v)) := by
  have := hl.2.2 _ (jl_mem ls 0 i v h hv)
  rw [Nat.zero_add] at this
  exact this
/-- no long stands at i - 1 -/
def jok (ls : List jV) (i : Nat) : Bool := match i with
  | 0 => true
  | k + 1 => match ls[k]? with
    | some (.inr (.inl _)) => false
    | _ => true
theorem jcat2 {base b : Nat} {v : jV} (h : (jvv base b v).category = 2) : ∃ x, v = jL x := by
  obtain x | x | x | x := v
  · simp [jvv, Value.category] at h
  · exact ⟨x, rfl⟩
  · cases x <;> simp [jvv, Value.category] at h
  · simp [jvv, Value.category] at h
theorem jl_set1 {base b nL : Nat} {ls' : Array Slot} {ls : List jV} {i : Nat} {v : jV} (hi : i < ls.length) (hok : jok ls i = true)
    (h : lv_has ls' nL ((i, jvv base b v) :: (jl base b 0 ls).filter (fun q => !(q.1 == i) && !(q.1 + 1 == i && q.2.category == 2)))) : lv_has ls' nL (jl base b 0 (ls.set i v)) := by
  refine ⟨h.1, h.2.1, fun q hq => ?_⟩
  obtain ⟨k, w, rfl, hk, hw⟩ := jl_of _ _ _ hq
  rw [Nat.zero_add]
  by_cases hki : k = i
  · subst hki
    rw [List.getElem?_set_self hi] at hk
    cases hk
    exact h.2.2 _ List.mem_cons_self
  · rw [List.getElem?_set_ne (Ne.symm hki)] at hk
    have hm := jl_mem (base := base) (b := b) ls 0 k w hk hw
    rw [Nat.zero_add] at hm
    refine h.2.2 _ (List.mem_cons_of_mem _ (List.mem_filter.mpr ⟨hm, ?_⟩))
    simp only [Bool.and_eq_true, Bool.not_eq_true', beq_eq_false_iff_ne, ne_eq, Bool.and_eq_false_iff]
    refine ⟨hki, ?_⟩
    by_cases h1 : k + 1 = i
    · right
      intro h2
      obtain ⟨x, rfl⟩ := jcat2 h2
      subst h1
      simp [jok, hk] at hok
    · left; exact h1
theorem jl_set2 {base b nL : Nat} {ls' : Array Slot} {ls : List jV} {i : Nat} {v : jV} (hi : i + 1 < ls.length) (hok : jok ls i = true)
    (h : lv_has ls' nL ((i, jvv base b v) :: (jl base b 0 ls).filter (fun q => !(q.1 == i) && (!(q.1 == i + 1) && !(q.1 + 1 == i && q.2.category == 2))))) : lv_has ls' nL (jl base b 0 ((ls.set i v).set (i + 1) jU)) := by
  refine ⟨h.1, h.2.1, fun q hq => ?_⟩
  obtain ⟨k, w, rfl, hk, hw⟩ := jl_of _ _ _ hq
  rw [Nat.zero_add]
  by_cases hk1 : k = i + 1
  · subst hk1
    rw [List.getElem?_set_self (by rw [List.length_set]; exact hi)] at hk
    cases hk
    exact absurd rfl hw
  · rw [List.getElem?_set_ne (Ne.symm hk1)] at hk
    by_cases hki : k = i
    · subst hki
      rw [List.getElem?_set_self (by omega)] at hk
      cases hk
      exact h.2.2 _ List.mem_cons_self
    · rw [List.getElem?_set_ne (Ne.symm hki)] at hk
      have hm := jl_mem (base := base) (b := b) ls 0 k w hk hw
      rw [Nat.zero_add] at hm
      refine h.2.2 _ (List.mem_cons_of_mem _ (List.mem_filter.mpr ⟨hm, ?_⟩))
      simp only [Bool.and_eq_true, Bool.not_eq_true', beq_eq_false_iff_ne, ne_eq, Bool.and_eq_false_iff]
      refine ⟨hki, hk1, ?_⟩
      by_cases h1 : k + 1 = i
      · right
        intro h2
        obtain ⟨x, rfl⟩ := jcat2 h2
        subst h1
        simp [jok, hk] at hok
      · left; exact h1
abbrev jr32 (x : Int) : Prop := -2147483648 ≤ x ∧ x ≤ 2147483647
abbrev jr64 (x : Int) : Prop := -9223372036854775808 ≤ x ∧ x ≤ 9223372036854775807
theorem j32T {x : Int} (h : jr32 x) : (Int32.ofInt x).toInt = x := Int32.toInt_ofInt_of_le (by have := h.1; omega) (by have := h.2; omega)
theorem j64T {x : Int} (h : jr64 x) : (Int64.ofInt x).toInt = x := Int64.toInt_ofInt_of_le (by have := h.1; omega) (by have := h.2; omega)
theorem j32_lt {x y : Int} (hx : jr32 x) (hy : jr32 y) : Int32.ofInt x < Int32.ofInt y ↔ x < y := by rw [Int32.lt_iff_toInt_lt, j32T hx, j32T hy]
theorem j32_le {x y : Int} (hx : jr32 x) (hy : jr32 y) : Int32.ofInt x ≤ Int32.ofInt y ↔ x ≤ y := by rw [Int32.le_iff_toInt_le, j32T hx, j32T hy]
theorem j32_eq {x y : Int} (hx : jr32 x) (hy : jr32 y) : Int32.ofInt x = Int32.ofInt y ↔ x = y := by rw [← Int32.toInt_inj, j32T hx, j32T hy]
theorem j64_lt {x y : Int} (hx : jr64 x) (hy : jr64 y) : Int64.ofInt x < Int64.ofInt y ↔ x < y := by rw [Int64.lt_iff_toInt_lt, j64T hx, j64T hy]
theorem j64_eq {x y : Int} (hx : jr64 x) (hy : jr64 y) : Int64.ofInt x = Int64.ofInt y ↔ x = y := by rw [← Int64.toInt_inj, j64T hx, j64T hy]
theorem jr32_0 : jr32 0 := ⟨by omega, by omega⟩
theorem jin {x : Int} {N : Nat} (h0 : 0 ≤ x) (h1 : x < N) (hN : N < 2147483648) : vp_in (Int32.ofInt x) N ∧ (((Int32.ofInt x).toNatClampNeg : Nat) : Int) = x := by
  have hx : jr32 x := ⟨by omega, by omega⟩
  have hc : (Int32.ofInt x).toNatClampNeg = x.toNat := Int32.toNatClampNeg_ofInt_of_le (by omega) (by omega)
  refine ⟨?_, by rw [hc]; omega⟩
  unfold vp_in
  rw [hc]
  rintro (h | h)
  · have : Int32.ofInt x < Int32.ofInt 0 := h
    rw [j32_lt hx jr32_0] at this
    omega
  · omega

theorem j_iconst {me : jM} {pc : Nat} {ls st : List jV} {n : Nat} {h : Int → jE} {nc ns : Nat} {Q : Option jV → Nat → (Int → jE) → Prop} {v : Int} (hd : decode me.2.2.1 pc = .ok (.iconst v, 1)) (k : jJ me (pc + 1) ls (jI v :: st) n h nc ns Q) : jJ me (pc) ls (st) n h nc ns Q := by
  intro p l e s m args below meth c base b D cA H locs lsS Z C G hW hS hl hZ
  exact lv_iconst C.1 C.2.1 hd rfl (k p l e s m args below meth c base b D cA H locs lsS Z C G hW hS hl hZ)

theorem j_bipush {me : jM} {pc : Nat} {ls st : List jV} {n : Nat} {h : Int → jE} {nc ns : Nat} {Q : Option jV → Nat → (Int → jE) → Prop} {v : Int} (hd : decode me.2.2.1 pc = .ok (.bipush v, 2)) (hv : (Int8.ofInt v).toInt32 = Int32.ofInt v) (k : jJ me (pc + 2) ls (jI v :: st) n h nc ns Q) : jJ me (pc) ls (st) n h nc ns Q := by
  intro p l e s m args below meth c base b D cA H locs lsS Z C G hW hS hl hZ
  exact lv_bipush C.1 C.2.1 hd hv (k p l e s m args below meth c base b D cA H locs lsS Z C G hW hS hl hZ)

theorem j_sipush {me : jM} {pc : Nat} {ls st : List jV} {n : Nat} {h : Int → jE} {nc ns : Nat} {Q : Option jV → Nat → (Int → jE) → Prop} {v : Int} (hd : decode me.2.2.1 pc = .ok (.sipush v, 3)) (hv : (Int16.ofInt v).toInt32 = Int32.ofInt v) (k : jJ me (pc + 3) ls (jI v :: st) n h nc ns Q) : jJ me (pc) ls (st) n h nc ns Q := by
  intro p l e s m args below meth c base b D cA H locs lsS Z C G hW hS hl hZ
  exact lv_sipush C.1 C.2.1 hd hv (k p l e s m args below meth c base b D cA H locs lsS Z C G hW hS hl hZ)

theorem j_lconst {me : jM} {pc : Nat} {ls st : List jV} {n : Nat} {h : Int → jE} {nc ns : Nat} {Q : Option jV → Nat → (Int → jE) → Prop} {i : Fin 2} (v : Int) (hd : decode me.2.2.1 pc = .ok (.lconst i, 1)) (hv : Int64.ofNat (i : Nat) = Int64.ofInt v) (k : jJ me (pc + 1) ls (jL v :: st) n h nc ns Q) : jJ me (pc) ls (st) n h nc ns Q := by
  intro p l e s m args below meth c base b D cA H locs lsS Z C G hW hS hl hZ
  exact lv_lconst C.1 C.2.1 hd hv (k p l e s m args below meth c base b D cA H locs lsS Z C G hW hS hl hZ)

theorem j_ldc {me : jM} {pc : Nat} {ls st : List jV} {n : Nat} {h : Int → jE} {nc ns : Nat} {Q : Option jV → Nat → (Int → jE) → Prop} {i : Nat} (w : Int32) (v : Int) (hd : decode me.2.2.1 pc = .ok (.ldc i, 2)) (hw : Cond.constant me.1 i w ∈ jws) (hv : w = Int32.ofInt v) (k : jJ me (pc + 2) ls (jI v :: st) n h nc ns Q) : jJ me (pc) ls (st) n h nc ns Q := by
  intro p l e s m args below meth c base b D cA H locs lsS Z C G hW hS hl hZ
  subst hv
  exact lv_ldc C.1 C.2.1 C.2.2.2.2.1 (C.2.2.2.2.2.1 _ hw) hd (k p l e s m args below meth c base b D cA H locs lsS Z C G hW hS hl hZ)

theorem j_ldcw {me : jM} {pc : Nat} {ls st : List jV} {n : Nat} {h : Int → jE} {nc ns : Nat} {Q : Option jV → Nat → (Int → jE) → Prop} {i : Nat} (w : Int32) (v : Int) (hd : decode me.2.2.1 pc = .ok (.ldc_w i, 3)) (hw : Cond.constant me.1 i w ∈ jws) (hv : w = Int32.ofInt v) (k : jJ me (pc + 3) ls (jI v :: st) n h nc ns Q) : jJ me (pc) ls (st) n h nc ns Q := by
  intro p l e s m args below meth c base b D cA H locs lsS Z C G hW hS hl hZ
  subst hv
  exact lv_ldcw C.1 C.2.1 C.2.2.2.2.1 (C.2.2.2.2.2.1 _ hw) hd (k p l e s m args below meth c base b D cA H locs lsS Z C G hW hS hl hZ)

theorem j_ldc2 {me : jM} {pc : Nat} {ls st : List jV} {n : Nat} {h : Int → jE} {nc ns : Nat} {Q : Option jV → Nat → (Int → jE) → Prop} {i : Nat} (w : Int64) (v : Int) (hd : decode me.2.2.1 pc = .ok (.ldc2_w i, 3)) (hw : Cond.constantLong me.1 i w ∈ jws) (hv : w = Int64.ofInt v) (k : jJ me (pc + 3) ls (jL v :: st) n h nc ns Q) : jJ me (pc) ls (st) n h nc ns Q := by
  intro p l e s m args below meth c base b D cA H locs lsS Z C G hW hS hl hZ
  subst hv
  exact lv_ldc2 C.1 C.2.1 C.2.2.2.2.1 (C.2.2.2.2.2.1 _ hw) hd (k p l e s m args below meth c base b D cA H locs lsS Z C G hW hS hl hZ)

theorem j_iload_n {me : jM} {pc : Nat} {ls st : List jV} {n : Nat} {h : Int → jE} {nc ns : Nat} {Q : Option jV → Nat → (Int → jE) → Prop} {i : Fin 4} {x : Int} (hd : decode me.2.2.1 pc = .ok (.iload_n i, 1)) (hl0 : ls[(i : Nat)]? = some (jI x)) (k : jJ me (pc + 1) ls (jI x :: st) n h nc ns Q) : jJ me (pc) ls (st) n h nc ns Q := by
  intro p l e s m args below meth c base b D cA H locs lsS Z C G hW hS hl hZ
  exact lv_iload_n C.1 C.2.1 hd rfl (jl_at hl hl0 (fun z => by cases z)) (k p l e s m args below meth c base b D cA H locs lsS Z C G hW hS hl hZ)

theorem j_iload {me : jM} {pc : Nat} {ls st : List jV} {n : Nat} {h : Int → jE} {nc ns : Nat} {Q : Option jV → Nat → (Int → jE) → Prop} {i : Nat} {x : Int} (hd : decode me.2.2.1 pc = .ok (.iload i, 2)) (hl0 : ls[i]? = some (jI x)) (k : jJ me (pc + 2) ls (jI x :: st) n h nc ns Q) : jJ me (pc) ls (st) n h nc ns Q := by
  intro p l e s m args below meth c base b D cA H locs lsS Z C G hW hS hl hZ
  exact lv_iload C.1 C.2.1 hd (jl_at hl hl0 (fun z => by cases z)) (k p l e s m args below meth c base b D cA H locs lsS Z C G hW hS hl hZ)

theorem j_lload_n {me : jM} {pc : Nat} {ls st : List jV} {n : Nat} {h : Int → jE} {nc ns : Nat} {Q : Option jV → Nat → (Int → jE) → Prop} {i : Fin 4} {x : Int} (hd : decode me.2.2.1 pc = .ok (.lload_n i, 1)) (hl0 : ls[(i : Nat)]? = some (jL x)) (k : jJ me (pc + 1) ls (jL x :: st) n h nc ns Q) : jJ me (pc) ls (st) n h nc ns Q := by
  intro p l e s m args below meth c base b D cA H locs lsS Z C G hW hS hl hZ
  exact lv_lload_n C.1 C.2.1 hd rfl (jl_at hl hl0 (fun z => by cases z)) (k p l e s m args below meth c base b D cA H locs lsS Z C G hW hS hl hZ)

theorem j_lload {me : jM} {pc : Nat} {ls st : List jV} {n : Nat} {h : Int → jE} {nc ns : Nat} {Q : Option jV → Nat → (Int → jE) → Prop} {i : Nat} {x : Int} (hd : decode me.2.2.1 pc = .ok (.lload i, 2)) (hl0 : ls[i]? = some (jL x)) (k : jJ me (pc + 2) ls (jL x :: st) n h nc ns Q) : jJ me (pc) ls (st) n h nc ns Q := by
  intro p l e s m args below meth c base b D cA H locs lsS Z C G hW hS hl hZ
  exact lv_lload C.1 C.2.1 hd (jl_at hl hl0 (fun z => by cases z)) (k p l e s m args below meth c base b D cA H locs lsS Z C G hW hS hl hZ)

theorem j_aload_n {me : jM} {pc : Nat} {ls st : List jV} {n : Nat} {h : Int → jE} {nc ns : Nat} {Q : Option jV → Nat → (Int → jE) → Prop} {i : Fin 4} {x : Int} (hd : decode me.2.2.1 pc = .ok (.aload_n i, 1)) (hl0 : ls[(i : Nat)]? = some (jR x)) (k : jJ me (pc + 1) ls (jR x :: st) n h nc ns Q) : jJ me (pc) ls (st) n h nc ns Q := by
  intro p l e s m args below meth c base b D cA H locs lsS Z C G hW hS hl hZ
  exact lv_aload_n C.1 C.2.1 hd rfl (jl_at hl hl0 (fun z => by cases z)) (k p l e s m args below meth c base b D cA H locs lsS Z C G hW hS hl hZ)

theorem j_aload {me : jM} {pc : Nat} {ls st : List jV} {n : Nat} {h : Int → jE} {nc ns : Nat} {Q : Option jV → Nat → (Int → jE) → Prop} {i : Nat} {x : Int} (hd : decode me.2.2.1 pc = .ok (.aload i, 2)) (hl0 : ls[i]? = some (jR x)) (k : jJ me (pc + 2) ls (jR x :: st) n h nc ns Q) : jJ me (pc) ls (st) n h nc ns Q := by
  intro p l e s m args below meth c base b D cA H locs lsS Z C G hW hS hl hZ
  exact lv_aload C.1 C.2.1 hd (jl_at hl hl0 (fun z => by cases z)) (k p l e s m args below meth c base b D cA H locs lsS Z C G hW hS hl hZ)

theorem j_istore_n {me : jM} {pc : Nat} {ls st : List jV} {n : Nat} {h : Int → jE} {nc ns : Nat} {Q : Option jV → Nat → (Int → jE) → Prop} {i : Fin 4} {x : Int} (ls' : List jV) (hd : decode me.2.2.1 pc = .ok (.istore_n i, 1)) (hi : decide ((i : Nat) < ls.length) && decide ((i : Nat) < me.2.2.2.1) && jok ls (i : Nat) = true) (hs : ls.set (i : Nat) (jI x) = ls') (k : jJ me (pc + 1) ls' st n h nc ns Q) : jJ me (pc) ls (jI x :: st) n h nc ns Q := by
  intro p l e s m args below meth c base b D cA H locs lsS Z C G hW hS hl hZ
  simp only [Bool.and_eq_true, decide_eq_true_eq] at hi
  subst hs
  exact lv_istore_n C.1 C.2.1 hd rfl hl hi.1.2 rfl (fun ls2 h2 => k p l e s m args below meth c base b D cA H locs ls2 Z C G hW hS (jl_set1 hi.1.1 hi.2 h2) hZ)

theorem j_istore {me : jM} {pc : Nat} {ls st : List jV} {n : Nat} {h : Int → jE} {nc ns : Nat} {Q : Option jV → Nat → (Int → jE) → Prop} {i : Nat} {x : Int} (ls' : List jV) (hd : decode me.2.2.1 pc = .ok (.istore i, 2)) (hi : decide (i < ls.length) && decide (i < me.2.2.2.1) && jok ls i = true) (hs : ls.set i (jI x) = ls') (k : jJ me (pc + 2) ls' st n h nc ns Q) : jJ me (pc) ls (jI x :: st) n h nc ns Q := by
  intro p l e s m args below meth c base b D cA H locs lsS Z C G hW hS hl hZ
  simp only [Bool.and_eq_true, decide_eq_true_eq] at hi
  subst hs
  exact lv_istore C.1 C.2.1 hd hl hi.1.2 rfl (fun ls2 h2 => k p l e s m args below meth c base b D cA H locs ls2 Z C G hW hS (jl_set1 hi.1.1 hi.2 h2) hZ)

theorem j_lstore_n {me : jM} {pc : Nat} {ls st : List jV} {n : Nat} {h : Int → jE} {nc ns : Nat} {Q : Option jV → Nat → (Int → jE) → Prop} {i : Fin 4} {x : Int} (ls' : List jV) (hd : decode me.2.2.1 pc = .ok (.lstore_n i, 1)) (hi : decide ((i : Nat) + 1 < ls.length) && decide ((i : Nat) + 1 < me.2.2.2.1) && jok ls (i : Nat) = true) (hs : (ls.set (i : Nat) (jL x)).set ((i : Nat) + 1) jU = ls') (k : jJ me (pc + 1) ls' st n h nc ns Q) : jJ me (pc) ls (jL x :: st) n h nc ns Q := by
  intro p l e s m args below meth c base b D cA H locs lsS Z C G hW hS hl hZ
  simp only [Bool.and_eq_true, decide_eq_true_eq] at hi
  subst hs
  exact lv_lstore_n C.1 C.2.1 hd rfl hl hi.1.2 rfl (fun ls2 h2 => k p l e s m args below meth c base b D cA H locs ls2 Z C G hW hS (jl_set2 hi.1.1 hi.2 h2) hZ)

theorem j_lstore {me : jM} {pc : Nat} {ls st : List jV} {n : Nat} {h : Int → jE} {nc ns : Nat} {Q : Option jV → Nat → (Int → jE) → Prop} {i : Nat} {x : Int} (ls' : List jV) (hd : decode me.2.2.1 pc = .ok (.lstore i, 2)) (hi : decide (i + 1 < ls.length) && decide (i + 1 < me.2.2.2.1) && jok ls i = true) (hs : (ls.set i (jL x)).set (i + 1) jU = ls') (k : jJ me (pc + 2) ls' st n h nc ns Q) : jJ me (pc) ls (jL x :: st) n h nc ns Q := by
  intro p l e s m args below meth c base b D cA H locs lsS Z C G hW hS hl hZ
  simp only [Bool.and_eq_true, decide_eq_true_eq] at hi
  subst hs
  exact lv_lstore C.1 C.2.1 hd hl hi.1.2 rfl (fun ls2 h2 => k p l e s m args below meth c base b D cA H locs ls2 Z C G hW hS (jl_set2 hi.1.1 hi.2 h2) hZ)

theorem j_astore_n {me : jM} {pc : Nat} {ls st : List jV} {n : Nat} {h : Int → jE} {nc ns : Nat} {Q : Option jV → Nat → (Int → jE) → Prop} {i : Fin 4} {x : Int} (ls' : List jV) (hd : decode me.2.2.1 pc = .ok (.astore_n i, 1)) (hi : decide ((i : Nat) < ls.length) && decide ((i : Nat) < me.2.2.2.1) && jok ls (i : Nat) = true) (hs : ls.set (i : Nat) (jR x) = ls') (k : jJ me (pc + 1) ls' st n h nc ns Q) : jJ me (pc) ls (jR x :: st) n h nc ns Q := by
  intro p l e s m args below meth c base b D cA H locs lsS Z C G hW hS hl hZ
  simp only [Bool.and_eq_true, decide_eq_true_eq] at hi
  subst hs
  exact lv_astore_n C.1 C.2.1 hd rfl hl hi.1.2 rfl (fun ls2 h2 => k p l e s m args below meth c base b D cA H locs ls2 Z C G hW hS (jl_set1 hi.1.1 hi.2 h2) hZ)

theorem j_astore {me : jM} {pc : Nat} {ls st : List jV} {n : Nat} {h : Int → jE} {nc ns : Nat} {Q : Option jV → Nat → (Int → jE) → Prop} {i : Nat} {x : Int} (ls' : List jV) (hd : decode me.2.2.1 pc = .ok (.astore i, 2)) (hi : decide (i < ls.length) && decide (i < me.2.2.2.1) && jok ls i = true) (hs : ls.set i (jR x) = ls') (k : jJ me (pc + 2) ls' st n h nc ns Q) : jJ me (pc) ls (jR x :: st) n h nc ns Q := by
  intro p l e s m args below meth c base b D cA H locs lsS Z C G hW hS hl hZ
  simp only [Bool.and_eq_true, decide_eq_true_eq] at hi
  subst hs
  exact lv_astore C.1 C.2.1 hd hl hi.1.2 rfl (fun ls2 h2 => k p l e s m args below meth c base b D cA H locs ls2 Z C G hW hS (jl_set1 hi.1.1 hi.2 h2) hZ)

theorem j_iinc {me : jM} {pc : Nat} {ls st : List jV} {n : Nat} {h : Int → jE} {nc ns : Nat} {Q : Option jV → Nat → (Int → jE) → Prop} {i : Nat} {d x : Int} (ls' : List jV) (hd : decode me.2.2.1 pc = .ok (.iinc i d, 3)) (hl0 : ls[i]? = some (jI x)) (hi : decide (i < ls.length) && decide (i < me.2.2.2.1) && jok ls i = true) (hs : ls.set i (jI (x + d)) = ls') (k : jJ me (pc + 3) ls' st n h nc ns Q) : jJ me (pc) ls (st) n h nc ns Q := by
  intro p l e s m args below meth c base b D cA H locs lsS Z C G hW hS hl hZ
  simp only [Bool.and_eq_true, decide_eq_true_eq] at hi
  subst hs
  obtain ⟨j, hj⟩ := List.getElem?_of_mem (jl_mem (base := base) (b := b) ls 0 i _ hl0 (fun z => by cases z))
  rw [Nat.zero_add] at hj
  refine lv_iinc (v := Int32.ofInt (x + d)) C.1 C.2.1 hd hl hj (by rw [Int32.ofInt_add]) hi.1.2 rfl (fun ls2 h2 => k p l e s m args below meth c base b D cA H locs ls2 Z C G hW hS (jl_set1 (v := jI (x + d)) hi.1.1 hi.2 h2) hZ)

theorem j_iadd {me : jM} {pc : Nat} {ls st : List jV} {n : Nat} {h : Int → jE} {nc ns : Nat} {Q : Option jV → Nat → (Int → jE) → Prop} {x y : Int} (hd : decode me.2.2.1 pc = .ok (.iadd, 1)) (k : jJ me (pc + 1) ls (jI (x + y) :: st) n h nc ns Q) : jJ me (pc) ls (jI y :: jI x :: st) n h nc ns Q := by
  intro p l e s m args below meth c base b D cA H locs lsS Z C G hW hS hl hZ
  refine lv_iadd C.1 C.2.1 hd ?_
  rw [← Int32.ofInt_add]
  exact k p l e s m args below meth c base b D cA H locs lsS Z C G hW hS hl hZ

theorem j_isub {me : jM} {pc : Nat} {ls st : List jV} {n : Nat} {h : Int → jE} {nc ns : Nat} {Q : Option jV → Nat → (Int → jE) → Prop} {x y : Int} (hd : decode me.2.2.1 pc = .ok (.isub, 1)) (k : jJ me (pc + 1) ls (jI (x - y) :: st) n h nc ns Q) : jJ me (pc) ls (jI y :: jI x :: st) n h nc ns Q := by
  intro p l e s m args below meth c base b D cA H locs lsS Z C G hW hS hl hZ
  refine lv_isub C.1 C.2.1 hd ?_
  rw [← Int32.ofInt_sub]
  exact k p l e s m args below meth c base b D cA H locs lsS Z C G hW hS hl hZ

theorem j_imul {me : jM} {pc : Nat} {ls st : List jV} {n : Nat} {h : Int → jE} {nc ns : Nat} {Q : Option jV → Nat → (Int → jE) → Prop} {x y : Int} (hd : decode me.2.2.1 pc = .ok (.imul, 1)) (k : jJ me (pc + 1) ls (jI (x * y) :: st) n h nc ns Q) : jJ me (pc) ls (jI y :: jI x :: st) n h nc ns Q := by
  intro p l e s m args below meth c base b D cA H locs lsS Z C G hW hS hl hZ
  refine lv_imul C.1 C.2.1 hd ?_
  rw [← Int32.ofInt_mul]
  exact k p l e s m args below meth c base b D cA H locs lsS Z C G hW hS hl hZ

theorem j_ladd {me : jM} {pc : Nat} {ls st : List jV} {n : Nat} {h : Int → jE} {nc ns : Nat} {Q : Option jV → Nat → (Int → jE) → Prop} {x y : Int} (hd : decode me.2.2.1 pc = .ok (.ladd, 1)) (k : jJ me (pc + 1) ls (jL (x + y) :: st) n h nc ns Q) : jJ me (pc) ls (jL y :: jL x :: st) n h nc ns Q := by
  intro p l e s m args below meth c base b D cA H locs lsS Z C G hW hS hl hZ
  refine lv_ladd C.1 C.2.1 hd ?_
  rw [← Int64.ofInt_add]
  exact k p l e s m args below meth c base b D cA H locs lsS Z C G hW hS hl hZ

theorem j_lsub {me : jM} {pc : Nat} {ls st : List jV} {n : Nat} {h : Int → jE} {nc ns : Nat} {Q : Option jV → Nat → (Int → jE) → Prop} {x y : Int} (hd : decode me.2.2.1 pc = .ok (.lsub, 1)) (k : jJ me (pc + 1) ls (jL (x - y) :: st) n h nc ns Q) : jJ me (pc) ls (jL y :: jL x :: st) n h nc ns Q := by
  intro p l e s m args below meth c base b D cA H locs lsS Z C G hW hS hl hZ
  refine lv_lsub C.1 C.2.1 hd ?_
  rw [← Int64.ofInt_sub]
  exact k p l e s m args below meth c base b D cA H locs lsS Z C G hW hS hl hZ

theorem j_lmul {me : jM} {pc : Nat} {ls st : List jV} {n : Nat} {h : Int → jE} {nc ns : Nat} {Q : Option jV → Nat → (Int → jE) → Prop} {x y : Int} (hd : decode me.2.2.1 pc = .ok (.lmul, 1)) (k : jJ me (pc + 1) ls (jL (x * y) :: st) n h nc ns Q) : jJ me (pc) ls (jL y :: jL x :: st) n h nc ns Q := by
  intro p l e s m args below meth c base b D cA H locs lsS Z C G hW hS hl hZ
  refine lv_lmul C.1 C.2.1 hd ?_
  rw [← Int64.ofInt_mul]
  exact k p l e s m args below meth c base b D cA H locs lsS Z C G hW hS hl hZ

theorem j_lneg {me : jM} {pc : Nat} {ls st : List jV} {n : Nat} {h : Int → jE} {nc ns : Nat} {Q : Option jV → Nat → (Int → jE) → Prop} {x : Int} (hd : decode me.2.2.1 pc = .ok (.lneg, 1)) (k : jJ me (pc + 1) ls (jL (-x) :: st) n h nc ns Q) : jJ me (pc) ls (jL x :: st) n h nc ns Q := by
  intro p l e s m args below meth c base b D cA H locs lsS Z C G hW hS hl hZ
  refine lv_lneg C.1 C.2.1 hd ?_
  rw [← Int64.ofInt_neg]
  exact k p l e s m args below meth c base b D cA H locs lsS Z C G hW hS hl hZ

theorem j_iand {me : jM} {pc : Nat} {ls st : List jV} {n : Nat} {h : Int → jE} {nc ns : Nat} {Q : Option jV → Nat → (Int → jE) → Prop} {x y : Int} (v : Int) (hd : decode me.2.2.1 pc = .ok (.iand, 1)) (hv : Int32.ofInt x &&& Int32.ofInt y = Int32.ofInt v) (k : jJ me (pc + 1) ls (jI v :: st) n h nc ns Q) : jJ me (pc) ls (jI y :: jI x :: st) n h nc ns Q := by
  intro p l e s m args below meth c base b D cA H locs lsS Z C G hW hS hl hZ
  refine lv_iand C.1 C.2.1 hd ?_
  rw [hv]
  exact k p l e s m args below meth c base b D cA H locs lsS Z C G hW hS hl hZ

theorem j_ior {me : jM} {pc : Nat} {ls st : List jV} {n : Nat} {h : Int → jE} {nc ns : Nat} {Q : Option jV → Nat → (Int → jE) → Prop} {x y : Int} (v : Int) (hd : decode me.2.2.1 pc = .ok (.ior, 1)) (hv : Int32.ofInt x ||| Int32.ofInt y = Int32.ofInt v) (k : jJ me (pc + 1) ls (jI v :: st) n h nc ns Q) : jJ me (pc) ls (jI y :: jI x :: st) n h nc ns Q := by
  intro p l e s m args below meth c base b D cA H locs lsS Z C G hW hS hl hZ
  refine lv_ior C.1 C.2.1 hd ?_
  rw [hv]
  exact k p l e s m args below meth c base b D cA H locs lsS Z C G hW hS hl hZ

theorem j_ixor {me : jM} {pc : Nat} {ls st : List jV} {n : Nat} {h : Int → jE} {nc ns : Nat} {Q : Option jV → Nat → (Int → jE) → Prop} {x y : Int} (v : Int) (hd : decode me.2.2.1 pc = .ok (.ixor, 1)) (hv : Int32.ofInt x ^^^ Int32.ofInt y = Int32.ofInt v) (k : jJ me (pc + 1) ls (jI v :: st) n h nc ns Q) : jJ me (pc) ls (jI y :: jI x :: st) n h nc ns Q := by
  intro p l e s m args below meth c base b D cA H locs lsS Z C G hW hS hl hZ
  refine lv_ixor C.1 C.2.1 hd ?_
  rw [hv]
  exact k p l e s m args below meth c base b D cA H locs lsS Z C G hW hS hl hZ

theorem j_ishl {me : jM} {pc : Nat} {ls st : List jV} {n : Nat} {h : Int → jE} {nc ns : Nat} {Q : Option jV → Nat → (Int → jE) → Prop} {x y : Int} (v : Int) (hd : decode me.2.2.1 pc = .ok (.ishl, 1)) (hv : Int32.ofInt x <<< (Int32.ofInt y &&& 31) = Int32.ofInt v) (k : jJ me (pc + 1) ls (jI v :: st) n h nc ns Q) : jJ me (pc) ls (jI y :: jI x :: st) n h nc ns Q := by
  intro p l e s m args below meth c base b D cA H locs lsS Z C G hW hS hl hZ
  refine lv_ishl C.1 C.2.1 hd ?_
  rw [hv]
  exact k p l e s m args below meth c base b D cA H locs lsS Z C G hW hS hl hZ

theorem j_ishr {me : jM} {pc : Nat} {ls st : List jV} {n : Nat} {h : Int → jE} {nc ns : Nat} {Q : Option jV → Nat → (Int → jE) → Prop} {x y : Int} (v : Int) (hd : decode me.2.2.1 pc = .ok (.ishr, 1)) (hv : Int32.ofInt x >>> (Int32.ofInt y &&& 31) = Int32.ofInt v) (k : jJ me (pc + 1) ls (jI v :: st) n h nc ns Q) : jJ me (pc) ls (jI y :: jI x :: st) n h nc ns Q := by
  intro p l e s m args below meth c base b D cA H locs lsS Z C G hW hS hl hZ
  refine lv_ishr C.1 C.2.1 hd ?_
  rw [hv]
  exact k p l e s m args below meth c base b D cA H locs lsS Z C G hW hS hl hZ

theorem j_land {me : jM} {pc : Nat} {ls st : List jV} {n : Nat} {h : Int → jE} {nc ns : Nat} {Q : Option jV → Nat → (Int → jE) → Prop} {x y : Int} (v : Int) (hd : decode me.2.2.1 pc = .ok (.land, 1)) (hv : Int64.ofInt x &&& Int64.ofInt y = Int64.ofInt v) (k : jJ me (pc + 1) ls (jL v :: st) n h nc ns Q) : jJ me (pc) ls (jL y :: jL x :: st) n h nc ns Q := by
  intro p l e s m args below meth c base b D cA H locs lsS Z C G hW hS hl hZ
  refine lv_land C.1 C.2.1 hd ?_
  rw [hv]
  exact k p l e s m args below meth c base b D cA H locs lsS Z C G hW hS hl hZ

theorem j_lor {me : jM} {pc : Nat} {ls st : List jV} {n : Nat} {h : Int → jE} {nc ns : Nat} {Q : Option jV → Nat → (Int → jE) → Prop} {x y : Int} (v : Int) (hd : decode me.2.2.1 pc = .ok (.lor, 1)) (hv : Int64.ofInt x ||| Int64.ofInt y = Int64.ofInt v) (k : jJ me (pc + 1) ls (jL v :: st) n h nc ns Q) : jJ me (pc) ls (jL y :: jL x :: st) n h nc ns Q := by
  intro p l e s m args below meth c base b D cA H locs lsS Z C G hW hS hl hZ
  refine lv_lor C.1 C.2.1 hd ?_
  rw [hv]
  exact k p l e s m args below meth c base b D cA H locs lsS Z C G hW hS hl hZ

theorem j_iushr {me : jM} {pc : Nat} {ls st : List jV} {n : Nat} {h : Int → jE} {nc ns : Nat} {Q : Option jV → Nat → (Int → jE) → Prop} {x y : Int} (v : Int) (hd : decode me.2.2.1 pc = .ok (.iushr, 1)) (hv : ((Int32.ofInt x).toUInt32 >>> ((Int32.ofInt y).toUInt32 &&& Int32.toUInt32 31)).toInt32 = Int32.ofInt v) (k : jJ me (pc + 1) ls (jI v :: st) n h nc ns Q) : jJ me (pc) ls (jI y :: jI x :: st) n h nc ns Q := by
  intro p l e s m args below meth c base b D cA H locs lsS Z C G hW hS hl hZ
  exact lv_iushr C.1 C.2.1 hd hv (k p l e s m args below meth c base b D cA H locs lsS Z C G hW hS hl hZ)

theorem j_lshl {me : jM} {pc : Nat} {ls st : List jV} {n : Nat} {h : Int → jE} {nc ns : Nat} {Q : Option jV → Nat → (Int → jE) → Prop} {x y : Int} (v : Int) (hd : decode me.2.2.1 pc = .ok (.lshl, 1)) (hv : Int64.ofInt x <<< ((Int32.ofInt y).toInt64 &&& 63) = Int64.ofInt v) (k : jJ me (pc + 1) ls (jL v :: st) n h nc ns Q) : jJ me (pc) ls (jI y :: jL x :: st) n h nc ns Q := by
  intro p l e s m args below meth c base b D cA H locs lsS Z C G hW hS hl hZ
  exact lv_lshl C.1 C.2.1 hd hv (k p l e s m args below meth c base b D cA H locs lsS Z C G hW hS hl hZ)

theorem j_lshr {me : jM} {pc : Nat} {ls st : List jV} {n : Nat} {h : Int → jE} {nc ns : Nat} {Q : Option jV → Nat → (Int → jE) → Prop} {x y : Int} (v : Int) (hd : decode me.2.2.1 pc = .ok (.lshr, 1)) (hv : Int64.ofInt x >>> ((Int32.ofInt y).toInt64 &&& 63) = Int64.ofInt v) (k : jJ me (pc + 1) ls (jL v :: st) n h nc ns Q) : jJ me (pc) ls (jI y :: jL x :: st) n h nc ns Q := by
  intro p l e s m args below meth c base b D cA H locs lsS Z C G hW hS hl hZ
  exact lv_lshr C.1 C.2.1 hd hv (k p l e s m args below meth c base b D cA H locs lsS Z C G hW hS hl hZ)

theorem jn0_32 {y : Int} (h0 : 0 < y) (h : jr32 y) : ¬ Int32.ofInt y = 0 := fun q => by
  have : Int32.ofInt y = Int32.ofInt 0 := q
  rw [j32_eq h jr32_0] at this
  omega
theorem jn0_64 {y : Int} (h0 : 0 < y) (h : jr64 y) : ¬ Int64.ofInt y = 0 := fun q => by
  have : Int64.ofInt y = Int64.ofInt 0 := q
  rw [j64_eq h ⟨by omega, by omega⟩] at this
  omega
theorem jdiv32 {x y : Int} (hx : 0 ≤ x ∧ x ≤ 2147483647) (hy : 0 < y ∧ y ≤ 2147483647) : Int32.ofInt x / Int32.ofInt y = Int32.ofInt (x / y) := by
  rw [← Int.tdiv_eq_ediv_of_nonneg hx.1, Int32.ofInt_tdiv (by rw [show Int32.minValue.toInt = -2147483648 from rfl]; omega) (by rw [show Int32.maxValue.toInt = 2147483647 from rfl]; omega) (by rw [show Int32.minValue.toInt = -2147483648 from rfl]; omega) (by rw [show Int32.maxValue.toInt = 2147483647 from rfl]; omega)]
theorem jdiv64 {x y : Int} (hx : 0 ≤ x ∧ x ≤ 9223372036854775807) (hy : 0 < y ∧ y ≤ 9223372036854775807) : Int64.ofInt x / Int64.ofInt y = Int64.ofInt (x / y) := by
  rw [← Int.tdiv_eq_ediv_of_nonneg hx.1, Int64.ofInt_tdiv (by rw [show Int64.minValue.toInt = -9223372036854775808 from rfl]; omega) (by rw [show Int64.maxValue.toInt = 9223372036854775807 from rfl]; omega) (by rw [show Int64.minValue.toInt = -9223372036854775808 from rfl]; omega) (by rw [show Int64.maxValue.toInt = 9223372036854775807 from rfl]; omega)]
theorem jmod_e (x y : Int) : x - x / y * y = x % y := by rw [Int.emod_def, Int.mul_comm]

theorem j_idiv {me : jM} {pc : Nat} {ls st : List jV} {n : Nat} {h : Int → jE} {nc ns : Nat} {Q : Option jV → Nat → (Int → jE) → Prop} {x y : Int} (hd : decode me.2.2.1 pc = .ok (.idiv, 1)) (hxy : (0 ≤ x ∧ x ≤ 2147483647) ∧ (0 < y ∧ y ≤ 2147483647)) (k : jJ me (pc + 1) ls (jI (x / y) :: st) n h nc ns Q) : jJ me (pc) ls (jI y :: jI x :: st) n h nc ns Q := by
  intro p l e s m args below meth c base b D cA H locs lsS Z C G hW hS hl hZ
  refine lv_idiv C.1 C.2.1 hd (jn0_32 hxy.2.1 ⟨by have := hxy.2.1; omega, hxy.2.2⟩) ?_
  rw [jdiv32 hxy.1 hxy.2]
  exact k p l e s m args below meth c base b D cA H locs lsS Z C G hW hS hl hZ

theorem j_irem {me : jM} {pc : Nat} {ls st : List jV} {n : Nat} {h : Int → jE} {nc ns : Nat} {Q : Option jV → Nat → (Int → jE) → Prop} {x y : Int} (hd : decode me.2.2.1 pc = .ok (.irem, 1)) (hxy : (0 ≤ x ∧ x ≤ 2147483647) ∧ (0 < y ∧ y ≤ 2147483647)) (k : jJ me (pc + 1) ls (jI (x % y) :: st) n h nc ns Q) : jJ me (pc) ls (jI y :: jI x :: st) n h nc ns Q := by
  intro p l e s m args below meth c base b D cA H locs lsS Z C G hW hS hl hZ
  refine lv_irem C.1 C.2.1 hd (jn0_32 hxy.2.1 ⟨by have := hxy.2.1; omega, hxy.2.2⟩) ?_
  rw [jdiv32 hxy.1 hxy.2, ← Int32.ofInt_mul, ← Int32.ofInt_sub, jmod_e]
  exact k p l e s m args below meth c base b D cA H locs lsS Z C G hW hS hl hZ

theorem j_ldiv {me : jM} {pc : Nat} {ls st : List jV} {n : Nat} {h : Int → jE} {nc ns : Nat} {Q : Option jV → Nat → (Int → jE) → Prop} {x y : Int} (hd : decode me.2.2.1 pc = .ok (.ldiv, 1)) (hxy : (0 ≤ x ∧ x ≤ 9223372036854775807) ∧ (0 < y ∧ y ≤ 9223372036854775807)) (k : jJ me (pc + 1) ls (jL (x / y) :: st) n h nc ns Q) : jJ me (pc) ls (jL y :: jL x :: st) n h nc ns Q := by
  intro p l e s m args below meth c base b D cA H locs lsS Z C G hW hS hl hZ
  refine lv_ldiv C.1 C.2.1 hd (jn0_64 hxy.2.1 ⟨by have := hxy.2.1; omega, hxy.2.2⟩) ?_
  rw [jdiv64 hxy.1 hxy.2]
  exact k p l e s m args below meth c base b D cA H locs lsS Z C G hW hS hl hZ

theorem j_lrem {me : jM} {pc : Nat} {ls st : List jV} {n : Nat} {h : Int → jE} {nc ns : Nat} {Q : Option jV → Nat → (Int → jE) → Prop} {x y : Int} (hd : decode me.2.2.1 pc = .ok (.lrem, 1)) (hxy : (0 ≤ x ∧ x ≤ 9223372036854775807) ∧ (0 < y ∧ y ≤ 9223372036854775807)) (k : jJ me (pc + 1) ls (jL (x % y) :: st) n h nc ns Q) : jJ me (pc) ls (jL y :: jL x :: st) n h nc ns Q := by
  intro p l e s m args below meth c base b D cA H locs lsS Z C G hW hS hl hZ
  refine lv_lrem C.1 C.2.1 hd (jn0_64 hxy.2.1 ⟨by have := hxy.2.1; omega, hxy.2.2⟩) ?_
  rw [jdiv64 hxy.1 hxy.2, ← Int64.ofInt_mul, ← Int64.ofInt_sub, jmod_e]
  exact k p l e s m args below meth c base b D cA H locs lsS Z C G hW hS hl hZ

theorem j_i2lE {x : Int} (h : jr32 x) : (Int32.ofInt x).toInt64 = Int64.ofInt x := by rw [← Int64.toInt_inj, Int32.toInt_toInt64, j32T h, j64T ⟨by have := h.1; omega, by have := h.2; omega⟩]
theorem j_l2iE (x : Int) : (Int64.ofInt x).toInt32 = Int32.ofInt x := Int64.toInt32_ofInt

theorem j_i2l {me : jM} {pc : Nat} {ls st : List jV} {n : Nat} {h : Int → jE} {nc ns : Nat} {Q : Option jV → Nat → (Int → jE) → Prop} {x : Int} (hd : decode me.2.2.1 pc = .ok (.i2l, 1)) (hx : jr32 x) (k : jJ me (pc + 1) ls (jL x :: st) n h nc ns Q) : jJ me (pc) ls (jI x :: st) n h nc ns Q := by
  intro p l e s m args below meth c base b D cA H locs lsS Z C G hW hS hl hZ
  exact lv_i2l C.1 C.2.1 hd (j_i2lE hx) (k p l e s m args below meth c base b D cA H locs lsS Z C G hW hS hl hZ)

theorem j_l2i {me : jM} {pc : Nat} {ls st : List jV} {n : Nat} {h : Int → jE} {nc ns : Nat} {Q : Option jV → Nat → (Int → jE) → Prop} {x : Int} (hd : decode me.2.2.1 pc = .ok (.l2i, 1)) (k : jJ me (pc + 1) ls (jI x :: st) n h nc ns Q) : jJ me (pc) ls (jL x :: st) n h nc ns Q := by
  intro p l e s m args below meth c base b D cA H locs lsS Z C G hW hS hl hZ
  exact lv_l2i C.1 C.2.1 hd (j_l2iE x) (k p l e s m args below meth c base b D cA H locs lsS Z C G hW hS hl hZ)

theorem jcat1 {base b : Nat} {v : jV} (h : match v with | .inr (.inl _) => False | _ => True) : (jvv base b v).category = 1 := by
  obtain x | x | x | x := v
  · rfl
  · exact h.elim
  · cases x <;> rfl
  · rfl
def jc1 (v : jV) : Bool := match v with | .inr (.inl _) => false | _ => true
theorem jc1_cat {base b : Nat} {v : jV} (h : jc1 v = true) : (jvv base b v).category = 1 := by
  obtain x | x | x | x := v
  · rfl
  · cases h
  · cases x <;> rfl
  · rfl

theorem j_dup {me : jM} {pc : Nat} {ls st : List jV} {n : Nat} {h : Int → jE} {nc ns : Nat} {Q : Option jV → Nat → (Int → jE) → Prop} {v : jV} (hd : decode me.2.2.1 pc = .ok (.dup, 1)) (hv : jc1 v = true) (k : jJ me (pc + 1) ls (v :: v :: st) n h nc ns Q) : jJ me (pc) ls (v :: st) n h nc ns Q := by
  intro p l e s m args below meth c base b D cA H locs lsS Z C G hW hS hl hZ
  exact lv_dup C.1 C.2.1 hd (jc1_cat hv) (k p l e s m args below meth c base b D cA H locs lsS Z C G hW hS hl hZ)

theorem j_dup_x1 {me : jM} {pc : Nat} {ls st : List jV} {n : Nat} {h : Int → jE} {nc ns : Nat} {Q : Option jV → Nat → (Int → jE) → Prop} {v w : jV} (hd : decode me.2.2.1 pc = .ok (.dup_x1, 1)) (hv : (jc1 v && jc1 w) = true) (k : jJ me (pc + 1) ls (v :: w :: v :: st) n h nc ns Q) : jJ me (pc) ls (v :: w :: st) n h nc ns Q := by
  intro p l e s m args below meth c base b D cA H locs lsS Z C G hW hS hl hZ
  rw [Bool.and_eq_true] at hv
  exact lv_dup_x1 C.1 C.2.1 hd (jc1_cat hv.1) (jc1_cat hv.2) (k p l e s m args below meth c base b D cA H locs lsS Z C G hW hS hl hZ)

theorem j_dup2 {me : jM} {pc : Nat} {ls st : List jV} {n : Nat} {h : Int → jE} {nc ns : Nat} {Q : Option jV → Nat → (Int → jE) → Prop} {v w : jV} (hd : decode me.2.2.1 pc = .ok (.dup2, 1)) (hv : (jc1 v && jc1 w) = true) (k : jJ me (pc + 1) ls (v :: w :: v :: w :: st) n h nc ns Q) : jJ me (pc) ls (v :: w :: st) n h nc ns Q := by
  intro p l e s m args below meth c base b D cA H locs lsS Z C G hW hS hl hZ
  rw [Bool.and_eq_true] at hv
  exact lv_dup2_11 C.1 C.2.1 hd (jc1_cat hv.1) (jc1_cat hv.2) (k p l e s m args below meth c base b D cA H locs lsS Z C G hW hS hl hZ)

theorem j_icmp_eq {me : jM} {pc : Nat} {ls st : List jV} {n : Nat} {h : Int → jE} {nc ns : Nat} {Q : Option jV → Nat → (Int → jE) → Prop} {x y off : Int} (tgt : Nat) (hd : decode me.2.2.1 pc = .ok (.if_icmp .eq off, 3)) (ht : (pc : Int) + off = (tgt : Int)) (hx : jr32 x) (hy : jr32 y) (kt : x = y → jJ me tgt ls st n h nc ns Q) (kf : ¬ (x = y) → jJ me (pc + 3) ls st n h nc ns Q) : jJ me (pc) ls (jI y :: jI x :: st) n h nc ns Q := by
  intro p l e s m args below meth c base b D cA H locs lsS Z C G hW hS hl hZ
  exact lv_icmp_eq C.1 C.2.1 hd ht (fun q => kt ((j32_eq hx hy).mp q) p l e s m args below meth c base b D cA H locs lsS Z C G hW hS hl hZ) (fun q => kf (fun q2 => q ((j32_eq hx hy).mpr q2)) p l e s m args below meth c base b D cA H locs lsS Z C G hW hS hl hZ)

theorem j_icmp_ne {me : jM} {pc : Nat} {ls st : List jV} {n : Nat} {h : Int → jE} {nc ns : Nat} {Q : Option jV → Nat → (Int → jE) → Prop} {x y off : Int} (tgt : Nat) (hd : decode me.2.2.1 pc = .ok (.if_icmp .ne off, 3)) (ht : (pc : Int) + off = (tgt : Int)) (hx : jr32 x) (hy : jr32 y) (kt : x ≠ y → jJ me tgt ls st n h nc ns Q) (kf : x = y → jJ me (pc + 3) ls st n h nc ns Q) : jJ me (pc) ls (jI y :: jI x :: st) n h nc ns Q := by
  intro p l e s m args below meth c base b D cA H locs lsS Z C G hW hS hl hZ
  exact lv_icmp_ne C.1 C.2.1 hd ht (fun q => kt (fun q2 => q ((j32_eq hx hy).mpr q2)) p l e s m args below meth c base b D cA H locs lsS Z C G hW hS hl hZ) (fun q => kf ((j32_eq hx hy).mp q) p l e s m args below meth c base b D cA H locs lsS Z C G hW hS hl hZ)

theorem j_icmp_lt {me : jM} {pc : Nat} {ls st : List jV} {n : Nat} {h : Int → jE} {nc ns : Nat} {Q : Option jV → Nat → (Int → jE) → Prop} {x y off : Int} (tgt : Nat) (hd : decode me.2.2.1 pc = .ok (.if_icmp .lt off, 3)) (ht : (pc : Int) + off = (tgt : Int)) (hx : jr32 x) (hy : jr32 y) (kt : x < y → jJ me tgt ls st n h nc ns Q) (kf : ¬ (x < y) → jJ me (pc + 3) ls st n h nc ns Q) : jJ me (pc) ls (jI y :: jI x :: st) n h nc ns Q := by
  intro p l e s m args below meth c base b D cA H locs lsS Z C G hW hS hl hZ
  exact lv_icmp_lt C.1 C.2.1 hd ht (fun q => kt ((j32_lt hx hy).mp q) p l e s m args below meth c base b D cA H locs lsS Z C G hW hS hl hZ) (fun q => kf (fun q2 => q ((j32_lt hx hy).mpr q2)) p l e s m args below meth c base b D cA H locs lsS Z C G hW hS hl hZ)

theorem j_icmp_ge {me : jM} {pc : Nat} {ls st : List jV} {n : Nat} {h : Int → jE} {nc ns : Nat} {Q : Option jV → Nat → (Int → jE) → Prop} {x y off : Int} (tgt : Nat) (hd : decode me.2.2.1 pc = .ok (.if_icmp .ge off, 3)) (ht : (pc : Int) + off = (tgt : Int)) (hx : jr32 x) (hy : jr32 y) (kt : y ≤ x → jJ me tgt ls st n h nc ns Q) (kf : ¬ (y ≤ x) → jJ me (pc + 3) ls st n h nc ns Q) : jJ me (pc) ls (jI y :: jI x :: st) n h nc ns Q := by
  intro p l e s m args below meth c base b D cA H locs lsS Z C G hW hS hl hZ
  exact lv_icmp_ge C.1 C.2.1 hd ht (fun q => kt ((j32_le hy hx).mp q) p l e s m args below meth c base b D cA H locs lsS Z C G hW hS hl hZ) (fun q => kf (fun q2 => q ((j32_le hy hx).mpr q2)) p l e s m args below meth c base b D cA H locs lsS Z C G hW hS hl hZ)

theorem j_icmp_gt {me : jM} {pc : Nat} {ls st : List jV} {n : Nat} {h : Int → jE} {nc ns : Nat} {Q : Option jV → Nat → (Int → jE) → Prop} {x y off : Int} (tgt : Nat) (hd : decode me.2.2.1 pc = .ok (.if_icmp .gt off, 3)) (ht : (pc : Int) + off = (tgt : Int)) (hx : jr32 x) (hy : jr32 y) (kt : y < x → jJ me tgt ls st n h nc ns Q) (kf : ¬ (y < x) → jJ me (pc + 3) ls st n h nc ns Q) : jJ me (pc) ls (jI y :: jI x :: st) n h nc ns Q := by
  intro p l e s m args below meth c base b D cA H locs lsS Z C G hW hS hl hZ
  exact lv_icmp_gt C.1 C.2.1 hd ht (fun q => kt ((j32_lt hy hx).mp q) p l e s m args below meth c base b D cA H locs lsS Z C G hW hS hl hZ) (fun q => kf (fun q2 => q ((j32_lt hy hx).mpr q2)) p l e s m args below meth c base b D cA H locs lsS Z C G hW hS hl hZ)

theorem j_icmp_le {me : jM} {pc : Nat} {ls st : List jV} {n : Nat} {h : Int → jE} {nc ns : Nat} {Q : Option jV → Nat → (Int → jE) → Prop} {x y off : Int} (tgt : Nat) (hd : decode me.2.2.1 pc = .ok (.if_icmp .le off, 3)) (ht : (pc : Int) + off = (tgt : Int)) (hx : jr32 x) (hy : jr32 y) (kt : x ≤ y → jJ me tgt ls st n h nc ns Q) (kf : ¬ (x ≤ y) → jJ me (pc + 3) ls st n h nc ns Q) : jJ me (pc) ls (jI y :: jI x :: st) n h nc ns Q := by
  intro p l e s m args below meth c base b D cA H locs lsS Z C G hW hS hl hZ
  exact lv_icmp_le C.1 C.2.1 hd ht (fun q => kt ((j32_le hx hy).mp q) p l e s m args below meth c base b D cA H locs lsS Z C G hW hS hl hZ) (fun q => kf (fun q2 => q ((j32_le hx hy).mpr q2)) p l e s m args below meth c base b D cA H locs lsS Z C G hW hS hl hZ)

theorem j_if_eq {me : jM} {pc : Nat} {ls st : List jV} {n : Nat} {h : Int → jE} {nc ns : Nat} {Q : Option jV → Nat → (Int → jE) → Prop} {x off : Int} (tgt : Nat) (hd : decode me.2.2.1 pc = .ok (.ifCond .eq off, 3)) (ht : (pc : Int) + off = (tgt : Int)) (hx : jr32 x) (kt : x = 0 → jJ me tgt ls st n h nc ns Q) (kf : ¬ (x = 0) → jJ me (pc + 3) ls st n h nc ns Q) : jJ me (pc) ls (jI x :: st) n h nc ns Q := by
  intro p l e s m args below meth c base b D cA H locs lsS Z C G hW hS hl hZ
  exact lv_if_eq C.1 C.2.1 hd ht (fun q => kt ((j32_eq hx jr32_0).mp q) p l e s m args below meth c base b D cA H locs lsS Z C G hW hS hl hZ) (fun q => kf (fun q2 => q ((j32_eq hx jr32_0).mpr q2)) p l e s m args below meth c base b D cA H locs lsS Z C G hW hS hl hZ)

theorem j_if_ne {me : jM} {pc : Nat} {ls st : List jV} {n : Nat} {h : Int → jE} {nc ns : Nat} {Q : Option jV → Nat → (Int → jE) → Prop} {x off : Int} (tgt : Nat) (hd : decode me.2.2.1 pc = .ok (.ifCond .ne off, 3)) (ht : (pc : Int) + off = (tgt : Int)) (hx : jr32 x) (kt : x ≠ 0 → jJ me tgt ls st n h nc ns Q) (kf : x = 0 → jJ me (pc + 3) ls st n h nc ns Q) : jJ me (pc) ls (jI x :: st) n h nc ns Q := by
  intro p l e s m args below meth c base b D cA H locs lsS Z C G hW hS hl hZ
  exact lv_if_ne C.1 C.2.1 hd ht (fun q => kt (fun q2 => q ((j32_eq hx jr32_0).mpr q2)) p l e s m args below meth c base b D cA H locs lsS Z C G hW hS hl hZ) (fun q => kf ((j32_eq hx jr32_0).mp q) p l e s m args below meth c base b D cA H locs lsS Z C G hW hS hl hZ)

theorem j_if_lt {me : jM} {pc : Nat} {ls st : List jV} {n : Nat} {h : Int → jE} {nc ns : Nat} {Q : Option jV → Nat → (Int → jE) → Prop} {x off : Int} (tgt : Nat) (hd : decode me.2.2.1 pc = .ok (.ifCond .lt off, 3)) (ht : (pc : Int) + off = (tgt : Int)) (hx : jr32 x) (kt : x < 0 → jJ me tgt ls st n h nc ns Q) (kf : ¬ (x < 0) → jJ me (pc + 3) ls st n h nc ns Q) : jJ me (pc) ls (jI x :: st) n h nc ns Q := by
  intro p l e s m args below meth c base b D cA H locs lsS Z C G hW hS hl hZ
  exact lv_if_lt C.1 C.2.1 hd ht (fun q => kt ((j32_lt hx jr32_0).mp q) p l e s m args below meth c base b D cA H locs lsS Z C G hW hS hl hZ) (fun q => kf (fun q2 => q ((j32_lt hx jr32_0).mpr q2)) p l e s m args below meth c base b D cA H locs lsS Z C G hW hS hl hZ)

theorem j_if_ge {me : jM} {pc : Nat} {ls st : List jV} {n : Nat} {h : Int → jE} {nc ns : Nat} {Q : Option jV → Nat → (Int → jE) → Prop} {x off : Int} (tgt : Nat) (hd : decode me.2.2.1 pc = .ok (.ifCond .ge off, 3)) (ht : (pc : Int) + off = (tgt : Int)) (hx : jr32 x) (kt : 0 ≤ x → jJ me tgt ls st n h nc ns Q) (kf : ¬ (0 ≤ x) → jJ me (pc + 3) ls st n h nc ns Q) : jJ me (pc) ls (jI x :: st) n h nc ns Q := by
  intro p l e s m args below meth c base b D cA H locs lsS Z C G hW hS hl hZ
  exact lv_if_ge C.1 C.2.1 hd ht (fun q => kt ((j32_le jr32_0 hx).mp q) p l e s m args below meth c base b D cA H locs lsS Z C G hW hS hl hZ) (fun q => kf (fun q2 => q ((j32_le jr32_0 hx).mpr q2)) p l e s m args below meth c base b D cA H locs lsS Z C G hW hS hl hZ)

theorem j_if_gt {me : jM} {pc : Nat} {ls st : List jV} {n : Nat} {h : Int → jE} {nc ns : Nat} {Q : Option jV → Nat → (Int → jE) → Prop} {x off : Int} (tgt : Nat) (hd : decode me.2.2.1 pc = .ok (.ifCond .gt off, 3)) (ht : (pc : Int) + off = (tgt : Int)) (hx : jr32 x) (kt : 0 < x → jJ me tgt ls st n h nc ns Q) (kf : ¬ (0 < x) → jJ me (pc + 3) ls st n h nc ns Q) : jJ me (pc) ls (jI x :: st) n h nc ns Q := by
  intro p l e s m args below meth c base b D cA H locs lsS Z C G hW hS hl hZ
  exact lv_if_gt C.1 C.2.1 hd ht (fun q => kt ((j32_lt jr32_0 hx).mp q) p l e s m args below meth c base b D cA H locs lsS Z C G hW hS hl hZ) (fun q => kf (fun q2 => q ((j32_lt jr32_0 hx).mpr q2)) p l e s m args below meth c base b D cA H locs lsS Z C G hW hS hl hZ)

theorem j_if_le {me : jM} {pc : Nat} {ls st : List jV} {n : Nat} {h : Int → jE} {nc ns : Nat} {Q : Option jV → Nat → (Int → jE) → Prop} {x off : Int} (tgt : Nat) (hd : decode me.2.2.1 pc = .ok (.ifCond .le off, 3)) (ht : (pc : Int) + off = (tgt : Int)) (hx : jr32 x) (kt : x ≤ 0 → jJ me tgt ls st n h nc ns Q) (kf : ¬ (x ≤ 0) → jJ me (pc + 3) ls st n h nc ns Q) : jJ me (pc) ls (jI x :: st) n h nc ns Q := by
  intro p l e s m args below meth c base b D cA H locs lsS Z C G hW hS hl hZ
  exact lv_if_le C.1 C.2.1 hd ht (fun q => kt ((j32_le hx jr32_0).mp q) p l e s m args below meth c base b D cA H locs lsS Z C G hW hS hl hZ) (fun q => kf (fun q2 => q ((j32_le hx jr32_0).mpr q2)) p l e s m args below meth c base b D cA H locs lsS Z C G hW hS hl hZ)

theorem j_goto {me : jM} {pc : Nat} {ls st : List jV} {n : Nat} {h : Int → jE} {nc ns : Nat} {Q : Option jV → Nat → (Int → jE) → Prop} {off : Int} (tgt : Nat) (hd : decode me.2.2.1 pc = .ok (.goto off, 3)) (ht : (pc : Int) + off = (tgt : Int)) (k : jJ me tgt ls st n h nc ns Q) : jJ me pc ls st n h nc ns Q := by
  intro p l e s m args below meth c base b D cA H locs lsS Z C G hW hS hl hZ
  exact lv_goto C.1 C.2.1 hd ht (k p l e s m args below meth c base b D cA H locs lsS Z C G hW hS hl hZ)

def jcmp (x y : Int) : Int := if y < x then 1 else if x = y then 0 else -1
theorem jcmpE {x y : Int} (hx : jr64 x) (hy : jr64 y) : lg_cmp (Int64.ofInt x) (Int64.ofInt y) = Int32.ofInt (jcmp x y) := by
  unfold lg_cmp jcmp
  simp only [GT.gt, j64_lt hy hx, j64_eq hx hy]
  split
  · rfl
  · split <;> rfl
theorem jcmp_lt {x y : Int} : jcmp x y < 0 ↔ x < y := by unfold jcmp; split <;> (try split) <;> omega
theorem jcmp_gt {x y : Int} : 0 < jcmp x y ↔ y < x := by unfold jcmp; split <;> (try split) <;> omega
theorem jcmp_le {x y : Int} : jcmp x y ≤ 0 ↔ x ≤ y := by unfold jcmp; split <;> (try split) <;> omega
theorem jcmp_ge {x y : Int} : 0 ≤ jcmp x y ↔ y ≤ x := by unfold jcmp; split <;> (try split) <;> omega
theorem jcmp_eq {x y : Int} : jcmp x y = 0 ↔ x = y := by unfold jcmp; split <;> (try split) <;> omega
theorem jcmp_32 (x y : Int) : jr32 (jcmp x y) := by unfold jcmp jr32; split <;> (try split) <;> omega

theorem j_lcmp {me : jM} {pc : Nat} {ls st : List jV} {n : Nat} {h : Int → jE} {nc ns : Nat} {Q : Option jV → Nat → (Int → jE) → Prop} {x y : Int} (hd : decode me.2.2.1 pc = .ok (.lcmp, 1)) (hx : jr64 x) (hy : jr64 y) (k : jJ me (pc + 1) ls (jI (jcmp x y) :: st) n h nc ns Q) : jJ me (pc) ls (jL y :: jL x :: st) n h nc ns Q := by
  intro p l e s m args below meth c base b D cA H locs lsS Z C G hW hS hl hZ
  refine W.lcmp C.1 C.2.1 hd ?_
  rw [jcmpE hx hy]
  exact k p l e s m args below meth c base b D cA H locs lsS Z C G hW hS hl hZ

theorem j_lcmp_same {me : jM} {pc : Nat} {ls st : List jV} {n : Nat} {h : Int → jE} {nc ns : Nat} {Q : Option jV → Nat → (Int → jE) → Prop} {x y : Int} (hd : decode me.2.2.1 pc = .ok (.lcmp, 1)) (hxy : x = y) (k : jJ me (pc + 1) ls (jI 0 :: st) n h nc ns Q) : jJ me (pc) ls (jL y :: jL x :: st) n h nc ns Q := by
  intro p l e s m args below meth c base b D cA H locs lsS Z C G hW hS hl hZ
  subst hxy
  refine W.lcmp C.1 C.2.1 hd ?_
  rw [show lg_cmp (Int64.ofInt x) (Int64.ofInt x) = Int32.ofInt 0 by simp [lg_cmp]]
  exact k p l e s m args below meth c base b D cA H locs lsS Z C G hW hS hl hZ

theorem j_lcmp_if_lt {me : jM} {pc : Nat} {ls st : List jV} {n : Nat} {h : Int → jE} {nc ns : Nat} {Q : Option jV → Nat → (Int → jE) → Prop} {x y off : Int} (tgt : Nat) (hd : decode me.2.2.1 pc = .ok (.lcmp, 1)) (hd2 : decode me.2.2.1 (pc + 1) = .ok (.ifCond .lt off, 3)) (ht : ((pc + 1 : Nat) : Int) + off = (tgt : Int)) (hx : jr64 x) (hy : jr64 y) (kt : x < y → jJ me tgt ls st n h nc ns Q) (kf : ¬ (x < y) → jJ me (pc + 4) ls st n h nc ns Q) : jJ me (pc) ls (jL y :: jL x :: st) n h nc ns Q :=
  j_lcmp hd hx hy (j_if_lt tgt hd2 ht (jcmp_32 x y) (fun q => kt (jcmp_lt.mp q)) (fun q => kf (fun q2 => q (jcmp_lt.mpr q2))))
theorem j_lcmp_if_gt {me : jM} {pc : Nat} {ls st : List jV} {n : Nat} {h : Int → jE} {nc ns : Nat} {Q : Option jV → Nat → (Int → jE) → Prop} {x y off : Int} (tgt : Nat) (hd : decode me.2.2.1 pc = .ok (.lcmp, 1)) (hd2 : decode me.2.2.1 (pc + 1) = .ok (.ifCond .gt off, 3)) (ht : ((pc + 1 : Nat) : Int) + off = (tgt : Int)) (hx : jr64 x) (hy : jr64 y) (kt : y < x → jJ me tgt ls st n h nc ns Q) (kf : ¬ (y < x) → jJ me (pc + 4) ls st n h nc ns Q) : jJ me (pc) ls (jL y :: jL x :: st) n h nc ns Q :=
  j_lcmp hd hx hy (j_if_gt tgt hd2 ht (jcmp_32 x y) (fun q => kt (jcmp_gt.mp q)) (fun q => kf (fun q2 => q (jcmp_gt.mpr q2))))
theorem j_lcmp_if_le {me : jM} {pc : Nat} {ls st : List jV} {n : Nat} {h : Int → jE} {nc ns : Nat} {Q : Option jV → Nat → (Int → jE) → Prop} {x y off : Int} (tgt : Nat) (hd : decode me.2.2.1 pc = .ok (.lcmp, 1)) (hd2 : decode me.2.2.1 (pc + 1) = .ok (.ifCond .le off, 3)) (ht : ((pc + 1 : Nat) : Int) + off = (tgt : Int)) (hx : jr64 x) (hy : jr64 y) (kt : x ≤ y → jJ me tgt ls st n h nc ns Q) (kf : ¬ (x ≤ y) → jJ me (pc + 4) ls st n h nc ns Q) : jJ me (pc) ls (jL y :: jL x :: st) n h nc ns Q :=
  j_lcmp hd hx hy (j_if_le tgt hd2 ht (jcmp_32 x y) (fun q => kt (jcmp_le.mp q)) (fun q => kf (fun q2 => q (jcmp_le.mpr q2))))
theorem j_lcmp_if_ge {me : jM} {pc : Nat} {ls st : List jV} {n : Nat} {h : Int → jE} {nc ns : Nat} {Q : Option jV → Nat → (Int → jE) → Prop} {x y off : Int} (tgt : Nat) (hd : decode me.2.2.1 pc = .ok (.lcmp, 1)) (hd2 : decode me.2.2.1 (pc + 1) = .ok (.ifCond .ge off, 3)) (ht : ((pc + 1 : Nat) : Int) + off = (tgt : Int)) (hx : jr64 x) (hy : jr64 y) (kt : y ≤ x → jJ me tgt ls st n h nc ns Q) (kf : ¬ (y ≤ x) → jJ me (pc + 4) ls st n h nc ns Q) : jJ me (pc) ls (jL y :: jL x :: st) n h nc ns Q :=
  j_lcmp hd hx hy (j_if_ge tgt hd2 ht (jcmp_32 x y) (fun q => kt (jcmp_ge.mp q)) (fun q => kf (fun q2 => q (jcmp_ge.mpr q2))))
theorem j_lcmp_if_eq {me : jM} {pc : Nat} {ls st : List jV} {n : Nat} {h : Int → jE} {nc ns : Nat} {Q : Option jV → Nat → (Int → jE) → Prop} {x y off : Int} (tgt : Nat) (hd : decode me.2.2.1 pc = .ok (.lcmp, 1)) (hd2 : decode me.2.2.1 (pc + 1) = .ok (.ifCond .eq off, 3)) (ht : ((pc + 1 : Nat) : Int) + off = (tgt : Int)) (hx : jr64 x) (hy : jr64 y) (kt : x = y → jJ me tgt ls st n h nc ns Q) (kf : ¬ (x = y) → jJ me (pc + 4) ls st n h nc ns Q) : jJ me (pc) ls (jL y :: jL x :: st) n h nc ns Q :=
  j_lcmp hd hx hy (j_if_eq tgt hd2 ht (jcmp_32 x y) (fun q => kt (jcmp_eq.mp q)) (fun q => kf (fun q2 => q (jcmp_eq.mpr q2))))
theorem j_lcmp_if_ne {me : jM} {pc : Nat} {ls st : List jV} {n : Nat} {h : Int → jE} {nc ns : Nat} {Q : Option jV → Nat → (Int → jE) → Prop} {x y off : Int} (tgt : Nat) (hd : decode me.2.2.1 pc = .ok (.lcmp, 1)) (hd2 : decode me.2.2.1 (pc + 1) = .ok (.ifCond .ne off, 3)) (ht : ((pc + 1 : Nat) : Int) + off = (tgt : Int)) (hx : jr64 x) (hy : jr64 y) (kt : x ≠ y → jJ me tgt ls st n h nc ns Q) (kf : x = y → jJ me (pc + 4) ls st n h nc ns Q) : jJ me (pc) ls (jL y :: jL x :: st) n h nc ns Q :=
  j_lcmp hd hx hy (j_if_ne tgt hd2 ht (jcmp_32 x y) (fun q => kt (fun z => q (jcmp_eq.mpr z))) (fun q => kf (jcmp_eq.mp q)))
theorem j_ireturn {me : jM} {pc : Nat} {ls st : List jV} {n : Nat} {h : Int → jE} {nc ns : Nat} {Q : Option jV → Nat → (Int → jE) → Prop} {x : Int} (hd : decode me.2.2.1 pc = .ok (.ireturn, 1)) (hr : me.2.2.2.2.1 = some .int) (hc : nc ≤ me.2.2.2.2.2.cells ∧ ns ≤ me.2.2.2.2.2.slots) (hq : Q (some (jI x)) n h) : jJ me pc ls [jI x] n h nc ns Q := by
  intro p l e s m args below meth c base b D cA H locs lsS Z C G hW hS hl hZ
  exact W.widen hc.1 hc.2 (hZ (some (jI x)) n h H locs pc lsS hq (Or.inl ⟨x, rfl, hd, hr⟩) hW hS)
theorem j_zreturn {me : jM} {pc : Nat} {ls st : List jV} {n : Nat} {h : Int → jE} {nc ns : Nat} {Q : Option jV → Nat → (Int → jE) → Prop} {x : Int} (hd : decode me.2.2.1 pc = .ok (.ireturn, 1)) (hr : me.2.2.2.2.1 = some .boolean) (hc : nc ≤ me.2.2.2.2.2.cells ∧ ns ≤ me.2.2.2.2.2.slots) (hx : x = 0 ∨ x = 1) (hq : Q (some (jI x)) n h) : jJ me pc ls [jI x] n h nc ns Q := by
  intro p l e s m args below meth c base b D cA H locs lsS Z C G hW hS hl hZ
  exact W.widen hc.1 hc.2 (hZ (some (jI x)) n h H locs pc lsS hq (Or.inr (Or.inl ⟨x, rfl, hd, hr, hx⟩)) hW hS)
theorem j_lreturn {me : jM} {pc : Nat} {ls st : List jV} {n : Nat} {h : Int → jE} {nc ns : Nat} {Q : Option jV → Nat → (Int → jE) → Prop} {x : Int} (hd : decode me.2.2.1 pc = .ok (.lreturn, 1)) (hr : me.2.2.2.2.1 = some .long) (hc : nc ≤ me.2.2.2.2.2.cells ∧ ns ≤ me.2.2.2.2.2.slots) (hq : Q (some (jL x)) n h) : jJ me pc ls [jL x] n h nc ns Q := by
  intro p l e s m args below meth c base b D cA H locs lsS Z C G hW hS hl hZ
  exact W.widen hc.1 hc.2 (hZ (some (jL x)) n h H locs pc lsS hq (Or.inr (Or.inr (Or.inl ⟨x, rfl, hd, hr⟩))) hW hS)
theorem j_return {me : jM} {pc : Nat} {ls st : List jV} {n : Nat} {h : Int → jE} {nc ns : Nat} {Q : Option jV → Nat → (Int → jE) → Prop} (hd : decode me.2.2.1 pc = .ok (.return_, 1)) (hr : me.2.2.2.2.1 = none) (hc : nc ≤ me.2.2.2.2.2.cells ∧ ns ≤ me.2.2.2.2.2.slots) (hq : Q none n h) : jJ me pc ls [] n h nc ns Q := by
  intro p l e s m args below meth c base b D cA H locs lsS Z C G hW hS hl hZ
  exact W.widen hc.1 hc.2 (hZ none n h H locs pc lsS hq (Or.inr (Or.inr (Or.inr ⟨rfl, hd, hr⟩))) hW hS)

theorem jJ.mono {me : jM} {pc : Nat} {ls st : List jV} {n : Nat} {h : Int → jE} {nc ns : Nat} {Q : Option jV → Nat → (Int → jE) → Prop} {Q2 : Option jV → Nat → (Int → jE) → Prop} (k : jJ me pc ls st n h nc ns Q) (hq : ∀ r n h, Q r n h → Q2 r n h) : jJ me pc ls st n h nc ns Q2 := by
  intro p l e s m args below meth c base b D cA H locs lsS Z C G hW hS hl hZ
  exact k p l e s m args below meth c base b D cA H locs lsS Z C G hW hS hl (fun r n' h' H' locs' pc' ls' q => hZ r n' h' H' locs' pc' ls' (hq r n' h' q))
end
section
/-! cells: a world's cell read, written, made -/
def jup (h : Int → jE) (k : Int) (c : jE) : Int → jE := fun i => if i = k then c else h i
theorem jW.at {base b : Nat} {D : va_G} {cA : Nat → ClassId} {n : Nat} {h : Int → jE} {H : Heap} (hW : jW base b D cA n h H) {k : Int} (h0 : 0 ≤ k) (h1 : k ≤ n) : va_at D vwCl (jad base b k, jce base b cA (h k)) H := by
  have := hW.2 k.toNat (by omega)
  rw [show ((k.toNat : Nat) : Int) = k by omega] at this
  exact this
theorem jW.up {base b : Nat} {D : va_G} {cA : Nat → ClassId} {n : Nat} {h : Int → jE} {H H1 : Heap} (hW : jW base b D cA n h H) (hb : b < base) {k : Int} (h0 : 0 < k) (z : H1.size = H.size) (oq : ∀ q : Nat, q ≠ jad base b k → H1[q]? = H[q]?) {c : jE} (he : va_at D vwCl (jad base b k, jce base b cA c) H1) : jW base b D cA n (jup h k c) H1 := by
  refine ⟨by rw [z]; exact hW.1, fun k' hk' => ?_⟩
  by_cases hkk : (k' : Int) = k
  · rw [hkk]
    simp only [jup, if_pos]
    exact he
  · simp only [jup, if_neg hkk]
    exact (hW.2 k' hk').kept (oq _ (fun q => hkk (jad_inj hb h0 (by omega) q)))
theorem jW.push {base b : Nat} {D : va_G} {cA : Nat → ClassId} {n : Nat} {h : Int → jE} {H H1 : Heap} (hW : jW base b D cA n h H) (hb : b < base) (z : H1.size = H.size + 1) (oq : ∀ q : Nat, q < H.size → H1[q]? = H[q]?) {c : jE} (he : va_at D vwCl (H.size, jce base b cA c) H1) : jW base b D cA (n + 1) (jup h ((n : Int) + 1) c) H1 := by
  refine ⟨by rw [z, hW.1]; omega, fun k' hk' => ?_⟩
  by_cases hkk : (k' : Int) = (n : Int) + 1
  · rw [hkk]
    simp only [jup, if_pos]
    rw [jad_pos (by omega), show base + (((n : Int) + 1).toNat - 1) = H.size by rw [hW.1]; omega]
    exact he
  · simp only [jup, if_neg hkk]
    have hat := hW.2 k' (by omega)
    exact hat.kept (oq _ hat.lt)
theorem jsz {base b : Nat} {D : va_G} {cA : Nat → ClassId} {n : Nat} {h : Int → jE} {H : Heap} (hW : jW base b D cA n h H) : jad base b ((n : Int) + 1) = H.size := by
  rw [jad_pos (by omega), hW.1]; omega
theorem jA {base b : Nat} {k : Int} (h0 : 0 < k) : base ≤ jad base b k := by rw [jad_pos h0]; omega
theorem jP1 {D : va_G} {H : Heap} {q : Nat × va_E} (h : va_at D vwCl q H) : va_P D vwCl [q] H := fun k x hx => by
  have hz : k < 1 := (List.getElem?_eq_some_iff.mp hx).1
  rw [show k = 0 by omega] at hx
  cases hx
  exact h
theorem jS.push {base : Nat} {H0 H H1 : Heap} {locs : List Loc} (hS : va_S (fun q => base ≤ q) H0 H locs) (z : H.size ≤ H1.size) (oq : ∀ q : Nat, q < H.size → H1[q]? = H[q]?) : va_S (fun q => base ≤ q) H0 H1 locs :=
  ⟨Nat.le_trans hS.1 z, fun q h1 h2 => (oq q (Nat.lt_of_lt_of_le h1 hS.1)).trans (hS.2.1 q h1 h2), hS.2.2⟩
/-- a field's link: at place idx of own's constants stands field j of class ci -/
def jfd (own : String) (idx ci j : Nat) : Prop := ∃ (C : String) (T : u_T) (N : Nat), vwCl[ci]? = some (C, T, N) ∧ j < N ∧ Cond.fieldLink own idx (T j).1 (T j).2.1 (T j).2.2.1 ∈ jws ∧ ∀ w ∈ u_ws C T N, w ∈ jws
/-- a class's fields: their types, their names apart -/
def jct (ci : Nat) (C : String) (T : u_T) (N : Nat) (ty : Nat → FieldType) : Prop := vwCl[ci]? = some (C, T, N) ∧ (∀ k, k < N → parseFieldDescriptor (T k).2.2.1 = some (ty k)) ∧ (∀ a, a < N → ∀ b, b < N → a ≠ b → (T a).2.1 ≠ (T b).2.1) ∧ ∀ w ∈ u_ws C T N, w ∈ jws

theorem j_get {me : jM} {pc : Nat} {ls st : List jV} {n : Nat} {h : Int → jE} {nc ns : Nat} {Q : Option jV → Nat → (Int → jE) → Prop} {x : Int} {ci idx j : Nat} {fs : List jV} {v : jV} (hd : decode me.2.2.1 pc = .ok (.getfield idx, 3)) (hf : jfd me.1 idx ci j) (hk : h x = .inl (ci, fs)) (hn : 0 ≤ x ∧ x ≤ n) (hv : fs[j]? = some v) (k : jJ me (pc + 3) ls (v :: st) n h nc ns Q) : jJ me pc ls (jR x :: st) n h nc ns Q := by
  intro p l e s m args below meth c base b D cA H locs lsS Z C G hW hS hl hZ
  obtain ⟨C0, T, N, hc, hj, hlk, hin⟩ := hf
  have hts := C.2.2.2.2.2.1
  have hat := hW.at hn.1 hn.2
  rw [hk] at hat
  exact va_get C.1 C.2.1 hts hin C.2.2.2.2.1 G.1 (jP1 hat) 0 rfl hc j hj (hts _ hlk) (fun _ q => q) (v := jvv base b v) (by rw [List.getElem?_map, hv]; rfl) hd (k p l e s m args below meth c base b D cA H locs lsS Z C G hW hS hl hZ)
theorem j_put {me : jM} {pc : Nat} {ls st : List jV} {n : Nat} {h : Int → jE} {nc ns : Nat} {Q : Option jV → Nat → (Int → jE) → Prop} {x y : Int} {ci idx j : Nat} {fs : List jV} {C0 : String} {T : u_T} {N : Nat} {ty : Nat → FieldType} (hd : decode me.2.2.1 pc = .ok (.putfield idx, 3)) (hct : jct ci C0 T N ty) (hj : j < N) (hlk : Cond.fieldLink me.1 idx (T j).1 (T j).2.1 (T j).2.2.1 ∈ jws) (hfin : (T j).2.2.2 = false) (hty : ty j = .int) (hk : h x = .inl (ci, fs)) (hn : 0 < x ∧ x ≤ n) (hlen : j < fs.length) (k : jJ me (pc + 3) ls st n (jup h x (.inl (ci, fs.set j (jI y)))) nc ns Q) : jJ me pc ls (jI y :: jR x :: st) n h nc ns Q := by
  intro p l e s m args below meth c base b D cA H locs lsS Z C G hW hS hl hZ
  obtain ⟨hc, hpt, hnm, hin⟩ := hct
  have hts := C.2.2.2.2.2.1
  have hat := hW.at (Int.le_of_lt hn.1) hn.2
  rw [hk] at hat
  have hap := va_apart (own := me.1) hts hin ty hpt hnm G.1 hc
  obtain ⟨r, h1, cell, q1, q2, q3, q4⟩ := hat
  have hr : r = (C0, T, N) := Option.some.inj (h1.symm.trans hc)
  subst hr
  obtain ⟨hSl, hfc, kC, hkC, hkind⟩ := G.1.1 ci _ hc
  obtain ⟨cf, kf, fi, f, hi, hsl⟩ := hSl j hj
  have hlay := hts _ (hin _ (u_in_lay hj))
  unfold u_lay at hlay
  rw [if_neg (by rw [hfin]; decide)] at hlay
  have hst := (u_facts hfc hkC (u_lays hts hin hj) hi).1
  have h6 := u_store hfc hkC hkind hlay hi (hpt j hj) (v := .int (Int32.ofInt y)) (by rw [hty]; rfl) (by rw [hty]; rfl)
  refine W.putK C.1 C.2.1 (f := f) ⟨C.2.2.2.2.1, hts _ hlk, ⟨_, _, _, hi⟩, hst⟩ (by rw [q2]; exact h6) q1 q3 (by rw [hsl]; exact k2_hasslot (q4 j hj)) rfl rfl hd fun H' e1 e2 e3 => ?_
  rw [hsl] at e1 ⊢
  refine k p l e s m args below meth c base b D cA _ _ lsS Z C G (hW.up G.2.1 hn.1 e2 e3 ?_) (hS.put e2 e3 (jA hn.1)) hl hZ
  refine ⟨_, hc, t_OB.to (V := updV (vp_V (fs.map (jvv base b))) j (.int (Int32.ofInt y))) ⟨_, e1, q2, q3, t_set q4 hap hj _⟩ (fun i _ => ?_)⟩
  rw [vp_updV_set (by rw [List.length_map]; exact hlen), List.map_set]
  rfl
theorem j_putF {me : jM} {pc : Nat} {ls st : List jV} {n : Nat} {h : Int → jE} {nc ns : Nat} {Q : Option jV → Nat → (Int → jE) → Prop} {x y : Int} {ci idx j : Nat} {fs : List jV} {C0 : String} {T : u_T} {N : Nat} {ty : Nat → FieldType} (hd : decode me.2.2.1 pc = .ok (.putfield idx, 3)) (hct : jct ci C0 T N ty) (hj : j < N) (hlk : Cond.fieldLink me.1 idx (T j).1 (T j).2.1 (T j).2.2.1 ∈ jws) (hfin : (T j).2.2.2 = true) (hin2 : me.2.1.name = "<init>") (hdecl : (T j).1 = me.1) (hty : narrow (ty j) (.ref 0) = .ref 0 ∧ (∀ a : Nat, narrow (ty j) (.ref a) = .ref a ∧ fits (ty j) (.ref a) = true)) (hk : h x = .inl (ci, fs)) (hn : 0 < x ∧ x ≤ n) (hlen : j < fs.length) (k : jJ me (pc + 3) ls st n (jup h x (.inl (ci, fs.set j (jR y)))) nc ns Q) : jJ me pc ls (jR y :: jR x :: st) n h nc ns Q := by
  intro p l e s m args below meth c base b D cA H locs lsS Z C G hW hS hl hZ
  obtain ⟨hc, hpt, hnm, hin⟩ := hct
  have hts := C.2.2.2.2.2.1
  have hat := hW.at (Int.le_of_lt hn.1) hn.2
  rw [hk] at hat
  have hap := va_apart (own := me.1) hts hin ty hpt hnm G.1 hc
  obtain ⟨r, h1, cell, q1, q2, q3, q4⟩ := hat
  have hr : r = (C0, T, N) := Option.some.inj (h1.symm.trans hc)
  subst hr
  obtain ⟨hSl, hfc, kC, hkC, hkind⟩ := G.1.1 ci _ hc
  obtain ⟨cf, kf, fi, f, hi, hsl⟩ := hSl j hj
  have hlay := hts _ (hin _ (u_in_lay hj))
  unfold u_lay at hlay
  rw [if_pos hfin] at hlay
  have hst := (u_facts hfc hkC (u_lays hts hin hj) hi).1
  have hcf : m.cls = cf := by
    obtain ⟨_, _, c', _, _, _, -, -, hf', -, -, -, hown2, -⟩ := Cond.laysFinal_spec hlay
    have e1 : c' = cf := by have := hi.symm.trans hf'; simp at this; exact this.1.symm
    rw [hdecl] at hown2
    rw [← e1]; exact Option.some.inj (C.2.2.2.2.1.symm.trans hown2)
  have h6 := u_fits hfc hkC hkind (Or.inr hlay) hi (hpt j hj) (v := .ref (jad base b y)) (hty.2 _).1 (hty.2 _).2
  refine W.putFinK C.1 C.2.1 C.2.2.2.2.1 (hts _ hlk) hi hst hcf (C.2.2.2.2.2.2.2.trans hin2) (by rw [q2]; exact h6) q1 q3 (by rw [hsl]; exact k2_hasslot (q4 j hj)) rfl rfl hd fun H' e1 e2 e3 => ?_
  rw [hsl] at e1 ⊢
  refine k p l e s m args below meth c base b D cA _ _ lsS Z C G (hW.up G.2.1 hn.1 e2 e3 ?_) (hS.put e2 e3 (jA hn.1)) hl hZ
  refine ⟨_, hc, t_OB.to (V := updV (vp_V (fs.map (jvv base b))) j (.ref (jad base b y))) ⟨_, e1, q2, q3, t_set q4 hap hj _⟩ (fun i _ => ?_)⟩
  rw [vp_updV_set (by rw [List.length_map]; exact hlen), List.map_set]
  rfl

theorem j_iald {me : jM} {pc : Nat} {ls st : List jV} {n : Nat} {h : Int → jE} {nc ns : Nat} {Q : Option jV → Nat → (Int → jE) → Prop} {x i : Int} {len : Nat} {f : Int → Int} (hd : decode me.2.2.1 pc = .ok (.iaload, 1)) (hk : h x = .inr (0, len, .inl f)) (hn : 0 ≤ x ∧ x ≤ n) (hi : 0 ≤ i ∧ i < len) (hlen : len < 2147483648) (k : jJ me (pc + 1) ls (jI (f i) :: st) n h nc ns Q) : jJ me pc ls (jI i :: jR x :: st) n h nc ns Q := by
  intro p l e s m args below meth c base b D cA H locs lsS Z C G hW hS hl hZ
  have hat := hW.at hn.1 hn.2
  rw [hk] at hat
  obtain ⟨j1, j2⟩ := jin hi.1 hi.2 hlen
  refine va_iald C.1 C.2.1 G.1 (jP1 hat) 0 0 rfl rfl j1 hd ?_
  rw [j2]
  exact k p l e s m args below meth c base b D cA H locs lsS Z C G hW hS hl hZ
theorem j_iast {me : jM} {pc : Nat} {ls st : List jV} {n : Nat} {h : Int → jE} {nc ns : Nat} {Q : Option jV → Nat → (Int → jE) → Prop} {x i y : Int} {len : Nat} {f : Int → Int} (hd : decode me.2.2.1 pc = .ok (.iastore, 1)) (hk : h x = .inr (0, len, .inl f)) (hn : 0 < x ∧ x ≤ n) (hi : 0 ≤ i ∧ i < len) (hlen : len < 2147483648) (k : jJ me (pc + 1) ls st n (jup h x (.inr (0, len, .inl (fun z => if z = i then y else f z)))) nc ns Q) : jJ me pc ls (jI y :: jI i :: jR x :: st) n h nc ns Q := by
  intro p l e s m args below meth c base b D cA H locs lsS Z C G hW hS hl hZ
  have hat := hW.at (Int.le_of_lt hn.1) hn.2
  rw [hk] at hat
  obtain ⟨j1, j2⟩ := jin hi.1 hi.2 hlen
  refine W.iast C.1 C.2.1 (jP1 hat 0 _ rfl) ((G.1.2 0 _ rfl).1 len (fun j => .int (Int32.ofInt (f j)))) (fun q => by cases q) (by show ¬ (_ < 0 ∨ (arrV _ _ _).slots.size ≤ _); rw [arrV_size]; exact j1) rfl rfl hd fun H1 e1 z oq => ?_
  refine k p l e s m args below meth c base b D cA _ _ lsS Z C G (hW.up G.2.1 hn.1 z oq ?_) (hS.put z oq (jA hn.1)) hl hZ
  show H1[_]? = some (vp_cell _ _)
  rw [e1]
  rw [vp_cell_i, vp_cell_i, arrV_store]
  congr 2
  funext q
  by_cases hq : q = (Int32.ofInt i).toNatClampNeg
  · have hq2 : (q : Int) = i := by rw [hq]; exact j2
    simp only [updV, if_pos hq, if_pos hq2]
  · have hq2 : ¬ (q : Int) = i := fun z9 => hq (by omega)
    simp only [updV, if_neg hq, if_neg hq2]

theorem j_lald {me : jM} {pc : Nat} {ls st : List jV} {n : Nat} {h : Int → jE} {nc ns : Nat} {Q : Option jV → Nat → (Int → jE) → Prop} {x i : Int} {len : Nat} {f : Int → Int} (hd : decode me.2.2.1 pc = .ok (.laload, 1)) (hk : h x = .inr (1, len, .inr (.inl f))) (hn : 0 ≤ x ∧ x ≤ n) (hi : 0 ≤ i ∧ i < len) (hlen : len < 2147483648) (k : jJ me (pc + 1) ls (jL (f i) :: st) n h nc ns Q) : jJ me pc ls (jI i :: jR x :: st) n h nc ns Q := by
  intro p l e s m args below meth c base b D cA H locs lsS Z C G hW hS hl hZ
  have hat := hW.at hn.1 hn.2
  rw [hk] at hat
  obtain ⟨j1, j2⟩ := jin hi.1 hi.2 hlen
  refine va_lald C.1 C.2.1 G.1 (jP1 hat) 0 1 rfl rfl j1 hd ?_
  rw [j2]
  exact k p l e s m args below meth c base b D cA H locs lsS Z C G hW hS hl hZ
theorem j_last {me : jM} {pc : Nat} {ls st : List jV} {n : Nat} {h : Int → jE} {nc ns : Nat} {Q : Option jV → Nat → (Int → jE) → Prop} {x i y : Int} {len : Nat} {f : Int → Int} (hd : decode me.2.2.1 pc = .ok (.lastore, 1)) (hk : h x = .inr (1, len, .inr (.inl f))) (hn : 0 < x ∧ x ≤ n) (hi : 0 ≤ i ∧ i < len) (hlen : len < 2147483648) (k : jJ me (pc + 1) ls st n (jup h x (.inr (1, len, .inr (.inl (fun z => if z = i then y else f z))))) nc ns Q) : jJ me pc ls (jL y :: jI i :: jR x :: st) n h nc ns Q := by
  intro p l e s m args below meth c base b D cA H locs lsS Z C G hW hS hl hZ
  have hat := hW.at (Int.le_of_lt hn.1) hn.2
  rw [hk] at hat
  obtain ⟨j1, j2⟩ := jin hi.1 hi.2 hlen
  refine W.last C.1 C.2.1 (jP1 hat 0 _ rfl) ((G.1.2 1 _ rfl).1 len (fun j => .long (Int64.ofInt (f j)))) (fun q => by cases q) (by show ¬ (_ < 0 ∨ (arrV _ _ _).slots.size ≤ _); rw [arrV_size]; exact j1) rfl rfl hd fun H1 e1 z oq => ?_
  refine k p l e s m args below meth c base b D cA _ _ lsS Z C G (hW.up G.2.1 hn.1 z oq ?_) (hS.put z oq (jA hn.1)) hl hZ
  show H1[_]? = some (vp_cell _ _)
  rw [e1]
  rw [vp_cell_l, vp_cell_l, arrV_store]
  congr 2
  funext q
  by_cases hq : q = (Int32.ofInt i).toNatClampNeg
  · have hq2 : (q : Int) = i := by rw [hq]; exact j2
    simp only [updV, if_pos hq, if_pos hq2]
  · have hq2 : ¬ (q : Int) = i := fun z9 => hq (by omega)
    simp only [updV, if_neg hq, if_neg hq2]

theorem j_aald {me : jM} {pc : Nat} {ls st : List jV} {n : Nat} {h : Int → jE} {nc ns : Nat} {Q : Option jV → Nat → (Int → jE) → Prop} {x i r : Int} {t len : Nat} {g : Int → Option Int} (hd : decode me.2.2.1 pc = .ok (.aaload, 1)) (hk : h x = .inr (t, len, .inr (.inr g))) (ht : t = 2 ∨ t = 3 ∨ t = 4) (hn : 0 ≤ x ∧ x ≤ n) (hi : 0 ≤ i ∧ i < len) (hlen : len < 2147483648) (hg : g i = some r) (k : jJ me (pc + 1) ls (jR r :: st) n h nc ns Q) : jJ me pc ls (jI i :: jR x :: st) n h nc ns Q := by
  intro p l e s m args below meth c base b D cA H locs lsS Z C G hW hS hl hZ
  have hat := hW.at hn.1 hn.2
  rw [hk] at hat
  obtain ⟨j1, j2⟩ := jin hi.1 hi.2 hlen
  have hlt : (Int32.ofInt i).toNatClampNeg < len := Nat.not_le.mp fun q => j1 (Or.inr q)
  have key : ∀ ty : FieldType, ty.isReference = true → (jtys cA)[t]? = some (cA t, ty) → W p l e me.2.2.2.2.2 s m args below meth c H locs nc ns Z (F0 m pc lsS (Value.int (Int32.ofInt i) :: Value.ref (jad base b x) :: st.map (jvv base b))) := by
    intro ty hty h9
    refine W.aald (v := va_rf ((g (((Int32.ofInt i).toNatClampNeg : Nat) : Int)).map (jad base b))) (ty := ty) C.1 C.2.1 (jP1 hat 0 _ rfl) ((G.1.2 t _ h9).1 len (fun j => va_rf ((g (j : Int)).map (jad base b)))) hty (fun q => by cases q) (by show ¬ (_ < 0 ∨ (arrV _ _ _).slots.size ≤ _); rw [arrV_size]; exact j1) (by show (arrV _ _ _).slots[_]? = _; rw [arrV_read _ _ hlt]) rfl rfl hd ?_
    rw [j2, hg]
    exact k p l e s m args below meth c base b D cA H locs lsS Z C G hW hS hl hZ
  rcases ht with rfl | rfl | rfl
  · exact key (.array .int) rfl rfl
  · exact key (.array .long) rfl rfl
  · exact key (.object "PraiseDrawer$Big") rfl rfl
theorem j_alen {me : jM} {pc : Nat} {ls st : List jV} {n : Nat} {h : Int → jE} {nc ns : Nat} {Q : Option jV → Nat → (Int → jE) → Prop} {x : Int} {t len : Nat} {f : (Int → Int) ⊕ (Int → Int) ⊕ (Int → Option Int)} (hd : decode me.2.2.1 pc = .ok (.arraylength, 1)) (hk : h x = .inr (t, len, f)) (ht : t < 5) (hn : 0 ≤ x ∧ x ≤ n) (k : jJ me (pc + 1) ls (jI len :: st) n h nc ns Q) : jJ me pc ls (jR x :: st) n h nc ns Q := by
  intro p l e s m args below meth c base b D cA H locs lsS Z C G hW hS hl hZ
  have hat := hW.at hn.1 hn.2
  rw [hk] at hat
  obtain ⟨ty, hty⟩ : ∃ ty, (jtys cA)[t]? = some (cA t, ty) := by
    rcases (show t = 0 ∨ t = 1 ∨ t = 2 ∨ t = 3 ∨ t = 4 by omega) with rfl | rfl | rfl | rfl | rfl <;> exact ⟨_, rfl⟩
  obtain f | f | f := f
  · exact va_alen C.1 C.2.1 G.1 (jP1 hat) 0 t rfl hty (v := Int32.ofInt len) (by rw [Int32.ofInt_eq_ofNat]) hd (k p l e s m args below meth c base b D cA H locs lsS Z C G hW hS hl hZ)
  · exact va_alen C.1 C.2.1 G.1 (jP1 hat) 0 t rfl hty (v := Int32.ofInt len) (by rw [Int32.ofInt_eq_ofNat]) hd (k p l e s m args below meth c base b D cA H locs lsS Z C G hW hS hl hZ)
  · exact va_alen C.1 C.2.1 G.1 (jP1 hat) 0 t rfl hty (v := Int32.ofInt len) (by rw [Int32.ofInt_eq_ofNat]) hd (k p l e s m args below meth c base b D cA H locs lsS Z C G hW hS hl hZ)

theorem j_objInit {me : jM} {pc : Nat} {ls st : List jV} {n : Nat} {h : Int → jE} {nc ns : Nat} {Q : Option jV → Nat → (Int → jE) → Prop} {x : Int} {idx : Nat} (hd : decode me.2.2.1 pc = .ok (.invokespecial idx, 3)) (hw : Cond.methodLink me.1 idx Lib.objectInit ∈ jws) (hw2 : Cond.instanceMethod Lib.objectInit ∈ jws) (hw3 : Cond.code Lib.objectInit ⟨#[0xb1]⟩ 1 none ∈ jws) (hr : 1 ≤ me.2.2.2.2.2.frames ∧ 20 ≤ me.2.2.2.2.2.locals) (hst : (st.map (fun _ => 2)).sum ≤ 8) (k : jJ me (pc + 3) ls st n h nc ns Q) : jJ me pc ls (jR x :: st) n h nc ns Q := by
  intro p l e s m args below meth c base b D cA H locs lsS Z C G hW hS hl hZ
  have hts := C.2.2.2.2.2.1
  refine W.objInit C.1 C.2.1 C.2.2.2.2.1 (hts _ hw) (hts _ hw2) (hts _ hw3) rfl (by rw [C.2.2.1]; exact hl.1) rfl hd hr.1 ?_ (k p l e s m args below meth c base b D cA H locs lsS Z C G hW hS hl hZ)
  have : ((st.map (jvv base b)).map fun v => v.category).sum ≤ (st.map (fun _ => 2)).sum := by
    clear hst k
    induction st with
    | nil => exact Nat.le_refl _
    | cons a t ih =>
      simp only [List.map_cons, List.sum_cons]
      have := lv_cat (jvv base b a)
      omega
  show 2 * 0 + _ + 12 ≤ _
  have h9 := hr.2
  show 2 * 0 + ((st.map (jvv base b)).map fun v => v.category).sum + 12 ≤ _
  omega
theorem j_new {me : jM} {pc : Nat} {ls st : List jV} {n : Nat} {h : Int → jE} {nc ns : Nat} {Q : Option jV → Nat → (Int → jE) → Prop} {ci idx : Nat} {C0 : String} {T : u_T} {N : Nat} {ty : Nat → FieldType} (fs : List jV) (hd : decode me.2.2.1 pc = .ok (.new idx, 3)) (hct : jct ci C0 T N ty) (hw : Cond.classLink me.1 idx C0 ∈ jws) (hw2 : Cond.instantiable C0 N ∈ jws) (hw3 : Cond.initialized C0 ∈ jws) (hfs : ∀ base b j, j < N → defaultValue (ty j) = vp_V (fs.map (jvv base b)) j) (hc : nc + 1 ≤ me.2.2.2.2.2.cells ∧ ns + N ≤ me.2.2.2.2.2.slots) (k : jJ me (pc + 3) ls (jR ((n : Int) + 1) :: st) (n + 1) (jup h ((n : Int) + 1) (.inl (ci, fs))) (nc + 1) (ns + N) Q) : jJ me pc ls st n h nc ns Q := by
  intro p l e s m args below meth c base b D cA H locs lsS Z C G hW hS hl hZ
  obtain ⟨hcl, hpt, hnm, hin⟩ := hct
  have hts := C.2.2.2.2.2.1
  have hKn := G.1.1 ci _ hcl
  refine W.newcK C.1 C.2.1 C.2.2.2.2.1 (hts _ hw) (hts _ hw2) (hts _ hw3) rfl hd hc.1 hc.2 hKn.2.1 rfl fun H1 kC hkC e1 z1 o1 => ?_
  have e := k p l e s m args below meth c base b D cA _ _ lsS Z C G (hW.push G.2.1 z1 o1 ⟨_, hcl, (u_born ty hts hin hKn hkC e1 hpt).to (hfs base b)⟩) (jS.push hS (by omega) o1) hl hZ
  rw [List.map_cons, show jvv base b (jR ((n : Int) + 1)) = Value.ref (jad base b ((n : Int) + 1)) from rfl, jsz hW] at e
  exact e

theorem j_newa_int {me : jM} {pc : Nat} {ls st : List jV} {n : Nat} {h : Int → jE} {nc ns : Nat} {Q : Option jV → Nat → (Int → jE) → Prop} {x : Int} (len : Nat) (hd : decode me.2.2.1 pc = .ok (.newarray .int, 2)) (hw : Cond.arrayClass .int ∈ jws) (hx : x = (len : Int)) (hlen : len ≤ 60000000) (hc : nc + 1 ≤ me.2.2.2.2.2.cells ∧ ns + len ≤ me.2.2.2.2.2.slots) (k : jJ me (pc + 2) ls (jR ((n : Int) + 1) :: st) (n + 1) (jup h ((n : Int) + 1) (.inr (0, len, .inl (fun _ => 0)))) (nc + 1) (ns + len) Q) : jJ me pc ls (jI x :: st) n h nc ns Q := by
  intro p l e s m args below meth c base b D cA H locs lsS Z C G hW hS hl hZ
  subst hx
  have hts := C.2.2.2.2.2.1
  have hr : jr32 (len : Int) := ⟨by omega, by omega⟩
  have hcl : (Int32.ofInt (len : Int)).toNatClampNeg = len := by
    have := Int32.toNatClampNeg_ofInt_of_le (n := (len : Int)) (by omega) (by omega)
    rw [this]; rfl
  refine va_newaK C.1 C.2.1 (atype := .int) (hts _ hw) rfl hd rfl (fun q => by have q : Int32.ofInt (len : Int) < Int32.ofInt 0 := q; rw [j32_lt hr jr32_0] at q; omega) hcl (by show len * _ ≤ _; simp [componentBytes, newarray.typeOf]; omega) hc.1 hc.2 rfl fun H1 cA9 e1 z1 o1 hAr hNm => ?_
  have h9 := va_nm_int (G.1.2 0 _ rfl).2
  have ec : cA9 = cA 0 := Option.some.inj (hNm.symm.trans h9)
  subst ec
  have e := k p l e s m args below meth c base b D cA _ _ lsS Z C G (hW.push G.2.1 z1 o1 (c := .inr (0, len, .inl (fun _ => 0))) (by
    show H1[H.size]? = some (vp_cell _ _)
    rw [vp_cell_i]
    exact e1)) (jS.push hS (by omega) o1) hl hZ
  rw [List.map_cons, show jvv base b (jR ((n : Int) + 1)) = Value.ref (jad base b ((n : Int) + 1)) from rfl, jsz hW] at e
  exact e

theorem j_newa_long {me : jM} {pc : Nat} {ls st : List jV} {n : Nat} {h : Int → jE} {nc ns : Nat} {Q : Option jV → Nat → (Int → jE) → Prop} {x : Int} (len : Nat) (hd : decode me.2.2.1 pc = .ok (.newarray .long, 2)) (hw : Cond.arrayClass .long ∈ jws) (hx : x = (len : Int)) (hlen : len ≤ 60000000) (hc : nc + 1 ≤ me.2.2.2.2.2.cells ∧ ns + len ≤ me.2.2.2.2.2.slots) (k : jJ me (pc + 2) ls (jR ((n : Int) + 1) :: st) (n + 1) (jup h ((n : Int) + 1) (.inr (1, len, .inr (.inl (fun _ => 0))))) (nc + 1) (ns + len) Q) : jJ me pc ls (jI x :: st) n h nc ns Q := by
  intro p l e s m args below meth c base b D cA H locs lsS Z C G hW hS hl hZ
  subst hx
  have hts := C.2.2.2.2.2.1
  have hr : jr32 (len : Int) := ⟨by omega, by omega⟩
  have hcl : (Int32.ofInt (len : Int)).toNatClampNeg = len := by
    have := Int32.toNatClampNeg_ofInt_of_le (n := (len : Int)) (by omega) (by omega)
    rw [this]; rfl
  refine va_newaK C.1 C.2.1 (atype := .long) (hts _ hw) rfl hd rfl (fun q => by have q : Int32.ofInt (len : Int) < Int32.ofInt 0 := q; rw [j32_lt hr jr32_0] at q; omega) hcl (by show len * _ ≤ _; simp [componentBytes, newarray.typeOf]; omega) hc.1 hc.2 rfl fun H1 cA9 e1 z1 o1 hAr hNm => ?_
  have h9 := va_nm_long (G.1.2 1 _ rfl).2
  have ec : cA9 = cA 1 := Option.some.inj (hNm.symm.trans h9)
  subst ec
  have e := k p l e s m args below meth c base b D cA _ _ lsS Z C G (hW.push G.2.1 z1 o1 (c := .inr (1, len, .inr (.inl (fun _ => 0)))) (by
    show H1[H.size]? = some (vp_cell _ _)
    rw [vp_cell_l]
    exact e1)) (jS.push hS (by omega) o1) hl hZ
  rw [List.map_cons, show jvv base b (jR ((n : Int) + 1)) = Value.ref (jad base b ((n : Int) + 1)) from rfl, jsz hW] at e
  exact e

theorem j_newq {me : jM} {pc : Nat} {ls st : List jV} {n : Nat} {h : Int → jE} {nc ns : Nat} {Q : Option jV → Nat → (Int → jE) → Prop} {x : Int} {idx : Nat} (len : Nat) (hd : decode me.2.2.1 pc = .ok (.anewarray idx, 3)) (hw : Cond.classLink me.1 idx "PraiseDrawer$Big" ∈ jws) (hx : x = (len : Int)) (hlen : len ≤ 60000000) (hc : nc + 1 ≤ me.2.2.2.2.2.cells ∧ ns + len ≤ me.2.2.2.2.2.slots) (k : jJ me (pc + 3) ls (jR ((n : Int) + 1) :: st) (n + 1) (jup h ((n : Int) + 1) (.inr (4, len, .inr (.inr (fun _ => none))))) (nc + 1) (ns + len) Q) : jJ me pc ls (jI x :: st) n h nc ns Q := by
  intro p l e s m args below meth c base b D cA H locs lsS Z C G hW hS hl hZ
  subst hx
  have hts := C.2.2.2.2.2.1
  have hr : jr32 (len : Int) := ⟨by omega, by omega⟩
  have hcl : (Int32.ofInt (len : Int)).toNatClampNeg = len := by
    have := Int32.toNatClampNeg_ofInt_of_le (n := (len : Int)) (by omega) (by omega)
    rw [this]; rfl
  refine W.anew C.1 C.2.1 C.2.2.2.2.1 (hts _ hw) (va_AO.use G.2.2.2.2.2.2) rfl hd rfl (fun q => by have q : Int32.ofInt (len : Int) < Int32.ofInt 0 := q; rw [j32_lt hr jr32_0] at q; omega) (by rw [hcl]; omega) hc.1 (by rw [hcl]; exact hc.2) fun cA9 kA comp f1 f2 f3 f4 => ?_
  rw [hcl]
  obtain ⟨kA2, comp2, -, -, -, g4⟩ := (G.1.2 4 _ rfl).2
  have ec : cA9 = cA 4 := Option.some.inj (f1.symm.trans g4)
  subst ec
  generalize hH1 : H.push ({ cls := cA 4, slots := Array.replicate len .null, vm := .none } : Cell) = H1
  have z1 : H1.size = H.size + 1 := by rw [← hH1, Array.size_push]
  have e1 : H1[H.size]? = some (arrV (cA 4) len (fun _ => .null)) := by rw [← hH1, Array.getElem?_push_size, ← arrV_new]
  have o1 : ∀ q : Nat, q < H.size → H1[q]? = H[q]? := fun q hq => by rw [← hH1, Array.getElem?_push, if_neg (Nat.ne_of_lt hq)]
  have e := k p l e s m args below meth c base b D cA _ _ lsS Z C G (hW.push G.2.1 z1 o1 (c := .inr (4, len, .inr (.inr (fun _ => none)))) (by
    show H1[H.size]? = some (vp_cell _ _)
    rw [vp_cell_q]
    exact e1)) (jS.push hS (by omega) o1) hl hZ
  rw [List.map_cons, show jvv base b (jR ((n : Int) + 1)) = Value.ref (jad base b ((n : Int) + 1)) from rfl, jsz hW] at e
  exact e
theorem j_aast {me : jM} {pc : Nat} {ls st : List jV} {n : Nat} {h : Int → jE} {nc ns : Nat} {Q : Option jV → Nat → (Int → jE) → Prop} {x i y : Int} {len : Nat} {g : Int → Option Int} {vs : List jV} (hd : decode me.2.2.1 pc = .ok (.aastore, 1)) (hk : h x = .inr (4, len, .inr (.inr g))) (hn : 0 < x ∧ x ≤ n) (hi : 0 ≤ i ∧ i < len) (hlen : len < 2147483648) (hy : h y = .inl (0, vs)) (hny : 0 < y ∧ y ≤ n) (k : jJ me (pc + 1) ls st n (jup h x (.inr (4, len, .inr (.inr (fun z => if z = i then some y else g z))))) nc ns Q) : jJ me pc ls (jR y :: jI i :: jR x :: st) n h nc ns Q := by
  intro p l e s m args below meth c base b D cA H locs lsS Z C G hW hS hl hZ
  have hat := hW.at (Int.le_of_lt hn.1) hn.2
  rw [hk] at hat
  have hay := hW.at (Int.le_of_lt hny.1) hny.2
  rw [hy] at hay
  obtain ⟨j1, j2⟩ := jin hi.1 hi.2 hlen
  have hlt : (Int32.ofInt i).toNatClampNeg < len := Nat.not_le.mp fun q => j1 (Or.inr q)
  obtain ⟨r', hr', cellV, g1, g2, g3, -⟩ := hay
  have hcls := (G.1.1 0 _ rfl).2
  obtain ⟨kA, comp, k1, k2, k3, -⟩ := (G.1.2 4 _ rfl).2
  have hcomp : comp = D.1 0 := Option.some.inj (k3.symm.trans hcls.1)
  subst hcomp
  obtain ⟨kC, hkC, -⟩ := hcls.2
  refine W.aast C.1 C.2.1 (jP1 hat 0 _ rfl) (fun q h => by cases h) (fun h => by cases h) k1 k2 rfl hkC ⟨fun q => j1 (Or.inl q), by show _ < (arrV _ _ _).slots.size; rw [arrV_size]; exact hlt⟩ g1 (fun q h => by rw [g3] at h; cases h) (by rw [g2]; exact hkC) (by rw [g2]; exact va_assign hcls) rfl rfl hd fun H1 e1 z oq => ?_
  refine k p l e s m args below meth c base b D cA _ _ lsS Z C G (hW.up G.2.1 hn.1 z oq ?_) (hS.put z oq (jA hn.1)) hl hZ
  show H1[_]? = some (vp_cell _ _)
  rw [e1]
  rw [vp_cell_q, vp_cell_q, arrV_store]
  congr 2
  funext q
  by_cases hq : q = (Int32.ofInt i).toNatClampNeg
  · have hq2 : (q : Int) = i := by rw [hq]; exact j2
    simp only [updV, if_pos hq, if_pos hq2, Option.map_some, va_rf]
  · have hq2 : ¬ (q : Int) = i := fun z9 => hq (by omega)
    simp only [updV, if_neg hq, if_neg hq2]

theorem j_mna_int {me : jM} {pc : Nat} {ls st : List jV} {n : Nat} {h : Int → jE} {nc ns : Nat} {Q : Option jV → Nat → (Int → jE) → Prop} {x y : Int} {idx : Nat} (N M : Nat) (hd : decode me.2.2.1 pc = .ok (.multianewarray idx 2, 4)) (hw : Cond.classLink me.1 idx "[[I" ∈ jws) (hw2 : Cond.arrayClass .int ∈ jws) (hx : x = (N : Int)) (hy : y = (M : Int)) (hN : N ≤ 60000000) (hM : M ≤ 60000000) (hc : nc + (1 + N) ≤ me.2.2.2.2.2.cells ∧ ns + (N + N * M) ≤ me.2.2.2.2.2.slots) (k : jJ me (pc + 4) ls (jR ((n : Int) + 1) :: st) (n + 1 + N) (fun i => if (n : Int) + 1 < i ∧ i ≤ (n : Int) + 1 + N then .inr (0, M, .inl (fun _ => 0)) else if i = (n : Int) + 1 then .inr (2, N, .inr (.inr (fun i => if i < (N : Int) then some ((n : Int) + 2 + i) else none))) else h i) (nc + 1 + N) (ns + N + N * M) Q) : jJ me pc ls (jI y :: jI x :: st) n h nc ns Q := sorry
theorem j_mna_long {me : jM} {pc : Nat} {ls st : List jV} {n : Nat} {h : Int → jE} {nc ns : Nat} {Q : Option jV → Nat → (Int → jE) → Prop} {x y : Int} {idx : Nat} (N M : Nat) (hd : decode me.2.2.1 pc = .ok (.multianewarray idx 2, 4)) (hw : Cond.classLink me.1 idx "[[J" ∈ jws) (hw2 : Cond.arrayClass .long ∈ jws) (hx : x = (N : Int)) (hy : y = (M : Int)) (hN : N ≤ 60000000) (hM : M ≤ 60000000) (hc : nc + (1 + N) ≤ me.2.2.2.2.2.cells ∧ ns + (N + N * M) ≤ me.2.2.2.2.2.slots) (k : jJ me (pc + 4) ls (jR ((n : Int) + 1) :: st) (n + 1 + N) (fun i => if (n : Int) + 1 < i ∧ i ≤ (n : Int) + 1 + N then .inr (1, M, .inr (.inl (fun _ => 0))) else if i = (n : Int) + 1 then .inr (3, N, .inr (.inr (fun i => if i < (N : Int) then some ((n : Int) + 2 + i) else none))) else h i) (nc + 1 + N) (ns + N + N * M) Q) : jJ me pc ls (jI y :: jI x :: st) n h nc ns Q := sorry
end
section
/-! calls: a method walked from its entry is a contract; a call goes on with what the method's walk ends in -/
theorem jgood : ∀ w ∈ jws, goodWord w = true := fun w hw => (List.mem_filter.mp hw).2
theorem jgoodIn {ws : List Cond} (h : ∀ w ∈ ws, w ∈ jws) : GoodIn jws ws := fun w hw => ⟨h w hw, good_of_word (jgood w (h w hw))⟩
theorem jAOA_moved {t : FieldType} {u U : State} (hvm : u.vm.Alike U.vm) (h : (Cond.arrayOver (.array t)).before #[] u = true) : (Cond.arrayOver (.array t)).before #[] U = true := by
  obtain ⟨comp, c, k, h1, h2, h3, h4, h5⟩ := arrayOverA_spec h
  obtain ⟨k', hk', he⟩ := hvm.2.2 _ _ h3
  have hi : (U.vm.classes.findIdx? fun (x : Class) => match x.kind with | .array component _ => component == comp | _ => false) = some c := by
    have e1 := va_idx_bare U.vm comp
    have e2 := va_idx_bare u.vm comp
    first | rw [hvm.bare_eq] at e2 | rw [← hvm.bare_eq] at e2
    exact e1.symm.trans (e2.trans h2)
  have hkind : k'.kind = .array comp (.array t) := by rw [he]; exact h4
  have f1 : U.vm.findClass (FieldType.array t).toString = some comp := by rw [hvm.findClass]; exact h1
  have f2 : U.vm.findClass ("[" ++ (FieldType.array t).toString) = some c := by rw [hvm.findClass]; exact h5
  unfold Cond.before Cond.holds
  simp only [Cond.value]
  rw [f1, Option.bind_some]
  refine (congrArg (fun o : Option Nat => (o.bind (fun c => (U.vm.classes[c]?).map fun (k : Class) => match k.kind with | .array _ ty => decide (ty = FieldType.array t) && decide (U.vm.findClass ("[" ++ (FieldType.array t).toString) = some c) | _ => false) == some true)) hi).trans ?_
  simp [hk', hkind, f2]
theorem jG.moved {base b : Nat} {D : va_G} {cA : Nat → ClassId} {u U : State} (hvm : u.vm.Alike U.vm) (hn : jNest u → jNest U) (hh : base ≤ U.heap.size) (h : jG base b D cA u) : jG base b D cA U :=
  ⟨va_K.moved hvm h.1, h.2.1, hh, hn h.2.2.2.1, jAOA_moved hvm h.2.2.2.2.1, jAOA_moved hvm h.2.2.2.2.2.1, va_AO.use (va_AO.moved hvm (va_AO.of h.2.2.2.2.2.2))⟩
def jQc (base b : Nat) (D : va_G) (cA : Nat → ClassId) (Qz : Option jV → Nat → (Int → jE) → Prop) : Array Value → State → Outcome → State → Prop := fun _ st o t =>
  (∃ (r : Option jV) (n' : Nat) (h' : Int → jE), o = .returned (r.map (jvv base b)) ∧ Qz r n' h' ∧ jW base b D cA n' h' t.heap) ∧ va_F (fun q => base ≤ q) st t
def jent : List jV → List jV
  | [] => []
  | .inl x :: t => jI x :: jent t
  | .inr (.inl x) :: t => jL x :: jU :: jent t
  | .inr (.inr (.inl x)) :: t => .inr (.inr (.inl x)) :: jent t
  | .inr (.inr (.inr ())) :: t => jU :: jent t
def jen (maxL : Nat) (As : List jV) : List jV := jent As ++ List.replicate (maxL - (jent As).length) jU
def jnu : jV → Bool
  | .inr (.inr (.inr ())) => false
  | _ => true
theorem jl_rep (base b : Nat) : ∀ (k i : Nat), jl base b i (List.replicate k jU) = []
  | 0, _ => rfl
  | k + 1, i => by rw [List.replicate_succ]; exact jl_rep base b k (i + 1)
theorem jl_args (base b : Nat) (k : Nat) : ∀ (As : List jV) (i : Nat), As.all jnu = true → jl base b i (jent As ++ List.replicate k jU) = lv_args i (As.map (jvv base b))
  | [], i, _ => jl_rep base b k i
  | .inl x :: t, i, h => by
    simp only [List.all_cons, Bool.and_eq_true] at h
    exact congrArg (List.cons (i, jvv base b (.inl x))) (jl_args base b k t (i + 1) h.2)
  | .inr (.inl x) :: t, i, h => by
    simp only [List.all_cons, Bool.and_eq_true] at h
    exact congrArg (List.cons (i, jvv base b (.inr (.inl x)))) (jl_args base b k t (i + 1 + 1) h.2)
  | .inr (.inr (.inl none)) :: t, i, h => by
    simp only [List.all_cons, Bool.and_eq_true] at h
    exact congrArg (List.cons (i, jvv base b (.inr (.inr (.inl none))))) (jl_args base b k t (i + 1) h.2)
  | .inr (.inr (.inl (some x))) :: t, i, h => by
    simp only [List.all_cons, Bool.and_eq_true] at h
    exact congrArg (List.cons (i, jvv base b (.inr (.inr (.inl (some x)))))) (jl_args base b k t (i + 1) h.2)
  | .inr (.inr (.inr ())) :: t, i, h => by simp [jnu] at h
theorem lg_sl_cons (v : Value) (vs : List Value) : (lg_sl (v :: vs)).length = (if v.category = 2 then 2 else 1) + (lg_sl vs).length := by
  unfold lg_sl
  rw [List.flatMap_cons, List.length_append]
  split <;> rfl
theorem jl_sl (base b : Nat) : ∀ (As : List jV), As.all jnu = true → (lg_sl (As.map (jvv base b))).length = (jent As).length
  | [], _ => rfl
  | .inl x :: t, h => by
    simp only [List.all_cons, Bool.and_eq_true] at h
    rw [List.map_cons, lg_sl_cons, jl_sl base b t h.2]
    show 1 + _ = (jent t).length + 1
    omega
  | .inr (.inl x) :: t, h => by
    simp only [List.all_cons, Bool.and_eq_true] at h
    rw [List.map_cons, lg_sl_cons, jl_sl base b t h.2]
    show 2 + _ = (jent t).length + 1 + 1
    omega
  | .inr (.inr (.inl none)) :: t, h => by
    simp only [List.all_cons, Bool.and_eq_true] at h
    rw [List.map_cons, lg_sl_cons, jl_sl base b t h.2]
    show 1 + _ = (jent t).length + 1
    omega
  | .inr (.inr (.inl (some x))) :: t, h => by
    simp only [List.all_cons, Bool.and_eq_true] at h
    rw [List.map_cons, lg_sl_cons, jl_sl base b t h.2]
    show 1 + _ = (jent t).length + 1
    omega
  | .inr (.inr (.inr ())) :: t, h => by simp [jnu] at h
theorem j_met {z : jM} {As : List jV} {n : Nat} {h : Int → jE} {Qz : Option jV → Nat → (Int → jE) → Prop} (hp : plainName z.2.1.cls = true) (hown : z.2.1.cls = z.1) (hu : As.all jnu = true) (hlen : (jent As).length ≤ z.2.2.2.1) (hz : jJ z 0 (jen z.2.2.2.1 As) [] n h 0 0 Qz) (l : Launch) (base b : Nat) (D : va_G) (cA : Nat → ClassId) :
    Met l z.2.1 (Cond.code z.2.1 z.2.2.1 z.2.2.2.1 z.2.2.2.2.1 :: jws) z.2.2.2.2.2 (va_Pc (As.map (jvv base b)) (fun U => jG base b D cA U ∧ jW base b D cA n h U.heap)) (jQc base b D cA Qz) z.2.2.2.2.2.cells z.2.2.2.2.2.slots (fun q => base ≤ q) := by
  refine Met.ofW (cc := z.2.2.1) (maxL := z.2.2.2.1) (ret := z.2.2.2.2.1) hp rfl ?_
  intro p e s m args below meth c s₁ B hml hv
  obtain ⟨rfl, hG, hW⟩ := hv
  have hts := atoms_spec (ws := Cond.code z.2.1 z.2.2.1 z.2.2.2.1 z.2.2.2.2.1 :: jws) B.pre
  have hown2 : s.vm.findClass z.1 = some m.cls := by rw [← hown]; exact findClass_of_methodNamed B.named
  have hC : jC z p s m (As.map (jvv base b)).toArray meth c := ⟨B.exec, B.bytes, hml, B.returns, hown2, fun w hw => hts w (List.mem_cons_of_mem _ hw), B.notSynchronized, (name_of_methodNamed B.named B.method).1⟩
  have hl := lv_entry (As.map (jvv base b)) (n := z.2.2.2.1) (by rw [jl_sl base b As hu]; exact hlen)
  rw [← jl_args base b (z.2.2.2.1 - (jent As).length) As 0 hu] at hl
  rw [lg_entry_eq]
  refine hz p l e s m _ below meth c base b D cA s.heap [] _ _ hC hG hW va_S.rf hl (fun r n' h' H' locs' pc' ls' q hr hW' hS' => ?_)
  rcases hr with ⟨x, rfl, hd, hret⟩ | ⟨x, rfl, hd, hret, hx⟩ | ⟨x, rfl, hd, hret⟩ | ⟨rfl, hd, hret⟩
  · exact W.iret (v := Int32.ofInt x) B.exec B.bytes (B.returns.trans hret) (fun t ht hWm => ⟨⟨some (jI x), n', h', rfl, q, by rw [ht]; exact hW'⟩, hS'.F ht⟩) hS'.2.2 hd
  · exact W.zret (ty := .boolean) (v := Int32.ofInt x) B.exec B.bytes (B.returns.trans hret) (by rcases hx with rfl | rfl <;> rfl) (fun t ht hWm => ⟨⟨some (jI x), n', h', rfl, q, by rw [ht]; exact hW'⟩, hS'.F ht⟩) hS'.2.2 hd
  · exact W.lret (v := Int64.ofInt x) B.exec B.bytes (B.returns.trans hret) (fun t ht hWm => ⟨⟨some (jL x), n', h', rfl, q, by rw [ht]; exact hW'⟩, hS'.F ht⟩) hS'.2.2 hd
  · exact W.vret B.exec B.bytes (B.returns.trans hret) (fun t ht hWm => ⟨⟨none, n', h', rfl, q, by rw [ht]; exact hW'⟩, hS'.F ht⟩) hS'.2.2 hd
section JCALL
variable {p : Program} {l : Launch} {e : Env} {R : Room} {s : State} {m : MethodId} {args : Array Value} {below : List Frame} {meth : Method} {c : Code} {H : Heap} {locs : List Loc} {cells slots : Nat} {Q : State → Prop}
theorem j_after {base b mc ms pc : Nat} {D : va_G} {cA : Nat → ClassId} {Qz : Option jV → Nat → (Int → jE) → Prop} {lsS : Array Slot} {st0 rest : List Value} {a : Array Value} (hr : va_Run p l e R s m args below meth c H locs cells slots mc ms (F0 m pc lsS st0) rest (jQc base b D cA Qz a) (fun q => base ≤ q)) (hS : va_S (fun q => base ≤ q) s.heap H locs)
    (kk : ∀ (r : Option jV) (n' : Nat) (h' : Int → jE) (H' : Heap) (locs' : List Loc), Qz r n' h' → jW base b D cA n' h' H' → va_S (fun q => base ≤ q) s.heap H' locs' → W p l e R s m args below meth c H' locs' (cells + mc) (slots + ms) Q (F0 m (pc + 3) lsS ((r.map (jvv base b)).toList ++ rest))) : W p l e R s m args below meth c H locs cells slots Q (F0 m pc lsS st0) := by
  intro T hT X
  obtain ⟨v, st₀, t, T', L, h0, X', hL, e1, e2, ⟨⟨r, n', h', hv, hq, hw⟩, hz, hk⟩, st⟩ := hr T hT X
  cases hv
  rw [h0] at hz hk
  obtain ⟨t2, a1, b1⟩ := kk r n' h' T'.heap (locs ++ L) hq (by rw [e1]; exact hw)
    ⟨Nat.le_trans hS.1 (by rw [e1]; exact hz), fun q h1 h2 => by rw [e1, hk q (Nat.lt_of_lt_of_le h1 hS.1) h2]; exact hS.2.1 q h1 h2, fun q hq => by
      rcases List.mem_append.mp hq with h | h
      · exact hS.2.2 q h
      · exact hL q h⟩ T' rfl X'
  exact ⟨t2, st t2 a1, b1⟩
end JCALL
def jcat : jV → Nat
  | .inr (.inl _) => 2
  | _ => 1
theorem jcat_sum (base b : Nat) : ∀ st : List jV, ((st.map (jvv base b)).map fun v => v.category).sum = (st.map jcat).sum
  | [] => rfl
  | a :: t => by
    simp only [List.map_cons, List.sum_cons]
    rw [jcat_sum base b t]
    congr 1
    obtain x | x | x | x := a
    · rfl
    · rfl
    · cases x <;> rfl
    · rfl
/-- what the tables say of a call's method, whatever the kind of call -/
def jcm (z : jM) (np : Nat) : Prop := Cond.code z.2.1 z.2.2.1 z.2.2.2.1 z.2.2.2.2.1 ∈ jws ∧ Cond.initialized z.1 ∈ jws ∧ z.2.1.cls = z.1 ∧ plainName z.2.1.cls = true ∧ (z.2.1.cls ≠ "java/lang/invoke/MethodHandle" ∧ z.2.1.cls ≠ "java/lang/invoke/VarHandle") ∧ (parseMethodDescriptor z.2.1.desc).map (fun d => d.parameters.length) = some np
def jrm (me z : jM) (nc ns : Nat) : Bool := decide (z.2.2.2.2.2.frames + 1 ≤ me.2.2.2.2.2.frames) && (decide (8 + (z.2.2.2.1 + 11) + z.2.2.2.2.2.locals ≤ me.2.2.2.2.2.locals) && (decide (nc + z.2.2.2.2.2.cells ≤ me.2.2.2.2.2.cells) && decide (ns + z.2.2.2.2.2.slots ≤ me.2.2.2.2.2.slots)))
theorem jblind {As : List jV} {base b : Nat} {D : va_G} {cA : Nat → ClassId} {n : Nat} {h : Int → jE} : FrameBlind (va_Pc (As.map (jvv base b)) (fun U => jG base b D cA U ∧ jW base b D cA n h U.heap)) := fun a U g mk q => ⟨q.1, jG.moved (u := U) (U := U.calling g mk a) (Vm.Alike.refl U.vm) (fun hq w hw => va_Nw.same rfl rfl (hq w hw)) q.2.1.2.2.1 q.2.1, q.2.2⟩
theorem jpre {As : List jV} {base b : Nat} {D : va_G} {cA : Nat → ClassId} {n : Nat} {h : Int → jE} {s : State} {H : Heap} (G : jG base b D cA s) (hW : jW base b D cA n h H) (U : State) (hU : U.heap = H) (hw : s.WarmedH U.vm) : va_Pc (As.map (jvv base b)) (fun U => jG base b D cA U ∧ jW base b D cA n h U.heap) (As.map (jvv base b)).toArray U :=
  ⟨rfl, jG.moved hw.alike (fun hq w hw9 => va_Nw.warmM hw (hq w hw9)) (by rw [hU, hW.1]; omega) G, by rw [hU]; exact hW⟩
-- ===== the call rules (gen/calls.py) =====
theorem j_invV {me : jM} {pc : Nat} {ls st : List jV} {n : Nat} {h : Int → jE} {nc ns : Nat} {Q : Option jV → Nat → (Int → jE) → Prop} {z : jM} {x : Int} {idx np : Nat} {Qz : Option jV → Nat → (Int → jE) → Prop} {ls0 : List jV} (As rest : List jV) {ci : Nat} {fs : List jV} (hd : decode me.2.2.1 pc = .ok (.invokevirtual idx, 3)) (hcm : jcm z np) (hw : Cond.methodLink me.1 idx z.2.1 ∈ jws) (hw2 : Cond.instanceMethod z.2.1 ∈ jws) (hw3 : Cond.selects z.1 z.2.1 z.2.1 ∈ jws) (hc : (vwCl[ci]?).map (fun q => q.1) = some z.1) (hk : h x = .inl (ci, fs)) (hroom : jrm me z nc ns = true) (hs : st = As.reverse ++ jR x :: rest) (hnp : As.length = np) (hcat : (rest.map jcat).sum ≤ 8) (hu : (jR x :: As).all jnu = true) (hlen : (jent (jR x :: As)).length ≤ z.2.2.2.1) (hls : jen z.2.2.2.1 (jR x :: As) = ls0) (hx : 0 ≤ x ∧ x ≤ n) (hz : jJ z 0 ls0 [] n h 0 0 Qz) (kk : ∀ r n' h', Qz r n' h' → jJ me (pc + 3) ls (r.toList ++ rest) n' h' (nc + z.2.2.2.2.2.cells) (ns + z.2.2.2.2.2.slots) Q) : jJ me pc ls st n h nc ns Q := by
  intro p l e s m args below meth c base b D cA H locs lsS Z C G hW hS hl hZ
  subst hs
  subst hls
  obtain ⟨hcode, hini, hcls, hpl, hmh, hpd⟩ := hcm
  simp only [jrm, Bool.and_eq_true, decide_eq_true_eq] at hroom
  obtain ⟨r1, r2, r3, r4⟩ := hroom
  have hts := C.2.2.2.2.2.1
  have hM := j_met (n := n) (h := h) hpl hcls hu hlen hz l base b D cA
  have hini2 : Cond.initialized z.2.1.cls ∈ jws := by rw [hcls]; exact hini
  have hG : ∀ w ∈ (Cond.code z.2.1 z.2.2.1 z.2.2.2.1 z.2.2.2.2.1 :: jws), w ∈ jws := fun w hw => by
    rcases List.mem_cons.mp hw with rfl | hw
    · exact hcode
    · exact hw
  have hrest : 2 * (F0 m pc lsS ((As.reverse ++ jR x :: rest).map (jvv base b))).monitorRoom + ((rest.map (jvv base b)).map fun v => v.category).sum ≤ 8 := by rw [jcat_sum]; show 2 * 0 + _ ≤ 8; omega
  have hstk : (F0 m pc lsS ((As.reverse ++ jR x :: rest).map (jvv base b))).stack = (As.map (jvv base b)).reverse ++ Value.ref (jad base b x) :: rest.map (jvv base b) := by
    show (As.reverse ++ jR x :: rest).map (jvv base b) = _
    rw [List.map_append, List.map_reverse]
    rfl
  have cw : CallW me.2.2.2.2.2 s args me.1 z.1 idx z.2.1 z.2.2.1 z.2.2.2.1 z.2.2.2.2.1 (Cond.code z.2.1 z.2.2.1 z.2.2.2.1 z.2.2.2.2.1 :: jws) z.2.2.2.2.2 z.2.2.2.2.2.cells z.2.2.2.2.2.slots np :=
    cwV np hts (jgoodIn (fun w hw9 => by
      rcases List.mem_append.mp hw9 with q | q
      · simp only [List.mem_cons, List.not_mem_nil, or_false] at q
        rcases q with rfl | rfl | rfl | rfl
        · exact hw
        · exact hw2
        · exact hw3
        · exact hini
      · exact hG w q)) rfl rfl rfl ⟨hcls, hmh.1, hmh.2, hpd⟩ ⟨r1, r2⟩
  have hat := hW.at hx.1 hx.2
  rw [hk] at hat
  have hrecv : ∃ cell : Cell, H[jad base b x]? = some cell ∧ cell.vm.isStatics = false ∧ s.vm.findClass z.1 = some cell.cls := by
    cases hv : vwCl[ci]? with
    | none => rw [hv] at hc; cases hc
    | some q9 =>
      rw [hv] at hc
      have := va_recv G.1 (jP1 hat) hv (q0 := 0) rfl
      rw [show q9.1 = z.1 from Option.some.inj hc] at this
      exact this
  refine j_after (Q := Z) (va_runV (C := z.1) (As := As.map (jvv base b)) (rest := rest.map (jvv base b)) (b := jad base b x) ⟨C.1, C.2.1, C.2.2.1, C.2.2.2.2.1, hts⟩ hM cw ⟨jblind, hrecv, fun U hU hw => jpre G hW U hU hw⟩ rfl (by rw [List.length_map]; exact hnp) hl.1 hstk hrest hd ⟨r3, r4⟩) hS (fun r n' h' H' locs' q hW' hS' => ?_)
  have e9 := kk r n' h' q p l e s m args below meth c base b D cA H' locs' lsS Z C G hW' hS' hl hZ
  have e8 : (r.map (jvv base b)).toList ++ rest.map (jvv base b) = (r.toList ++ rest).map (jvv base b) := by rw [List.map_append]; cases r <;> rfl
  rw [e8]
  exact e9
theorem j_invS {me : jM} {pc : Nat} {ls st : List jV} {n : Nat} {h : Int → jE} {nc ns : Nat} {Q : Option jV → Nat → (Int → jE) → Prop} {z : jM} {x : Int} {idx np : Nat} {Qz : Option jV → Nat → (Int → jE) → Prop} {ls0 : List jV} (As rest : List jV) (hd : decode me.2.2.1 pc = .ok (.invokestatic idx, 3)) (hcm : jcm z np) (hw : Cond.methodLink me.1 idx z.2.1 ∈ jws) (hw2 : Cond.static z.2.1 ∈ jws) (hroom : jrm me z nc ns = true) (hs : st = As.reverse ++ rest) (hnp : As.length = np) (hcat : (rest.map jcat).sum ≤ 8) (hu : (As).all jnu = true) (hlen : (jent (As)).length ≤ z.2.2.2.1) (hls : jen z.2.2.2.1 (As) = ls0) (hz : jJ z 0 ls0 [] n h 0 0 Qz) (kk : ∀ r n' h', Qz r n' h' → jJ me (pc + 3) ls (r.toList ++ rest) n' h' (nc + z.2.2.2.2.2.cells) (ns + z.2.2.2.2.2.slots) Q) : jJ me pc ls st n h nc ns Q := by
  intro p l e s m args below meth c base b D cA H locs lsS Z C G hW hS hl hZ
  subst hs
  subst hls
  obtain ⟨hcode, hini, hcls, hpl, hmh, hpd⟩ := hcm
  simp only [jrm, Bool.and_eq_true, decide_eq_true_eq] at hroom
  obtain ⟨r1, r2, r3, r4⟩ := hroom
  have hts := C.2.2.2.2.2.1
  have hM := j_met (n := n) (h := h) hpl hcls hu hlen hz l base b D cA
  have hini2 : Cond.initialized z.2.1.cls ∈ jws := by rw [hcls]; exact hini
  have hG : ∀ w ∈ (Cond.code z.2.1 z.2.2.1 z.2.2.2.1 z.2.2.2.2.1 :: jws), w ∈ jws := fun w hw => by
    rcases List.mem_cons.mp hw with rfl | hw
    · exact hcode
    · exact hw
  have hrest : 2 * (F0 m pc lsS ((As.reverse ++ rest).map (jvv base b))).monitorRoom + ((rest.map (jvv base b)).map fun v => v.category).sum ≤ 8 := by rw [jcat_sum]; show 2 * 0 + _ ≤ 8; omega
  have hstk : (F0 m pc lsS ((As.reverse ++ rest).map (jvv base b))).stack = (As.map (jvv base b)).reverse ++ rest.map (jvv base b) := by
    show (As.reverse ++ rest).map (jvv base b) = _
    rw [List.map_append, List.map_reverse]
  have cw := va_cwS (R := me.2.2.2.2.2) (args := args) (own := me.1) (index := idx) (bytes := z.2.2.1) (maxL := z.2.2.2.1) (ret := z.2.2.2.2.1) (rm := z.2.2.2.2.2) np hts (jgoodIn (ws := va_wsS me.1 idx z.2.1 (Cond.code z.2.1 z.2.2.1 z.2.2.2.1 z.2.2.2.2.1 :: jws)) (fun w hw9 => by
      rcases List.mem_append.mp hw9 with q | q
      · simp only [List.mem_cons, List.not_mem_nil, or_false] at q
        rcases q with rfl | rfl | rfl
        · exact hw
        · exact hw2
        · exact hini2
      · exact hG w q)) rfl rfl rfl ⟨hmh.1, hmh.2, hpd⟩ ⟨r1, r2⟩
  refine j_after (Q := Z) (va_runS (As := As.map (jvv base b)) (rest := rest.map (jvv base b)) ⟨C.1, C.2.1, C.2.2.1, C.2.2.2.2.1, hts⟩ hM cw ⟨jblind, fun U hU hw => jpre G hW U hU hw⟩ rfl (by rw [List.length_map]; exact hnp) hl.1 hstk hrest hd ⟨r3, r4⟩) hS (fun r n' h' H' locs' q hW' hS' => ?_)
  have e9 := kk r n' h' q p l e s m args below meth c base b D cA H' locs' lsS Z C G hW' hS' hl hZ
  have e8 : (r.map (jvv base b)).toList ++ rest.map (jvv base b) = (r.toList ++ rest).map (jvv base b) := by rw [List.map_append]; cases r <;> rfl
  rw [e8]
  exact e9
theorem j_invSN {me : jM} {pc : Nat} {ls st : List jV} {n : Nat} {h : Int → jE} {nc ns : Nat} {Q : Option jV → Nat → (Int → jE) → Prop} {z : jM} {x : Int} {idx np : Nat} {Qz : Option jV → Nat → (Int → jE) → Prop} {ls0 : List jV} (As rest : List jV) (hd : decode me.2.2.1 pc = .ok (.invokestatic idx, 3)) (hcm : jcm z np) (hw : (me.1, idx, z.2.1) ∈ jnest) (hw2 : Cond.static z.2.1 ∈ jws) (hroom : jrm me z nc ns = true) (hs : st = As.reverse ++ rest) (hnp : As.length = np) (hcat : (rest.map jcat).sum ≤ 8) (hu : (As).all jnu = true) (hlen : (jent (As)).length ≤ z.2.2.2.1) (hls : jen z.2.2.2.1 (As) = ls0) (hz : jJ z 0 ls0 [] n h 0 0 Qz) (kk : ∀ r n' h', Qz r n' h' → jJ me (pc + 3) ls (r.toList ++ rest) n' h' (nc + z.2.2.2.2.2.cells) (ns + z.2.2.2.2.2.slots) Q) : jJ me pc ls st n h nc ns Q := by
  intro p l e s m args below meth c base b D cA H locs lsS Z C G hW hS hl hZ
  subst hs
  subst hls
  obtain ⟨hcode, hini, hcls, hpl, hmh, hpd⟩ := hcm
  simp only [jrm, Bool.and_eq_true, decide_eq_true_eq] at hroom
  obtain ⟨r1, r2, r3, r4⟩ := hroom
  have hts := C.2.2.2.2.2.1
  have hM := j_met (n := n) (h := h) hpl hcls hu hlen hz l base b D cA
  have hini2 : Cond.initialized z.2.1.cls ∈ jws := by rw [hcls]; exact hini
  have hG : ∀ w ∈ (Cond.code z.2.1 z.2.2.1 z.2.2.2.1 z.2.2.2.2.1 :: jws), w ∈ jws := fun w hw => by
    rcases List.mem_cons.mp hw with rfl | hw
    · exact hcode
    · exact hw
  have hrest : 2 * (F0 m pc lsS ((As.reverse ++ rest).map (jvv base b))).monitorRoom + ((rest.map (jvv base b)).map fun v => v.category).sum ≤ 8 := by rw [jcat_sum]; show 2 * 0 + _ ≤ 8; omega
  have hstk : (F0 m pc lsS ((As.reverse ++ rest).map (jvv base b))).stack = (As.map (jvv base b)).reverse ++ rest.map (jvv base b) := by
    show (As.reverse ++ rest).map (jvv base b) = _
    rw [List.map_append, List.map_reverse]
  have cw := va_cnB (R := me.2.2.2.2.2) (args := args) (own := me.1) (host := "PraiseDrawer") (index := idx) (bytes := z.2.2.1) (maxL := z.2.2.2.1) (ret := z.2.2.2.2.1) (rm := z.2.2.2.2.2) np hts (jgoodIn hG) rfl rfl rfl (G.2.2.2.1 _ hw) (hts _ hini2) ⟨hmh.1, hmh.2, hpd⟩ ⟨r1, r2⟩
  refine j_after (Q := Z) (va_runSN (As := As.map (jvv base b)) (rest := rest.map (jvv base b)) ⟨C.1, C.2.1, C.2.2.1, C.2.2.2.2.1, hts⟩ hM ⟨cw, hts _ hw2, trivial⟩ ⟨jblind, fun U hU hw => jpre G hW U hU hw⟩ rfl (by rw [List.length_map]; exact hnp) hl.1 hstk hrest hd ⟨r3, r4⟩) hS (fun r n' h' H' locs' q hW' hS' => ?_)
  have e9 := kk r n' h' q p l e s m args below meth c base b D cA H' locs' lsS Z C G hW' hS' hl hZ
  have e8 : (r.map (jvv base b)).toList ++ rest.map (jvv base b) = (r.toList ++ rest).map (jvv base b) := by rw [List.map_append]; cases r <;> rfl
  rw [e8]
  exact e9
theorem j_invI {me : jM} {pc : Nat} {ls st : List jV} {n : Nat} {h : Int → jE} {nc ns : Nat} {Q : Option jV → Nat → (Int → jE) → Prop} {z : jM} {x : Int} {idx np : Nat} {Qz : Option jV → Nat → (Int → jE) → Prop} {ls0 : List jV} (As rest : List jV) (hd : decode me.2.2.1 pc = .ok (.invokespecial idx, 3)) (hcm : jcm z np) (hw : Cond.methodLink me.1 idx z.2.1 ∈ jws) (hw2 : Cond.instanceMethod z.2.1 ∈ jws) (hnm : z.2.1.name = "<init>") (hret : z.2.2.2.2.1 = none) (hroom : jrm me z nc ns = true) (hs : st = As.reverse ++ jR x :: rest) (hnp : As.length = np) (hcat : (rest.map jcat).sum ≤ 8) (hu : (jR x :: As).all jnu = true) (hlen : (jent (jR x :: As)).length ≤ z.2.2.2.1) (hls : jen z.2.2.2.1 (jR x :: As) = ls0) (hz : jJ z 0 ls0 [] n h 0 0 Qz) (kk : ∀ r n' h', Qz r n' h' → jJ me (pc + 3) ls (r.toList ++ rest) n' h' (nc + z.2.2.2.2.2.cells) (ns + z.2.2.2.2.2.slots) Q) : jJ me pc ls st n h nc ns Q := by
  intro p l e s m args below meth c base b D cA H locs lsS Z C G hW hS hl hZ
  subst hs
  subst hls
  obtain ⟨hcode, hini, hcls, hpl, hmh, hpd⟩ := hcm
  simp only [jrm, Bool.and_eq_true, decide_eq_true_eq] at hroom
  obtain ⟨r1, r2, r3, r4⟩ := hroom
  have hts := C.2.2.2.2.2.1
  have hM := j_met (n := n) (h := h) hpl hcls hu hlen hz l base b D cA
  have hini2 : Cond.initialized z.2.1.cls ∈ jws := by rw [hcls]; exact hini
  have hG : ∀ w ∈ (Cond.code z.2.1 z.2.2.1 z.2.2.2.1 z.2.2.2.2.1 :: jws), w ∈ jws := fun w hw => by
    rcases List.mem_cons.mp hw with rfl | hw
    · exact hcode
    · exact hw
  have hrest : 2 * (F0 m pc lsS ((As.reverse ++ jR x :: rest).map (jvv base b))).monitorRoom + ((rest.map (jvv base b)).map fun v => v.category).sum ≤ 8 := by rw [jcat_sum]; show 2 * 0 + _ ≤ 8; omega
  have hstk : (F0 m pc lsS ((As.reverse ++ jR x :: rest).map (jvv base b))).stack = (As.map (jvv base b)).reverse ++ Value.ref (jad base b x) :: rest.map (jvv base b) := by
    show (As.reverse ++ jR x :: rest).map (jvv base b) = _
    rw [List.map_append, List.map_reverse]
    rfl
  rw [hret] at hM hcode
  have cw := cwI (R := me.2.2.2.2.2) (args := args) (own := me.1) (index := idx) (bytes := z.2.2.1) (maxL := z.2.2.2.1) (rm := z.2.2.2.2.2) (ws := Cond.code z.2.1 z.2.2.1 z.2.2.2.1 none :: jws) np hts (jgoodIn (by rw [hret] at hG; exact hG)) rfl rfl rfl (hts _ hini2) (hts _ hw) (hts _ hw2) hnm ⟨hmh.1, hmh.2, hpd⟩ ⟨r1, r2⟩
  refine j_after (Q := Z) (va_runI (As := As.map (jvv base b)) (rest := rest.map (jvv base b)) (b := jad base b x) ⟨C.1, C.2.1, C.2.2.1, C.2.2.2.2.1, hts⟩ hM cw ⟨jblind, fun U hU hw => jpre G hW U hU hw⟩ rfl (by rw [List.length_map]; exact hnp) hl.1 hstk hrest hd ⟨r3, r4⟩) hS (fun r n' h' H' locs' q hW' hS' => ?_)
  have e9 := kk r n' h' q p l e s m args below meth c base b D cA H' locs' lsS Z C G hW' hS' hl hZ
  have e8 : (r.map (jvv base b)).toList ++ rest.map (jvv base b) = (r.toList ++ rest).map (jvv base b) := by rw [List.map_append]; cases r <;> rfl
  rw [e8]
  exact e9
theorem j_invIN {me : jM} {pc : Nat} {ls st : List jV} {n : Nat} {h : Int → jE} {nc ns : Nat} {Q : Option jV → Nat → (Int → jE) → Prop} {z : jM} {x : Int} {idx np : Nat} {Qz : Option jV → Nat → (Int → jE) → Prop} {ls0 : List jV} (As rest : List jV) (hd : decode me.2.2.1 pc = .ok (.invokespecial idx, 3)) (hcm : jcm z np) (hw : (me.1, idx, z.2.1) ∈ jnest) (hw2 : Cond.instanceMethod z.2.1 ∈ jws) (hnm : z.2.1.name = "<init>") (hret : z.2.2.2.2.1 = none) (hroom : jrm me z nc ns = true) (hs : st = As.reverse ++ jR x :: rest) (hnp : As.length = np) (hcat : (rest.map jcat).sum ≤ 8) (hu : (jR x :: As).all jnu = true) (hlen : (jent (jR x :: As)).length ≤ z.2.2.2.1) (hls : jen z.2.2.2.1 (jR x :: As) = ls0) (hz : jJ z 0 ls0 [] n h 0 0 Qz) (kk : ∀ r n' h', Qz r n' h' → jJ me (pc + 3) ls (r.toList ++ rest) n' h' (nc + z.2.2.2.2.2.cells) (ns + z.2.2.2.2.2.slots) Q) : jJ me pc ls st n h nc ns Q := by
  intro p l e s m args below meth c base b D cA H locs lsS Z C G hW hS hl hZ
  subst hs
  subst hls
  obtain ⟨hcode, hini, hcls, hpl, hmh, hpd⟩ := hcm
  simp only [jrm, Bool.and_eq_true, decide_eq_true_eq] at hroom
  obtain ⟨r1, r2, r3, r4⟩ := hroom
  have hts := C.2.2.2.2.2.1
  have hM := j_met (n := n) (h := h) hpl hcls hu hlen hz l base b D cA
  have hini2 : Cond.initialized z.2.1.cls ∈ jws := by rw [hcls]; exact hini
  have hG : ∀ w ∈ (Cond.code z.2.1 z.2.2.1 z.2.2.2.1 z.2.2.2.2.1 :: jws), w ∈ jws := fun w hw => by
    rcases List.mem_cons.mp hw with rfl | hw
    · exact hcode
    · exact hw
  have hrest : 2 * (F0 m pc lsS ((As.reverse ++ jR x :: rest).map (jvv base b))).monitorRoom + ((rest.map (jvv base b)).map fun v => v.category).sum ≤ 8 := by rw [jcat_sum]; show 2 * 0 + _ ≤ 8; omega
  have hstk : (F0 m pc lsS ((As.reverse ++ jR x :: rest).map (jvv base b))).stack = (As.map (jvv base b)).reverse ++ Value.ref (jad base b x) :: rest.map (jvv base b) := by
    show (As.reverse ++ jR x :: rest).map (jvv base b) = _
    rw [List.map_append, List.map_reverse]
    rfl
  rw [hret] at hM hcode
  have cw := va_cnB (R := me.2.2.2.2.2) (args := args) (own := me.1) (host := "PraiseDrawer") (index := idx) (bytes := z.2.2.1) (maxL := z.2.2.2.1) (ret := none) (rm := z.2.2.2.2.2) (ws := Cond.code z.2.1 z.2.2.1 z.2.2.2.1 none :: jws) np hts (jgoodIn (by rw [hret] at hG; exact hG)) rfl rfl rfl (G.2.2.2.1 _ hw) (hts _ hini2) ⟨hmh.1, hmh.2, hpd⟩ ⟨r1, r2⟩
  refine j_after (Q := Z) (va_runIN (As := As.map (jvv base b)) (rest := rest.map (jvv base b)) (b := jad base b x) ⟨C.1, C.2.1, C.2.2.1, C.2.2.2.2.1, hts⟩ hM ⟨cw, hnm, hts _ hw2⟩ ⟨jblind, fun U hU hw => jpre G hW U hU hw⟩ rfl (by rw [List.length_map]; exact hnp) hl.1 hstk hrest hd ⟨r3, r4⟩) hS (fun r n' h' H' locs' q hW' hS' => ?_)
  have e9 := kk r n' h' q p l e s m args below meth c base b D cA H' locs' lsS Z C G hW' hS' hl hZ
  have e8 : (r.map (jvv base b)).toList ++ rest.map (jvv base b) = (r.toList ++ rest).map (jvv base b) := by rw [List.map_append]; cases r <;> rfl
  rw [e8]
  exact e9
end
section
theorem jmem {i : Nat} {w : Cond} (h : tables_1[i]? = some w) (hg : goodWord w = true) : w ∈ jws := List.mem_filter.mpr ⟨List.mem_append_right _ (List.mem_of_getElem? h), hg⟩
theorem jmemS {i : Nat} {q : MethodName × Nat} (h : lw_privs[i]? = some q) (hg : goodWord (Cond.selects q.1.cls q.1 q.1) = true) : Cond.selects q.1.cls q.1 q.1 ∈ jws := List.mem_filter.mpr ⟨List.mem_append_left _ (List.mem_map.mpr ⟨q, List.mem_of_getElem? h, rfl⟩), hg⟩
theorem jin_ws {ws : List Cond} (h : ∀ w ∈ ws, w ∈ lw_tbl) (hg : ∀ w ∈ ws, goodWord w = true) : ∀ w ∈ ws, w ∈ jws := fun w hw => List.mem_filter.mpr ⟨h w hw, hg w hw⟩

theorem ct_X0 : jct 0 RX0 TX0 2 tyX0 := ⟨rfl, tyX0_ok, nmX0, jin_ws (by decide +kernel) (by decide +kernel)⟩
theorem ct_X1 : jct 1 RX1 TX1 5 tyX1 := ⟨rfl, tyX1_ok, nmX1, jin_ws (by decide +kernel) (by decide +kernel)⟩
theorem ct_X2 : jct 2 RX2 TX2 5 tyX2 := ⟨rfl, tyX2_ok, nmX2, jin_ws (by decide +kernel) (by decide +kernel)⟩
theorem ct_X3 : jct 3 RX3 TX3 14 tyX3 := ⟨rfl, tyX3_ok, nmX3, jin_ws (by decide +kernel) (by decide +kernel)⟩
theorem ct_X4 : jct 4 RX4 TX4 5 tyX4 := ⟨rfl, tyX4_ok, nmX4, jin_ws (by decide +kernel) (by decide +kernel)⟩
theorem ct_X5 : jct 5 RX5 TX5 2 tyX5 := ⟨rfl, tyX5_ok, nmX5, jin_ws (by decide +kernel) (by decide +kernel)⟩
theorem ct_X6 : jct 6 RX6 TX6 7 tyX6 := ⟨rfl, tyX6_ok, nmX6, jin_ws (by decide +kernel) (by decide +kernel)⟩
theorem ct_X7 : jct 7 RX7 TX7 2 tyX7 := ⟨rfl, tyX7_ok, nmX7, jin_ws (by decide +kernel) (by decide +kernel)⟩
theorem ct_X8 : jct 8 RX8 TX8 3 tyX8 := ⟨rfl, tyX8_ok, nmX8, jin_ws (by decide +kernel) (by decide +kernel)⟩
theorem ct_X9 : jct 9 RX9 TX9 3 tyX9 := ⟨rfl, tyX9_ok, nmX9, jin_ws (by decide +kernel) (by decide +kernel)⟩
theorem ct_X10 : jct 10 RX10 TX10 10 tyX10 := ⟨rfl, tyX10_ok, nmX10, jin_ws (by decide +kernel) (by decide +kernel)⟩
theorem ct_X11 : jct 11 RX11 TX11 25 tyX11 := ⟨rfl, tyX11_ok, nmX11, jin_ws (by decide +kernel) (by decide +kernel)⟩
abbrev mX0_init : jM := (RX0, yX0_init, cX0_init, 1, none, { frames := 1, cells := 1, slots := 16, locals := 20 })
abbrev mX0_put : jM := (RX0, yX0_put, cX0_put, 3, none, { frames := 1, cells := 0, slots := 0, locals := 24 })
abbrev mX0_copy : jM := (RX0, yX0_copy, cX0_copy, 2, none, { frames := 1, cells := 0, slots := 0, locals := 40 })
abbrev mX0_carryOn : jM := (RX0, yX0_carryOn, cX0_carryOn, 5, none, { frames := 0, cells := 0, slots := 0, locals := 0 })
abbrev mX0_multiply : jM := (RX0, yX0_multiply, cX0_multiply, 6, none, { frames := 1, cells := 0, slots := 0, locals := 24 })
abbrev mX0_add : jM := (RX0, yX0_add, cX0_add, 5, none, { frames := 1, cells := 0, slots := 0, locals := 24 })
abbrev mX0_restOf : jM := (RX0, yX0_restOf, cX0_restOf, 5, some .int, { frames := 0, cells := 0, slots := 0, locals := 0 })
abbrev mX0_divide : jM := (RX0, yX0_divide, cX0_divide, 5, none, { frames := 0, cells := 0, slots := 0, locals := 0 })
abbrev mX0_isAbove : jM := (RX0, yX0_isAbove, cX0_isAbove, 3, some .boolean, { frames := 0, cells := 0, slots := 0, locals := 0 })
abbrev mX1_init : jM := (RX1, yX1_init, cX1_init, 5, none, { frames := 2, cells := 11, slots := 94, locals := 40 })
abbrev mX1_wordsFor : jM := (RX1, yX1_wordsFor, cX1_wordsFor, 4, some .int, { frames := 0, cells := 0, slots := 0, locals := 0 })
abbrev mX1_takeFor : jM := (RX1, yX1_takeFor, cX1_takeFor, 3, none, { frames := 5, cells := 0, slots := 0, locals := 119 })
abbrev mX1_takeLetter : jM := (RX1, yX1_takeLetter, cX1_takeLetter, 5, none, { frames := 4, cells := 0, slots := 0, locals := 95 })
abbrev mX1_factorOf : jM := (RX1, yX1_factorOf, cX1_factorOf, 7, some .long, { frames := 3, cells := 0, slots := 0, locals := 69 })
abbrev mX1_greatest : jM := (RX1, yX1_greatest, cX1_greatest, 3, some .int, { frames := 1, cells := 0, slots := 0, locals := 22 })
abbrev mX2_init : jM := (RX2, yX2_init, cX2_init, 2, none, { frames := 1, cells := 3, slots := 76, locals := 20 })
abbrev mX2_waysOf : jM := (RX2, yX2_waysOf, cX2_waysOf, 3, some .int, { frames := 2, cells := 0, slots := 0, locals := 48 })
abbrev mX2_waysBehind : jM := (RX2, yX2_waysBehind, cX2_waysBehind, 5, some .int, { frames := 1, cells := 0, slots := 0, locals := 24 })
abbrev mX2_canRead : jM := (RX2, yX2_canRead, cX2_canRead, 5, some .boolean, { frames := 0, cells := 0, slots := 0, locals := 0 })
abbrev mX2_readerInFirst : jM := (RX2, yX2_readerInFirst, cX2_readerInFirst, 5, some .int, { frames := 2, cells := 0, slots := 0, locals := 47 })
abbrev mX2_firstReader : jM := (RX2, yX2_firstReader, cX2_firstReader, 4, some .int, { frames := 1, cells := 0, slots := 0, locals := 24 })
abbrev mX3_init : jM := (RX3, yX3_init, cX3_init, 1, none, { frames := 1, cells := 40, slots := 428, locals := 20 })
abbrev mX3_addWord : jM := (RX3, yX3_addWord, cX3_addWord, 3, some .int, { frames := 0, cells := 0, slots := 0, locals := 0 })
abbrev mX3_addHand : jM := (RX3, yX3_addHand, cX3_addHand, 2, some .int, { frames := 0, cells := 0, slots := 0, locals := 0 })
abbrev mX3_addPupil : jM := (RX3, yX3_addPupil, cX3_addPupil, 3, some .int, { frames := 0, cells := 0, slots := 0, locals := 0 })
abbrev mX3_addLetter : jM := (RX3, yX3_addLetter, cX3_addLetter, 4, some .int, { frames := 0, cells := 0, slots := 0, locals := 0 })
abbrev mX3_addToLetter : jM := (RX3, yX3_addToLetter, cX3_addToLetter, 3, some .int, { frames := 0, cells := 0, slots := 0, locals := 0 })
abbrev mX3_lettersOn : jM := (RX3, yX3_lettersOn, cX3_lettersOn, 5, some .int, { frames := 1, cells := 0, slots := 0, locals := 24 })
abbrev mX3_lettersWith : jM := (RX3, yX3_lettersWith, cX3_lettersWith, 6, some .int, { frames := 1, cells := 0, slots := 0, locals := 24 })
abbrev mX3_isOn : jM := (RX3, yX3_isOn, cX3_isOn, 5, some .boolean, { frames := 0, cells := 0, slots := 0, locals := 0 })
abbrev mX3_holds : jM := (RX3, yX3_holds, cX3_holds, 4, some .boolean, { frames := 0, cells := 0, slots := 0, locals := 0 })
abbrev mX3_digestInto : jM := (RX3, yX3_digestInto, cX3_digestInto, 6, some .long, { frames := 1, cells := 0, slots := 0, locals := 26 })
abbrev mX4_init : jM := (RX4, yX4_init, cX4_init, 2, none, { frames := 1, cells := 13, slots := 296, locals := 20 })
abbrev mX4_add : jM := (RX4, yX4_add, cX4_add, 6, some .int, { frames := 0, cells := 0, slots := 0, locals := 0 })
abbrev mX4_guessedRight : jM := (RX4, yX4_guessedRight, cX4_guessedRight, 9, some .long, { frames := 1, cells := 0, slots := 0, locals := 24 })
abbrev mX4_ask : jM := (RX4, yX4_ask, cX4_ask, 5, none, { frames := 0, cells := 0, slots := 0, locals := 0 })
abbrev mX4_allGuesses : jM := (RX4, yX4_allGuesses, cX4_allGuesses, 5, some .long, { frames := 1, cells := 0, slots := 0, locals := 23 })
abbrev mX4_hundreds : jM := (RX4, yX4_hundreds, cX4_hundreds, 4, some .long, { frames := 0, cells := 0, slots := 0, locals := 0 })
abbrev mX4_minutesOf : jM := (RX4, yX4_minutesOf, cX4_minutesOf, 4, some .int, { frames := 0, cells := 0, slots := 0, locals := 0 })
abbrev mX4_bestWithin : jM := (RX4, yX4_bestWithin, cX4_bestWithin, 10, some .int, { frames := 2, cells := 0, slots := 0, locals := 52 })
abbrev mX4_digestInto : jM := (RX4, yX4_digestInto, cX4_digestInto, 6, some .long, { frames := 1, cells := 0, slots := 0, locals := 26 })
abbrev mX5_init : jM := (RX5, yX5_init, cX5_init, 1, none, { frames := 2, cells := 4, slots := 36, locals := 46 })
abbrev mX5_put : jM := (RX5, yX5_put, cX5_put, 7, none, { frames := 2, cells := 0, slots := 0, locals := 46 })
abbrev mX5_commonOf : jM := (RX5, yX5_commonOf, cX5_commonOf, 11, some .long, { frames := 0, cells := 0, slots := 0, locals := 0 })
abbrev mX5_putBig : jM := (RX5, yX5_putBig, cX5_putBig, 6, none, { frames := 2, cells := 0, slots := 0, locals := 61 })
abbrev mX6_init : jM := (RX6, yX6_init, cX6_init, 1, none, { frames := 1, cells := 22, slots := 2504, locals := 20 })
abbrev mX6_add : jM := (RX6, yX6_add, cX6_add, 4, some .int, { frames := 0, cells := 0, slots := 0, locals := 0 })
abbrev mX6_fewestAgainst : jM := (RX6, yX6_fewestAgainst, cX6_fewestAgainst, 7, some .int, { frames := 2, cells := 0, slots := 0, locals := 45 })
abbrev mX6_takeAhead : jM := (RX6, yX6_takeAhead, cX6_takeAhead, 5, none, { frames := 1, cells := 0, slots := 0, locals := 21 })
abbrev mX6_againstFirst : jM := (RX6, yX6_againstFirst, cX6_againstFirst, 4, some .int, { frames := 0, cells := 0, slots := 0, locals := 0 })
abbrev mX6_pupilInPlace : jM := (RX6, yX6_pupilInPlace, cX6_pupilInPlace, 6, some .int, { frames := 2, cells := 0, slots := 0, locals := 46 })
abbrev mX6_firstOf : jM := (RX6, yX6_firstOf, cX6_firstOf, 4, some .int, { frames := 1, cells := 0, slots := 0, locals := 23 })
abbrev mX6_digestInto : jM := (RX6, yX6_digestInto, cX6_digestInto, 6, some .long, { frames := 0, cells := 0, slots := 0, locals := 0 })
abbrev mX7_init : jM := (RX7, yX7_init, cX7_init, 2, none, { frames := 1, cells := 10, slots := 90, locals := 20 })
abbrev mX7_longestRun : jM := (RX7, yX7_longestRun, cX7_longestRun, 7, some .int, { frames := 1, cells := 0, slots := 0, locals := 21 })
abbrev mX7_mostInOrder : jM := (RX7, yX7_mostInOrder, cX7_mostInOrder, 6, some .int, { frames := 1, cells := 0, slots := 0, locals := 21 })
abbrev mX7_leftFrom : jM := (RX7, yX7_leftFrom, cX7_leftFrom, 8, some .int, { frames := 2, cells := 0, slots := 0, locals := 47 })
abbrev mX8_init : jM := (RX8, yX8_init, cX8_init, 2, none, { frames := 1, cells := 26, slots := 240, locals := 20 })
abbrev mX8_takeAllBut : jM := (RX8, yX8_takeAllBut, cX8_takeAllBut, 5, none, { frames := 1, cells := 0, slots := 0, locals := 23 })
abbrev mX8_takeLetter : jM := (RX8, yX8_takeLetter, cX8_takeLetter, 4, none, { frames := 0, cells := 0, slots := 0, locals := 0 })
abbrev mX8_rowOf : jM := (RX8, yX8_rowOf, cX8_rowOf, 2, some .int, { frames := 0, cells := 0, slots := 0, locals := 0 })
abbrev mX8_usesOf : jM := (RX8, yX8_usesOf, cX8_usesOf, 6, some .int, { frames := 1, cells := 0, slots := 0, locals := 21 })
abbrev mX8_usesOfAll : jM := (RX8, yX8_usesOfAll, cX8_usesOfAll, 5, some .int, { frames := 1, cells := 0, slots := 0, locals := 21 })
abbrev mX8_meantAbove : jM := (RX8, yX8_meantAbove, cX8_meantAbove, 4, some .long, { frames := 2, cells := 0, slots := 0, locals := 46 })
abbrev mX8_meantBelow : jM := (RX8, yX8_meantBelow, cX8_meantBelow, 3, some .long, { frames := 2, cells := 0, slots := 0, locals := 45 })
abbrev mX9_init : jM := (RX9, yX9_init, cX9_init, 2, none, { frames := 1, cells := 2, slots := 20, locals := 20 })
abbrev mX9_take : jM := (RX9, yX9_take, cX9_take, 6, none, { frames := 1, cells := 0, slots := 0, locals := 23 })
abbrev mX9_takeLetter : jM := (RX9, yX9_takeLetter, cX9_takeLetter, 4, none, { frames := 0, cells := 0, slots := 0, locals := 0 })
abbrev mX9_wordsUpTo : jM := (RX9, yX9_wordsUpTo, cX9_wordsUpTo, 5, some .int, { frames := 0, cells := 0, slots := 0, locals := 0 })
abbrev mX9_sumOfRanks : jM := (RX9, yX9_sumOfRanks, cX9_sumOfRanks, 4, some .int, { frames := 0, cells := 0, slots := 0, locals := 0 })
abbrev mX9_rankInSecond : jM := (RX9, yX9_rankInSecond, cX9_rankInSecond, 6, some .int, { frames := 1, cells := 0, slots := 0, locals := 24 })
abbrev mX10_init : jM := (RX10, yX10_init, cX10_init, 1, none, { frames := 3, cells := 141, slots := 3834, locals := 66 })
abbrev mX10_word : jM := (RX10, yX10_word, cX10_word, 3, some .int, { frames := 2, cells := 0, slots := 0, locals := 42 })
abbrev mX10_hand : jM := (RX10, yX10_hand, cX10_hand, 2, some .int, { frames := 2, cells := 0, slots := 0, locals := 43 })
abbrev mX10_pupil : jM := (RX10, yX10_pupil, cX10_pupil, 3, some .int, { frames := 1, cells := 0, slots := 0, locals := 22 })
abbrev mX10_became : jM := (RX10, yX10_became, cX10_became, 4, some .int, { frames := 2, cells := 0, slots := 0, locals := 43 })
abbrev mX10_letter : jM := (RX10, yX10_letter, cX10_letter, 4, some .int, { frames := 2, cells := 0, slots := 0, locals := 43 })
abbrev mX10_write : jM := (RX10, yX10_write, cX10_write, 3, some .int, { frames := 2, cells := 0, slots := 0, locals := 43 })
abbrev mX10_weight : jM := (RX10, yX10_weight, cX10_weight, 4, some .int, { frames := 2, cells := 0, slots := 0, locals := 42 })
abbrev mX10_uses : jM := (RX10, yX10_uses, cX10_uses, 4, some .int, { frames := 2, cells := 0, slots := 0, locals := 47 })
abbrev mX10_means : jM := (RX10, yX10_means, cX10_means, 4, some .int, { frames := 3, cells := 0, slots := 0, locals := 72 })
abbrev mX10_odds : jM := (RX10, yX10_odds, cX10_odds, 3, some .int, { frames := 6, cells := 0, slots := 0, locals := 141 })
abbrev mX10_likeliest : jM := (RX10, yX10_likeliest, cX10_likeliest, 2, some .int, { frames := 6, cells := 0, slots := 0, locals := 141 })
abbrev mX10_says : jM := (RX10, yX10_says, cX10_says, 15, some .int, { frames := 3, cells := 0, slots := 0, locals := 72 })
abbrev mX10_year : jM := (RX10, yX10_year, cX10_year, 4, some .int, { frames := 3, cells := 0, slots := 0, locals := 72 })
abbrev mX10_asIn : jM := (RX10, yX10_asIn, cX10_asIn, 4, some .int, { frames := 2, cells := 0, slots := 0, locals := 49 })
abbrev mX10_about : jM := (RX10, yX10_about, cX10_about, 5, some .int, { frames := 2, cells := 0, slots := 0, locals := 49 })
abbrev mX10_chance : jM := (RX10, yX10_chance, cX10_chance, 12, some .int, { frames := 3, cells := 0, slots := 0, locals := 72 })
abbrev mX10_like : jM := (RX10, yX10_like, cX10_like, 4, some .int, { frames := 2, cells := 0, slots := 0, locals := 47 })
abbrev mX10_left : jM := (RX10, yX10_left, cX10_left, 3, some .int, { frames := 3, cells := 0, slots := 0, locals := 74 })
abbrev mX10_slip : jM := (RX10, yX10_slip, cX10_slip, 5, some .int, { frames := 2, cells := 0, slots := 0, locals := 43 })
abbrev mX10_said : jM := (RX10, yX10_said, cX10_said, 4, some .int, { frames := 2, cells := 0, slots := 0, locals := 43 })
abbrev mX10_order : jM := (RX10, yX10_order, cX10_order, 3, some .int, { frames := 3, cells := 0, slots := 0, locals := 71 })
abbrev mX10_sure : jM := (RX10, yX10_sure, cX10_sure, 4, some .int, { frames := 3, cells := 0, slots := 0, locals := 71 })
abbrev mX10_kin : jM := (RX10, yX10_kin, cX10_kin, 4, some .int, { frames := 1, cells := 0, slots := 0, locals := 22 })
abbrev mX10_dealt : jM := (RX10, yX10_dealt, cX10_dealt, 4, some .int, { frames := 3, cells := 0, slots := 0, locals := 71 })
abbrev mX10_bounds : jM := (RX10, yX10_bounds, cX10_bounds, 5, some .int, { frames := 3, cells := 0, slots := 0, locals := 72 })
abbrev mX10_question : jM := (RX10, yX10_question, cX10_question, 6, some .int, { frames := 2, cells := 0, slots := 0, locals := 42 })
abbrev mX10_tells : jM := (RX10, yX10_tells, cX10_tells, 2, some .int, { frames := 3, cells := 0, slots := 0, locals := 72 })
abbrev mX10_form : jM := (RX10, yX10_form, cX10_form, 2, some .int, { frames := 3, cells := 0, slots := 0, locals := 81 })
abbrev mX10_sign : jM := (RX10, yX10_sign, cX10_sign, 2, some .int, { frames := 1, cells := 0, slots := 0, locals := 22 })
abbrev mX10_limb : jM := (RX10, yX10_limb, cX10_limb, 4, some .int, { frames := 1, cells := 0, slots := 0, locals := 22 })
abbrev mX10_count : jM := (RX10, yX10_count, cX10_count, 2, some .int, { frames := 0, cells := 0, slots := 0, locals := 0 })
abbrev mX10_digest : jM := (RX10, yX10_digest, cX10_digest, 4, some .long, { frames := 4, cells := 0, slots := 0, locals := 93 })
abbrev mX10_digestOfRow : jM := (RX10, yX10_digestOfRow, cX10_digestOfRow, 7, some .long, { frames := 0, cells := 0, slots := 0, locals := 0 })
abbrev mX10_within : jM := (RX10, yX10_within, cX10_within, 3, some .boolean, { frames := 0, cells := 0, slots := 0, locals := 0 })
abbrev mX10_isRank : jM := (RX10, yX10_isRank, cX10_isRank, 1, some .boolean, { frames := 1, cells := 0, slots := 0, locals := 22 })
abbrev mX10_isYear : jM := (RX10, yX10_isYear, cX10_isYear, 1, some .boolean, { frames := 1, cells := 0, slots := 0, locals := 22 })
abbrev mX10_isGift : jM := (RX10, yX10_isGift, cX10_isGift, 1, some .boolean, { frames := 1, cells := 0, slots := 0, locals := 22 })
abbrev mX10_isPercent : jM := (RX10, yX10_isPercent, cX10_isPercent, 1, some .boolean, { frames := 1, cells := 0, slots := 0, locals := 22 })
abbrev mX10_isWord : jM := (RX10, yX10_isWord, cX10_isWord, 2, some .boolean, { frames := 1, cells := 0, slots := 0, locals := 22 })
abbrev mX10_isHand : jM := (RX10, yX10_isHand, cX10_isHand, 2, some .boolean, { frames := 1, cells := 0, slots := 0, locals := 22 })
abbrev mX10_isPupil : jM := (RX10, yX10_isPupil, cX10_isPupil, 2, some .boolean, { frames := 1, cells := 0, slots := 0, locals := 22 })
abbrev mX10_isLetter : jM := (RX10, yX10_isLetter, cX10_isLetter, 2, some .boolean, { frames := 1, cells := 0, slots := 0, locals := 22 })
abbrev mX10_choices : jM := (RX10, yX10_choices, cX10_choices, 5, some .long, { frames := 0, cells := 0, slots := 0, locals := 0 })
abbrev mX11_in : jM := (RX11, yX11_in, cX11_in, 6, some .boolean, { frames := 0, cells := 0, slots := 0, locals := 0 })
abbrev mX11_init : jM := (RX11, yX11_init, cX11_init, 2, none, { frames := 2, cells := 25, slots := 1684, locals := 45 })
abbrev mX11_trims : jM := (RX11, yX11_trims, cX11_trims, 2, none, { frames := 0, cells := 0, slots := 0, locals := 0 })
abbrev mX11_sets : jM := (RX11, yX11_sets, cX11_sets, 5, none, { frames := 1, cells := 0, slots := 0, locals := 21 })
abbrev mX11_takes : jM := (RX11, yX11_takes, cX11_takes, 4, none, { frames := 0, cells := 0, slots := 0, locals := 0 })
abbrev mX11_times : jM := (RX11, yX11_times, cX11_times, 8, none, { frames := 1, cells := 0, slots := 0, locals := 21 })
abbrev mX11_multiplies : jM := (RX11, yX11_multiplies, cX11_multiplies, 11, none, { frames := 2, cells := 0, slots := 0, locals := 45 })
abbrev mX11_adds : jM := (RX11, yX11_adds, cX11_adds, 7, none, { frames := 1, cells := 0, slots := 0, locals := 21 })
abbrev mX11_lessens : jM := (RX11, yX11_lessens, cX11_lessens, 6, none, { frames := 1, cells := 0, slots := 0, locals := 21 })
abbrev mX11_against : jM := (RX11, yX11_against, cX11_against, 4, some .int, { frames := 0, cells := 0, slots := 0, locals := 0 })
abbrev mX11_isEven : jM := (RX11, yX11_isEven, cX11_isEven, 2, some .boolean, { frames := 0, cells := 0, slots := 0, locals := 0 })
abbrev mX11_halves : jM := (RX11, yX11_halves, cX11_halves, 4, none, { frames := 1, cells := 0, slots := 0, locals := 21 })
abbrev mX11_lowers : jM := (RX11, yX11_lowers, cX11_lowers, 2, none, { frames := 2, cells := 0, slots := 0, locals := 53 })
abbrev mX11_parts : jM := (RX11, yX11_parts, cX11_parts, 13, none, { frames := 1, cells := 0, slots := 0, locals := 21 })
abbrev mX11_told : jM := (RX11, yX11_told, cX11_told, 5, some .int, { frames := 3, cells := 0, slots := 0, locals := 74 })
abbrev mX11_sign : jM := (RX11, yX11_sign, cX11_sign, 2, some .int, { frames := 0, cells := 0, slots := 0, locals := 0 })
abbrev mX11_limb : jM := (RX11, yX11_limb, cX11_limb, 3, some .int, { frames := 1, cells := 0, slots := 0, locals := 25 })
abbrev mX11_is : jM := (RX11, yX11_is, cX11_is, 3, some .boolean, { frames := 1, cells := 0, slots := 0, locals := 25 })
abbrev mX11_next : jM := (RX11, yX11_next, cX11_next, 2, some .int, { frames := 0, cells := 0, slots := 0, locals := 0 })
abbrev mX11_word : jM := (RX11, yX11_word, cX11_word, 3, some .int, { frames := 1, cells := 0, slots := 0, locals := 25 })
abbrev mX11_hand : jM := (RX11, yX11_hand, cX11_hand, 2, some .int, { frames := 1, cells := 0, slots := 0, locals := 25 })
abbrev mX11_pupil : jM := (RX11, yX11_pupil, cX11_pupil, 3, some .int, { frames := 1, cells := 0, slots := 0, locals := 25 })
abbrev mX11_became : jM := (RX11, yX11_became, cX11_became, 4, some .int, { frames := 2, cells := 0, slots := 0, locals := 47 })
abbrev mX11_letter : jM := (RX11, yX11_letter, cX11_letter, 4, some .int, { frames := 2, cells := 0, slots := 0, locals := 47 })
abbrev mX11_write : jM := (RX11, yX11_write, cX11_write, 3, some .int, { frames := 2, cells := 0, slots := 0, locals := 47 })
abbrev mX11_isGift : jM := (RX11, yX11_isGift, cX11_isGift, 1, some .boolean, { frames := 1, cells := 0, slots := 0, locals := 25 })
abbrev mX11_weight : jM := (RX11, yX11_weight, cX11_weight, 4, some .int, { frames := 2, cells := 0, slots := 0, locals := 45 })
abbrev mX11_stands : jM := (RX11, yX11_stands, cX11_stands, 5, some .int, { frames := 0, cells := 0, slots := 0, locals := 0 })
abbrev mX11_usesOf : jM := (RX11, yX11_usesOf, cX11_usesOf, 8, some .int, { frames := 1, cells := 0, slots := 0, locals := 24 })
abbrev mX11_isUse : jM := (RX11, yX11_isUse, cX11_isUse, 4, some .boolean, { frames := 2, cells := 0, slots := 0, locals := 47 })
abbrev mX11_uses : jM := (RX11, yX11_uses, cX11_uses, 4, some .int, { frames := 3, cells := 0, slots := 0, locals := 70 })
abbrev mX11_meanUp : jM := (RX11, yX11_meanUp, cX11_meanUp, 5, some .int, { frames := 2, cells := 0, slots := 0, locals := 51 })
abbrev mX11_meanDown : jM := (RX11, yX11_meanDown, cX11_meanDown, 4, some .int, { frames := 2, cells := 0, slots := 0, locals := 51 })
abbrev mX11_means : jM := (RX11, yX11_means, cX11_means, 4, some .int, { frames := 4, cells := 0, slots := 0, locals := 98 })
abbrev mX11_wordsOf : jM := (RX11, yX11_wordsOf, cX11_wordsOf, 4, some .int, { frames := 0, cells := 0, slots := 0, locals := 0 })
abbrev mX11_weighs : jM := (RX11, yX11_weighs, cX11_weighs, 5, none, { frames := 3, cells := 0, slots := 0, locals := 75 })
abbrev mX11_shares : jM := (RX11, yX11_shares, cX11_shares, 4, none, { frames := 3, cells := 0, slots := 0, locals := 75 })
abbrev mX11_odds : jM := (RX11, yX11_odds, cX11_odds, 4, some .int, { frames := 4, cells := 0, slots := 0, locals := 99 })
abbrev mX11_likeliest : jM := (RX11, yX11_likeliest, cX11_likeliest, 4, some .int, { frames := 4, cells := 0, slots := 0, locals := 99 })
abbrev mX11_says : jM := (RX11, yX11_says, cX11_says, 13, some .int, { frames := 4, cells := 0, slots := 0, locals := 98 })
abbrev mX11_isYear : jM := (RX11, yX11_isYear, cX11_isYear, 1, some .boolean, { frames := 1, cells := 0, slots := 0, locals := 25 })
abbrev mX11_wordsIn : jM := (RX11, yX11_wordsIn, cX11_wordsIn, 8, some .int, { frames := 0, cells := 0, slots := 0, locals := 0 })
abbrev mX11_year : jM := (RX11, yX11_year, cX11_year, 6, some .int, { frames := 4, cells := 0, slots := 0, locals := 98 })
abbrev mX11_asIn : jM := (RX11, yX11_asIn, cX11_asIn, 8, some .int, { frames := 2, cells := 0, slots := 0, locals := 45 })
abbrev mX11_lettersOf : jM := (RX11, yX11_lettersOf, cX11_lettersOf, 8, some .int, { frames := 1, cells := 0, slots := 0, locals := 24 })
abbrev mX11_isAbout : jM := (RX11, yX11_isAbout, cX11_isAbout, 3, some .boolean, { frames := 2, cells := 0, slots := 0, locals := 47 })
abbrev mX11_about : jM := (RX11, yX11_about, cX11_about, 4, some .int, { frames := 3, cells := 0, slots := 0, locals := 69 })
abbrev mX11_ways : jM := (RX11, yX11_ways, cX11_ways, 5, some .long, { frames := 0, cells := 0, slots := 0, locals := 0 })
abbrev mX11_chance : jM := (RX11, yX11_chance, cX11_chance, 14, some .int, { frames := 4, cells := 0, slots := 0, locals := 98 })
abbrev mX11_runOf : jM := (RX11, yX11_runOf, cX11_runOf, 7, some .int, { frames := 0, cells := 0, slots := 0, locals := 0 })
abbrev mX11_greater : jM := (RX11, yX11_greater, cX11_greater, 2, some .int, { frames := 0, cells := 0, slots := 0, locals := 0 })
abbrev mX11_likeOf : jM := (RX11, yX11_likeOf, cX11_likeOf, 7, some .int, { frames := 1, cells := 0, slots := 0, locals := 21 })
abbrev mX11_like : jM := (RX11, yX11_like, cX11_like, 4, some .int, { frames := 2, cells := 0, slots := 0, locals := 47 })
abbrev mX11_left : jM := (RX11, yX11_left, cX11_left, 6, some .int, { frames := 2, cells := 0, slots := 0, locals := 47 })
abbrev mX11_slip : jM := (RX11, yX11_slip, cX11_slip, 3, some .int, { frames := 2, cells := 0, slots := 0, locals := 47 })
abbrev mX11_said : jM := (RX11, yX11_said, cX11_said, 4, some .int, { frames := 2, cells := 0, slots := 0, locals := 47 })
abbrev mX11_againstNext : jM := (RX11, yX11_againstNext, cX11_againstNext, 5, some .int, { frames := 0, cells := 0, slots := 0, locals := 0 })
abbrev mX11_orders : jM := (RX11, yX11_orders, cX11_orders, 8, some .int, { frames := 1, cells := 0, slots := 0, locals := 24 })
abbrev mX11_order : jM := (RX11, yX11_order, cX11_order, 8, some .int, { frames := 2, cells := 0, slots := 0, locals := 51 })
abbrev mX11_sure : jM := (RX11, yX11_sure, cX11_sure, 4, some .int, { frames := 2, cells := 0, slots := 0, locals := 51 })
abbrev mX11_kin : jM := (RX11, yX11_kin, cX11_kin, 4, some .int, { frames := 1, cells := 0, slots := 0, locals := 25 })
abbrev mX11_mayRead : jM := (RX11, yX11_mayRead, cX11_mayRead, 3, some .boolean, { frames := 0, cells := 0, slots := 0, locals := 0 })
abbrev mX11_isFree : jM := (RX11, yX11_isFree, cX11_isFree, 4, some .boolean, { frames := 0, cells := 0, slots := 0, locals := 0 })
abbrev mX11_deals : jM := (RX11, yX11_deals, cX11_deals, 5, some .int, { frames := 1, cells := 0, slots := 0, locals := 23 })
abbrev mX11_dealt : jM := (RX11, yX11_dealt, cX11_dealt, 6, some .int, { frames := 2, cells := 0, slots := 0, locals := 47 })
abbrev mX11_bounds : jM := (RX11, yX11_bounds, cX11_bounds, 5, some .int, { frames := 4, cells := 0, slots := 0, locals := 98 })
abbrev mX11_isShare : jM := (RX11, yX11_isShare, cX11_isShare, 1, some .boolean, { frames := 1, cells := 0, slots := 0, locals := 25 })
abbrev mX11_question : jM := (RX11, yX11_question, cX11_question, 7, some .int, { frames := 2, cells := 0, slots := 0, locals := 45 })
abbrev mX11_tellsOf : jM := (RX11, yX11_tellsOf, cX11_tellsOf, 13, some .long, { frames := 0, cells := 0, slots := 0, locals := 0 })
abbrev mX11_wholeOf : jM := (RX11, yX11_wholeOf, cX11_wholeOf, 4, some .long, { frames := 0, cells := 0, slots := 0, locals := 0 })
abbrev mX11_tells : jM := (RX11, yX11_tells, cX11_tells, 2, some .int, { frames := 4, cells := 0, slots := 0, locals := 98 })
abbrev mX11_minutesOf : jM := (RX11, yX11_minutesOf, cX11_minutesOf, 4, some .int, { frames := 0, cells := 0, slots := 0, locals := 0 })
abbrev mX11_form : jM := (RX11, yX11_form, cX11_form, 8, some .int, { frames := 1, cells := 0, slots := 0, locals := 32 })
abbrev mX11_count : jM := (RX11, yX11_count, cX11_count, 2, some .int, { frames := 1, cells := 0, slots := 0, locals := 25 })
abbrev mX11_mixed : jM := (RX11, yX11_mixed, cX11_mixed, 8, some .long, { frames := 0, cells := 0, slots := 0, locals := 0 })
abbrev mX11_digest : jM := (RX11, yX11_digest, cX11_digest, 4, some .long, { frames := 2, cells := 0, slots := 0, locals := 51 })
abbrev mJ6_numberOfTrailingZeros_0f7a4 : jM := (RJ6, yJ6_numberOfTrailingZeros_0f7a4, cJ6_numberOfTrailingZeros_0f7a4, 2, some .int, { frames := 0, cells := 0, slots := 0, locals := 0 })
abbrev mJ6_bitCount_0f7a4 : jM := (RJ6, yJ6_bitCount_0f7a4, cJ6_bitCount_0f7a4, 1, some .int, { frames := 0, cells := 0, slots := 0, locals := 0 })
abbrev mJ9_max_7cf53 : jM := (RJ9, yJ9_max_7cf53, cJ9_max_7cf53, 2, some .int, { frames := 0, cells := 0, slots := 0, locals := 0 })
abbrev mJ9_max_f86c9 : jM := (RJ9, yJ9_max_f86c9, cJ9_max_f86c9, 4, some .long, { frames := 0, cells := 0, slots := 0, locals := 0 })
abbrev mJ9_min_7cf53 : jM := (RJ9, yJ9_min_7cf53, cJ9_min_7cf53, 2, some .int, { frames := 0, cells := 0, slots := 0, locals := 0 })
abbrev mJ9_min_f86c9 : jM := (RJ9, yJ9_min_f86c9, cJ9_min_f86c9, 4, some .long, { frames := 0, cells := 0, slots := 0, locals := 0 })
abbrev mJ7_fill_53178 : jM := (RJ7, yJ7_fill_53178, cJ7_fill_53178, 4, none, { frames := 0, cells := 0, slots := 0, locals := 0 })
abbrev mL_law : jM := (RL, yL_law, cL_law, 4, some .boolean, { frames := 9, cells := 600000, slots := 7302250, locals := 328 })
theorem fw_X3_9 : Cond.fieldLink RX3 9 (TX3 0).1 (TX3 0).2.1 (TX3 0).2.2.1 ∈ jws := jmem (i := 33) (by decide +kernel) rfl
theorem fl_X3_9 : jfd RX3 9 3 0 := ⟨RX3, TX3, 14, rfl, by decide, fw_X3_9, ct_X3.2.2.2⟩
theorem fw_X9_46 : Cond.fieldLink RX9 46 (TX3 0).1 (TX3 0).2.1 (TX3 0).2.2.1 ∈ jws := jmem (i := 34) (by decide +kernel) rfl
theorem fl_X9_46 : jfd RX9 46 3 0 := ⟨RX3, TX3, 14, rfl, by decide, fw_X9_46, ct_X3.2.2.2⟩
theorem fw_X3_15 : Cond.fieldLink RX3 15 (TX3 1).1 (TX3 1).2.1 (TX3 1).2.2.1 ∈ jws := jmem (i := 35) (by decide +kernel) rfl
theorem fl_X3_15 : jfd RX3 15 3 1 := ⟨RX3, TX3, 14, rfl, by decide, fw_X3_15, ct_X3.2.2.2⟩
theorem fw_X10_234 : Cond.fieldLink RX10 234 (TX3 1).1 (TX3 1).2.1 (TX3 1).2.2.1 ∈ jws := jmem (i := 36) (by decide +kernel) rfl
theorem fl_X10_234 : jfd RX10 234 3 1 := ⟨RX3, TX3, 14, rfl, by decide, fw_X10_234, ct_X3.2.2.2⟩
theorem fw_X3_18 : Cond.fieldLink RX3 18 (TX3 2).1 (TX3 2).2.1 (TX3 2).2.2.1 ∈ jws := jmem (i := 37) (by decide +kernel) rfl
theorem fl_X3_18 : jfd RX3 18 3 2 := ⟨RX3, TX3, 14, rfl, by decide, fw_X3_18, ct_X3.2.2.2⟩
theorem fw_X8_59 : Cond.fieldLink RX8 59 (TX3 2).1 (TX3 2).2.1 (TX3 2).2.2.1 ∈ jws := jmem (i := 38) (by decide +kernel) rfl
theorem fl_X8_59 : jfd RX8 59 3 2 := ⟨RX3, TX3, 14, rfl, by decide, fw_X8_59, ct_X3.2.2.2⟩
theorem fw_X3_21 : Cond.fieldLink RX3 21 (TX3 3).1 (TX3 3).2.1 (TX3 3).2.2.1 ∈ jws := jmem (i := 39) (by decide +kernel) rfl
theorem fl_X3_21 : jfd RX3 21 3 3 := ⟨RX3, TX3, 14, rfl, by decide, fw_X3_21, ct_X3.2.2.2⟩
theorem fw_X10_225 : Cond.fieldLink RX10 225 (TX3 3).1 (TX3 3).2.1 (TX3 3).2.2.1 ∈ jws := jmem (i := 40) (by decide +kernel) rfl
theorem fl_X10_225 : jfd RX10 225 3 3 := ⟨RX3, TX3, 14, rfl, by decide, fw_X10_225, ct_X3.2.2.2⟩
theorem fw_X3_24 : Cond.fieldLink RX3 24 (TX3 4).1 (TX3 4).2.1 (TX3 4).2.2.1 ∈ jws := jmem (i := 41) (by decide +kernel) rfl
theorem fl_X3_24 : jfd RX3 24 3 4 := ⟨RX3, TX3, 14, rfl, by decide, fw_X3_24, ct_X3.2.2.2⟩
theorem fw_X8_39 : Cond.fieldLink RX8 39 (TX3 4).1 (TX3 4).2.1 (TX3 4).2.2.1 ∈ jws := jmem (i := 42) (by decide +kernel) rfl
theorem fl_X8_39 : jfd RX8 39 3 4 := ⟨RX3, TX3, 14, rfl, by decide, fw_X8_39, ct_X3.2.2.2⟩
theorem fw_X10_113 : Cond.fieldLink RX10 113 (TX3 4).1 (TX3 4).2.1 (TX3 4).2.2.1 ∈ jws := jmem (i := 43) (by decide +kernel) rfl
theorem fl_X10_113 : jfd RX10 113 3 4 := ⟨RX3, TX3, 14, rfl, by decide, fw_X10_113, ct_X3.2.2.2⟩
theorem fw_X3_27 : Cond.fieldLink RX3 27 (TX3 5).1 (TX3 5).2.1 (TX3 5).2.2.1 ∈ jws := jmem (i := 44) (by decide +kernel) rfl
theorem fl_X3_27 : jfd RX3 27 3 5 := ⟨RX3, TX3, 14, rfl, by decide, fw_X3_27, ct_X3.2.2.2⟩
theorem fw_X9_34 : Cond.fieldLink RX9 34 (TX3 5).1 (TX3 5).2.1 (TX3 5).2.2.1 ∈ jws := jmem (i := 45) (by decide +kernel) rfl
theorem fl_X9_34 : jfd RX9 34 3 5 := ⟨RX3, TX3, 14, rfl, by decide, fw_X9_34, ct_X3.2.2.2⟩
theorem fw_X8_42 : Cond.fieldLink RX8 42 (TX3 5).1 (TX3 5).2.1 (TX3 5).2.2.1 ∈ jws := jmem (i := 46) (by decide +kernel) rfl
theorem fl_X8_42 : jfd RX8 42 3 5 := ⟨RX3, TX3, 14, rfl, by decide, fw_X8_42, ct_X3.2.2.2⟩
theorem fw_X1_63 : Cond.fieldLink RX1 63 (TX3 5).1 (TX3 5).2.1 (TX3 5).2.2.1 ∈ jws := jmem (i := 47) (by decide +kernel) rfl
theorem fl_X1_63 : jfd RX1 63 3 5 := ⟨RX3, TX3, 14, rfl, by decide, fw_X1_63, ct_X3.2.2.2⟩
theorem fw_X2_46 : Cond.fieldLink RX2 46 (TX3 5).1 (TX3 5).2.1 (TX3 5).2.2.1 ∈ jws := jmem (i := 48) (by decide +kernel) rfl
theorem fl_X2_46 : jfd RX2 46 3 5 := ⟨RX3, TX3, 14, rfl, by decide, fw_X2_46, ct_X3.2.2.2⟩
theorem fw_X7_42 : Cond.fieldLink RX7 42 (TX3 5).1 (TX3 5).2.1 (TX3 5).2.2.1 ∈ jws := jmem (i := 49) (by decide +kernel) rfl
theorem fl_X7_42 : jfd RX7 42 3 5 := ⟨RX3, TX3, 14, rfl, by decide, fw_X7_42, ct_X3.2.2.2⟩
theorem fw_X3_30 : Cond.fieldLink RX3 30 (TX3 6).1 (TX3 6).2.1 (TX3 6).2.2.1 ∈ jws := jmem (i := 50) (by decide +kernel) rfl
theorem fl_X3_30 : jfd RX3 30 3 6 := ⟨RX3, TX3, 14, rfl, by decide, fw_X3_30, ct_X3.2.2.2⟩
theorem fw_X1_40 : Cond.fieldLink RX1 40 (TX3 6).1 (TX3 6).2.1 (TX3 6).2.2.1 ∈ jws := jmem (i := 51) (by decide +kernel) rfl
theorem fl_X1_40 : jfd RX1 40 3 6 := ⟨RX3, TX3, 14, rfl, by decide, fw_X1_40, ct_X3.2.2.2⟩
theorem fw_X8_36 : Cond.fieldLink RX8 36 (TX3 6).1 (TX3 6).2.1 (TX3 6).2.2.1 ∈ jws := jmem (i := 52) (by decide +kernel) rfl
theorem fl_X8_36 : jfd RX8 36 3 6 := ⟨RX3, TX3, 14, rfl, by decide, fw_X8_36, ct_X3.2.2.2⟩
theorem fw_X10_228 : Cond.fieldLink RX10 228 (TX3 6).1 (TX3 6).2.1 (TX3 6).2.2.1 ∈ jws := jmem (i := 53) (by decide +kernel) rfl
theorem fl_X10_228 : jfd RX10 228 3 6 := ⟨RX3, TX3, 14, rfl, by decide, fw_X10_228, ct_X3.2.2.2⟩
theorem fw_X3_33 : Cond.fieldLink RX3 33 (TX3 7).1 (TX3 7).2.1 (TX3 7).2.2.1 ∈ jws := jmem (i := 54) (by decide +kernel) rfl
theorem fl_X3_33 : jfd RX3 33 3 7 := ⟨RX3, TX3, 14, rfl, by decide, fw_X3_33, ct_X3.2.2.2⟩
theorem fw_X9_37 : Cond.fieldLink RX9 37 (TX3 7).1 (TX3 7).2.1 (TX3 7).2.2.1 ∈ jws := jmem (i := 55) (by decide +kernel) rfl
theorem fl_X9_37 : jfd RX9 37 3 7 := ⟨RX3, TX3, 14, rfl, by decide, fw_X9_37, ct_X3.2.2.2⟩
theorem fw_X7_39 : Cond.fieldLink RX7 39 (TX3 7).1 (TX3 7).2.1 (TX3 7).2.2.1 ∈ jws := jmem (i := 56) (by decide +kernel) rfl
theorem fl_X7_39 : jfd RX7 39 3 7 := ⟨RX3, TX3, 14, rfl, by decide, fw_X7_39, ct_X3.2.2.2⟩
theorem fw_X3_36 : Cond.fieldLink RX3 36 (TX3 8).1 (TX3 8).2.1 (TX3 8).2.2.1 ∈ jws := jmem (i := 57) (by decide +kernel) rfl
theorem fl_X3_36 : jfd RX3 36 3 8 := ⟨RX3, TX3, 14, rfl, by decide, fw_X3_36, ct_X3.2.2.2⟩
theorem fw_X7_20 : Cond.fieldLink RX7 20 (TX3 8).1 (TX3 8).2.1 (TX3 8).2.2.1 ∈ jws := jmem (i := 58) (by decide +kernel) rfl
theorem fl_X7_20 : jfd RX7 20 3 8 := ⟨RX3, TX3, 14, rfl, by decide, fw_X7_20, ct_X3.2.2.2⟩
theorem fw_X1_43 : Cond.fieldLink RX1 43 (TX3 8).1 (TX3 8).2.1 (TX3 8).2.2.1 ∈ jws := jmem (i := 59) (by decide +kernel) rfl
theorem fl_X1_43 : jfd RX1 43 3 8 := ⟨RX3, TX3, 14, rfl, by decide, fw_X1_43, ct_X3.2.2.2⟩
theorem fw_X8_53 : Cond.fieldLink RX8 53 (TX3 8).1 (TX3 8).2.1 (TX3 8).2.2.1 ∈ jws := jmem (i := 60) (by decide +kernel) rfl
theorem fl_X8_53 : jfd RX8 53 3 8 := ⟨RX3, TX3, 14, rfl, by decide, fw_X8_53, ct_X3.2.2.2⟩
theorem fw_X9_43 : Cond.fieldLink RX9 43 (TX3 8).1 (TX3 8).2.1 (TX3 8).2.2.1 ∈ jws := jmem (i := 61) (by decide +kernel) rfl
theorem fl_X9_43 : jfd RX9 43 3 8 := ⟨RX3, TX3, 14, rfl, by decide, fw_X9_43, ct_X3.2.2.2⟩
theorem fw_X10_231 : Cond.fieldLink RX10 231 (TX3 8).1 (TX3 8).2.1 (TX3 8).2.2.1 ∈ jws := jmem (i := 62) (by decide +kernel) rfl
theorem fl_X10_231 : jfd RX10 231 3 8 := ⟨RX3, TX3, 14, rfl, by decide, fw_X10_231, ct_X3.2.2.2⟩
theorem fw_X3_41 : Cond.fieldLink RX3 41 (TX3 9).1 (TX3 9).2.1 (TX3 9).2.2.1 ∈ jws := jmem (i := 63) (by decide +kernel) rfl
theorem fl_X3_41 : jfd RX3 41 3 9 := ⟨RX3, TX3, 14, rfl, by decide, fw_X3_41, ct_X3.2.2.2⟩
theorem fw_X7_26 : Cond.fieldLink RX7 26 (TX3 9).1 (TX3 9).2.1 (TX3 9).2.2.1 ∈ jws := jmem (i := 64) (by decide +kernel) rfl
theorem fl_X7_26 : jfd RX7 26 3 9 := ⟨RX3, TX3, 14, rfl, by decide, fw_X7_26, ct_X3.2.2.2⟩
theorem fw_X8_56 : Cond.fieldLink RX8 56 (TX3 9).1 (TX3 9).2.1 (TX3 9).2.2.1 ∈ jws := jmem (i := 65) (by decide +kernel) rfl
theorem fl_X8_56 : jfd RX8 56 3 9 := ⟨RX3, TX3, 14, rfl, by decide, fw_X8_56, ct_X3.2.2.2⟩
theorem fw_X9_49 : Cond.fieldLink RX9 49 (TX3 9).1 (TX3 9).2.1 (TX3 9).2.2.1 ∈ jws := jmem (i := 66) (by decide +kernel) rfl
theorem fl_X9_49 : jfd RX9 49 3 9 := ⟨RX3, TX3, 14, rfl, by decide, fw_X9_49, ct_X3.2.2.2⟩
theorem fw_X1_66 : Cond.fieldLink RX1 66 (TX3 9).1 (TX3 9).2.1 (TX3 9).2.2.1 ∈ jws := jmem (i := 67) (by decide +kernel) rfl
theorem fl_X1_66 : jfd RX1 66 3 9 := ⟨RX3, TX3, 14, rfl, by decide, fw_X1_66, ct_X3.2.2.2⟩
theorem fw_X10_237 : Cond.fieldLink RX10 237 (TX3 9).1 (TX3 9).2.1 (TX3 9).2.2.1 ∈ jws := jmem (i := 68) (by decide +kernel) rfl
theorem fl_X10_237 : jfd RX10 237 3 9 := ⟨RX3, TX3, 14, rfl, by decide, fw_X10_237, ct_X3.2.2.2⟩
theorem fw_X3_44 : Cond.fieldLink RX3 44 (TX3 10).1 (TX3 10).2.1 (TX3 10).2.2.1 ∈ jws := jmem (i := 69) (by decide +kernel) rfl
theorem fl_X3_44 : jfd RX3 44 3 10 := ⟨RX3, TX3, 14, rfl, by decide, fw_X3_44, ct_X3.2.2.2⟩
theorem fw_X8_66 : Cond.fieldLink RX8 66 (TX3 10).1 (TX3 10).2.1 (TX3 10).2.2.1 ∈ jws := jmem (i := 70) (by decide +kernel) rfl
theorem fl_X8_66 : jfd RX8 66 3 10 := ⟨RX3, TX3, 14, rfl, by decide, fw_X8_66, ct_X3.2.2.2⟩
theorem fw_X10_176 : Cond.fieldLink RX10 176 (TX3 10).1 (TX3 10).2.1 (TX3 10).2.2.1 ∈ jws := jmem (i := 71) (by decide +kernel) rfl
theorem fl_X10_176 : jfd RX10 176 3 10 := ⟨RX3, TX3, 14, rfl, by decide, fw_X10_176, ct_X3.2.2.2⟩
theorem fw_X3_48 : Cond.fieldLink RX3 48 (TX3 11).1 (TX3 11).2.1 (TX3 11).2.2.1 ∈ jws := jmem (i := 72) (by decide +kernel) rfl
theorem fl_X3_48 : jfd RX3 48 3 11 := ⟨RX3, TX3, 14, rfl, by decide, fw_X3_48, ct_X3.2.2.2⟩
theorem fw_X10_301 : Cond.fieldLink RX10 301 (TX3 11).1 (TX3 11).2.1 (TX3 11).2.2.1 ∈ jws := jmem (i := 73) (by decide +kernel) rfl
theorem fl_X10_301 : jfd RX10 301 3 11 := ⟨RX3, TX3, 14, rfl, by decide, fw_X10_301, ct_X3.2.2.2⟩
theorem fw_X3_51 : Cond.fieldLink RX3 51 (TX3 12).1 (TX3 12).2.1 (TX3 12).2.2.1 ∈ jws := jmem (i := 74) (by decide +kernel) rfl
theorem fl_X3_51 : jfd RX3 51 3 12 := ⟨RX3, TX3, 14, rfl, by decide, fw_X3_51, ct_X3.2.2.2⟩
theorem fw_X10_244 : Cond.fieldLink RX10 244 (TX3 12).1 (TX3 12).2.1 (TX3 12).2.2.1 ∈ jws := jmem (i := 75) (by decide +kernel) rfl
theorem fl_X10_244 : jfd RX10 244 3 12 := ⟨RX3, TX3, 14, rfl, by decide, fw_X10_244, ct_X3.2.2.2⟩
theorem fw_X1_34 : Cond.fieldLink RX1 34 (TX3 13).1 (TX3 13).2.1 (TX3 13).2.2.1 ∈ jws := jmem (i := 76) (by decide +kernel) rfl
theorem fl_X1_34 : jfd RX1 34 3 13 := ⟨RX3, TX3, 14, rfl, by decide, fw_X1_34, ct_X3.2.2.2⟩
theorem fw_X2_29 : Cond.fieldLink RX2 29 (TX3 13).1 (TX3 13).2.1 (TX3 13).2.2.1 ∈ jws := jmem (i := 77) (by decide +kernel) rfl
theorem fl_X2_29 : jfd RX2 29 3 13 := ⟨RX3, TX3, 14, rfl, by decide, fw_X2_29, ct_X3.2.2.2⟩
theorem fw_X9_28 : Cond.fieldLink RX9 28 (TX3 13).1 (TX3 13).2.1 (TX3 13).2.2.1 ∈ jws := jmem (i := 78) (by decide +kernel) rfl
theorem fl_X9_28 : jfd RX9 28 3 13 := ⟨RX3, TX3, 14, rfl, by decide, fw_X9_28, ct_X3.2.2.2⟩
theorem fw_X8_30 : Cond.fieldLink RX8 30 (TX3 13).1 (TX3 13).2.1 (TX3 13).2.2.1 ∈ jws := jmem (i := 79) (by decide +kernel) rfl
theorem fl_X8_30 : jfd RX8 30 3 13 := ⟨RX3, TX3, 14, rfl, by decide, fw_X8_30, ct_X3.2.2.2⟩
theorem fw_X7_35 : Cond.fieldLink RX7 35 (TX3 13).1 (TX3 13).2.1 (TX3 13).2.2.1 ∈ jws := jmem (i := 80) (by decide +kernel) rfl
theorem fl_X7_35 : jfd RX7 35 3 13 := ⟨RX3, TX3, 14, rfl, by decide, fw_X7_35, ct_X3.2.2.2⟩
theorem fw_X3_54 : Cond.fieldLink RX3 54 (TX3 13).1 (TX3 13).2.1 (TX3 13).2.2.1 ∈ jws := jmem (i := 81) (by decide +kernel) rfl
theorem fl_X3_54 : jfd RX3 54 3 13 := ⟨RX3, TX3, 14, rfl, by decide, fw_X3_54, ct_X3.2.2.2⟩
theorem fw_X10_256 : Cond.fieldLink RX10 256 (TX3 13).1 (TX3 13).2.1 (TX3 13).2.2.1 ∈ jws := jmem (i := 82) (by decide +kernel) rfl
theorem fl_X10_256 : jfd RX10 256 3 13 := ⟨RX3, TX3, 14, rfl, by decide, fw_X10_256, ct_X3.2.2.2⟩
theorem fw_X8_20 : Cond.fieldLink RX8 20 (TX8 0).1 (TX8 0).2.1 (TX8 0).2.2.1 ∈ jws := jmem (i := 120) (by decide +kernel) rfl
theorem fl_X8_20 : jfd RX8 20 8 0 := ⟨RX8, TX8, 3, rfl, by decide, fw_X8_20, ct_X8.2.2.2⟩
theorem fw_X8_11 : Cond.fieldLink RX8 11 (TX8 1).1 (TX8 1).2.1 (TX8 1).2.2.1 ∈ jws := jmem (i := 121) (by decide +kernel) rfl
theorem fl_X8_11 : jfd RX8 11 8 1 := ⟨RX8, TX8, 3, rfl, by decide, fw_X8_11, ct_X8.2.2.2⟩
theorem fw_X8_16 : Cond.fieldLink RX8 16 (TX8 2).1 (TX8 2).2.1 (TX8 2).2.2.1 ∈ jws := jmem (i := 122) (by decide +kernel) rfl
theorem fl_X8_16 : jfd RX8 16 8 2 := ⟨RX8, TX8, 3, rfl, by decide, fw_X8_16, ct_X8.2.2.2⟩
theorem fw_X0_9 : Cond.fieldLink RX0 9 (TX0 0).1 (TX0 0).2.1 (TX0 0).2.2.1 ∈ jws := jmem (i := 146) (by decide +kernel) rfl
theorem fl_X0_9 : jfd RX0 9 0 0 := ⟨RX0, TX0, 2, rfl, by decide, fw_X0_9, ct_X0.2.2.2⟩
theorem fw_X10_298 : Cond.fieldLink RX10 298 (TX0 0).1 (TX0 0).2.1 (TX0 0).2.2.1 ∈ jws := jmem (i := 147) (by decide +kernel) rfl
theorem fl_X10_298 : jfd RX10 298 0 0 := ⟨RX0, TX0, 2, rfl, by decide, fw_X10_298, ct_X0.2.2.2⟩
theorem fw_X0_13 : Cond.fieldLink RX0 13 (TX0 1).1 (TX0 1).2.1 (TX0 1).2.2.1 ∈ jws := jmem (i := 148) (by decide +kernel) rfl
theorem fl_X0_13 : jfd RX0 13 0 1 := ⟨RX0, TX0, 2, rfl, by decide, fw_X0_13, ct_X0.2.2.2⟩
theorem fw_X10_292 : Cond.fieldLink RX10 292 (TX0 1).1 (TX0 1).2.1 (TX0 1).2.2.1 ∈ jws := jmem (i := 149) (by decide +kernel) rfl
theorem fl_X10_292 : jfd RX10 292 0 1 := ⟨RX0, TX0, 2, rfl, by decide, fw_X10_292, ct_X0.2.2.2⟩
theorem fw_X1_22 : Cond.fieldLink RX1 22 (TX1 0).1 (TX1 0).2.1 (TX1 0).2.2.1 ∈ jws := jmem (i := 155) (by decide +kernel) rfl
theorem fl_X1_22 : jfd RX1 22 1 0 := ⟨RX1, TX1, 5, rfl, by decide, fw_X1_22, ct_X1.2.2.2⟩
theorem fw_X1_26 : Cond.fieldLink RX1 26 (TX1 1).1 (TX1 1).2.1 (TX1 1).2.2.1 ∈ jws := jmem (i := 156) (by decide +kernel) rfl
theorem fl_X1_26 : jfd RX1 26 1 1 := ⟨RX1, TX1, 5, rfl, by decide, fw_X1_26, ct_X1.2.2.2⟩
theorem fw_X1_30 : Cond.fieldLink RX1 30 (TX1 2).1 (TX1 2).2.1 (TX1 2).2.2.1 ∈ jws := jmem (i := 157) (by decide +kernel) rfl
theorem fl_X1_30 : jfd RX1 30 1 2 := ⟨RX1, TX1, 5, rfl, by decide, fw_X1_30, ct_X1.2.2.2⟩
theorem fw_X1_11 : Cond.fieldLink RX1 11 (TX1 3).1 (TX1 3).2.1 (TX1 3).2.2.1 ∈ jws := jmem (i := 158) (by decide +kernel) rfl
theorem fl_X1_11 : jfd RX1 11 1 3 := ⟨RX1, TX1, 5, rfl, by decide, fw_X1_11, ct_X1.2.2.2⟩
theorem fw_X10_160 : Cond.fieldLink RX10 160 (TX1 3).1 (TX1 3).2.1 (TX1 3).2.2.1 ∈ jws := jmem (i := 159) (by decide +kernel) rfl
theorem fl_X10_160 : jfd RX10 160 1 3 := ⟨RX1, TX1, 5, rfl, by decide, fw_X10_160, ct_X1.2.2.2⟩
theorem fw_X1_18 : Cond.fieldLink RX1 18 (TX1 4).1 (TX1 4).2.1 (TX1 4).2.2.1 ∈ jws := jmem (i := 160) (by decide +kernel) rfl
theorem fl_X1_18 : jfd RX1 18 1 4 := ⟨RX1, TX1, 5, rfl, by decide, fw_X1_18, ct_X1.2.2.2⟩
theorem fw_X10_164 : Cond.fieldLink RX10 164 (TX1 4).1 (TX1 4).2.1 (TX1 4).2.2.1 ∈ jws := jmem (i := 161) (by decide +kernel) rfl
theorem fl_X10_164 : jfd RX10 164 1 4 := ⟨RX1, TX1, 5, rfl, by decide, fw_X10_164, ct_X1.2.2.2⟩
theorem fw_X9_18 : Cond.fieldLink RX9 18 (TX9 0).1 (TX9 0).2.1 (TX9 0).2.2.1 ∈ jws := jmem (i := 179) (by decide +kernel) rfl
theorem fl_X9_18 : jfd RX9 18 9 0 := ⟨RX9, TX9, 3, rfl, by decide, fw_X9_18, ct_X9.2.2.2⟩
theorem fw_X9_9 : Cond.fieldLink RX9 9 (TX9 1).1 (TX9 1).2.1 (TX9 1).2.2.1 ∈ jws := jmem (i := 180) (by decide +kernel) rfl
theorem fl_X9_9 : jfd RX9 9 9 1 := ⟨RX9, TX9, 3, rfl, by decide, fw_X9_9, ct_X9.2.2.2⟩
theorem fw_X10_180 : Cond.fieldLink RX10 180 (TX9 1).1 (TX9 1).2.1 (TX9 1).2.2.1 ∈ jws := jmem (i := 181) (by decide +kernel) rfl
theorem fl_X10_180 : jfd RX10 180 9 1 := ⟨RX9, TX9, 3, rfl, by decide, fw_X10_180, ct_X9.2.2.2⟩
theorem fw_X9_15 : Cond.fieldLink RX9 15 (TX9 2).1 (TX9 2).2.1 (TX9 2).2.2.1 ∈ jws := jmem (i := 182) (by decide +kernel) rfl
theorem fl_X9_15 : jfd RX9 15 9 2 := ⟨RX9, TX9, 3, rfl, by decide, fw_X9_15, ct_X9.2.2.2⟩
theorem fw_X10_195 : Cond.fieldLink RX10 195 (TX9 2).1 (TX9 2).2.1 (TX9 2).2.2.1 ∈ jws := jmem (i := 183) (by decide +kernel) rfl
theorem fl_X10_195 : jfd RX10 195 9 2 := ⟨RX9, TX9, 3, rfl, by decide, fw_X10_195, ct_X9.2.2.2⟩
theorem fw_X7_16 : Cond.fieldLink RX7 16 (TX7 0).1 (TX7 0).2.1 (TX7 0).2.2.1 ∈ jws := jmem (i := 198) (by decide +kernel) rfl
theorem fl_X7_16 : jfd RX7 16 7 0 := ⟨RX7, TX7, 2, rfl, by decide, fw_X7_16, ct_X7.2.2.2⟩
theorem fw_X7_11 : Cond.fieldLink RX7 11 (TX7 1).1 (TX7 1).2.1 (TX7 1).2.2.1 ∈ jws := jmem (i := 199) (by decide +kernel) rfl
theorem fl_X7_11 : jfd RX7 11 7 1 := ⟨RX7, TX7, 2, rfl, by decide, fw_X7_11, ct_X7.2.2.2⟩
theorem fw_X6_9 : Cond.fieldLink RX6 9 (TX6 0).1 (TX6 0).2.1 (TX6 0).2.2.1 ∈ jws := jmem (i := 212) (by decide +kernel) rfl
theorem fl_X6_9 : jfd RX6 9 6 0 := ⟨RX6, TX6, 7, rfl, by decide, fw_X6_9, ct_X6.2.2.2⟩
theorem fw_X6_15 : Cond.fieldLink RX6 15 (TX6 1).1 (TX6 1).2.1 (TX6 1).2.2.1 ∈ jws := jmem (i := 213) (by decide +kernel) rfl
theorem fl_X6_15 : jfd RX6 15 6 1 := ⟨RX6, TX6, 7, rfl, by decide, fw_X6_15, ct_X6.2.2.2⟩
theorem fw_X6_18 : Cond.fieldLink RX6 18 (TX6 2).1 (TX6 2).2.1 (TX6 2).2.2.1 ∈ jws := jmem (i := 214) (by decide +kernel) rfl
theorem fl_X6_18 : jfd RX6 18 6 2 := ⟨RX6, TX6, 7, rfl, by decide, fw_X6_18, ct_X6.2.2.2⟩
theorem fw_X6_32 : Cond.fieldLink RX6 32 (TX6 3).1 (TX6 3).2.1 (TX6 3).2.2.1 ∈ jws := jmem (i := 215) (by decide +kernel) rfl
theorem fl_X6_32 : jfd RX6 32 6 3 := ⟨RX6, TX6, 7, rfl, by decide, fw_X6_32, ct_X6.2.2.2⟩
theorem fw_X10_304 : Cond.fieldLink RX10 304 (TX6 3).1 (TX6 3).2.1 (TX6 3).2.2.1 ∈ jws := jmem (i := 216) (by decide +kernel) rfl
theorem fl_X10_304 : jfd RX10 304 6 3 := ⟨RX6, TX6, 7, rfl, by decide, fw_X10_304, ct_X6.2.2.2⟩
theorem fw_X6_23 : Cond.fieldLink RX6 23 (TX6 4).1 (TX6 4).2.1 (TX6 4).2.2.1 ∈ jws := jmem (i := 217) (by decide +kernel) rfl
theorem fl_X6_23 : jfd RX6 23 6 4 := ⟨RX6, TX6, 7, rfl, by decide, fw_X6_23, ct_X6.2.2.2⟩
theorem fw_X6_26 : Cond.fieldLink RX6 26 (TX6 5).1 (TX6 5).2.1 (TX6 5).2.2.1 ∈ jws := jmem (i := 218) (by decide +kernel) rfl
theorem fl_X6_26 : jfd RX6 26 6 5 := ⟨RX6, TX6, 7, rfl, by decide, fw_X6_26, ct_X6.2.2.2⟩
theorem fw_X6_29 : Cond.fieldLink RX6 29 (TX6 6).1 (TX6 6).2.1 (TX6 6).2.2.1 ∈ jws := jmem (i := 219) (by decide +kernel) rfl
theorem fl_X6_29 : jfd RX6 29 6 6 := ⟨RX6, TX6, 7, rfl, by decide, fw_X6_29, ct_X6.2.2.2⟩
theorem fw_X2_21 : Cond.fieldLink RX2 21 (TX2 0).1 (TX2 0).2.1 (TX2 0).2.2.1 ∈ jws := jmem (i := 241) (by decide +kernel) rfl
theorem fl_X2_21 : jfd RX2 21 2 0 := ⟨RX2, TX2, 5, rfl, by decide, fw_X2_21, ct_X2.2.2.2⟩
theorem fw_X2_9 : Cond.fieldLink RX2 9 (TX2 1).1 (TX2 1).2.1 (TX2 1).2.2.1 ∈ jws := jmem (i := 242) (by decide +kernel) rfl
theorem fl_X2_9 : jfd RX2 9 2 1 := ⟨RX2, TX2, 5, rfl, by decide, fw_X2_9, ct_X2.2.2.2⟩
theorem fw_X10_253 : Cond.fieldLink RX10 253 (TX2 1).1 (TX2 1).2.1 (TX2 1).2.2.1 ∈ jws := jmem (i := 243) (by decide +kernel) rfl
theorem fl_X10_253 : jfd RX10 253 2 1 := ⟨RX2, TX2, 5, rfl, by decide, fw_X10_253, ct_X2.2.2.2⟩
theorem fw_X2_15 : Cond.fieldLink RX2 15 (TX2 2).1 (TX2 2).2.1 (TX2 2).2.2.1 ∈ jws := jmem (i := 244) (by decide +kernel) rfl
theorem fl_X2_15 : jfd RX2 15 2 2 := ⟨RX2, TX2, 5, rfl, by decide, fw_X2_15, ct_X2.2.2.2⟩
theorem fw_X2_25 : Cond.fieldLink RX2 25 (TX2 3).1 (TX2 3).2.1 (TX2 3).2.2.1 ∈ jws := jmem (i := 245) (by decide +kernel) rfl
theorem fl_X2_25 : jfd RX2 25 2 3 := ⟨RX2, TX2, 5, rfl, by decide, fw_X2_25, ct_X2.2.2.2⟩
theorem fw_X2_18 : Cond.fieldLink RX2 18 (TX2 4).1 (TX2 4).2.1 (TX2 4).2.2.1 ∈ jws := jmem (i := 246) (by decide +kernel) rfl
theorem fl_X2_18 : jfd RX2 18 2 4 := ⟨RX2, TX2, 5, rfl, by decide, fw_X2_18, ct_X2.2.2.2⟩
theorem fw_X4_25 : Cond.fieldLink RX4 25 (TX4 0).1 (TX4 0).2.1 (TX4 0).2.2.1 ∈ jws := jmem (i := 267) (by decide +kernel) rfl
theorem fl_X4_25 : jfd RX4 25 4 0 := ⟨RX4, TX4, 5, rfl, by decide, fw_X4_25, ct_X4.2.2.2⟩
theorem fw_X4_9 : Cond.fieldLink RX4 9 (TX4 1).1 (TX4 1).2.1 (TX4 1).2.2.1 ∈ jws := jmem (i := 268) (by decide +kernel) rfl
theorem fl_X4_9 : jfd RX4 9 4 1 := ⟨RX4, TX4, 5, rfl, by decide, fw_X4_9, ct_X4.2.2.2⟩
theorem fw_X4_17 : Cond.fieldLink RX4 17 (TX4 2).1 (TX4 2).2.1 (TX4 2).2.2.1 ∈ jws := jmem (i := 269) (by decide +kernel) rfl
theorem fl_X4_17 : jfd RX4 17 4 2 := ⟨RX4, TX4, 5, rfl, by decide, fw_X4_17, ct_X4.2.2.2⟩
theorem fw_X4_28 : Cond.fieldLink RX4 28 (TX4 3).1 (TX4 3).2.1 (TX4 3).2.2.1 ∈ jws := jmem (i := 270) (by decide +kernel) rfl
theorem fl_X4_28 : jfd RX4 28 4 3 := ⟨RX4, TX4, 5, rfl, by decide, fw_X4_28, ct_X4.2.2.2⟩
theorem fw_X10_276 : Cond.fieldLink RX10 276 (TX4 3).1 (TX4 3).2.1 (TX4 3).2.2.1 ∈ jws := jmem (i := 271) (by decide +kernel) rfl
theorem fl_X10_276 : jfd RX10 276 4 3 := ⟨RX4, TX4, 5, rfl, by decide, fw_X10_276, ct_X4.2.2.2⟩
theorem fw_X4_22 : Cond.fieldLink RX4 22 (TX4 4).1 (TX4 4).2.1 (TX4 4).2.2.1 ∈ jws := jmem (i := 272) (by decide +kernel) rfl
theorem fl_X4_22 : jfd RX4 22 4 4 := ⟨RX4, TX4, 5, rfl, by decide, fw_X4_22, ct_X4.2.2.2⟩
theorem fw_X5_12 : Cond.fieldLink RX5 12 (TX5 0).1 (TX5 0).2.1 (TX5 0).2.2.1 ∈ jws := jmem (i := 302) (by decide +kernel) rfl
theorem fl_X5_12 : jfd RX5 12 5 0 := ⟨RX5, TX5, 2, rfl, by decide, fw_X5_12, ct_X5.2.2.2⟩
theorem fw_X10_289 : Cond.fieldLink RX10 289 (TX5 0).1 (TX5 0).2.1 (TX5 0).2.2.1 ∈ jws := jmem (i := 303) (by decide +kernel) rfl
theorem fl_X10_289 : jfd RX10 289 5 0 := ⟨RX5, TX5, 2, rfl, by decide, fw_X10_289, ct_X5.2.2.2⟩
theorem fw_X5_18 : Cond.fieldLink RX5 18 (TX5 1).1 (TX5 1).2.1 (TX5 1).2.2.1 ∈ jws := jmem (i := 304) (by decide +kernel) rfl
theorem fl_X5_18 : jfd RX5 18 5 1 := ⟨RX5, TX5, 2, rfl, by decide, fw_X5_18, ct_X5.2.2.2⟩
theorem fw_X10_295 : Cond.fieldLink RX10 295 (TX5 1).1 (TX5 1).2.1 (TX5 1).2.2.1 ∈ jws := jmem (i := 305) (by decide +kernel) rfl
theorem fl_X10_295 : jfd RX10 295 5 1 := ⟨RX5, TX5, 2, rfl, by decide, fw_X10_295, ct_X5.2.2.2⟩
theorem fw_X10_10 : Cond.fieldLink RX10 10 (TX10 0).1 (TX10 0).2.1 (TX10 0).2.2.1 ∈ jws := jmem (i := 311) (by decide +kernel) rfl
theorem fl_X10_10 : jfd RX10 10 10 0 := ⟨RX10, TX10, 10, rfl, by decide, fw_X10_10, ct_X10.2.2.2⟩
theorem fw_X10_21 : Cond.fieldLink RX10 21 (TX10 1).1 (TX10 1).2.1 (TX10 1).2.2.1 ∈ jws := jmem (i := 312) (by decide +kernel) rfl
theorem fl_X10_21 : jfd RX10 21 10 1 := ⟨RX10, TX10, 10, rfl, by decide, fw_X10_21, ct_X10.2.2.2⟩
theorem fw_X10_40 : Cond.fieldLink RX10 40 (TX10 2).1 (TX10 2).2.1 (TX10 2).2.2.1 ∈ jws := jmem (i := 313) (by decide +kernel) rfl
theorem fl_X10_40 : jfd RX10 40 10 2 := ⟨RX10, TX10, 10, rfl, by decide, fw_X10_40, ct_X10.2.2.2⟩
theorem fw_X10_47 : Cond.fieldLink RX10 47 (TX10 3).1 (TX10 3).2.1 (TX10 3).2.2.1 ∈ jws := jmem (i := 314) (by decide +kernel) rfl
theorem fl_X10_47 : jfd RX10 47 10 3 := ⟨RX10, TX10, 10, rfl, by decide, fw_X10_47, ct_X10.2.2.2⟩
theorem fw_X10_54 : Cond.fieldLink RX10 54 (TX10 4).1 (TX10 4).2.1 (TX10 4).2.2.1 ∈ jws := jmem (i := 315) (by decide +kernel) rfl
theorem fl_X10_54 : jfd RX10 54 10 4 := ⟨RX10, TX10, 10, rfl, by decide, fw_X10_54, ct_X10.2.2.2⟩
theorem fw_X10_61 : Cond.fieldLink RX10 61 (TX10 5).1 (TX10 5).2.1 (TX10 5).2.2.1 ∈ jws := jmem (i := 316) (by decide +kernel) rfl
theorem fl_X10_61 : jfd RX10 61 10 5 := ⟨RX10, TX10, 10, rfl, by decide, fw_X10_61, ct_X10.2.2.2⟩
theorem fw_X10_68 : Cond.fieldLink RX10 68 (TX10 6).1 (TX10 6).2.1 (TX10 6).2.2.1 ∈ jws := jmem (i := 317) (by decide +kernel) rfl
theorem fl_X10_68 : jfd RX10 68 10 6 := ⟨RX10, TX10, 10, rfl, by decide, fw_X10_68, ct_X10.2.2.2⟩
theorem fw_X10_77 : Cond.fieldLink RX10 77 (TX10 7).1 (TX10 7).2.1 (TX10 7).2.2.1 ∈ jws := jmem (i := 318) (by decide +kernel) rfl
theorem fl_X10_77 : jfd RX10 77 10 7 := ⟨RX10, TX10, 10, rfl, by decide, fw_X10_77, ct_X10.2.2.2⟩
theorem fw_X10_84 : Cond.fieldLink RX10 84 (TX10 8).1 (TX10 8).2.1 (TX10 8).2.2.1 ∈ jws := jmem (i := 319) (by decide +kernel) rfl
theorem fl_X10_84 : jfd RX10 84 10 8 := ⟨RX10, TX10, 10, rfl, by decide, fw_X10_84, ct_X10.2.2.2⟩
theorem fw_X10_25 : Cond.fieldLink RX10 25 (TX10 9).1 (TX10 9).2.1 (TX10 9).2.2.1 ∈ jws := jmem (i := 320) (by decide +kernel) rfl
theorem fl_X10_25 : jfd RX10 25 10 9 := ⟨RX10, TX10, 10, rfl, by decide, fw_X10_25, ct_X10.2.2.2⟩
theorem fw_X11_7 : Cond.fieldLink RX11 7 (TX11 0).1 (TX11 0).2.1 (TX11 0).2.2.1 ∈ jws := jmem (i := 803) (by decide +kernel) rfl
theorem fl_X11_7 : jfd RX11 7 11 0 := ⟨RX11, TX11, 25, rfl, by decide, fw_X11_7, ct_X11.2.2.2⟩
theorem fw_X11_13 : Cond.fieldLink RX11 13 (TX11 1).1 (TX11 1).2.1 (TX11 1).2.2.1 ∈ jws := jmem (i := 804) (by decide +kernel) rfl
theorem fl_X11_13 : jfd RX11 13 11 1 := ⟨RX11, TX11, 25, rfl, by decide, fw_X11_13, ct_X11.2.2.2⟩
theorem fw_X11_16 : Cond.fieldLink RX11 16 (TX11 2).1 (TX11 2).2.1 (TX11 2).2.2.1 ∈ jws := jmem (i := 805) (by decide +kernel) rfl
theorem fl_X11_16 : jfd RX11 16 11 2 := ⟨RX11, TX11, 25, rfl, by decide, fw_X11_16, ct_X11.2.2.2⟩
theorem fw_X11_19 : Cond.fieldLink RX11 19 (TX11 3).1 (TX11 3).2.1 (TX11 3).2.2.1 ∈ jws := jmem (i := 806) (by decide +kernel) rfl
theorem fl_X11_19 : jfd RX11 19 11 3 := ⟨RX11, TX11, 25, rfl, by decide, fw_X11_19, ct_X11.2.2.2⟩
theorem fw_X11_22 : Cond.fieldLink RX11 22 (TX11 4).1 (TX11 4).2.1 (TX11 4).2.2.1 ∈ jws := jmem (i := 807) (by decide +kernel) rfl
theorem fl_X11_22 : jfd RX11 22 11 4 := ⟨RX11, TX11, 25, rfl, by decide, fw_X11_22, ct_X11.2.2.2⟩
theorem fw_X11_25 : Cond.fieldLink RX11 25 (TX11 5).1 (TX11 5).2.1 (TX11 5).2.2.1 ∈ jws := jmem (i := 808) (by decide +kernel) rfl
theorem fl_X11_25 : jfd RX11 25 11 5 := ⟨RX11, TX11, 25, rfl, by decide, fw_X11_25, ct_X11.2.2.2⟩
theorem fw_X11_28 : Cond.fieldLink RX11 28 (TX11 6).1 (TX11 6).2.1 (TX11 6).2.2.1 ∈ jws := jmem (i := 809) (by decide +kernel) rfl
theorem fl_X11_28 : jfd RX11 28 11 6 := ⟨RX11, TX11, 25, rfl, by decide, fw_X11_28, ct_X11.2.2.2⟩
theorem fw_X11_31 : Cond.fieldLink RX11 31 (TX11 7).1 (TX11 7).2.1 (TX11 7).2.2.1 ∈ jws := jmem (i := 810) (by decide +kernel) rfl
theorem fl_X11_31 : jfd RX11 31 11 7 := ⟨RX11, TX11, 25, rfl, by decide, fw_X11_31, ct_X11.2.2.2⟩
theorem fw_X11_34 : Cond.fieldLink RX11 34 (TX11 8).1 (TX11 8).2.1 (TX11 8).2.2.1 ∈ jws := jmem (i := 811) (by decide +kernel) rfl
theorem fl_X11_34 : jfd RX11 34 11 8 := ⟨RX11, TX11, 25, rfl, by decide, fw_X11_34, ct_X11.2.2.2⟩
theorem fw_X11_37 : Cond.fieldLink RX11 37 (TX11 9).1 (TX11 9).2.1 (TX11 9).2.2.1 ∈ jws := jmem (i := 812) (by decide +kernel) rfl
theorem fl_X11_37 : jfd RX11 37 11 9 := ⟨RX11, TX11, 25, rfl, by decide, fw_X11_37, ct_X11.2.2.2⟩
theorem fw_X11_40 : Cond.fieldLink RX11 40 (TX11 10).1 (TX11 10).2.1 (TX11 10).2.2.1 ∈ jws := jmem (i := 813) (by decide +kernel) rfl
theorem fl_X11_40 : jfd RX11 40 11 10 := ⟨RX11, TX11, 25, rfl, by decide, fw_X11_40, ct_X11.2.2.2⟩
theorem fw_X11_43 : Cond.fieldLink RX11 43 (TX11 11).1 (TX11 11).2.1 (TX11 11).2.2.1 ∈ jws := jmem (i := 814) (by decide +kernel) rfl
theorem fl_X11_43 : jfd RX11 43 11 11 := ⟨RX11, TX11, 25, rfl, by decide, fw_X11_43, ct_X11.2.2.2⟩
theorem fw_X11_46 : Cond.fieldLink RX11 46 (TX11 12).1 (TX11 12).2.1 (TX11 12).2.2.1 ∈ jws := jmem (i := 815) (by decide +kernel) rfl
theorem fl_X11_46 : jfd RX11 46 11 12 := ⟨RX11, TX11, 25, rfl, by decide, fw_X11_46, ct_X11.2.2.2⟩
theorem fw_X11_49 : Cond.fieldLink RX11 49 (TX11 13).1 (TX11 13).2.1 (TX11 13).2.2.1 ∈ jws := jmem (i := 816) (by decide +kernel) rfl
theorem fl_X11_49 : jfd RX11 49 11 13 := ⟨RX11, TX11, 25, rfl, by decide, fw_X11_49, ct_X11.2.2.2⟩
theorem fw_X11_52 : Cond.fieldLink RX11 52 (TX11 14).1 (TX11 14).2.1 (TX11 14).2.2.1 ∈ jws := jmem (i := 817) (by decide +kernel) rfl
theorem fl_X11_52 : jfd RX11 52 11 14 := ⟨RX11, TX11, 25, rfl, by decide, fw_X11_52, ct_X11.2.2.2⟩
theorem fw_X11_55 : Cond.fieldLink RX11 55 (TX11 15).1 (TX11 15).2.1 (TX11 15).2.2.1 ∈ jws := jmem (i := 818) (by decide +kernel) rfl
theorem fl_X11_55 : jfd RX11 55 11 15 := ⟨RX11, TX11, 25, rfl, by decide, fw_X11_55, ct_X11.2.2.2⟩
theorem fw_X11_58 : Cond.fieldLink RX11 58 (TX11 16).1 (TX11 16).2.1 (TX11 16).2.2.1 ∈ jws := jmem (i := 819) (by decide +kernel) rfl
theorem fl_X11_58 : jfd RX11 58 11 16 := ⟨RX11, TX11, 25, rfl, by decide, fw_X11_58, ct_X11.2.2.2⟩
theorem fw_X11_61 : Cond.fieldLink RX11 61 (TX11 17).1 (TX11 17).2.1 (TX11 17).2.2.1 ∈ jws := jmem (i := 820) (by decide +kernel) rfl
theorem fl_X11_61 : jfd RX11 61 11 17 := ⟨RX11, TX11, 25, rfl, by decide, fw_X11_61, ct_X11.2.2.2⟩
theorem fw_X11_64 : Cond.fieldLink RX11 64 (TX11 18).1 (TX11 18).2.1 (TX11 18).2.2.1 ∈ jws := jmem (i := 821) (by decide +kernel) rfl
theorem fl_X11_64 : jfd RX11 64 11 18 := ⟨RX11, TX11, 25, rfl, by decide, fw_X11_64, ct_X11.2.2.2⟩
theorem fw_X11_67 : Cond.fieldLink RX11 67 (TX11 19).1 (TX11 19).2.1 (TX11 19).2.2.1 ∈ jws := jmem (i := 822) (by decide +kernel) rfl
theorem fl_X11_67 : jfd RX11 67 11 19 := ⟨RX11, TX11, 25, rfl, by decide, fw_X11_67, ct_X11.2.2.2⟩
theorem fw_X11_70 : Cond.fieldLink RX11 70 (TX11 20).1 (TX11 20).2.1 (TX11 20).2.2.1 ∈ jws := jmem (i := 823) (by decide +kernel) rfl
theorem fl_X11_70 : jfd RX11 70 11 20 := ⟨RX11, TX11, 25, rfl, by decide, fw_X11_70, ct_X11.2.2.2⟩
theorem fw_X11_73 : Cond.fieldLink RX11 73 (TX11 21).1 (TX11 21).2.1 (TX11 21).2.2.1 ∈ jws := jmem (i := 824) (by decide +kernel) rfl
theorem fl_X11_73 : jfd RX11 73 11 21 := ⟨RX11, TX11, 25, rfl, by decide, fw_X11_73, ct_X11.2.2.2⟩
theorem fw_X11_76 : Cond.fieldLink RX11 76 (TX11 22).1 (TX11 22).2.1 (TX11 22).2.2.1 ∈ jws := jmem (i := 825) (by decide +kernel) rfl
theorem fl_X11_76 : jfd RX11 76 11 22 := ⟨RX11, TX11, 25, rfl, by decide, fw_X11_76, ct_X11.2.2.2⟩
theorem fw_X11_79 : Cond.fieldLink RX11 79 (TX11 23).1 (TX11 23).2.1 (TX11 23).2.2.1 ∈ jws := jmem (i := 826) (by decide +kernel) rfl
theorem fl_X11_79 : jfd RX11 79 11 23 := ⟨RX11, TX11, 25, rfl, by decide, fw_X11_79, ct_X11.2.2.2⟩
theorem fw_X11_82 : Cond.fieldLink RX11 82 (TX11 24).1 (TX11 24).2.1 (TX11 24).2.2.1 ∈ jws := jmem (i := 827) (by decide +kernel) rfl
theorem fl_X11_82 : jfd RX11 82 11 24 := ⟨RX11, TX11, 25, rfl, by decide, fw_X11_82, ct_X11.2.2.2⟩
theorem ml_L_9 : Cond.methodLink RL 9 yX10_init ∈ jws := jmem (i := 19) (by decide +kernel) rfl
theorem ml_X10_1 : Cond.methodLink RX10 1 Lib.objectInit ∈ jws := jmem (i := 22) (by decide +kernel) rfl
theorem ml_X3_3 : Cond.methodLink RX3 3 Lib.objectInit ∈ jws := jmem (i := 30) (by decide +kernel) rfl
theorem ml_X10_18 : Cond.methodLink RX10 18 yX8_init ∈ jws := jmem (i := 115) (by decide +kernel) rfl
theorem ml_X8_3 : Cond.methodLink RX8 3 Lib.objectInit ∈ jws := jmem (i := 118) (by decide +kernel) rfl
theorem ml_X10_29 : Cond.methodLink RX10 29 yJ7_fill_53178 ∈ jws := jmem (i := 130) (by decide +kernel) rfl
theorem ml_X10_37 : Cond.methodLink RX10 37 yX1_init ∈ jws := jmem (i := 135) (by decide +kernel) rfl
theorem ml_X1_3 : Cond.methodLink RX1 3 Lib.objectInit ∈ jws := jmem (i := 138) (by decide +kernel) rfl
theorem ml_X0_3 : Cond.methodLink RX0 3 Lib.objectInit ∈ jws := jmem (i := 145) (by decide +kernel) rfl
theorem ml_X10_46 : Cond.methodLink RX10 46 yX9_init ∈ jws := jmem (i := 175) (by decide +kernel) rfl
theorem ml_X9_3 : Cond.methodLink RX9 3 Lib.objectInit ∈ jws := jmem (i := 178) (by decide +kernel) rfl
theorem ml_X10_53 : Cond.methodLink RX10 53 yX7_init ∈ jws := jmem (i := 193) (by decide +kernel) rfl
theorem ml_X7_3 : Cond.methodLink RX7 3 Lib.objectInit ∈ jws := jmem (i := 196) (by decide +kernel) rfl
theorem ml_X6_3 : Cond.methodLink RX6 3 Lib.objectInit ∈ jws := jmem (i := 210) (by decide +kernel) rfl
theorem ml_X10_67 : Cond.methodLink RX10 67 yX2_init ∈ jws := jmem (i := 237) (by decide +kernel) rfl
theorem ml_X2_3 : Cond.methodLink RX2 3 Lib.objectInit ∈ jws := jmem (i := 240) (by decide +kernel) rfl
theorem ml_X10_74 : Cond.methodLink RX10 74 yX4_init ∈ jws := jmem (i := 260) (by decide +kernel) rfl
theorem ml_X4_3 : Cond.methodLink RX4 3 Lib.objectInit ∈ jws := jmem (i := 263) (by decide +kernel) rfl
theorem ml_X10_83 : Cond.methodLink RX10 83 yX5_init ∈ jws := jmem (i := 287) (by decide +kernel) rfl
theorem ml_X5_3 : Cond.methodLink RX5 3 Lib.objectInit ∈ jws := jmem (i := 290) (by decide +kernel) rfl
theorem ml_X5_21 : Cond.methodLink RX5 21 yX0_put ∈ jws := jmem (i := 293) (by decide +kernel) rfl
theorem ml_X0_17 : Cond.methodLink RX0 17 yX0_carryOn ∈ jws := jmem (i := 297) (by decide +kernel) rfl
theorem ml_L_13 : Cond.methodLink RL 13 yX10_word ∈ jws := jmem (i := 342) (by decide +kernel) rfl
theorem ml_X10_88 : Cond.methodLink RX10 88 yX10_isRank ∈ jws := jmem (i := 346) (by decide +kernel) rfl
theorem ml_X10_92 : Cond.methodLink RX10 92 yX10_within ∈ jws := jmem (i := 349) (by decide +kernel) rfl
theorem ml_X10_96 : Cond.methodLink RX10 96 yX3_addWord ∈ jws := jmem (i := 352) (by decide +kernel) rfl
theorem ml_L_18 : Cond.methodLink RL 18 yX10_hand ∈ jws := jmem (i := 356) (by decide +kernel) rfl
theorem ml_X10_100 : Cond.methodLink RX10 100 yX10_isHand ∈ jws := jmem (i := 360) (by decide +kernel) rfl
theorem ml_X10_103 : Cond.methodLink RX10 103 yX3_addHand ∈ jws := jmem (i := 364) (by decide +kernel) rfl
theorem ml_L_23 : Cond.methodLink RL 23 yX10_pupil ∈ jws := jmem (i := 368) (by decide +kernel) rfl
theorem ml_X10_107 : Cond.methodLink RX10 107 yX3_addPupil ∈ jws := jmem (i := 372) (by decide +kernel) rfl
theorem ml_L_27 : Cond.methodLink RL 27 yX10_became ∈ jws := jmem (i := 376) (by decide +kernel) rfl
theorem ml_X10_110 : Cond.methodLink RX10 110 yX10_isPupil ∈ jws := jmem (i := 380) (by decide +kernel) rfl
theorem ml_L_31 : Cond.methodLink RL 31 yX10_letter ∈ jws := jmem (i := 384) (by decide +kernel) rfl
theorem ml_X10_116 : Cond.methodLink RX10 116 yX10_isYear ∈ jws := jmem (i := 388) (by decide +kernel) rfl
theorem ml_X10_119 : Cond.methodLink RX10 119 yX3_addLetter ∈ jws := jmem (i := 391) (by decide +kernel) rfl
theorem ml_L_36 : Cond.methodLink RL 36 yX10_write ∈ jws := jmem (i := 395) (by decide +kernel) rfl
theorem ml_X10_123 : Cond.methodLink RX10 123 yX10_isLetter ∈ jws := jmem (i := 399) (by decide +kernel) rfl
theorem ml_X10_126 : Cond.methodLink RX10 126 yX10_isWord ∈ jws := jmem (i := 403) (by decide +kernel) rfl
theorem ml_X10_129 : Cond.methodLink RX10 129 yX3_addToLetter ∈ jws := jmem (i := 407) (by decide +kernel) rfl
theorem ml_L_40 : Cond.methodLink RL 40 yX10_weight ∈ jws := jmem (i := 411) (by decide +kernel) rfl
theorem ml_X10_132 : Cond.methodLink RX10 132 yX10_isGift ∈ jws := jmem (i := 415) (by decide +kernel) rfl
theorem ml_L_44 : Cond.methodLink RL 44 yX10_uses ∈ jws := jmem (i := 418) (by decide +kernel) rfl
theorem ml_X10_135 : Cond.methodLink RX10 135 yX8_takeAllBut ∈ jws := jmem (i := 422) (by decide +kernel) rfl
theorem ml_X8_24 : Cond.methodLink RX8 24 yJ7_fill_53178 ∈ jws := jmem (i := 426) (by decide +kernel) rfl
theorem ml_X8_45 : Cond.methodLink RX8 45 yX8_rowOf ∈ jws := jmem (i := 427) (by decide +kernel) rfl
theorem ml_X8_49 : Cond.methodLink RX8 49 yX8_takeLetter ∈ jws := jmem (i := 430) (by decide +kernel) rfl
theorem ml_X10_139 : Cond.methodLink RX10 139 yX8_usesOf ∈ jws := jmem (i := 434) (by decide +kernel) rfl
theorem ml_L_48 : Cond.methodLink RL 48 yX10_means ∈ jws := jmem (i := 438) (by decide +kernel) rfl
theorem ml_X10_142 : Cond.methodLink RX10 142 yX8_meantAbove ∈ jws := jmem (i := 442) (by decide +kernel) rfl
theorem ml_X8_62 : Cond.methodLink RX8 62 yX8_usesOf ∈ jws := jmem (i := 446) (by decide +kernel) rfl
theorem ml_X10_146 : Cond.methodLink RX10 146 yX8_meantBelow ∈ jws := jmem (i := 447) (by decide +kernel) rfl
theorem ml_X8_69 : Cond.methodLink RX8 69 yX8_usesOfAll ∈ jws := jmem (i := 451) (by decide +kernel) rfl
theorem ml_X10_150 : Cond.methodLink RX10 150 yX5_put ∈ jws := jmem (i := 455) (by decide +kernel) rfl
theorem ml_X5_25 : Cond.methodLink RX5 25 yX5_commonOf ∈ jws := jmem (i := 459) (by decide +kernel) rfl
theorem ml_L_52 : Cond.methodLink RL 52 yX10_odds ∈ jws := jmem (i := 462) (by decide +kernel) rfl
theorem ml_X10_154 : Cond.methodLink RX10 154 yX1_wordsFor ∈ jws := jmem (i := 466) (by decide +kernel) rfl
theorem ml_X10_157 : Cond.methodLink RX10 157 yX1_takeFor ∈ jws := jmem (i := 470) (by decide +kernel) rfl
theorem ml_X1_46 : Cond.methodLink RX1 46 yX8_takeAllBut ∈ jws := jmem (i := 474) (by decide +kernel) rfl
theorem ml_X1_52 : Cond.methodLink RX1 52 yX0_put ∈ jws := jmem (i := 475) (by decide +kernel) rfl
theorem ml_X1_56 : Cond.methodLink RX1 56 yX1_takeLetter ∈ jws := jmem (i := 476) (by decide +kernel) rfl
theorem ml_X1_70 : Cond.methodLink RX1 70 yX1_factorOf ∈ jws := jmem (i := 480) (by decide +kernel) rfl
theorem ml_X1_77 : Cond.methodLink RX1 77 yX8_meantAbove ∈ jws := jmem (i := 484) (by decide +kernel) rfl
theorem ml_X1_80 : Cond.methodLink RX1 80 yX8_meantBelow ∈ jws := jmem (i := 485) (by decide +kernel) rfl
theorem ml_X1_74 : Cond.methodLink RX1 74 yX0_multiply ∈ jws := jmem (i := 486) (by decide +kernel) rfl
theorem ml_X1_59 : Cond.methodLink RX1 59 yX0_add ∈ jws := jmem (i := 490) (by decide +kernel) rfl
theorem ml_X10_168 : Cond.methodLink RX10 168 yX5_putBig ∈ jws := jmem (i := 494) (by decide +kernel) rfl
theorem ml_X5_29 : Cond.methodLink RX5 29 yX0_copy ∈ jws := jmem (i := 498) (by decide +kernel) rfl
theorem ml_X0_21 : Cond.methodLink RX0 21 arraycopyName ∈ jws := jmem (i := 502) (by decide +kernel) rfl
theorem ml_X5_33 : Cond.methodLink RX5 33 yX0_restOf ∈ jws := jmem (i := 505) (by decide +kernel) rfl
theorem ml_X5_37 : Cond.methodLink RX5 37 yX0_divide ∈ jws := jmem (i := 509) (by decide +kernel) rfl
theorem ml_L_56 : Cond.methodLink RL 56 yX10_likeliest ∈ jws := jmem (i := 513) (by decide +kernel) rfl
theorem ml_X10_172 : Cond.methodLink RX10 172 yX1_greatest ∈ jws := jmem (i := 517) (by decide +kernel) rfl
theorem ml_X1_84 : Cond.methodLink RX1 84 yX0_isAbove ∈ jws := jmem (i := 521) (by decide +kernel) rfl
theorem ml_L_60 : Cond.methodLink RL 60 yX10_says ∈ jws := jmem (i := 525) (by decide +kernel) rfl
theorem ml_L_64 : Cond.methodLink RL 64 yX10_year ∈ jws := jmem (i := 529) (by decide +kernel) rfl
theorem ml_X10_183 : Cond.methodLink RX10 183 yX9_take ∈ jws := jmem (i := 533) (by decide +kernel) rfl
theorem ml_X9_22 : Cond.methodLink RX9 22 yJ7_fill_53178 ∈ jws := jmem (i := 537) (by decide +kernel) rfl
theorem ml_X9_40 : Cond.methodLink RX9 40 yX9_takeLetter ∈ jws := jmem (i := 538) (by decide +kernel) rfl
theorem ml_X10_187 : Cond.methodLink RX10 187 yX9_wordsUpTo ∈ jws := jmem (i := 542) (by decide +kernel) rfl
theorem ml_X10_191 : Cond.methodLink RX10 191 yX9_sumOfRanks ∈ jws := jmem (i := 546) (by decide +kernel) rfl
theorem ml_L_68 : Cond.methodLink RL 68 yX10_asIn ∈ jws := jmem (i := 550) (by decide +kernel) rfl
theorem ml_X10_198 : Cond.methodLink RX10 198 yX9_rankInSecond ∈ jws := jmem (i := 554) (by decide +kernel) rfl
theorem ml_X9_53 : Cond.methodLink RX9 53 yX9_wordsUpTo ∈ jws := jmem (i := 558) (by decide +kernel) rfl
theorem ml_L_72 : Cond.methodLink RL 72 yX10_about ∈ jws := jmem (i := 559) (by decide +kernel) rfl
theorem ml_X10_201 : Cond.methodLink RX10 201 yX3_lettersOn ∈ jws := jmem (i := 563) (by decide +kernel) rfl
theorem ml_X3_57 : Cond.methodLink RX3 57 yX3_isOn ∈ jws := jmem (i := 567) (by decide +kernel) rfl
theorem ml_X10_204 : Cond.methodLink RX10 204 yX3_lettersWith ∈ jws := jmem (i := 571) (by decide +kernel) rfl
theorem ml_X3_61 : Cond.methodLink RX3 61 yX3_holds ∈ jws := jmem (i := 575) (by decide +kernel) rfl
theorem ml_L_76 : Cond.methodLink RL 76 yX10_chance ∈ jws := jmem (i := 579) (by decide +kernel) rfl
theorem ml_X10_207 : Cond.methodLink RX10 207 yX10_choices ∈ jws := jmem (i := 583) (by decide +kernel) rfl
theorem ml_X10_210 : Cond.methodLink RX10 210 yJ9_min_f86c9 ∈ jws := jmem (i := 586) (by decide +kernel) rfl
theorem ml_L_80 : Cond.methodLink RL 80 yX10_like ∈ jws := jmem (i := 589) (by decide +kernel) rfl
theorem ml_X10_216 : Cond.methodLink RX10 216 yX7_longestRun ∈ jws := jmem (i := 593) (by decide +kernel) rfl
theorem ml_X7_29 : Cond.methodLink RX7 29 yJ9_max_7cf53 ∈ jws := jmem (i := 597) (by decide +kernel) rfl
theorem ml_X10_219 : Cond.methodLink RX10 219 yX7_mostInOrder ∈ jws := jmem (i := 600) (by decide +kernel) rfl
theorem ml_L_84 : Cond.methodLink RL 84 yX10_left ∈ jws := jmem (i := 604) (by decide +kernel) rfl
theorem ml_X10_222 : Cond.methodLink RX10 222 yX7_leftFrom ∈ jws := jmem (i := 608) (by decide +kernel) rfl
theorem ml_X7_45 : Cond.methodLink RX7 45 yX7_longestRun ∈ jws := jmem (i := 612) (by decide +kernel) rfl
theorem ml_L_88 : Cond.methodLink RL 88 yX10_slip ∈ jws := jmem (i := 613) (by decide +kernel) rfl
theorem ml_L_92 : Cond.methodLink RL 92 yX10_said ∈ jws := jmem (i := 617) (by decide +kernel) rfl
theorem ml_X10_241 : Cond.methodLink RX10 241 yX6_add ∈ jws := jmem (i := 621) (by decide +kernel) rfl
theorem ml_L_96 : Cond.methodLink RL 96 yX10_order ∈ jws := jmem (i := 625) (by decide +kernel) rfl
theorem ml_X10_247 : Cond.methodLink RX10 247 yX6_fewestAgainst ∈ jws := jmem (i := 629) (by decide +kernel) rfl
theorem ml_X6_36 : Cond.methodLink RX6 36 yX6_takeAhead ∈ jws := jmem (i := 633) (by decide +kernel) rfl
theorem ml_X6_49 : Cond.methodLink RX6 49 yJ6_numberOfTrailingZeros_0f7a4 ∈ jws := jmem (i := 637) (by decide +kernel) rfl
theorem ml_X6_40 : Cond.methodLink RX6 40 yX6_againstFirst ∈ jws := jmem (i := 641) (by decide +kernel) rfl
theorem ml_X6_44 : Cond.methodLink RX6 44 yJ9_min_7cf53 ∈ jws := jmem (i := 645) (by decide +kernel) rfl
theorem ml_X10_250 : Cond.methodLink RX10 250 yX6_pupilInPlace ∈ jws := jmem (i := 648) (by decide +kernel) rfl
theorem ml_X6_55 : Cond.methodLink RX6 55 yX6_firstOf ∈ jws := jmem (i := 652) (by decide +kernel) rfl
theorem ml_L_100 : Cond.methodLink RL 100 yX10_sure ∈ jws := jmem (i := 656) (by decide +kernel) rfl
theorem ml_L_104 : Cond.methodLink RL 104 yX10_kin ∈ jws := jmem (i := 660) (by decide +kernel) rfl
theorem ml_L_108 : Cond.methodLink RL 108 yX10_dealt ∈ jws := jmem (i := 664) (by decide +kernel) rfl
theorem ml_X10_259 : Cond.methodLink RX10 259 yJ6_bitCount_0f7a4 ∈ jws := jmem (i := 668) (by decide +kernel) rfl
theorem ml_X10_264 : Cond.methodLink RX10 264 yX2_waysOf ∈ jws := jmem (i := 674) (by decide +kernel) rfl
theorem ml_X2_33 : Cond.methodLink RX2 33 yX2_waysBehind ∈ jws := jmem (i := 678) (by decide +kernel) rfl
theorem ml_X2_37 : Cond.methodLink RX2 37 yJ6_bitCount_0f7a4 ∈ jws := jmem (i := 682) (by decide +kernel) rfl
theorem ml_X2_42 : Cond.methodLink RX2 42 yX2_canRead ∈ jws := jmem (i := 683) (by decide +kernel) rfl
theorem ml_X10_267 : Cond.methodLink RX10 267 yX2_readerInFirst ∈ jws := jmem (i := 687) (by decide +kernel) rfl
theorem ml_X2_49 : Cond.methodLink RX2 49 yX2_firstReader ∈ jws := jmem (i := 691) (by decide +kernel) rfl
theorem ml_L_112 : Cond.methodLink RL 112 yX10_bounds ∈ jws := jmem (i := 695) (by decide +kernel) rfl
theorem ml_L_117 : Cond.methodLink RL 117 yX10_question ∈ jws := jmem (i := 699) (by decide +kernel) rfl
theorem ml_X10_270 : Cond.methodLink RX10 270 yX10_isPercent ∈ jws := jmem (i := 703) (by decide +kernel) rfl
theorem ml_X10_273 : Cond.methodLink RX10 273 yX4_add ∈ jws := jmem (i := 706) (by decide +kernel) rfl
theorem ml_L_122 : Cond.methodLink RL 122 yX10_tells ∈ jws := jmem (i := 710) (by decide +kernel) rfl
theorem ml_X10_279 : Cond.methodLink RX10 279 yX4_guessedRight ∈ jws := jmem (i := 714) (by decide +kernel) rfl
theorem ml_X4_32 : Cond.methodLink RX4 32 yX4_ask ∈ jws := jmem (i := 718) (by decide +kernel) rfl
theorem ml_X4_36 : Cond.methodLink RX4 36 yJ9_max_f86c9 ∈ jws := jmem (i := 722) (by decide +kernel) rfl
theorem ml_X10_283 : Cond.methodLink RX10 283 yX4_allGuesses ∈ jws := jmem (i := 725) (by decide +kernel) rfl
theorem ml_X4_42 : Cond.methodLink RX4 42 yJ6_bitCount_0f7a4 ∈ jws := jmem (i := 729) (by decide +kernel) rfl
theorem ml_X4_48 : Cond.methodLink RX4 48 yX4_hundreds ∈ jws := jmem (i := 730) (by decide +kernel) rfl
theorem ml_L_126 : Cond.methodLink RL 126 yX10_form ∈ jws := jmem (i := 734) (by decide +kernel) rfl
theorem ml_X10_286 : Cond.methodLink RX10 286 yX4_bestWithin ∈ jws := jmem (i := 738) (by decide +kernel) rfl
theorem ml_X4_54 : Cond.methodLink RX4 54 yX4_minutesOf ∈ jws := jmem (i := 742) (by decide +kernel) rfl
theorem ml_X4_57 : Cond.methodLink RX4 57 yX4_guessedRight ∈ jws := jmem (i := 746) (by decide +kernel) rfl
theorem ml_L_130 : Cond.methodLink RL 130 yX10_sign ∈ jws := jmem (i := 747) (by decide +kernel) rfl
theorem ml_L_134 : Cond.methodLink RL 134 yX10_limb ∈ jws := jmem (i := 751) (by decide +kernel) rfl
theorem ml_L_138 : Cond.methodLink RL 138 yX10_count ∈ jws := jmem (i := 755) (by decide +kernel) rfl
theorem ml_L_142 : Cond.methodLink RL 142 yX10_digest ∈ jws := jmem (i := 759) (by decide +kernel) rfl
theorem ml_X10_309 : Cond.methodLink RX10 309 yX10_count ∈ jws := jmem (i := 765) (by decide +kernel) rfl
theorem ml_X10_312 : Cond.methodLink RX10 312 yX3_digestInto ∈ jws := jmem (i := 766) (by decide +kernel) rfl
theorem ml_X10_316 : Cond.methodLink RX10 316 yX10_digestOfRow ∈ jws := jmem (i := 774) (by decide +kernel) rfl
theorem ml_X10_320 : Cond.methodLink RX10 320 yX6_digestInto ∈ jws := jmem (i := 775) (by decide +kernel) rfl
theorem ml_X10_321 : Cond.methodLink RX10 321 yX4_digestInto ∈ jws := jmem (i := 780) (by decide +kernel) rfl
theorem ml_X10_322 : Cond.methodLink RX10 322 yX10_order ∈ jws := jmem (i := 786) (by decide +kernel) rfl
theorem ml_X10_325 : Cond.methodLink RX10 325 yX10_sign ∈ jws := jmem (i := 787) (by decide +kernel) rfl
theorem ml_L_12 : Cond.methodLink RL 12 yX11_init ∈ jws := jmem (i := 790) (by decide +kernel) rfl
theorem ml_X11_1 : Cond.methodLink RX11 1 Lib.objectInit ∈ jws := jmem (i := 793) (by decide +kernel) rfl
theorem ml_X11_85 : Cond.methodLink RX11 85 yX11_sets ∈ jws := jmem (i := 794) (by decide +kernel) rfl
theorem ml_X11_91 : Cond.methodLink RX11 91 yX11_trims ∈ jws := jmem (i := 799) (by decide +kernel) rfl
theorem ml_L_133 : Cond.methodLink RL 133 yX11_sign ∈ jws := jmem (i := 879) (by decide +kernel) rfl
theorem ml_L_137 : Cond.methodLink RL 137 yX11_limb ∈ jws := jmem (i := 883) (by decide +kernel) rfl
theorem ml_X11_120 : Cond.methodLink RX11 120 yX11_in ∈ jws := jmem (i := 887) (by decide +kernel) rfl
theorem ml_L_17 : Cond.methodLink RL 17 yX11_word ∈ jws := jmem (i := 890) (by decide +kernel) rfl
theorem ml_X11_128 : Cond.methodLink RX11 128 yX11_next ∈ jws := jmem (i := 896) (by decide +kernel) rfl
theorem ml_L_22 : Cond.methodLink RL 22 yX11_hand ∈ jws := jmem (i := 900) (by decide +kernel) rfl
theorem ml_L_26 : Cond.methodLink RL 26 yX11_pupil ∈ jws := jmem (i := 905) (by decide +kernel) rfl
theorem ml_L_30 : Cond.methodLink RL 30 yX11_became ∈ jws := jmem (i := 910) (by decide +kernel) rfl
theorem ml_X11_136 : Cond.methodLink RX11 136 yX11_is ∈ jws := jmem (i := 914) (by decide +kernel) rfl
theorem ml_L_35 : Cond.methodLink RL 35 yX11_letter ∈ jws := jmem (i := 918) (by decide +kernel) rfl
theorem ml_L_39 : Cond.methodLink RL 39 yX11_write ∈ jws := jmem (i := 923) (by decide +kernel) rfl
theorem ml_L_43 : Cond.methodLink RL 43 yX11_weight ∈ jws := jmem (i := 927) (by decide +kernel) rfl
theorem ml_X11_142 : Cond.methodLink RX11 142 yX11_isGift ∈ jws := jmem (i := 931) (by decide +kernel) rfl
theorem ml_L_47 : Cond.methodLink RL 47 yX11_uses ∈ jws := jmem (i := 934) (by decide +kernel) rfl
theorem ml_X11_148 : Cond.methodLink RX11 148 yX11_isUse ∈ jws := jmem (i := 938) (by decide +kernel) rfl
theorem ml_X11_152 : Cond.methodLink RX11 152 yX11_usesOf ∈ jws := jmem (i := 942) (by decide +kernel) rfl
theorem ml_X11_145 : Cond.methodLink RX11 145 yX11_stands ∈ jws := jmem (i := 946) (by decide +kernel) rfl
theorem ml_L_51 : Cond.methodLink RL 51 yX11_means ∈ jws := jmem (i := 950) (by decide +kernel) rfl
theorem ml_X11_156 : Cond.methodLink RX11 156 yX11_meanUp ∈ jws := jmem (i := 954) (by decide +kernel) rfl
theorem ml_X11_159 : Cond.methodLink RX11 159 yX11_meanDown ∈ jws := jmem (i := 958) (by decide +kernel) rfl
theorem ml_X11_163 : Cond.methodLink RX11 163 yX11_told ∈ jws := jmem (i := 962) (by decide +kernel) rfl
theorem ml_X11_117 : Cond.methodLink RX11 117 yX11_lowers ∈ jws := jmem (i := 966) (by decide +kernel) rfl
theorem ml_X11_100 : Cond.methodLink RX11 100 yX11_isEven ∈ jws := jmem (i := 970) (by decide +kernel) rfl
theorem ml_X11_104 : Cond.methodLink RX11 104 yX11_halves ∈ jws := jmem (i := 974) (by decide +kernel) rfl
theorem ml_X11_95 : Cond.methodLink RX11 95 yX11_takes ∈ jws := jmem (i := 978) (by decide +kernel) rfl
theorem ml_X11_107 : Cond.methodLink RX11 107 yX11_against ∈ jws := jmem (i := 982) (by decide +kernel) rfl
theorem ml_X11_111 : Cond.methodLink RX11 111 yX11_lessens ∈ jws := jmem (i := 986) (by decide +kernel) rfl
theorem ml_X11_114 : Cond.methodLink RX11 114 yX11_parts ∈ jws := jmem (i := 991) (by decide +kernel) rfl
theorem ml_L_55 : Cond.methodLink RL 55 yX11_odds ∈ jws := jmem (i := 995) (by decide +kernel) rfl
theorem ml_X11_173 : Cond.methodLink RX11 173 yX11_wordsOf ∈ jws := jmem (i := 999) (by decide +kernel) rfl
theorem ml_X11_176 : Cond.methodLink RX11 176 yX11_weighs ∈ jws := jmem (i := 1003) (by decide +kernel) rfl
theorem ml_X11_167 : Cond.methodLink RX11 167 yX11_times ∈ jws := jmem (i := 1007) (by decide +kernel) rfl
theorem ml_X11_179 : Cond.methodLink RX11 179 yX11_shares ∈ jws := jmem (i := 1011) (by decide +kernel) rfl
theorem ml_X11_170 : Cond.methodLink RX11 170 yX11_multiplies ∈ jws := jmem (i := 1015) (by decide +kernel) rfl
theorem ml_X11_182 : Cond.methodLink RX11 182 yX11_adds ∈ jws := jmem (i := 1019) (by decide +kernel) rfl
theorem ml_L_59 : Cond.methodLink RL 59 yX11_likeliest ∈ jws := jmem (i := 1023) (by decide +kernel) rfl
theorem ml_L_63 : Cond.methodLink RL 63 yX11_says ∈ jws := jmem (i := 1027) (by decide +kernel) rfl
theorem ml_L_67 : Cond.methodLink RL 67 yX11_year ∈ jws := jmem (i := 1031) (by decide +kernel) rfl
theorem ml_X11_185 : Cond.methodLink RX11 185 yX11_isYear ∈ jws := jmem (i := 1035) (by decide +kernel) rfl
theorem ml_X11_188 : Cond.methodLink RX11 188 yX11_wordsIn ∈ jws := jmem (i := 1038) (by decide +kernel) rfl
theorem ml_L_71 : Cond.methodLink RL 71 yX11_asIn ∈ jws := jmem (i := 1042) (by decide +kernel) rfl
theorem ml_L_75 : Cond.methodLink RL 75 yX11_about ∈ jws := jmem (i := 1046) (by decide +kernel) rfl
theorem ml_X11_191 : Cond.methodLink RX11 191 yX11_isAbout ∈ jws := jmem (i := 1050) (by decide +kernel) rfl
theorem ml_X11_194 : Cond.methodLink RX11 194 yX11_lettersOf ∈ jws := jmem (i := 1054) (by decide +kernel) rfl
theorem ml_L_79 : Cond.methodLink RL 79 yX11_chance ∈ jws := jmem (i := 1058) (by decide +kernel) rfl
theorem ml_X11_198 : Cond.methodLink RX11 198 yX11_ways ∈ jws := jmem (i := 1062) (by decide +kernel) rfl
theorem ml_L_83 : Cond.methodLink RL 83 yX11_like ∈ jws := jmem (i := 1065) (by decide +kernel) rfl
theorem ml_X11_205 : Cond.methodLink RX11 205 yX11_runOf ∈ jws := jmem (i := 1069) (by decide +kernel) rfl
theorem ml_X11_208 : Cond.methodLink RX11 208 yX11_likeOf ∈ jws := jmem (i := 1073) (by decide +kernel) rfl
theorem ml_X11_202 : Cond.methodLink RX11 202 yX11_greater ∈ jws := jmem (i := 1077) (by decide +kernel) rfl
theorem ml_L_87 : Cond.methodLink RL 87 yX11_left ∈ jws := jmem (i := 1080) (by decide +kernel) rfl
theorem ml_L_91 : Cond.methodLink RL 91 yX11_slip ∈ jws := jmem (i := 1085) (by decide +kernel) rfl
theorem ml_L_95 : Cond.methodLink RL 95 yX11_said ∈ jws := jmem (i := 1089) (by decide +kernel) rfl
theorem ml_L_99 : Cond.methodLink RL 99 yX11_order ∈ jws := jmem (i := 1093) (by decide +kernel) rfl
theorem ml_X11_216 : Cond.methodLink RX11 216 yX11_orders ∈ jws := jmem (i := 1097) (by decide +kernel) rfl
theorem ml_X11_213 : Cond.methodLink RX11 213 yX11_againstNext ∈ jws := jmem (i := 1101) (by decide +kernel) rfl
theorem ml_L_103 : Cond.methodLink RL 103 yX11_sure ∈ jws := jmem (i := 1105) (by decide +kernel) rfl
theorem ml_L_107 : Cond.methodLink RL 107 yX11_kin ∈ jws := jmem (i := 1109) (by decide +kernel) rfl
theorem ml_L_111 : Cond.methodLink RL 111 yX11_dealt ∈ jws := jmem (i := 1115) (by decide +kernel) rfl
theorem ml_X11_229 : Cond.methodLink RX11 229 yX11_deals ∈ jws := jmem (i := 1119) (by decide +kernel) rfl
theorem ml_X11_223 : Cond.methodLink RX11 223 yX11_isFree ∈ jws := jmem (i := 1123) (by decide +kernel) rfl
theorem ml_X11_226 : Cond.methodLink RX11 226 yX11_mayRead ∈ jws := jmem (i := 1127) (by decide +kernel) rfl
theorem ml_L_116 : Cond.methodLink RL 116 yX11_bounds ∈ jws := jmem (i := 1131) (by decide +kernel) rfl
theorem ml_L_121 : Cond.methodLink RL 121 yX11_question ∈ jws := jmem (i := 1136) (by decide +kernel) rfl
theorem ml_X11_238 : Cond.methodLink RX11 238 yX11_isShare ∈ jws := jmem (i := 1141) (by decide +kernel) rfl
theorem ml_L_125 : Cond.methodLink RL 125 yX11_tells ∈ jws := jmem (i := 1145) (by decide +kernel) rfl
theorem ml_X11_241 : Cond.methodLink RX11 241 yX11_tellsOf ∈ jws := jmem (i := 1149) (by decide +kernel) rfl
theorem ml_X11_245 : Cond.methodLink RX11 245 yX11_wholeOf ∈ jws := jmem (i := 1153) (by decide +kernel) rfl
theorem ml_L_129 : Cond.methodLink RL 129 yX11_form ∈ jws := jmem (i := 1157) (by decide +kernel) rfl
theorem ml_X11_251 : Cond.methodLink RX11 251 yX11_minutesOf ∈ jws := jmem (i := 1162) (by decide +kernel) rfl
theorem ml_L_141 : Cond.methodLink RL 141 yX11_count ∈ jws := jmem (i := 1166) (by decide +kernel) rfl
theorem ml_L_146 : Cond.methodLink RL 146 yX11_digest ∈ jws := jmem (i := 1170) (by decide +kernel) rfl
theorem ml_X11_258 : Cond.methodLink RX11 258 yX11_mixed ∈ jws := jmem (i := 1175) (by decide +kernel) rfl
theorem ml_X11_262 : Cond.methodLink RX11 262 yX11_sign ∈ jws := jmem (i := 1179) (by decide +kernel) rfl
theorem ml_X10_9 : (RX10, 9, yX3_init) ∈ jnest := by simp [jnest]
theorem ml_X1_17 : (RX1, 17, yX0_init) ∈ jnest := by simp [jnest]
theorem ml_X10_60 : (RX10, 60, yX6_init) ∈ jnest := by simp [jnest]
theorem ml_X5_11 : (RX5, 11, yX0_init) ∈ jnest := by simp [jnest]
theorem ml_X3_67 : (RX3, 67, yX10_digestOfRow) ∈ jnest := by simp [jnest]
theorem ml_X4_62 : (RX4, 62, yX10_digestOfRow) ∈ jnest := by simp [jnest]
theorem cm_X0_init : jcm mX0_init 0 := ⟨jmem (i := 144) (by decide +kernel) rfl, jmem (i := 6) (by decide +kernel) rfl, rfl, by decide +kernel, ⟨by decide +kernel, by decide +kernel⟩, by decide +kernel⟩
theorem im_X0_init : Cond.instanceMethod yX0_init ∈ jws := jmem (i := 143) (by decide +kernel) rfl
theorem cm_X0_put : jcm mX0_put 1 := ⟨jmem (i := 296) (by decide +kernel) rfl, jmem (i := 6) (by decide +kernel) rfl, rfl, by decide +kernel, ⟨by decide +kernel, by decide +kernel⟩, by decide +kernel⟩
theorem im_X0_put : Cond.instanceMethod yX0_put ∈ jws := jmem (i := 294) (by decide +kernel) rfl
theorem se_X0_put : Cond.selects RX0 yX0_put yX0_put ∈ jws := jmem (i := 295) (by decide +kernel) rfl
theorem cm_X0_copy : jcm mX0_copy 1 := ⟨jmem (i := 501) (by decide +kernel) rfl, jmem (i := 6) (by decide +kernel) rfl, rfl, by decide +kernel, ⟨by decide +kernel, by decide +kernel⟩, by decide +kernel⟩
theorem im_X0_copy : Cond.instanceMethod yX0_copy ∈ jws := jmem (i := 499) (by decide +kernel) rfl
theorem se_X0_copy : Cond.selects RX0 yX0_copy yX0_copy ∈ jws := jmem (i := 500) (by decide +kernel) rfl
theorem cm_X0_carryOn : jcm mX0_carryOn 1 := ⟨jmem (i := 300) (by decide +kernel) rfl, jmem (i := 6) (by decide +kernel) rfl, rfl, by decide +kernel, ⟨by decide +kernel, by decide +kernel⟩, by decide +kernel⟩
theorem im_X0_carryOn : Cond.instanceMethod yX0_carryOn ∈ jws := jmem (i := 299) (by decide +kernel) rfl
theorem se_X0_carryOn : Cond.selects RX0 yX0_carryOn yX0_carryOn ∈ jws := jmemS (i := 0) (q := (yX0_carryOn, 2)) (by decide +kernel) rfl
theorem cm_X0_multiply : jcm mX0_multiply 1 := ⟨jmem (i := 489) (by decide +kernel) rfl, jmem (i := 6) (by decide +kernel) rfl, rfl, by decide +kernel, ⟨by decide +kernel, by decide +kernel⟩, by decide +kernel⟩
theorem im_X0_multiply : Cond.instanceMethod yX0_multiply ∈ jws := jmem (i := 487) (by decide +kernel) rfl
theorem se_X0_multiply : Cond.selects RX0 yX0_multiply yX0_multiply ∈ jws := jmem (i := 488) (by decide +kernel) rfl
theorem cm_X0_add : jcm mX0_add 1 := ⟨jmem (i := 493) (by decide +kernel) rfl, jmem (i := 6) (by decide +kernel) rfl, rfl, by decide +kernel, ⟨by decide +kernel, by decide +kernel⟩, by decide +kernel⟩
theorem im_X0_add : Cond.instanceMethod yX0_add ∈ jws := jmem (i := 491) (by decide +kernel) rfl
theorem se_X0_add : Cond.selects RX0 yX0_add yX0_add ∈ jws := jmem (i := 492) (by decide +kernel) rfl
theorem cm_X0_restOf : jcm mX0_restOf 1 := ⟨jmem (i := 508) (by decide +kernel) rfl, jmem (i := 6) (by decide +kernel) rfl, rfl, by decide +kernel, ⟨by decide +kernel, by decide +kernel⟩, by decide +kernel⟩
theorem im_X0_restOf : Cond.instanceMethod yX0_restOf ∈ jws := jmem (i := 506) (by decide +kernel) rfl
theorem se_X0_restOf : Cond.selects RX0 yX0_restOf yX0_restOf ∈ jws := jmem (i := 507) (by decide +kernel) rfl
theorem cm_X0_divide : jcm mX0_divide 1 := ⟨jmem (i := 512) (by decide +kernel) rfl, jmem (i := 6) (by decide +kernel) rfl, rfl, by decide +kernel, ⟨by decide +kernel, by decide +kernel⟩, by decide +kernel⟩
theorem im_X0_divide : Cond.instanceMethod yX0_divide ∈ jws := jmem (i := 510) (by decide +kernel) rfl
theorem se_X0_divide : Cond.selects RX0 yX0_divide yX0_divide ∈ jws := jmem (i := 511) (by decide +kernel) rfl
theorem cm_X0_isAbove : jcm mX0_isAbove 1 := ⟨jmem (i := 524) (by decide +kernel) rfl, jmem (i := 6) (by decide +kernel) rfl, rfl, by decide +kernel, ⟨by decide +kernel, by decide +kernel⟩, by decide +kernel⟩
theorem im_X0_isAbove : Cond.instanceMethod yX0_isAbove ∈ jws := jmem (i := 522) (by decide +kernel) rfl
theorem se_X0_isAbove : Cond.selects RX0 yX0_isAbove yX0_isAbove ∈ jws := jmem (i := 523) (by decide +kernel) rfl
theorem cm_X1_init : jcm mX1_init 3 := ⟨jmem (i := 137) (by decide +kernel) rfl, jmem (i := 5) (by decide +kernel) rfl, rfl, by decide +kernel, ⟨by decide +kernel, by decide +kernel⟩, by decide +kernel⟩
theorem im_X1_init : Cond.instanceMethod yX1_init ∈ jws := jmem (i := 136) (by decide +kernel) rfl
theorem cm_X1_wordsFor : jcm mX1_wordsFor 1 := ⟨jmem (i := 469) (by decide +kernel) rfl, jmem (i := 5) (by decide +kernel) rfl, rfl, by decide +kernel, ⟨by decide +kernel, by decide +kernel⟩, by decide +kernel⟩
theorem im_X1_wordsFor : Cond.instanceMethod yX1_wordsFor ∈ jws := jmem (i := 467) (by decide +kernel) rfl
theorem se_X1_wordsFor : Cond.selects RX1 yX1_wordsFor yX1_wordsFor ∈ jws := jmem (i := 468) (by decide +kernel) rfl
theorem cm_X1_takeFor : jcm mX1_takeFor 1 := ⟨jmem (i := 473) (by decide +kernel) rfl, jmem (i := 5) (by decide +kernel) rfl, rfl, by decide +kernel, ⟨by decide +kernel, by decide +kernel⟩, by decide +kernel⟩
theorem im_X1_takeFor : Cond.instanceMethod yX1_takeFor ∈ jws := jmem (i := 471) (by decide +kernel) rfl
theorem se_X1_takeFor : Cond.selects RX1 yX1_takeFor yX1_takeFor ∈ jws := jmem (i := 472) (by decide +kernel) rfl
theorem cm_X1_takeLetter : jcm mX1_takeLetter 1 := ⟨jmem (i := 479) (by decide +kernel) rfl, jmem (i := 5) (by decide +kernel) rfl, rfl, by decide +kernel, ⟨by decide +kernel, by decide +kernel⟩, by decide +kernel⟩
theorem im_X1_takeLetter : Cond.instanceMethod yX1_takeLetter ∈ jws := jmem (i := 478) (by decide +kernel) rfl
theorem se_X1_takeLetter : Cond.selects RX1 yX1_takeLetter yX1_takeLetter ∈ jws := jmemS (i := 7) (q := (yX1_takeLetter, 5)) (by decide +kernel) rfl
theorem cm_X1_factorOf : jcm mX1_factorOf 3 := ⟨jmem (i := 483) (by decide +kernel) rfl, jmem (i := 5) (by decide +kernel) rfl, rfl, by decide +kernel, ⟨by decide +kernel, by decide +kernel⟩, by decide +kernel⟩
theorem im_X1_factorOf : Cond.instanceMethod yX1_factorOf ∈ jws := jmem (i := 482) (by decide +kernel) rfl
theorem se_X1_factorOf : Cond.selects RX1 yX1_factorOf yX1_factorOf ∈ jws := jmemS (i := 8) (q := (yX1_factorOf, 5)) (by decide +kernel) rfl
theorem cm_X1_greatest : jcm mX1_greatest 0 := ⟨jmem (i := 520) (by decide +kernel) rfl, jmem (i := 5) (by decide +kernel) rfl, rfl, by decide +kernel, ⟨by decide +kernel, by decide +kernel⟩, by decide +kernel⟩
theorem im_X1_greatest : Cond.instanceMethod yX1_greatest ∈ jws := jmem (i := 518) (by decide +kernel) rfl
theorem se_X1_greatest : Cond.selects RX1 yX1_greatest yX1_greatest ∈ jws := jmem (i := 519) (by decide +kernel) rfl
theorem cm_X2_init : jcm mX2_init 1 := ⟨jmem (i := 239) (by decide +kernel) rfl, jmem (i := 10) (by decide +kernel) rfl, rfl, by decide +kernel, ⟨by decide +kernel, by decide +kernel⟩, by decide +kernel⟩
theorem im_X2_init : Cond.instanceMethod yX2_init ∈ jws := jmem (i := 238) (by decide +kernel) rfl
theorem cm_X2_waysOf : jcm mX2_waysOf 1 := ⟨jmem (i := 677) (by decide +kernel) rfl, jmem (i := 10) (by decide +kernel) rfl, rfl, by decide +kernel, ⟨by decide +kernel, by decide +kernel⟩, by decide +kernel⟩
theorem im_X2_waysOf : Cond.instanceMethod yX2_waysOf ∈ jws := jmem (i := 675) (by decide +kernel) rfl
theorem se_X2_waysOf : Cond.selects RX2 yX2_waysOf yX2_waysOf ∈ jws := jmem (i := 676) (by decide +kernel) rfl
theorem cm_X2_waysBehind : jcm mX2_waysBehind 1 := ⟨jmem (i := 681) (by decide +kernel) rfl, jmem (i := 10) (by decide +kernel) rfl, rfl, by decide +kernel, ⟨by decide +kernel, by decide +kernel⟩, by decide +kernel⟩
theorem im_X2_waysBehind : Cond.instanceMethod yX2_waysBehind ∈ jws := jmem (i := 680) (by decide +kernel) rfl
theorem se_X2_waysBehind : Cond.selects RX2 yX2_waysBehind yX2_waysBehind ∈ jws := jmemS (i := 15) (q := (yX2_waysBehind, 5)) (by decide +kernel) rfl
theorem cm_X2_canRead : jcm mX2_canRead 3 := ⟨jmem (i := 686) (by decide +kernel) rfl, jmem (i := 10) (by decide +kernel) rfl, rfl, by decide +kernel, ⟨by decide +kernel, by decide +kernel⟩, by decide +kernel⟩
theorem im_X2_canRead : Cond.instanceMethod yX2_canRead ∈ jws := jmem (i := 685) (by decide +kernel) rfl
theorem se_X2_canRead : Cond.selects RX2 yX2_canRead yX2_canRead ∈ jws := jmemS (i := 16) (q := (yX2_canRead, 5)) (by decide +kernel) rfl
theorem cm_X2_readerInFirst : jcm mX2_readerInFirst 1 := ⟨jmem (i := 690) (by decide +kernel) rfl, jmem (i := 10) (by decide +kernel) rfl, rfl, by decide +kernel, ⟨by decide +kernel, by decide +kernel⟩, by decide +kernel⟩
theorem im_X2_readerInFirst : Cond.instanceMethod yX2_readerInFirst ∈ jws := jmem (i := 688) (by decide +kernel) rfl
theorem se_X2_readerInFirst : Cond.selects RX2 yX2_readerInFirst yX2_readerInFirst ∈ jws := jmem (i := 689) (by decide +kernel) rfl
theorem cm_X2_firstReader : jcm mX2_firstReader 2 := ⟨jmem (i := 694) (by decide +kernel) rfl, jmem (i := 10) (by decide +kernel) rfl, rfl, by decide +kernel, ⟨by decide +kernel, by decide +kernel⟩, by decide +kernel⟩
theorem im_X2_firstReader : Cond.instanceMethod yX2_firstReader ∈ jws := jmem (i := 693) (by decide +kernel) rfl
theorem se_X2_firstReader : Cond.selects RX2 yX2_firstReader yX2_firstReader ∈ jws := jmemS (i := 17) (q := (yX2_firstReader, 5)) (by decide +kernel) rfl
theorem cm_X3_init : jcm mX3_init 0 := ⟨jmem (i := 29) (by decide +kernel) rfl, jmem (i := 2) (by decide +kernel) rfl, rfl, by decide +kernel, ⟨by decide +kernel, by decide +kernel⟩, by decide +kernel⟩
theorem im_X3_init : Cond.instanceMethod yX3_init ∈ jws := jmem (i := 28) (by decide +kernel) rfl
theorem cm_X3_addWord : jcm mX3_addWord 2 := ⟨jmem (i := 355) (by decide +kernel) rfl, jmem (i := 2) (by decide +kernel) rfl, rfl, by decide +kernel, ⟨by decide +kernel, by decide +kernel⟩, by decide +kernel⟩
theorem im_X3_addWord : Cond.instanceMethod yX3_addWord ∈ jws := jmem (i := 353) (by decide +kernel) rfl
theorem se_X3_addWord : Cond.selects RX3 yX3_addWord yX3_addWord ∈ jws := jmem (i := 354) (by decide +kernel) rfl
theorem cm_X3_addHand : jcm mX3_addHand 1 := ⟨jmem (i := 367) (by decide +kernel) rfl, jmem (i := 2) (by decide +kernel) rfl, rfl, by decide +kernel, ⟨by decide +kernel, by decide +kernel⟩, by decide +kernel⟩
theorem im_X3_addHand : Cond.instanceMethod yX3_addHand ∈ jws := jmem (i := 365) (by decide +kernel) rfl
theorem se_X3_addHand : Cond.selects RX3 yX3_addHand yX3_addHand ∈ jws := jmem (i := 366) (by decide +kernel) rfl
theorem cm_X3_addPupil : jcm mX3_addPupil 2 := ⟨jmem (i := 375) (by decide +kernel) rfl, jmem (i := 2) (by decide +kernel) rfl, rfl, by decide +kernel, ⟨by decide +kernel, by decide +kernel⟩, by decide +kernel⟩
theorem im_X3_addPupil : Cond.instanceMethod yX3_addPupil ∈ jws := jmem (i := 373) (by decide +kernel) rfl
theorem se_X3_addPupil : Cond.selects RX3 yX3_addPupil yX3_addPupil ∈ jws := jmem (i := 374) (by decide +kernel) rfl
theorem cm_X3_addLetter : jcm mX3_addLetter 3 := ⟨jmem (i := 394) (by decide +kernel) rfl, jmem (i := 2) (by decide +kernel) rfl, rfl, by decide +kernel, ⟨by decide +kernel, by decide +kernel⟩, by decide +kernel⟩
theorem im_X3_addLetter : Cond.instanceMethod yX3_addLetter ∈ jws := jmem (i := 392) (by decide +kernel) rfl
theorem se_X3_addLetter : Cond.selects RX3 yX3_addLetter yX3_addLetter ∈ jws := jmem (i := 393) (by decide +kernel) rfl
theorem cm_X3_addToLetter : jcm mX3_addToLetter 2 := ⟨jmem (i := 410) (by decide +kernel) rfl, jmem (i := 2) (by decide +kernel) rfl, rfl, by decide +kernel, ⟨by decide +kernel, by decide +kernel⟩, by decide +kernel⟩
theorem im_X3_addToLetter : Cond.instanceMethod yX3_addToLetter ∈ jws := jmem (i := 408) (by decide +kernel) rfl
theorem se_X3_addToLetter : Cond.selects RX3 yX3_addToLetter yX3_addToLetter ∈ jws := jmem (i := 409) (by decide +kernel) rfl
theorem cm_X3_lettersOn : jcm mX3_lettersOn 2 := ⟨jmem (i := 566) (by decide +kernel) rfl, jmem (i := 2) (by decide +kernel) rfl, rfl, by decide +kernel, ⟨by decide +kernel, by decide +kernel⟩, by decide +kernel⟩
theorem im_X3_lettersOn : Cond.instanceMethod yX3_lettersOn ∈ jws := jmem (i := 564) (by decide +kernel) rfl
theorem se_X3_lettersOn : Cond.selects RX3 yX3_lettersOn yX3_lettersOn ∈ jws := jmem (i := 565) (by decide +kernel) rfl
theorem cm_X3_lettersWith : jcm mX3_lettersWith 3 := ⟨jmem (i := 574) (by decide +kernel) rfl, jmem (i := 2) (by decide +kernel) rfl, rfl, by decide +kernel, ⟨by decide +kernel, by decide +kernel⟩, by decide +kernel⟩
theorem im_X3_lettersWith : Cond.instanceMethod yX3_lettersWith ∈ jws := jmem (i := 572) (by decide +kernel) rfl
theorem se_X3_lettersWith : Cond.selects RX3 yX3_lettersWith yX3_lettersWith ∈ jws := jmem (i := 573) (by decide +kernel) rfl
theorem cm_X3_isOn : jcm mX3_isOn 3 := ⟨jmem (i := 570) (by decide +kernel) rfl, jmem (i := 2) (by decide +kernel) rfl, rfl, by decide +kernel, ⟨by decide +kernel, by decide +kernel⟩, by decide +kernel⟩
theorem im_X3_isOn : Cond.instanceMethod yX3_isOn ∈ jws := jmem (i := 569) (by decide +kernel) rfl
theorem se_X3_isOn : Cond.selects RX3 yX3_isOn yX3_isOn ∈ jws := jmemS (i := 10) (q := (yX3_isOn, 14)) (by decide +kernel) rfl
theorem cm_X3_holds : jcm mX3_holds 2 := ⟨jmem (i := 578) (by decide +kernel) rfl, jmem (i := 2) (by decide +kernel) rfl, rfl, by decide +kernel, ⟨by decide +kernel, by decide +kernel⟩, by decide +kernel⟩
theorem im_X3_holds : Cond.instanceMethod yX3_holds ∈ jws := jmem (i := 577) (by decide +kernel) rfl
theorem se_X3_holds : Cond.selects RX3 yX3_holds yX3_holds ∈ jws := jmemS (i := 11) (q := (yX3_holds, 14)) (by decide +kernel) rfl
theorem cm_X3_digestInto : jcm mX3_digestInto 1 := ⟨jmem (i := 769) (by decide +kernel) rfl, jmem (i := 2) (by decide +kernel) rfl, rfl, by decide +kernel, ⟨by decide +kernel, by decide +kernel⟩, by decide +kernel⟩
theorem im_X3_digestInto : Cond.instanceMethod yX3_digestInto ∈ jws := jmem (i := 767) (by decide +kernel) rfl
theorem se_X3_digestInto : Cond.selects RX3 yX3_digestInto yX3_digestInto ∈ jws := jmem (i := 768) (by decide +kernel) rfl
theorem cm_X4_init : jcm mX4_init 1 := ⟨jmem (i := 262) (by decide +kernel) rfl, jmem (i := 11) (by decide +kernel) rfl, rfl, by decide +kernel, ⟨by decide +kernel, by decide +kernel⟩, by decide +kernel⟩
theorem im_X4_init : Cond.instanceMethod yX4_init ∈ jws := jmem (i := 261) (by decide +kernel) rfl
theorem cm_X4_add : jcm mX4_add 5 := ⟨jmem (i := 709) (by decide +kernel) rfl, jmem (i := 11) (by decide +kernel) rfl, rfl, by decide +kernel, ⟨by decide +kernel, by decide +kernel⟩, by decide +kernel⟩
theorem im_X4_add : Cond.instanceMethod yX4_add ∈ jws := jmem (i := 707) (by decide +kernel) rfl
theorem se_X4_add : Cond.selects RX4 yX4_add yX4_add ∈ jws := jmem (i := 708) (by decide +kernel) rfl
theorem cm_X4_guessedRight : jcm mX4_guessedRight 1 := ⟨jmem (i := 717) (by decide +kernel) rfl, jmem (i := 11) (by decide +kernel) rfl, rfl, by decide +kernel, ⟨by decide +kernel, by decide +kernel⟩, by decide +kernel⟩
theorem im_X4_guessedRight : Cond.instanceMethod yX4_guessedRight ∈ jws := jmem (i := 715) (by decide +kernel) rfl
theorem se_X4_guessedRight : Cond.selects RX4 yX4_guessedRight yX4_guessedRight ∈ jws := jmem (i := 716) (by decide +kernel) rfl
theorem cm_X4_ask : jcm mX4_ask 2 := ⟨jmem (i := 721) (by decide +kernel) rfl, jmem (i := 11) (by decide +kernel) rfl, rfl, by decide +kernel, ⟨by decide +kernel, by decide +kernel⟩, by decide +kernel⟩
theorem im_X4_ask : Cond.instanceMethod yX4_ask ∈ jws := jmem (i := 720) (by decide +kernel) rfl
theorem se_X4_ask : Cond.selects RX4 yX4_ask yX4_ask ∈ jws := jmemS (i := 18) (q := (yX4_ask, 5)) (by decide +kernel) rfl
theorem cm_X4_allGuesses : jcm mX4_allGuesses 1 := ⟨jmem (i := 728) (by decide +kernel) rfl, jmem (i := 11) (by decide +kernel) rfl, rfl, by decide +kernel, ⟨by decide +kernel, by decide +kernel⟩, by decide +kernel⟩
theorem im_X4_allGuesses : Cond.instanceMethod yX4_allGuesses ∈ jws := jmem (i := 726) (by decide +kernel) rfl
theorem se_X4_allGuesses : Cond.selects RX4 yX4_allGuesses yX4_allGuesses ∈ jws := jmem (i := 727) (by decide +kernel) rfl
theorem cm_X4_hundreds : jcm mX4_hundreds 1 := ⟨jmem (i := 732) (by decide +kernel) rfl, jmem (i := 11) (by decide +kernel) rfl, rfl, by decide +kernel, ⟨by decide +kernel, by decide +kernel⟩, by decide +kernel⟩
theorem st_X4_hundreds : Cond.static yX4_hundreds ∈ jws := jmem (i := 731) (by decide +kernel) rfl
theorem cm_X4_minutesOf : jcm mX4_minutesOf 1 := ⟨jmem (i := 745) (by decide +kernel) rfl, jmem (i := 11) (by decide +kernel) rfl, rfl, by decide +kernel, ⟨by decide +kernel, by decide +kernel⟩, by decide +kernel⟩
theorem im_X4_minutesOf : Cond.instanceMethod yX4_minutesOf ∈ jws := jmem (i := 744) (by decide +kernel) rfl
theorem se_X4_minutesOf : Cond.selects RX4 yX4_minutesOf yX4_minutesOf ∈ jws := jmemS (i := 19) (q := (yX4_minutesOf, 5)) (by decide +kernel) rfl
theorem cm_X4_bestWithin : jcm mX4_bestWithin 1 := ⟨jmem (i := 741) (by decide +kernel) rfl, jmem (i := 11) (by decide +kernel) rfl, rfl, by decide +kernel, ⟨by decide +kernel, by decide +kernel⟩, by decide +kernel⟩
theorem im_X4_bestWithin : Cond.instanceMethod yX4_bestWithin ∈ jws := jmem (i := 739) (by decide +kernel) rfl
theorem se_X4_bestWithin : Cond.selects RX4 yX4_bestWithin yX4_bestWithin ∈ jws := jmem (i := 740) (by decide +kernel) rfl
theorem cm_X4_digestInto : jcm mX4_digestInto 1 := ⟨jmem (i := 783) (by decide +kernel) rfl, jmem (i := 11) (by decide +kernel) rfl, rfl, by decide +kernel, ⟨by decide +kernel, by decide +kernel⟩, by decide +kernel⟩
theorem im_X4_digestInto : Cond.instanceMethod yX4_digestInto ∈ jws := jmem (i := 781) (by decide +kernel) rfl
theorem se_X4_digestInto : Cond.selects RX4 yX4_digestInto yX4_digestInto ∈ jws := jmem (i := 782) (by decide +kernel) rfl
theorem cm_X5_init : jcm mX5_init 0 := ⟨jmem (i := 289) (by decide +kernel) rfl, jmem (i := 12) (by decide +kernel) rfl, rfl, by decide +kernel, ⟨by decide +kernel, by decide +kernel⟩, by decide +kernel⟩
theorem im_X5_init : Cond.instanceMethod yX5_init ∈ jws := jmem (i := 288) (by decide +kernel) rfl
theorem cm_X5_put : jcm mX5_put 2 := ⟨jmem (i := 458) (by decide +kernel) rfl, jmem (i := 12) (by decide +kernel) rfl, rfl, by decide +kernel, ⟨by decide +kernel, by decide +kernel⟩, by decide +kernel⟩
theorem im_X5_put : Cond.instanceMethod yX5_put ∈ jws := jmem (i := 456) (by decide +kernel) rfl
theorem se_X5_put : Cond.selects RX5 yX5_put yX5_put ∈ jws := jmem (i := 457) (by decide +kernel) rfl
theorem cm_X5_commonOf : jcm mX5_commonOf 2 := ⟨jmem (i := 461) (by decide +kernel) rfl, jmem (i := 12) (by decide +kernel) rfl, rfl, by decide +kernel, ⟨by decide +kernel, by decide +kernel⟩, by decide +kernel⟩
theorem st_X5_commonOf : Cond.static yX5_commonOf ∈ jws := jmem (i := 460) (by decide +kernel) rfl
theorem cm_X5_putBig : jcm mX5_putBig 2 := ⟨jmem (i := 497) (by decide +kernel) rfl, jmem (i := 12) (by decide +kernel) rfl, rfl, by decide +kernel, ⟨by decide +kernel, by decide +kernel⟩, by decide +kernel⟩
theorem im_X5_putBig : Cond.instanceMethod yX5_putBig ∈ jws := jmem (i := 495) (by decide +kernel) rfl
theorem se_X5_putBig : Cond.selects RX5 yX5_putBig yX5_putBig ∈ jws := jmem (i := 496) (by decide +kernel) rfl
theorem cm_X6_init : jcm mX6_init 0 := ⟨jmem (i := 209) (by decide +kernel) rfl, jmem (i := 9) (by decide +kernel) rfl, rfl, by decide +kernel, ⟨by decide +kernel, by decide +kernel⟩, by decide +kernel⟩
theorem im_X6_init : Cond.instanceMethod yX6_init ∈ jws := jmem (i := 208) (by decide +kernel) rfl
theorem cm_X6_add : jcm mX6_add 3 := ⟨jmem (i := 624) (by decide +kernel) rfl, jmem (i := 9) (by decide +kernel) rfl, rfl, by decide +kernel, ⟨by decide +kernel, by decide +kernel⟩, by decide +kernel⟩
theorem im_X6_add : Cond.instanceMethod yX6_add ∈ jws := jmem (i := 622) (by decide +kernel) rfl
theorem se_X6_add : Cond.selects RX6 yX6_add yX6_add ∈ jws := jmem (i := 623) (by decide +kernel) rfl
theorem cm_X6_fewestAgainst : jcm mX6_fewestAgainst 3 := ⟨jmem (i := 632) (by decide +kernel) rfl, jmem (i := 9) (by decide +kernel) rfl, rfl, by decide +kernel, ⟨by decide +kernel, by decide +kernel⟩, by decide +kernel⟩
theorem im_X6_fewestAgainst : Cond.instanceMethod yX6_fewestAgainst ∈ jws := jmem (i := 630) (by decide +kernel) rfl
theorem se_X6_fewestAgainst : Cond.selects RX6 yX6_fewestAgainst yX6_fewestAgainst ∈ jws := jmem (i := 631) (by decide +kernel) rfl
theorem cm_X6_takeAhead : jcm mX6_takeAhead 1 := ⟨jmem (i := 636) (by decide +kernel) rfl, jmem (i := 9) (by decide +kernel) rfl, rfl, by decide +kernel, ⟨by decide +kernel, by decide +kernel⟩, by decide +kernel⟩
theorem im_X6_takeAhead : Cond.instanceMethod yX6_takeAhead ∈ jws := jmem (i := 635) (by decide +kernel) rfl
theorem se_X6_takeAhead : Cond.selects RX6 yX6_takeAhead yX6_takeAhead ∈ jws := jmemS (i := 12) (q := (yX6_takeAhead, 7)) (by decide +kernel) rfl
theorem cm_X6_againstFirst : jcm mX6_againstFirst 2 := ⟨jmem (i := 644) (by decide +kernel) rfl, jmem (i := 9) (by decide +kernel) rfl, rfl, by decide +kernel, ⟨by decide +kernel, by decide +kernel⟩, by decide +kernel⟩
theorem im_X6_againstFirst : Cond.instanceMethod yX6_againstFirst ∈ jws := jmem (i := 643) (by decide +kernel) rfl
theorem se_X6_againstFirst : Cond.selects RX6 yX6_againstFirst yX6_againstFirst ∈ jws := jmemS (i := 13) (q := (yX6_againstFirst, 7)) (by decide +kernel) rfl
theorem cm_X6_pupilInPlace : jcm mX6_pupilInPlace 2 := ⟨jmem (i := 651) (by decide +kernel) rfl, jmem (i := 9) (by decide +kernel) rfl, rfl, by decide +kernel, ⟨by decide +kernel, by decide +kernel⟩, by decide +kernel⟩
theorem im_X6_pupilInPlace : Cond.instanceMethod yX6_pupilInPlace ∈ jws := jmem (i := 649) (by decide +kernel) rfl
theorem se_X6_pupilInPlace : Cond.selects RX6 yX6_pupilInPlace yX6_pupilInPlace ∈ jws := jmem (i := 650) (by decide +kernel) rfl
theorem cm_X6_firstOf : jcm mX6_firstOf 2 := ⟨jmem (i := 655) (by decide +kernel) rfl, jmem (i := 9) (by decide +kernel) rfl, rfl, by decide +kernel, ⟨by decide +kernel, by decide +kernel⟩, by decide +kernel⟩
theorem im_X6_firstOf : Cond.instanceMethod yX6_firstOf ∈ jws := jmem (i := 654) (by decide +kernel) rfl
theorem se_X6_firstOf : Cond.selects RX6 yX6_firstOf yX6_firstOf ∈ jws := jmemS (i := 14) (q := (yX6_firstOf, 7)) (by decide +kernel) rfl
theorem cm_X6_digestInto : jcm mX6_digestInto 1 := ⟨jmem (i := 778) (by decide +kernel) rfl, jmem (i := 9) (by decide +kernel) rfl, rfl, by decide +kernel, ⟨by decide +kernel, by decide +kernel⟩, by decide +kernel⟩
theorem im_X6_digestInto : Cond.instanceMethod yX6_digestInto ∈ jws := jmem (i := 776) (by decide +kernel) rfl
theorem se_X6_digestInto : Cond.selects RX6 yX6_digestInto yX6_digestInto ∈ jws := jmem (i := 777) (by decide +kernel) rfl
theorem cm_X7_init : jcm mX7_init 1 := ⟨jmem (i := 195) (by decide +kernel) rfl, jmem (i := 8) (by decide +kernel) rfl, rfl, by decide +kernel, ⟨by decide +kernel, by decide +kernel⟩, by decide +kernel⟩
theorem im_X7_init : Cond.instanceMethod yX7_init ∈ jws := jmem (i := 194) (by decide +kernel) rfl
theorem cm_X7_longestRun : jcm mX7_longestRun 2 := ⟨jmem (i := 596) (by decide +kernel) rfl, jmem (i := 8) (by decide +kernel) rfl, rfl, by decide +kernel, ⟨by decide +kernel, by decide +kernel⟩, by decide +kernel⟩
theorem im_X7_longestRun : Cond.instanceMethod yX7_longestRun ∈ jws := jmem (i := 594) (by decide +kernel) rfl
theorem se_X7_longestRun : Cond.selects RX7 yX7_longestRun yX7_longestRun ∈ jws := jmem (i := 595) (by decide +kernel) rfl
theorem cm_X7_mostInOrder : jcm mX7_mostInOrder 2 := ⟨jmem (i := 603) (by decide +kernel) rfl, jmem (i := 8) (by decide +kernel) rfl, rfl, by decide +kernel, ⟨by decide +kernel, by decide +kernel⟩, by decide +kernel⟩
theorem im_X7_mostInOrder : Cond.instanceMethod yX7_mostInOrder ∈ jws := jmem (i := 601) (by decide +kernel) rfl
theorem se_X7_mostInOrder : Cond.selects RX7 yX7_mostInOrder yX7_mostInOrder ∈ jws := jmem (i := 602) (by decide +kernel) rfl
theorem cm_X7_leftFrom : jcm mX7_leftFrom 2 := ⟨jmem (i := 611) (by decide +kernel) rfl, jmem (i := 8) (by decide +kernel) rfl, rfl, by decide +kernel, ⟨by decide +kernel, by decide +kernel⟩, by decide +kernel⟩
theorem im_X7_leftFrom : Cond.instanceMethod yX7_leftFrom ∈ jws := jmem (i := 609) (by decide +kernel) rfl
theorem se_X7_leftFrom : Cond.selects RX7 yX7_leftFrom yX7_leftFrom ∈ jws := jmem (i := 610) (by decide +kernel) rfl
theorem cm_X8_init : jcm mX8_init 1 := ⟨jmem (i := 117) (by decide +kernel) rfl, jmem (i := 3) (by decide +kernel) rfl, rfl, by decide +kernel, ⟨by decide +kernel, by decide +kernel⟩, by decide +kernel⟩
theorem im_X8_init : Cond.instanceMethod yX8_init ∈ jws := jmem (i := 116) (by decide +kernel) rfl
theorem cm_X8_takeAllBut : jcm mX8_takeAllBut 1 := ⟨jmem (i := 425) (by decide +kernel) rfl, jmem (i := 3) (by decide +kernel) rfl, rfl, by decide +kernel, ⟨by decide +kernel, by decide +kernel⟩, by decide +kernel⟩
theorem im_X8_takeAllBut : Cond.instanceMethod yX8_takeAllBut ∈ jws := jmem (i := 423) (by decide +kernel) rfl
theorem se_X8_takeAllBut : Cond.selects RX8 yX8_takeAllBut yX8_takeAllBut ∈ jws := jmem (i := 424) (by decide +kernel) rfl
theorem cm_X8_takeLetter : jcm mX8_takeLetter 2 := ⟨jmem (i := 433) (by decide +kernel) rfl, jmem (i := 3) (by decide +kernel) rfl, rfl, by decide +kernel, ⟨by decide +kernel, by decide +kernel⟩, by decide +kernel⟩
theorem im_X8_takeLetter : Cond.instanceMethod yX8_takeLetter ∈ jws := jmem (i := 432) (by decide +kernel) rfl
theorem se_X8_takeLetter : Cond.selects RX8 yX8_takeLetter yX8_takeLetter ∈ jws := jmemS (i := 5) (q := (yX8_takeLetter, 3)) (by decide +kernel) rfl
theorem cm_X8_rowOf : jcm mX8_rowOf 2 := ⟨jmem (i := 429) (by decide +kernel) rfl, jmem (i := 3) (by decide +kernel) rfl, rfl, by decide +kernel, ⟨by decide +kernel, by decide +kernel⟩, by decide +kernel⟩
theorem st_X8_rowOf : Cond.static yX8_rowOf ∈ jws := jmem (i := 428) (by decide +kernel) rfl
theorem cm_X8_usesOf : jcm mX8_usesOf 3 := ⟨jmem (i := 437) (by decide +kernel) rfl, jmem (i := 3) (by decide +kernel) rfl, rfl, by decide +kernel, ⟨by decide +kernel, by decide +kernel⟩, by decide +kernel⟩
theorem im_X8_usesOf : Cond.instanceMethod yX8_usesOf ∈ jws := jmem (i := 435) (by decide +kernel) rfl
theorem se_X8_usesOf : Cond.selects RX8 yX8_usesOf yX8_usesOf ∈ jws := jmem (i := 436) (by decide +kernel) rfl
theorem cm_X8_usesOfAll : jcm mX8_usesOfAll 2 := ⟨jmem (i := 454) (by decide +kernel) rfl, jmem (i := 3) (by decide +kernel) rfl, rfl, by decide +kernel, ⟨by decide +kernel, by decide +kernel⟩, by decide +kernel⟩
theorem im_X8_usesOfAll : Cond.instanceMethod yX8_usesOfAll ∈ jws := jmem (i := 453) (by decide +kernel) rfl
theorem se_X8_usesOfAll : Cond.selects RX8 yX8_usesOfAll yX8_usesOfAll ∈ jws := jmemS (i := 6) (q := (yX8_usesOfAll, 3)) (by decide +kernel) rfl
theorem cm_X8_meantAbove : jcm mX8_meantAbove 3 := ⟨jmem (i := 445) (by decide +kernel) rfl, jmem (i := 3) (by decide +kernel) rfl, rfl, by decide +kernel, ⟨by decide +kernel, by decide +kernel⟩, by decide +kernel⟩
theorem im_X8_meantAbove : Cond.instanceMethod yX8_meantAbove ∈ jws := jmem (i := 443) (by decide +kernel) rfl
theorem se_X8_meantAbove : Cond.selects RX8 yX8_meantAbove yX8_meantAbove ∈ jws := jmem (i := 444) (by decide +kernel) rfl
theorem cm_X8_meantBelow : jcm mX8_meantBelow 2 := ⟨jmem (i := 450) (by decide +kernel) rfl, jmem (i := 3) (by decide +kernel) rfl, rfl, by decide +kernel, ⟨by decide +kernel, by decide +kernel⟩, by decide +kernel⟩
theorem im_X8_meantBelow : Cond.instanceMethod yX8_meantBelow ∈ jws := jmem (i := 448) (by decide +kernel) rfl
theorem se_X8_meantBelow : Cond.selects RX8 yX8_meantBelow yX8_meantBelow ∈ jws := jmem (i := 449) (by decide +kernel) rfl
theorem cm_X9_init : jcm mX9_init 1 := ⟨jmem (i := 177) (by decide +kernel) rfl, jmem (i := 7) (by decide +kernel) rfl, rfl, by decide +kernel, ⟨by decide +kernel, by decide +kernel⟩, by decide +kernel⟩
theorem im_X9_init : Cond.instanceMethod yX9_init ∈ jws := jmem (i := 176) (by decide +kernel) rfl
theorem cm_X9_take : jcm mX9_take 3 := ⟨jmem (i := 536) (by decide +kernel) rfl, jmem (i := 7) (by decide +kernel) rfl, rfl, by decide +kernel, ⟨by decide +kernel, by decide +kernel⟩, by decide +kernel⟩
theorem im_X9_take : Cond.instanceMethod yX9_take ∈ jws := jmem (i := 534) (by decide +kernel) rfl
theorem se_X9_take : Cond.selects RX9 yX9_take yX9_take ∈ jws := jmem (i := 535) (by decide +kernel) rfl
theorem cm_X9_takeLetter : jcm mX9_takeLetter 2 := ⟨jmem (i := 541) (by decide +kernel) rfl, jmem (i := 7) (by decide +kernel) rfl, rfl, by decide +kernel, ⟨by decide +kernel, by decide +kernel⟩, by decide +kernel⟩
theorem im_X9_takeLetter : Cond.instanceMethod yX9_takeLetter ∈ jws := jmem (i := 540) (by decide +kernel) rfl
theorem se_X9_takeLetter : Cond.selects RX9 yX9_takeLetter yX9_takeLetter ∈ jws := jmemS (i := 9) (q := (yX9_takeLetter, 3)) (by decide +kernel) rfl
theorem cm_X9_wordsUpTo : jcm mX9_wordsUpTo 2 := ⟨jmem (i := 545) (by decide +kernel) rfl, jmem (i := 7) (by decide +kernel) rfl, rfl, by decide +kernel, ⟨by decide +kernel, by decide +kernel⟩, by decide +kernel⟩
theorem im_X9_wordsUpTo : Cond.instanceMethod yX9_wordsUpTo ∈ jws := jmem (i := 543) (by decide +kernel) rfl
theorem se_X9_wordsUpTo : Cond.selects RX9 yX9_wordsUpTo yX9_wordsUpTo ∈ jws := jmem (i := 544) (by decide +kernel) rfl
theorem cm_X9_sumOfRanks : jcm mX9_sumOfRanks 1 := ⟨jmem (i := 549) (by decide +kernel) rfl, jmem (i := 7) (by decide +kernel) rfl, rfl, by decide +kernel, ⟨by decide +kernel, by decide +kernel⟩, by decide +kernel⟩
theorem im_X9_sumOfRanks : Cond.instanceMethod yX9_sumOfRanks ∈ jws := jmem (i := 547) (by decide +kernel) rfl
theorem se_X9_sumOfRanks : Cond.selects RX9 yX9_sumOfRanks yX9_sumOfRanks ∈ jws := jmem (i := 548) (by decide +kernel) rfl
theorem cm_X9_rankInSecond : jcm mX9_rankInSecond 1 := ⟨jmem (i := 557) (by decide +kernel) rfl, jmem (i := 7) (by decide +kernel) rfl, rfl, by decide +kernel, ⟨by decide +kernel, by decide +kernel⟩, by decide +kernel⟩
theorem im_X9_rankInSecond : Cond.instanceMethod yX9_rankInSecond ∈ jws := jmem (i := 555) (by decide +kernel) rfl
theorem se_X9_rankInSecond : Cond.selects RX9 yX9_rankInSecond yX9_rankInSecond ∈ jws := jmem (i := 556) (by decide +kernel) rfl
theorem cm_X10_init : jcm mX10_init 0 := ⟨jmem (i := 21) (by decide +kernel) rfl, jmem (i := 1) (by decide +kernel) rfl, rfl, by decide +kernel, ⟨by decide +kernel, by decide +kernel⟩, by decide +kernel⟩
theorem im_X10_init : Cond.instanceMethod yX10_init ∈ jws := jmem (i := 20) (by decide +kernel) rfl
theorem cm_X10_word : jcm mX10_word 2 := ⟨jmem (i := 345) (by decide +kernel) rfl, jmem (i := 1) (by decide +kernel) rfl, rfl, by decide +kernel, ⟨by decide +kernel, by decide +kernel⟩, by decide +kernel⟩
theorem im_X10_word : Cond.instanceMethod yX10_word ∈ jws := jmem (i := 343) (by decide +kernel) rfl
theorem se_X10_word : Cond.selects RX10 yX10_word yX10_word ∈ jws := jmem (i := 344) (by decide +kernel) rfl
theorem cm_X10_hand : jcm mX10_hand 1 := ⟨jmem (i := 359) (by decide +kernel) rfl, jmem (i := 1) (by decide +kernel) rfl, rfl, by decide +kernel, ⟨by decide +kernel, by decide +kernel⟩, by decide +kernel⟩
theorem im_X10_hand : Cond.instanceMethod yX10_hand ∈ jws := jmem (i := 357) (by decide +kernel) rfl
theorem se_X10_hand : Cond.selects RX10 yX10_hand yX10_hand ∈ jws := jmem (i := 358) (by decide +kernel) rfl
theorem cm_X10_pupil : jcm mX10_pupil 2 := ⟨jmem (i := 371) (by decide +kernel) rfl, jmem (i := 1) (by decide +kernel) rfl, rfl, by decide +kernel, ⟨by decide +kernel, by decide +kernel⟩, by decide +kernel⟩
theorem im_X10_pupil : Cond.instanceMethod yX10_pupil ∈ jws := jmem (i := 369) (by decide +kernel) rfl
theorem se_X10_pupil : Cond.selects RX10 yX10_pupil yX10_pupil ∈ jws := jmem (i := 370) (by decide +kernel) rfl
theorem cm_X10_became : jcm mX10_became 2 := ⟨jmem (i := 379) (by decide +kernel) rfl, jmem (i := 1) (by decide +kernel) rfl, rfl, by decide +kernel, ⟨by decide +kernel, by decide +kernel⟩, by decide +kernel⟩
theorem im_X10_became : Cond.instanceMethod yX10_became ∈ jws := jmem (i := 377) (by decide +kernel) rfl
theorem se_X10_became : Cond.selects RX10 yX10_became yX10_became ∈ jws := jmem (i := 378) (by decide +kernel) rfl
theorem cm_X10_letter : jcm mX10_letter 3 := ⟨jmem (i := 387) (by decide +kernel) rfl, jmem (i := 1) (by decide +kernel) rfl, rfl, by decide +kernel, ⟨by decide +kernel, by decide +kernel⟩, by decide +kernel⟩
theorem im_X10_letter : Cond.instanceMethod yX10_letter ∈ jws := jmem (i := 385) (by decide +kernel) rfl
theorem se_X10_letter : Cond.selects RX10 yX10_letter yX10_letter ∈ jws := jmem (i := 386) (by decide +kernel) rfl
theorem cm_X10_write : jcm mX10_write 2 := ⟨jmem (i := 398) (by decide +kernel) rfl, jmem (i := 1) (by decide +kernel) rfl, rfl, by decide +kernel, ⟨by decide +kernel, by decide +kernel⟩, by decide +kernel⟩
theorem im_X10_write : Cond.instanceMethod yX10_write ∈ jws := jmem (i := 396) (by decide +kernel) rfl
theorem se_X10_write : Cond.selects RX10 yX10_write yX10_write ∈ jws := jmem (i := 397) (by decide +kernel) rfl
theorem cm_X10_weight : jcm mX10_weight 2 := ⟨jmem (i := 414) (by decide +kernel) rfl, jmem (i := 1) (by decide +kernel) rfl, rfl, by decide +kernel, ⟨by decide +kernel, by decide +kernel⟩, by decide +kernel⟩
theorem im_X10_weight : Cond.instanceMethod yX10_weight ∈ jws := jmem (i := 412) (by decide +kernel) rfl
theorem se_X10_weight : Cond.selects RX10 yX10_weight yX10_weight ∈ jws := jmem (i := 413) (by decide +kernel) rfl
theorem cm_X10_uses : jcm mX10_uses 3 := ⟨jmem (i := 421) (by decide +kernel) rfl, jmem (i := 1) (by decide +kernel) rfl, rfl, by decide +kernel, ⟨by decide +kernel, by decide +kernel⟩, by decide +kernel⟩
theorem im_X10_uses : Cond.instanceMethod yX10_uses ∈ jws := jmem (i := 419) (by decide +kernel) rfl
theorem se_X10_uses : Cond.selects RX10 yX10_uses yX10_uses ∈ jws := jmem (i := 420) (by decide +kernel) rfl
theorem cm_X10_means : jcm mX10_means 3 := ⟨jmem (i := 441) (by decide +kernel) rfl, jmem (i := 1) (by decide +kernel) rfl, rfl, by decide +kernel, ⟨by decide +kernel, by decide +kernel⟩, by decide +kernel⟩
theorem im_X10_means : Cond.instanceMethod yX10_means ∈ jws := jmem (i := 439) (by decide +kernel) rfl
theorem se_X10_means : Cond.selects RX10 yX10_means yX10_means ∈ jws := jmem (i := 440) (by decide +kernel) rfl
theorem cm_X10_odds : jcm mX10_odds 2 := ⟨jmem (i := 465) (by decide +kernel) rfl, jmem (i := 1) (by decide +kernel) rfl, rfl, by decide +kernel, ⟨by decide +kernel, by decide +kernel⟩, by decide +kernel⟩
theorem im_X10_odds : Cond.instanceMethod yX10_odds ∈ jws := jmem (i := 463) (by decide +kernel) rfl
theorem se_X10_odds : Cond.selects RX10 yX10_odds yX10_odds ∈ jws := jmem (i := 464) (by decide +kernel) rfl
theorem cm_X10_likeliest : jcm mX10_likeliest 1 := ⟨jmem (i := 516) (by decide +kernel) rfl, jmem (i := 1) (by decide +kernel) rfl, rfl, by decide +kernel, ⟨by decide +kernel, by decide +kernel⟩, by decide +kernel⟩
theorem im_X10_likeliest : Cond.instanceMethod yX10_likeliest ∈ jws := jmem (i := 514) (by decide +kernel) rfl
theorem se_X10_likeliest : Cond.selects RX10 yX10_likeliest yX10_likeliest ∈ jws := jmem (i := 515) (by decide +kernel) rfl
theorem cm_X10_says : jcm mX10_says 1 := ⟨jmem (i := 528) (by decide +kernel) rfl, jmem (i := 1) (by decide +kernel) rfl, rfl, by decide +kernel, ⟨by decide +kernel, by decide +kernel⟩, by decide +kernel⟩
theorem im_X10_says : Cond.instanceMethod yX10_says ∈ jws := jmem (i := 526) (by decide +kernel) rfl
theorem se_X10_says : Cond.selects RX10 yX10_says yX10_says ∈ jws := jmem (i := 527) (by decide +kernel) rfl
theorem cm_X10_year : jcm mX10_year 2 := ⟨jmem (i := 532) (by decide +kernel) rfl, jmem (i := 1) (by decide +kernel) rfl, rfl, by decide +kernel, ⟨by decide +kernel, by decide +kernel⟩, by decide +kernel⟩
theorem im_X10_year : Cond.instanceMethod yX10_year ∈ jws := jmem (i := 530) (by decide +kernel) rfl
theorem se_X10_year : Cond.selects RX10 yX10_year yX10_year ∈ jws := jmem (i := 531) (by decide +kernel) rfl
theorem cm_X10_asIn : jcm mX10_asIn 3 := ⟨jmem (i := 553) (by decide +kernel) rfl, jmem (i := 1) (by decide +kernel) rfl, rfl, by decide +kernel, ⟨by decide +kernel, by decide +kernel⟩, by decide +kernel⟩
theorem im_X10_asIn : Cond.instanceMethod yX10_asIn ∈ jws := jmem (i := 551) (by decide +kernel) rfl
theorem se_X10_asIn : Cond.selects RX10 yX10_asIn yX10_asIn ∈ jws := jmem (i := 552) (by decide +kernel) rfl
theorem cm_X10_about : jcm mX10_about 3 := ⟨jmem (i := 562) (by decide +kernel) rfl, jmem (i := 1) (by decide +kernel) rfl, rfl, by decide +kernel, ⟨by decide +kernel, by decide +kernel⟩, by decide +kernel⟩
theorem im_X10_about : Cond.instanceMethod yX10_about ∈ jws := jmem (i := 560) (by decide +kernel) rfl
theorem se_X10_about : Cond.selects RX10 yX10_about yX10_about ∈ jws := jmem (i := 561) (by decide +kernel) rfl
theorem cm_X10_chance : jcm mX10_chance 3 := ⟨jmem (i := 582) (by decide +kernel) rfl, jmem (i := 1) (by decide +kernel) rfl, rfl, by decide +kernel, ⟨by decide +kernel, by decide +kernel⟩, by decide +kernel⟩
theorem im_X10_chance : Cond.instanceMethod yX10_chance ∈ jws := jmem (i := 580) (by decide +kernel) rfl
theorem se_X10_chance : Cond.selects RX10 yX10_chance yX10_chance ∈ jws := jmem (i := 581) (by decide +kernel) rfl
theorem cm_X10_like : jcm mX10_like 3 := ⟨jmem (i := 592) (by decide +kernel) rfl, jmem (i := 1) (by decide +kernel) rfl, rfl, by decide +kernel, ⟨by decide +kernel, by decide +kernel⟩, by decide +kernel⟩
theorem im_X10_like : Cond.instanceMethod yX10_like ∈ jws := jmem (i := 590) (by decide +kernel) rfl
theorem se_X10_like : Cond.selects RX10 yX10_like yX10_like ∈ jws := jmem (i := 591) (by decide +kernel) rfl
theorem cm_X10_left : jcm mX10_left 2 := ⟨jmem (i := 607) (by decide +kernel) rfl, jmem (i := 1) (by decide +kernel) rfl, rfl, by decide +kernel, ⟨by decide +kernel, by decide +kernel⟩, by decide +kernel⟩
theorem im_X10_left : Cond.instanceMethod yX10_left ∈ jws := jmem (i := 605) (by decide +kernel) rfl
theorem se_X10_left : Cond.selects RX10 yX10_left yX10_left ∈ jws := jmem (i := 606) (by decide +kernel) rfl
theorem cm_X10_slip : jcm mX10_slip 1 := ⟨jmem (i := 616) (by decide +kernel) rfl, jmem (i := 1) (by decide +kernel) rfl, rfl, by decide +kernel, ⟨by decide +kernel, by decide +kernel⟩, by decide +kernel⟩
theorem im_X10_slip : Cond.instanceMethod yX10_slip ∈ jws := jmem (i := 614) (by decide +kernel) rfl
theorem se_X10_slip : Cond.selects RX10 yX10_slip yX10_slip ∈ jws := jmem (i := 615) (by decide +kernel) rfl
theorem cm_X10_said : jcm mX10_said 3 := ⟨jmem (i := 620) (by decide +kernel) rfl, jmem (i := 1) (by decide +kernel) rfl, rfl, by decide +kernel, ⟨by decide +kernel, by decide +kernel⟩, by decide +kernel⟩
theorem im_X10_said : Cond.instanceMethod yX10_said ∈ jws := jmem (i := 618) (by decide +kernel) rfl
theorem se_X10_said : Cond.selects RX10 yX10_said yX10_said ∈ jws := jmem (i := 619) (by decide +kernel) rfl
theorem cm_X10_order : jcm mX10_order 1 := ⟨jmem (i := 628) (by decide +kernel) rfl, jmem (i := 1) (by decide +kernel) rfl, rfl, by decide +kernel, ⟨by decide +kernel, by decide +kernel⟩, by decide +kernel⟩
theorem im_X10_order : Cond.instanceMethod yX10_order ∈ jws := jmem (i := 626) (by decide +kernel) rfl
theorem se_X10_order : Cond.selects RX10 yX10_order yX10_order ∈ jws := jmem (i := 627) (by decide +kernel) rfl
theorem cm_X10_sure : jcm mX10_sure 2 := ⟨jmem (i := 659) (by decide +kernel) rfl, jmem (i := 1) (by decide +kernel) rfl, rfl, by decide +kernel, ⟨by decide +kernel, by decide +kernel⟩, by decide +kernel⟩
theorem im_X10_sure : Cond.instanceMethod yX10_sure ∈ jws := jmem (i := 657) (by decide +kernel) rfl
theorem se_X10_sure : Cond.selects RX10 yX10_sure yX10_sure ∈ jws := jmem (i := 658) (by decide +kernel) rfl
theorem cm_X10_kin : jcm mX10_kin 2 := ⟨jmem (i := 663) (by decide +kernel) rfl, jmem (i := 1) (by decide +kernel) rfl, rfl, by decide +kernel, ⟨by decide +kernel, by decide +kernel⟩, by decide +kernel⟩
theorem im_X10_kin : Cond.instanceMethod yX10_kin ∈ jws := jmem (i := 661) (by decide +kernel) rfl
theorem se_X10_kin : Cond.selects RX10 yX10_kin yX10_kin ∈ jws := jmem (i := 662) (by decide +kernel) rfl
theorem cm_X10_dealt : jcm mX10_dealt 2 := ⟨jmem (i := 667) (by decide +kernel) rfl, jmem (i := 1) (by decide +kernel) rfl, rfl, by decide +kernel, ⟨by decide +kernel, by decide +kernel⟩, by decide +kernel⟩
theorem im_X10_dealt : Cond.instanceMethod yX10_dealt ∈ jws := jmem (i := 665) (by decide +kernel) rfl
theorem se_X10_dealt : Cond.selects RX10 yX10_dealt yX10_dealt ∈ jws := jmem (i := 666) (by decide +kernel) rfl
theorem cm_X10_bounds : jcm mX10_bounds 4 := ⟨jmem (i := 698) (by decide +kernel) rfl, jmem (i := 1) (by decide +kernel) rfl, rfl, by decide +kernel, ⟨by decide +kernel, by decide +kernel⟩, by decide +kernel⟩
theorem im_X10_bounds : Cond.instanceMethod yX10_bounds ∈ jws := jmem (i := 696) (by decide +kernel) rfl
theorem se_X10_bounds : Cond.selects RX10 yX10_bounds yX10_bounds ∈ jws := jmem (i := 697) (by decide +kernel) rfl
theorem cm_X10_question : jcm mX10_question 5 := ⟨jmem (i := 702) (by decide +kernel) rfl, jmem (i := 1) (by decide +kernel) rfl, rfl, by decide +kernel, ⟨by decide +kernel, by decide +kernel⟩, by decide +kernel⟩
theorem im_X10_question : Cond.instanceMethod yX10_question ∈ jws := jmem (i := 700) (by decide +kernel) rfl
theorem se_X10_question : Cond.selects RX10 yX10_question yX10_question ∈ jws := jmem (i := 701) (by decide +kernel) rfl
theorem cm_X10_tells : jcm mX10_tells 1 := ⟨jmem (i := 713) (by decide +kernel) rfl, jmem (i := 1) (by decide +kernel) rfl, rfl, by decide +kernel, ⟨by decide +kernel, by decide +kernel⟩, by decide +kernel⟩
theorem im_X10_tells : Cond.instanceMethod yX10_tells ∈ jws := jmem (i := 711) (by decide +kernel) rfl
theorem se_X10_tells : Cond.selects RX10 yX10_tells yX10_tells ∈ jws := jmem (i := 712) (by decide +kernel) rfl
theorem cm_X10_form : jcm mX10_form 1 := ⟨jmem (i := 737) (by decide +kernel) rfl, jmem (i := 1) (by decide +kernel) rfl, rfl, by decide +kernel, ⟨by decide +kernel, by decide +kernel⟩, by decide +kernel⟩
theorem im_X10_form : Cond.instanceMethod yX10_form ∈ jws := jmem (i := 735) (by decide +kernel) rfl
theorem se_X10_form : Cond.selects RX10 yX10_form yX10_form ∈ jws := jmem (i := 736) (by decide +kernel) rfl
theorem cm_X10_sign : jcm mX10_sign 1 := ⟨jmem (i := 750) (by decide +kernel) rfl, jmem (i := 1) (by decide +kernel) rfl, rfl, by decide +kernel, ⟨by decide +kernel, by decide +kernel⟩, by decide +kernel⟩
theorem im_X10_sign : Cond.instanceMethod yX10_sign ∈ jws := jmem (i := 748) (by decide +kernel) rfl
theorem se_X10_sign : Cond.selects RX10 yX10_sign yX10_sign ∈ jws := jmem (i := 749) (by decide +kernel) rfl
theorem cm_X10_limb : jcm mX10_limb 2 := ⟨jmem (i := 754) (by decide +kernel) rfl, jmem (i := 1) (by decide +kernel) rfl, rfl, by decide +kernel, ⟨by decide +kernel, by decide +kernel⟩, by decide +kernel⟩
theorem im_X10_limb : Cond.instanceMethod yX10_limb ∈ jws := jmem (i := 752) (by decide +kernel) rfl
theorem se_X10_limb : Cond.selects RX10 yX10_limb yX10_limb ∈ jws := jmem (i := 753) (by decide +kernel) rfl
theorem cm_X10_count : jcm mX10_count 1 := ⟨jmem (i := 758) (by decide +kernel) rfl, jmem (i := 1) (by decide +kernel) rfl, rfl, by decide +kernel, ⟨by decide +kernel, by decide +kernel⟩, by decide +kernel⟩
theorem im_X10_count : Cond.instanceMethod yX10_count ∈ jws := jmem (i := 756) (by decide +kernel) rfl
theorem se_X10_count : Cond.selects RX10 yX10_count yX10_count ∈ jws := jmem (i := 757) (by decide +kernel) rfl
theorem cm_X10_digest : jcm mX10_digest 0 := ⟨jmem (i := 762) (by decide +kernel) rfl, jmem (i := 1) (by decide +kernel) rfl, rfl, by decide +kernel, ⟨by decide +kernel, by decide +kernel⟩, by decide +kernel⟩
theorem im_X10_digest : Cond.instanceMethod yX10_digest ∈ jws := jmem (i := 760) (by decide +kernel) rfl
theorem se_X10_digest : Cond.selects RX10 yX10_digest yX10_digest ∈ jws := jmem (i := 761) (by decide +kernel) rfl
theorem cm_X10_digestOfRow : jcm mX10_digestOfRow 3 := ⟨jmem (i := 773) (by decide +kernel) rfl, jmem (i := 1) (by decide +kernel) rfl, rfl, by decide +kernel, ⟨by decide +kernel, by decide +kernel⟩, by decide +kernel⟩
theorem st_X10_digestOfRow : Cond.static yX10_digestOfRow ∈ jws := jmem (i := 772) (by decide +kernel) rfl
theorem cm_X10_within : jcm mX10_within 3 := ⟨jmem (i := 351) (by decide +kernel) rfl, jmem (i := 1) (by decide +kernel) rfl, rfl, by decide +kernel, ⟨by decide +kernel, by decide +kernel⟩, by decide +kernel⟩
theorem st_X10_within : Cond.static yX10_within ∈ jws := jmem (i := 350) (by decide +kernel) rfl
theorem cm_X10_isRank : jcm mX10_isRank 1 := ⟨jmem (i := 348) (by decide +kernel) rfl, jmem (i := 1) (by decide +kernel) rfl, rfl, by decide +kernel, ⟨by decide +kernel, by decide +kernel⟩, by decide +kernel⟩
theorem st_X10_isRank : Cond.static yX10_isRank ∈ jws := jmem (i := 347) (by decide +kernel) rfl
theorem cm_X10_isYear : jcm mX10_isYear 1 := ⟨jmem (i := 390) (by decide +kernel) rfl, jmem (i := 1) (by decide +kernel) rfl, rfl, by decide +kernel, ⟨by decide +kernel, by decide +kernel⟩, by decide +kernel⟩
theorem st_X10_isYear : Cond.static yX10_isYear ∈ jws := jmem (i := 389) (by decide +kernel) rfl
theorem cm_X10_isGift : jcm mX10_isGift 1 := ⟨jmem (i := 417) (by decide +kernel) rfl, jmem (i := 1) (by decide +kernel) rfl, rfl, by decide +kernel, ⟨by decide +kernel, by decide +kernel⟩, by decide +kernel⟩
theorem st_X10_isGift : Cond.static yX10_isGift ∈ jws := jmem (i := 416) (by decide +kernel) rfl
theorem cm_X10_isPercent : jcm mX10_isPercent 1 := ⟨jmem (i := 705) (by decide +kernel) rfl, jmem (i := 1) (by decide +kernel) rfl, rfl, by decide +kernel, ⟨by decide +kernel, by decide +kernel⟩, by decide +kernel⟩
theorem st_X10_isPercent : Cond.static yX10_isPercent ∈ jws := jmem (i := 704) (by decide +kernel) rfl
theorem cm_X10_isWord : jcm mX10_isWord 1 := ⟨jmem (i := 406) (by decide +kernel) rfl, jmem (i := 1) (by decide +kernel) rfl, rfl, by decide +kernel, ⟨by decide +kernel, by decide +kernel⟩, by decide +kernel⟩
theorem im_X10_isWord : Cond.instanceMethod yX10_isWord ∈ jws := jmem (i := 405) (by decide +kernel) rfl
theorem se_X10_isWord : Cond.selects RX10 yX10_isWord yX10_isWord ∈ jws := jmemS (i := 4) (q := (yX10_isWord, 10)) (by decide +kernel) rfl
theorem cm_X10_isHand : jcm mX10_isHand 1 := ⟨jmem (i := 363) (by decide +kernel) rfl, jmem (i := 1) (by decide +kernel) rfl, rfl, by decide +kernel, ⟨by decide +kernel, by decide +kernel⟩, by decide +kernel⟩
theorem im_X10_isHand : Cond.instanceMethod yX10_isHand ∈ jws := jmem (i := 362) (by decide +kernel) rfl
theorem se_X10_isHand : Cond.selects RX10 yX10_isHand yX10_isHand ∈ jws := jmemS (i := 1) (q := (yX10_isHand, 10)) (by decide +kernel) rfl
theorem cm_X10_isPupil : jcm mX10_isPupil 1 := ⟨jmem (i := 383) (by decide +kernel) rfl, jmem (i := 1) (by decide +kernel) rfl, rfl, by decide +kernel, ⟨by decide +kernel, by decide +kernel⟩, by decide +kernel⟩
theorem im_X10_isPupil : Cond.instanceMethod yX10_isPupil ∈ jws := jmem (i := 382) (by decide +kernel) rfl
theorem se_X10_isPupil : Cond.selects RX10 yX10_isPupil yX10_isPupil ∈ jws := jmemS (i := 2) (q := (yX10_isPupil, 10)) (by decide +kernel) rfl
theorem cm_X10_isLetter : jcm mX10_isLetter 1 := ⟨jmem (i := 402) (by decide +kernel) rfl, jmem (i := 1) (by decide +kernel) rfl, rfl, by decide +kernel, ⟨by decide +kernel, by decide +kernel⟩, by decide +kernel⟩
theorem im_X10_isLetter : Cond.instanceMethod yX10_isLetter ∈ jws := jmem (i := 401) (by decide +kernel) rfl
theorem se_X10_isLetter : Cond.selects RX10 yX10_isLetter yX10_isLetter ∈ jws := jmemS (i := 3) (q := (yX10_isLetter, 10)) (by decide +kernel) rfl
theorem cm_X10_choices : jcm mX10_choices 2 := ⟨jmem (i := 585) (by decide +kernel) rfl, jmem (i := 1) (by decide +kernel) rfl, rfl, by decide +kernel, ⟨by decide +kernel, by decide +kernel⟩, by decide +kernel⟩
theorem st_X10_choices : Cond.static yX10_choices ∈ jws := jmem (i := 584) (by decide +kernel) rfl
theorem cm_X11_in : jcm mX11_in 3 := ⟨jmem (i := 889) (by decide +kernel) rfl, jmem (i := 13) (by decide +kernel) rfl, rfl, by decide +kernel, ⟨by decide +kernel, by decide +kernel⟩, by decide +kernel⟩
theorem st_X11_in : Cond.static yX11_in ∈ jws := jmem (i := 888) (by decide +kernel) rfl
theorem cm_X11_init : jcm mX11_init 0 := ⟨jmem (i := 792) (by decide +kernel) rfl, jmem (i := 13) (by decide +kernel) rfl, rfl, by decide +kernel, ⟨by decide +kernel, by decide +kernel⟩, by decide +kernel⟩
theorem im_X11_init : Cond.instanceMethod yX11_init ∈ jws := jmem (i := 791) (by decide +kernel) rfl
theorem cm_X11_trims : jcm mX11_trims 1 := ⟨jmem (i := 802) (by decide +kernel) rfl, jmem (i := 13) (by decide +kernel) rfl, rfl, by decide +kernel, ⟨by decide +kernel, by decide +kernel⟩, by decide +kernel⟩
theorem im_X11_trims : Cond.instanceMethod yX11_trims ∈ jws := jmem (i := 801) (by decide +kernel) rfl
theorem se_X11_trims : Cond.selects RX11 yX11_trims yX11_trims ∈ jws := jmemS (i := 21) (q := (yX11_trims, 25)) (by decide +kernel) rfl
theorem cm_X11_sets : jcm mX11_sets 2 := ⟨jmem (i := 797) (by decide +kernel) rfl, jmem (i := 13) (by decide +kernel) rfl, rfl, by decide +kernel, ⟨by decide +kernel, by decide +kernel⟩, by decide +kernel⟩
theorem im_X11_sets : Cond.instanceMethod yX11_sets ∈ jws := jmem (i := 796) (by decide +kernel) rfl
theorem se_X11_sets : Cond.selects RX11 yX11_sets yX11_sets ∈ jws := jmemS (i := 20) (q := (yX11_sets, 25)) (by decide +kernel) rfl
theorem cm_X11_takes : jcm mX11_takes 2 := ⟨jmem (i := 981) (by decide +kernel) rfl, jmem (i := 13) (by decide +kernel) rfl, rfl, by decide +kernel, ⟨by decide +kernel, by decide +kernel⟩, by decide +kernel⟩
theorem im_X11_takes : Cond.instanceMethod yX11_takes ∈ jws := jmem (i := 980) (by decide +kernel) rfl
theorem se_X11_takes : Cond.selects RX11 yX11_takes yX11_takes ∈ jws := jmemS (i := 33) (q := (yX11_takes, 25)) (by decide +kernel) rfl
theorem cm_X11_times : jcm mX11_times 2 := ⟨jmem (i := 1010) (by decide +kernel) rfl, jmem (i := 13) (by decide +kernel) rfl, rfl, by decide +kernel, ⟨by decide +kernel, by decide +kernel⟩, by decide +kernel⟩
theorem im_X11_times : Cond.instanceMethod yX11_times ∈ jws := jmem (i := 1009) (by decide +kernel) rfl
theorem se_X11_times : Cond.selects RX11 yX11_times yX11_times ∈ jws := jmemS (i := 39) (q := (yX11_times, 25)) (by decide +kernel) rfl
theorem cm_X11_multiplies : jcm mX11_multiplies 2 := ⟨jmem (i := 1018) (by decide +kernel) rfl, jmem (i := 13) (by decide +kernel) rfl, rfl, by decide +kernel, ⟨by decide +kernel, by decide +kernel⟩, by decide +kernel⟩
theorem im_X11_multiplies : Cond.instanceMethod yX11_multiplies ∈ jws := jmem (i := 1017) (by decide +kernel) rfl
theorem se_X11_multiplies : Cond.selects RX11 yX11_multiplies yX11_multiplies ∈ jws := jmemS (i := 41) (q := (yX11_multiplies, 25)) (by decide +kernel) rfl
theorem cm_X11_adds : jcm mX11_adds 2 := ⟨jmem (i := 1022) (by decide +kernel) rfl, jmem (i := 13) (by decide +kernel) rfl, rfl, by decide +kernel, ⟨by decide +kernel, by decide +kernel⟩, by decide +kernel⟩
theorem im_X11_adds : Cond.instanceMethod yX11_adds ∈ jws := jmem (i := 1021) (by decide +kernel) rfl
theorem se_X11_adds : Cond.selects RX11 yX11_adds yX11_adds ∈ jws := jmemS (i := 42) (q := (yX11_adds, 25)) (by decide +kernel) rfl
theorem cm_X11_lessens : jcm mX11_lessens 2 := ⟨jmem (i := 989) (by decide +kernel) rfl, jmem (i := 13) (by decide +kernel) rfl, rfl, by decide +kernel, ⟨by decide +kernel, by decide +kernel⟩, by decide +kernel⟩
theorem im_X11_lessens : Cond.instanceMethod yX11_lessens ∈ jws := jmem (i := 988) (by decide +kernel) rfl
theorem se_X11_lessens : Cond.selects RX11 yX11_lessens yX11_lessens ∈ jws := jmemS (i := 35) (q := (yX11_lessens, 25)) (by decide +kernel) rfl
theorem cm_X11_against : jcm mX11_against 2 := ⟨jmem (i := 985) (by decide +kernel) rfl, jmem (i := 13) (by decide +kernel) rfl, rfl, by decide +kernel, ⟨by decide +kernel, by decide +kernel⟩, by decide +kernel⟩
theorem im_X11_against : Cond.instanceMethod yX11_against ∈ jws := jmem (i := 984) (by decide +kernel) rfl
theorem se_X11_against : Cond.selects RX11 yX11_against yX11_against ∈ jws := jmemS (i := 34) (q := (yX11_against, 25)) (by decide +kernel) rfl
theorem cm_X11_isEven : jcm mX11_isEven 1 := ⟨jmem (i := 973) (by decide +kernel) rfl, jmem (i := 13) (by decide +kernel) rfl, rfl, by decide +kernel, ⟨by decide +kernel, by decide +kernel⟩, by decide +kernel⟩
theorem im_X11_isEven : Cond.instanceMethod yX11_isEven ∈ jws := jmem (i := 972) (by decide +kernel) rfl
theorem se_X11_isEven : Cond.selects RX11 yX11_isEven yX11_isEven ∈ jws := jmemS (i := 31) (q := (yX11_isEven, 25)) (by decide +kernel) rfl
theorem cm_X11_halves : jcm mX11_halves 1 := ⟨jmem (i := 977) (by decide +kernel) rfl, jmem (i := 13) (by decide +kernel) rfl, rfl, by decide +kernel, ⟨by decide +kernel, by decide +kernel⟩, by decide +kernel⟩
theorem im_X11_halves : Cond.instanceMethod yX11_halves ∈ jws := jmem (i := 976) (by decide +kernel) rfl
theorem se_X11_halves : Cond.selects RX11 yX11_halves yX11_halves ∈ jws := jmemS (i := 32) (q := (yX11_halves, 25)) (by decide +kernel) rfl
theorem cm_X11_lowers : jcm mX11_lowers 0 := ⟨jmem (i := 969) (by decide +kernel) rfl, jmem (i := 13) (by decide +kernel) rfl, rfl, by decide +kernel, ⟨by decide +kernel, by decide +kernel⟩, by decide +kernel⟩
theorem im_X11_lowers : Cond.instanceMethod yX11_lowers ∈ jws := jmem (i := 968) (by decide +kernel) rfl
theorem se_X11_lowers : Cond.selects RX11 yX11_lowers yX11_lowers ∈ jws := jmemS (i := 30) (q := (yX11_lowers, 25)) (by decide +kernel) rfl
theorem cm_X11_parts : jcm mX11_parts 1 := ⟨jmem (i := 994) (by decide +kernel) rfl, jmem (i := 13) (by decide +kernel) rfl, rfl, by decide +kernel, ⟨by decide +kernel, by decide +kernel⟩, by decide +kernel⟩
theorem im_X11_parts : Cond.instanceMethod yX11_parts ∈ jws := jmem (i := 993) (by decide +kernel) rfl
theorem se_X11_parts : Cond.selects RX11 yX11_parts yX11_parts ∈ jws := jmemS (i := 36) (q := (yX11_parts, 25)) (by decide +kernel) rfl
theorem cm_X11_told : jcm mX11_told 2 := ⟨jmem (i := 965) (by decide +kernel) rfl, jmem (i := 13) (by decide +kernel) rfl, rfl, by decide +kernel, ⟨by decide +kernel, by decide +kernel⟩, by decide +kernel⟩
theorem im_X11_told : Cond.instanceMethod yX11_told ∈ jws := jmem (i := 964) (by decide +kernel) rfl
theorem se_X11_told : Cond.selects RX11 yX11_told yX11_told ∈ jws := jmemS (i := 29) (q := (yX11_told, 25)) (by decide +kernel) rfl
theorem cm_X11_sign : jcm mX11_sign 1 := ⟨jmem (i := 882) (by decide +kernel) rfl, jmem (i := 13) (by decide +kernel) rfl, rfl, by decide +kernel, ⟨by decide +kernel, by decide +kernel⟩, by decide +kernel⟩
theorem im_X11_sign : Cond.instanceMethod yX11_sign ∈ jws := jmem (i := 880) (by decide +kernel) rfl
theorem se_X11_sign : Cond.selects RX11 yX11_sign yX11_sign ∈ jws := jmem (i := 881) (by decide +kernel) rfl
theorem cm_X11_limb : jcm mX11_limb 2 := ⟨jmem (i := 886) (by decide +kernel) rfl, jmem (i := 13) (by decide +kernel) rfl, rfl, by decide +kernel, ⟨by decide +kernel, by decide +kernel⟩, by decide +kernel⟩
theorem im_X11_limb : Cond.instanceMethod yX11_limb ∈ jws := jmem (i := 884) (by decide +kernel) rfl
theorem se_X11_limb : Cond.selects RX11 yX11_limb yX11_limb ∈ jws := jmem (i := 885) (by decide +kernel) rfl
theorem cm_X11_is : jcm mX11_is 2 := ⟨jmem (i := 917) (by decide +kernel) rfl, jmem (i := 13) (by decide +kernel) rfl, rfl, by decide +kernel, ⟨by decide +kernel, by decide +kernel⟩, by decide +kernel⟩
theorem im_X11_is : Cond.instanceMethod yX11_is ∈ jws := jmem (i := 916) (by decide +kernel) rfl
theorem se_X11_is : Cond.selects RX11 yX11_is yX11_is ∈ jws := jmemS (i := 23) (q := (yX11_is, 25)) (by decide +kernel) rfl
theorem cm_X11_next : jcm mX11_next 1 := ⟨jmem (i := 899) (by decide +kernel) rfl, jmem (i := 13) (by decide +kernel) rfl, rfl, by decide +kernel, ⟨by decide +kernel, by decide +kernel⟩, by decide +kernel⟩
theorem im_X11_next : Cond.instanceMethod yX11_next ∈ jws := jmem (i := 898) (by decide +kernel) rfl
theorem se_X11_next : Cond.selects RX11 yX11_next yX11_next ∈ jws := jmemS (i := 22) (q := (yX11_next, 25)) (by decide +kernel) rfl
theorem cm_X11_word : jcm mX11_word 2 := ⟨jmem (i := 893) (by decide +kernel) rfl, jmem (i := 13) (by decide +kernel) rfl, rfl, by decide +kernel, ⟨by decide +kernel, by decide +kernel⟩, by decide +kernel⟩
theorem im_X11_word : Cond.instanceMethod yX11_word ∈ jws := jmem (i := 891) (by decide +kernel) rfl
theorem se_X11_word : Cond.selects RX11 yX11_word yX11_word ∈ jws := jmem (i := 892) (by decide +kernel) rfl
theorem cm_X11_hand : jcm mX11_hand 1 := ⟨jmem (i := 903) (by decide +kernel) rfl, jmem (i := 13) (by decide +kernel) rfl, rfl, by decide +kernel, ⟨by decide +kernel, by decide +kernel⟩, by decide +kernel⟩
theorem im_X11_hand : Cond.instanceMethod yX11_hand ∈ jws := jmem (i := 901) (by decide +kernel) rfl
theorem se_X11_hand : Cond.selects RX11 yX11_hand yX11_hand ∈ jws := jmem (i := 902) (by decide +kernel) rfl
theorem cm_X11_pupil : jcm mX11_pupil 2 := ⟨jmem (i := 908) (by decide +kernel) rfl, jmem (i := 13) (by decide +kernel) rfl, rfl, by decide +kernel, ⟨by decide +kernel, by decide +kernel⟩, by decide +kernel⟩
theorem im_X11_pupil : Cond.instanceMethod yX11_pupil ∈ jws := jmem (i := 906) (by decide +kernel) rfl
theorem se_X11_pupil : Cond.selects RX11 yX11_pupil yX11_pupil ∈ jws := jmem (i := 907) (by decide +kernel) rfl
theorem cm_X11_became : jcm mX11_became 2 := ⟨jmem (i := 913) (by decide +kernel) rfl, jmem (i := 13) (by decide +kernel) rfl, rfl, by decide +kernel, ⟨by decide +kernel, by decide +kernel⟩, by decide +kernel⟩
theorem im_X11_became : Cond.instanceMethod yX11_became ∈ jws := jmem (i := 911) (by decide +kernel) rfl
theorem se_X11_became : Cond.selects RX11 yX11_became yX11_became ∈ jws := jmem (i := 912) (by decide +kernel) rfl
theorem cm_X11_letter : jcm mX11_letter 3 := ⟨jmem (i := 921) (by decide +kernel) rfl, jmem (i := 13) (by decide +kernel) rfl, rfl, by decide +kernel, ⟨by decide +kernel, by decide +kernel⟩, by decide +kernel⟩
theorem im_X11_letter : Cond.instanceMethod yX11_letter ∈ jws := jmem (i := 919) (by decide +kernel) rfl
theorem se_X11_letter : Cond.selects RX11 yX11_letter yX11_letter ∈ jws := jmem (i := 920) (by decide +kernel) rfl
theorem cm_X11_write : jcm mX11_write 2 := ⟨jmem (i := 926) (by decide +kernel) rfl, jmem (i := 13) (by decide +kernel) rfl, rfl, by decide +kernel, ⟨by decide +kernel, by decide +kernel⟩, by decide +kernel⟩
theorem im_X11_write : Cond.instanceMethod yX11_write ∈ jws := jmem (i := 924) (by decide +kernel) rfl
theorem se_X11_write : Cond.selects RX11 yX11_write yX11_write ∈ jws := jmem (i := 925) (by decide +kernel) rfl
theorem cm_X11_isGift : jcm mX11_isGift 1 := ⟨jmem (i := 933) (by decide +kernel) rfl, jmem (i := 13) (by decide +kernel) rfl, rfl, by decide +kernel, ⟨by decide +kernel, by decide +kernel⟩, by decide +kernel⟩
theorem st_X11_isGift : Cond.static yX11_isGift ∈ jws := jmem (i := 932) (by decide +kernel) rfl
theorem cm_X11_weight : jcm mX11_weight 2 := ⟨jmem (i := 930) (by decide +kernel) rfl, jmem (i := 13) (by decide +kernel) rfl, rfl, by decide +kernel, ⟨by decide +kernel, by decide +kernel⟩, by decide +kernel⟩
theorem im_X11_weight : Cond.instanceMethod yX11_weight ∈ jws := jmem (i := 928) (by decide +kernel) rfl
theorem se_X11_weight : Cond.selects RX11 yX11_weight yX11_weight ∈ jws := jmem (i := 929) (by decide +kernel) rfl
theorem cm_X11_stands : jcm mX11_stands 2 := ⟨jmem (i := 949) (by decide +kernel) rfl, jmem (i := 13) (by decide +kernel) rfl, rfl, by decide +kernel, ⟨by decide +kernel, by decide +kernel⟩, by decide +kernel⟩
theorem im_X11_stands : Cond.instanceMethod yX11_stands ∈ jws := jmem (i := 948) (by decide +kernel) rfl
theorem se_X11_stands : Cond.selects RX11 yX11_stands yX11_stands ∈ jws := jmemS (i := 26) (q := (yX11_stands, 25)) (by decide +kernel) rfl
theorem cm_X11_usesOf : jcm mX11_usesOf 4 := ⟨jmem (i := 945) (by decide +kernel) rfl, jmem (i := 13) (by decide +kernel) rfl, rfl, by decide +kernel, ⟨by decide +kernel, by decide +kernel⟩, by decide +kernel⟩
theorem im_X11_usesOf : Cond.instanceMethod yX11_usesOf ∈ jws := jmem (i := 944) (by decide +kernel) rfl
theorem se_X11_usesOf : Cond.selects RX11 yX11_usesOf yX11_usesOf ∈ jws := jmemS (i := 25) (q := (yX11_usesOf, 25)) (by decide +kernel) rfl
theorem cm_X11_isUse : jcm mX11_isUse 3 := ⟨jmem (i := 941) (by decide +kernel) rfl, jmem (i := 13) (by decide +kernel) rfl, rfl, by decide +kernel, ⟨by decide +kernel, by decide +kernel⟩, by decide +kernel⟩
theorem im_X11_isUse : Cond.instanceMethod yX11_isUse ∈ jws := jmem (i := 940) (by decide +kernel) rfl
theorem se_X11_isUse : Cond.selects RX11 yX11_isUse yX11_isUse ∈ jws := jmemS (i := 24) (q := (yX11_isUse, 25)) (by decide +kernel) rfl
theorem cm_X11_uses : jcm mX11_uses 3 := ⟨jmem (i := 937) (by decide +kernel) rfl, jmem (i := 13) (by decide +kernel) rfl, rfl, by decide +kernel, ⟨by decide +kernel, by decide +kernel⟩, by decide +kernel⟩
theorem im_X11_uses : Cond.instanceMethod yX11_uses ∈ jws := jmem (i := 935) (by decide +kernel) rfl
theorem se_X11_uses : Cond.selects RX11 yX11_uses yX11_uses ∈ jws := jmem (i := 936) (by decide +kernel) rfl
theorem cm_X11_meanUp : jcm mX11_meanUp 4 := ⟨jmem (i := 957) (by decide +kernel) rfl, jmem (i := 13) (by decide +kernel) rfl, rfl, by decide +kernel, ⟨by decide +kernel, by decide +kernel⟩, by decide +kernel⟩
theorem im_X11_meanUp : Cond.instanceMethod yX11_meanUp ∈ jws := jmem (i := 956) (by decide +kernel) rfl
theorem se_X11_meanUp : Cond.selects RX11 yX11_meanUp yX11_meanUp ∈ jws := jmemS (i := 27) (q := (yX11_meanUp, 25)) (by decide +kernel) rfl
theorem cm_X11_meanDown : jcm mX11_meanDown 3 := ⟨jmem (i := 961) (by decide +kernel) rfl, jmem (i := 13) (by decide +kernel) rfl, rfl, by decide +kernel, ⟨by decide +kernel, by decide +kernel⟩, by decide +kernel⟩
theorem im_X11_meanDown : Cond.instanceMethod yX11_meanDown ∈ jws := jmem (i := 960) (by decide +kernel) rfl
theorem se_X11_meanDown : Cond.selects RX11 yX11_meanDown yX11_meanDown ∈ jws := jmemS (i := 28) (q := (yX11_meanDown, 25)) (by decide +kernel) rfl
theorem cm_X11_means : jcm mX11_means 3 := ⟨jmem (i := 953) (by decide +kernel) rfl, jmem (i := 13) (by decide +kernel) rfl, rfl, by decide +kernel, ⟨by decide +kernel, by decide +kernel⟩, by decide +kernel⟩
theorem im_X11_means : Cond.instanceMethod yX11_means ∈ jws := jmem (i := 951) (by decide +kernel) rfl
theorem se_X11_means : Cond.selects RX11 yX11_means yX11_means ∈ jws := jmem (i := 952) (by decide +kernel) rfl
theorem cm_X11_wordsOf : jcm mX11_wordsOf 1 := ⟨jmem (i := 1002) (by decide +kernel) rfl, jmem (i := 13) (by decide +kernel) rfl, rfl, by decide +kernel, ⟨by decide +kernel, by decide +kernel⟩, by decide +kernel⟩
theorem im_X11_wordsOf : Cond.instanceMethod yX11_wordsOf ∈ jws := jmem (i := 1001) (by decide +kernel) rfl
theorem se_X11_wordsOf : Cond.selects RX11 yX11_wordsOf yX11_wordsOf ∈ jws := jmemS (i := 37) (q := (yX11_wordsOf, 25)) (by decide +kernel) rfl
theorem cm_X11_weighs : jcm mX11_weighs 1 := ⟨jmem (i := 1006) (by decide +kernel) rfl, jmem (i := 13) (by decide +kernel) rfl, rfl, by decide +kernel, ⟨by decide +kernel, by decide +kernel⟩, by decide +kernel⟩
theorem im_X11_weighs : Cond.instanceMethod yX11_weighs ∈ jws := jmem (i := 1005) (by decide +kernel) rfl
theorem se_X11_weighs : Cond.selects RX11 yX11_weighs yX11_weighs ∈ jws := jmemS (i := 38) (q := (yX11_weighs, 25)) (by decide +kernel) rfl
theorem cm_X11_shares : jcm mX11_shares 2 := ⟨jmem (i := 1014) (by decide +kernel) rfl, jmem (i := 13) (by decide +kernel) rfl, rfl, by decide +kernel, ⟨by decide +kernel, by decide +kernel⟩, by decide +kernel⟩
theorem im_X11_shares : Cond.instanceMethod yX11_shares ∈ jws := jmem (i := 1013) (by decide +kernel) rfl
theorem se_X11_shares : Cond.selects RX11 yX11_shares yX11_shares ∈ jws := jmemS (i := 40) (q := (yX11_shares, 25)) (by decide +kernel) rfl
theorem cm_X11_odds : jcm mX11_odds 2 := ⟨jmem (i := 998) (by decide +kernel) rfl, jmem (i := 13) (by decide +kernel) rfl, rfl, by decide +kernel, ⟨by decide +kernel, by decide +kernel⟩, by decide +kernel⟩
theorem im_X11_odds : Cond.instanceMethod yX11_odds ∈ jws := jmem (i := 996) (by decide +kernel) rfl
theorem se_X11_odds : Cond.selects RX11 yX11_odds yX11_odds ∈ jws := jmem (i := 997) (by decide +kernel) rfl
theorem cm_X11_likeliest : jcm mX11_likeliest 1 := ⟨jmem (i := 1026) (by decide +kernel) rfl, jmem (i := 13) (by decide +kernel) rfl, rfl, by decide +kernel, ⟨by decide +kernel, by decide +kernel⟩, by decide +kernel⟩
theorem im_X11_likeliest : Cond.instanceMethod yX11_likeliest ∈ jws := jmem (i := 1024) (by decide +kernel) rfl
theorem se_X11_likeliest : Cond.selects RX11 yX11_likeliest yX11_likeliest ∈ jws := jmem (i := 1025) (by decide +kernel) rfl
theorem cm_X11_says : jcm mX11_says 1 := ⟨jmem (i := 1030) (by decide +kernel) rfl, jmem (i := 13) (by decide +kernel) rfl, rfl, by decide +kernel, ⟨by decide +kernel, by decide +kernel⟩, by decide +kernel⟩
theorem im_X11_says : Cond.instanceMethod yX11_says ∈ jws := jmem (i := 1028) (by decide +kernel) rfl
theorem se_X11_says : Cond.selects RX11 yX11_says yX11_says ∈ jws := jmem (i := 1029) (by decide +kernel) rfl
theorem cm_X11_isYear : jcm mX11_isYear 1 := ⟨jmem (i := 1037) (by decide +kernel) rfl, jmem (i := 13) (by decide +kernel) rfl, rfl, by decide +kernel, ⟨by decide +kernel, by decide +kernel⟩, by decide +kernel⟩
theorem st_X11_isYear : Cond.static yX11_isYear ∈ jws := jmem (i := 1036) (by decide +kernel) rfl
theorem cm_X11_wordsIn : jcm mX11_wordsIn 3 := ⟨jmem (i := 1041) (by decide +kernel) rfl, jmem (i := 13) (by decide +kernel) rfl, rfl, by decide +kernel, ⟨by decide +kernel, by decide +kernel⟩, by decide +kernel⟩
theorem im_X11_wordsIn : Cond.instanceMethod yX11_wordsIn ∈ jws := jmem (i := 1040) (by decide +kernel) rfl
theorem se_X11_wordsIn : Cond.selects RX11 yX11_wordsIn yX11_wordsIn ∈ jws := jmemS (i := 43) (q := (yX11_wordsIn, 25)) (by decide +kernel) rfl
theorem cm_X11_year : jcm mX11_year 2 := ⟨jmem (i := 1034) (by decide +kernel) rfl, jmem (i := 13) (by decide +kernel) rfl, rfl, by decide +kernel, ⟨by decide +kernel, by decide +kernel⟩, by decide +kernel⟩
theorem im_X11_year : Cond.instanceMethod yX11_year ∈ jws := jmem (i := 1032) (by decide +kernel) rfl
theorem se_X11_year : Cond.selects RX11 yX11_year yX11_year ∈ jws := jmem (i := 1033) (by decide +kernel) rfl
theorem cm_X11_asIn : jcm mX11_asIn 3 := ⟨jmem (i := 1045) (by decide +kernel) rfl, jmem (i := 13) (by decide +kernel) rfl, rfl, by decide +kernel, ⟨by decide +kernel, by decide +kernel⟩, by decide +kernel⟩
theorem im_X11_asIn : Cond.instanceMethod yX11_asIn ∈ jws := jmem (i := 1043) (by decide +kernel) rfl
theorem se_X11_asIn : Cond.selects RX11 yX11_asIn yX11_asIn ∈ jws := jmem (i := 1044) (by decide +kernel) rfl
theorem cm_X11_lettersOf : jcm mX11_lettersOf 4 := ⟨jmem (i := 1057) (by decide +kernel) rfl, jmem (i := 13) (by decide +kernel) rfl, rfl, by decide +kernel, ⟨by decide +kernel, by decide +kernel⟩, by decide +kernel⟩
theorem im_X11_lettersOf : Cond.instanceMethod yX11_lettersOf ∈ jws := jmem (i := 1056) (by decide +kernel) rfl
theorem se_X11_lettersOf : Cond.selects RX11 yX11_lettersOf yX11_lettersOf ∈ jws := jmemS (i := 45) (q := (yX11_lettersOf, 25)) (by decide +kernel) rfl
theorem cm_X11_isAbout : jcm mX11_isAbout 2 := ⟨jmem (i := 1053) (by decide +kernel) rfl, jmem (i := 13) (by decide +kernel) rfl, rfl, by decide +kernel, ⟨by decide +kernel, by decide +kernel⟩, by decide +kernel⟩
theorem im_X11_isAbout : Cond.instanceMethod yX11_isAbout ∈ jws := jmem (i := 1052) (by decide +kernel) rfl
theorem se_X11_isAbout : Cond.selects RX11 yX11_isAbout yX11_isAbout ∈ jws := jmemS (i := 44) (q := (yX11_isAbout, 25)) (by decide +kernel) rfl
theorem cm_X11_about : jcm mX11_about 3 := ⟨jmem (i := 1049) (by decide +kernel) rfl, jmem (i := 13) (by decide +kernel) rfl, rfl, by decide +kernel, ⟨by decide +kernel, by decide +kernel⟩, by decide +kernel⟩
theorem im_X11_about : Cond.instanceMethod yX11_about ∈ jws := jmem (i := 1047) (by decide +kernel) rfl
theorem se_X11_about : Cond.selects RX11 yX11_about yX11_about ∈ jws := jmem (i := 1048) (by decide +kernel) rfl
theorem cm_X11_ways : jcm mX11_ways 2 := ⟨jmem (i := 1064) (by decide +kernel) rfl, jmem (i := 13) (by decide +kernel) rfl, rfl, by decide +kernel, ⟨by decide +kernel, by decide +kernel⟩, by decide +kernel⟩
theorem st_X11_ways : Cond.static yX11_ways ∈ jws := jmem (i := 1063) (by decide +kernel) rfl
theorem cm_X11_chance : jcm mX11_chance 3 := ⟨jmem (i := 1061) (by decide +kernel) rfl, jmem (i := 13) (by decide +kernel) rfl, rfl, by decide +kernel, ⟨by decide +kernel, by decide +kernel⟩, by decide +kernel⟩
theorem im_X11_chance : Cond.instanceMethod yX11_chance ∈ jws := jmem (i := 1059) (by decide +kernel) rfl
theorem se_X11_chance : Cond.selects RX11 yX11_chance yX11_chance ∈ jws := jmem (i := 1060) (by decide +kernel) rfl
theorem cm_X11_runOf : jcm mX11_runOf 2 := ⟨jmem (i := 1072) (by decide +kernel) rfl, jmem (i := 13) (by decide +kernel) rfl, rfl, by decide +kernel, ⟨by decide +kernel, by decide +kernel⟩, by decide +kernel⟩
theorem im_X11_runOf : Cond.instanceMethod yX11_runOf ∈ jws := jmem (i := 1071) (by decide +kernel) rfl
theorem se_X11_runOf : Cond.selects RX11 yX11_runOf yX11_runOf ∈ jws := jmemS (i := 46) (q := (yX11_runOf, 25)) (by decide +kernel) rfl
theorem cm_X11_greater : jcm mX11_greater 2 := ⟨jmem (i := 1079) (by decide +kernel) rfl, jmem (i := 13) (by decide +kernel) rfl, rfl, by decide +kernel, ⟨by decide +kernel, by decide +kernel⟩, by decide +kernel⟩
theorem st_X11_greater : Cond.static yX11_greater ∈ jws := jmem (i := 1078) (by decide +kernel) rfl
theorem cm_X11_likeOf : jcm mX11_likeOf 2 := ⟨jmem (i := 1076) (by decide +kernel) rfl, jmem (i := 13) (by decide +kernel) rfl, rfl, by decide +kernel, ⟨by decide +kernel, by decide +kernel⟩, by decide +kernel⟩
theorem im_X11_likeOf : Cond.instanceMethod yX11_likeOf ∈ jws := jmem (i := 1075) (by decide +kernel) rfl
theorem se_X11_likeOf : Cond.selects RX11 yX11_likeOf yX11_likeOf ∈ jws := jmemS (i := 47) (q := (yX11_likeOf, 25)) (by decide +kernel) rfl
theorem cm_X11_like : jcm mX11_like 3 := ⟨jmem (i := 1068) (by decide +kernel) rfl, jmem (i := 13) (by decide +kernel) rfl, rfl, by decide +kernel, ⟨by decide +kernel, by decide +kernel⟩, by decide +kernel⟩
theorem im_X11_like : Cond.instanceMethod yX11_like ∈ jws := jmem (i := 1066) (by decide +kernel) rfl
theorem se_X11_like : Cond.selects RX11 yX11_like yX11_like ∈ jws := jmem (i := 1067) (by decide +kernel) rfl
theorem cm_X11_left : jcm mX11_left 2 := ⟨jmem (i := 1083) (by decide +kernel) rfl, jmem (i := 13) (by decide +kernel) rfl, rfl, by decide +kernel, ⟨by decide +kernel, by decide +kernel⟩, by decide +kernel⟩
theorem im_X11_left : Cond.instanceMethod yX11_left ∈ jws := jmem (i := 1081) (by decide +kernel) rfl
theorem se_X11_left : Cond.selects RX11 yX11_left yX11_left ∈ jws := jmem (i := 1082) (by decide +kernel) rfl
theorem cm_X11_slip : jcm mX11_slip 1 := ⟨jmem (i := 1088) (by decide +kernel) rfl, jmem (i := 13) (by decide +kernel) rfl, rfl, by decide +kernel, ⟨by decide +kernel, by decide +kernel⟩, by decide +kernel⟩
theorem im_X11_slip : Cond.instanceMethod yX11_slip ∈ jws := jmem (i := 1086) (by decide +kernel) rfl
theorem se_X11_slip : Cond.selects RX11 yX11_slip yX11_slip ∈ jws := jmem (i := 1087) (by decide +kernel) rfl
theorem cm_X11_said : jcm mX11_said 3 := ⟨jmem (i := 1092) (by decide +kernel) rfl, jmem (i := 13) (by decide +kernel) rfl, rfl, by decide +kernel, ⟨by decide +kernel, by decide +kernel⟩, by decide +kernel⟩
theorem im_X11_said : Cond.instanceMethod yX11_said ∈ jws := jmem (i := 1090) (by decide +kernel) rfl
theorem se_X11_said : Cond.selects RX11 yX11_said yX11_said ∈ jws := jmem (i := 1091) (by decide +kernel) rfl
theorem cm_X11_againstNext : jcm mX11_againstNext 2 := ⟨jmem (i := 1104) (by decide +kernel) rfl, jmem (i := 13) (by decide +kernel) rfl, rfl, by decide +kernel, ⟨by decide +kernel, by decide +kernel⟩, by decide +kernel⟩
theorem im_X11_againstNext : Cond.instanceMethod yX11_againstNext ∈ jws := jmem (i := 1103) (by decide +kernel) rfl
theorem se_X11_againstNext : Cond.selects RX11 yX11_againstNext yX11_againstNext ∈ jws := jmemS (i := 49) (q := (yX11_againstNext, 25)) (by decide +kernel) rfl
theorem cm_X11_orders : jcm mX11_orders 2 := ⟨jmem (i := 1100) (by decide +kernel) rfl, jmem (i := 13) (by decide +kernel) rfl, rfl, by decide +kernel, ⟨by decide +kernel, by decide +kernel⟩, by decide +kernel⟩
theorem im_X11_orders : Cond.instanceMethod yX11_orders ∈ jws := jmem (i := 1099) (by decide +kernel) rfl
theorem se_X11_orders : Cond.selects RX11 yX11_orders yX11_orders ∈ jws := jmemS (i := 48) (q := (yX11_orders, 25)) (by decide +kernel) rfl
theorem cm_X11_order : jcm mX11_order 1 := ⟨jmem (i := 1096) (by decide +kernel) rfl, jmem (i := 13) (by decide +kernel) rfl, rfl, by decide +kernel, ⟨by decide +kernel, by decide +kernel⟩, by decide +kernel⟩
theorem im_X11_order : Cond.instanceMethod yX11_order ∈ jws := jmem (i := 1094) (by decide +kernel) rfl
theorem se_X11_order : Cond.selects RX11 yX11_order yX11_order ∈ jws := jmem (i := 1095) (by decide +kernel) rfl
theorem cm_X11_sure : jcm mX11_sure 2 := ⟨jmem (i := 1108) (by decide +kernel) rfl, jmem (i := 13) (by decide +kernel) rfl, rfl, by decide +kernel, ⟨by decide +kernel, by decide +kernel⟩, by decide +kernel⟩
theorem im_X11_sure : Cond.instanceMethod yX11_sure ∈ jws := jmem (i := 1106) (by decide +kernel) rfl
theorem se_X11_sure : Cond.selects RX11 yX11_sure yX11_sure ∈ jws := jmem (i := 1107) (by decide +kernel) rfl
theorem cm_X11_kin : jcm mX11_kin 2 := ⟨jmem (i := 1112) (by decide +kernel) rfl, jmem (i := 13) (by decide +kernel) rfl, rfl, by decide +kernel, ⟨by decide +kernel, by decide +kernel⟩, by decide +kernel⟩
theorem im_X11_kin : Cond.instanceMethod yX11_kin ∈ jws := jmem (i := 1110) (by decide +kernel) rfl
theorem se_X11_kin : Cond.selects RX11 yX11_kin yX11_kin ∈ jws := jmem (i := 1111) (by decide +kernel) rfl
theorem cm_X11_mayRead : jcm mX11_mayRead 2 := ⟨jmem (i := 1130) (by decide +kernel) rfl, jmem (i := 13) (by decide +kernel) rfl, rfl, by decide +kernel, ⟨by decide +kernel, by decide +kernel⟩, by decide +kernel⟩
theorem im_X11_mayRead : Cond.instanceMethod yX11_mayRead ∈ jws := jmem (i := 1129) (by decide +kernel) rfl
theorem se_X11_mayRead : Cond.selects RX11 yX11_mayRead yX11_mayRead ∈ jws := jmemS (i := 52) (q := (yX11_mayRead, 25)) (by decide +kernel) rfl
theorem cm_X11_isFree : jcm mX11_isFree 1 := ⟨jmem (i := 1126) (by decide +kernel) rfl, jmem (i := 13) (by decide +kernel) rfl, rfl, by decide +kernel, ⟨by decide +kernel, by decide +kernel⟩, by decide +kernel⟩
theorem im_X11_isFree : Cond.instanceMethod yX11_isFree ∈ jws := jmem (i := 1125) (by decide +kernel) rfl
theorem se_X11_isFree : Cond.selects RX11 yX11_isFree yX11_isFree ∈ jws := jmemS (i := 51) (q := (yX11_isFree, 25)) (by decide +kernel) rfl
theorem cm_X11_deals : jcm mX11_deals 1 := ⟨jmem (i := 1122) (by decide +kernel) rfl, jmem (i := 13) (by decide +kernel) rfl, rfl, by decide +kernel, ⟨by decide +kernel, by decide +kernel⟩, by decide +kernel⟩
theorem im_X11_deals : Cond.instanceMethod yX11_deals ∈ jws := jmem (i := 1121) (by decide +kernel) rfl
theorem se_X11_deals : Cond.selects RX11 yX11_deals yX11_deals ∈ jws := jmemS (i := 50) (q := (yX11_deals, 25)) (by decide +kernel) rfl
theorem cm_X11_dealt : jcm mX11_dealt 2 := ⟨jmem (i := 1118) (by decide +kernel) rfl, jmem (i := 13) (by decide +kernel) rfl, rfl, by decide +kernel, ⟨by decide +kernel, by decide +kernel⟩, by decide +kernel⟩
theorem im_X11_dealt : Cond.instanceMethod yX11_dealt ∈ jws := jmem (i := 1116) (by decide +kernel) rfl
theorem se_X11_dealt : Cond.selects RX11 yX11_dealt yX11_dealt ∈ jws := jmem (i := 1117) (by decide +kernel) rfl
theorem cm_X11_bounds : jcm mX11_bounds 4 := ⟨jmem (i := 1134) (by decide +kernel) rfl, jmem (i := 13) (by decide +kernel) rfl, rfl, by decide +kernel, ⟨by decide +kernel, by decide +kernel⟩, by decide +kernel⟩
theorem im_X11_bounds : Cond.instanceMethod yX11_bounds ∈ jws := jmem (i := 1132) (by decide +kernel) rfl
theorem se_X11_bounds : Cond.selects RX11 yX11_bounds yX11_bounds ∈ jws := jmem (i := 1133) (by decide +kernel) rfl
theorem cm_X11_isShare : jcm mX11_isShare 1 := ⟨jmem (i := 1143) (by decide +kernel) rfl, jmem (i := 13) (by decide +kernel) rfl, rfl, by decide +kernel, ⟨by decide +kernel, by decide +kernel⟩, by decide +kernel⟩
theorem st_X11_isShare : Cond.static yX11_isShare ∈ jws := jmem (i := 1142) (by decide +kernel) rfl
theorem cm_X11_question : jcm mX11_question 5 := ⟨jmem (i := 1139) (by decide +kernel) rfl, jmem (i := 13) (by decide +kernel) rfl, rfl, by decide +kernel, ⟨by decide +kernel, by decide +kernel⟩, by decide +kernel⟩
theorem im_X11_question : Cond.instanceMethod yX11_question ∈ jws := jmem (i := 1137) (by decide +kernel) rfl
theorem se_X11_question : Cond.selects RX11 yX11_question yX11_question ∈ jws := jmem (i := 1138) (by decide +kernel) rfl
theorem cm_X11_tellsOf : jcm mX11_tellsOf 1 := ⟨jmem (i := 1152) (by decide +kernel) rfl, jmem (i := 13) (by decide +kernel) rfl, rfl, by decide +kernel, ⟨by decide +kernel, by decide +kernel⟩, by decide +kernel⟩
theorem im_X11_tellsOf : Cond.instanceMethod yX11_tellsOf ∈ jws := jmem (i := 1151) (by decide +kernel) rfl
theorem se_X11_tellsOf : Cond.selects RX11 yX11_tellsOf yX11_tellsOf ∈ jws := jmemS (i := 53) (q := (yX11_tellsOf, 25)) (by decide +kernel) rfl
theorem cm_X11_wholeOf : jcm mX11_wholeOf 0 := ⟨jmem (i := 1156) (by decide +kernel) rfl, jmem (i := 13) (by decide +kernel) rfl, rfl, by decide +kernel, ⟨by decide +kernel, by decide +kernel⟩, by decide +kernel⟩
theorem im_X11_wholeOf : Cond.instanceMethod yX11_wholeOf ∈ jws := jmem (i := 1155) (by decide +kernel) rfl
theorem se_X11_wholeOf : Cond.selects RX11 yX11_wholeOf yX11_wholeOf ∈ jws := jmemS (i := 54) (q := (yX11_wholeOf, 25)) (by decide +kernel) rfl
theorem cm_X11_tells : jcm mX11_tells 1 := ⟨jmem (i := 1148) (by decide +kernel) rfl, jmem (i := 13) (by decide +kernel) rfl, rfl, by decide +kernel, ⟨by decide +kernel, by decide +kernel⟩, by decide +kernel⟩
theorem im_X11_tells : Cond.instanceMethod yX11_tells ∈ jws := jmem (i := 1146) (by decide +kernel) rfl
theorem se_X11_tells : Cond.selects RX11 yX11_tells yX11_tells ∈ jws := jmem (i := 1147) (by decide +kernel) rfl
theorem cm_X11_minutesOf : jcm mX11_minutesOf 1 := ⟨jmem (i := 1165) (by decide +kernel) rfl, jmem (i := 13) (by decide +kernel) rfl, rfl, by decide +kernel, ⟨by decide +kernel, by decide +kernel⟩, by decide +kernel⟩
theorem im_X11_minutesOf : Cond.instanceMethod yX11_minutesOf ∈ jws := jmem (i := 1164) (by decide +kernel) rfl
theorem se_X11_minutesOf : Cond.selects RX11 yX11_minutesOf yX11_minutesOf ∈ jws := jmemS (i := 55) (q := (yX11_minutesOf, 25)) (by decide +kernel) rfl
theorem cm_X11_form : jcm mX11_form 1 := ⟨jmem (i := 1160) (by decide +kernel) rfl, jmem (i := 13) (by decide +kernel) rfl, rfl, by decide +kernel, ⟨by decide +kernel, by decide +kernel⟩, by decide +kernel⟩
theorem im_X11_form : Cond.instanceMethod yX11_form ∈ jws := jmem (i := 1158) (by decide +kernel) rfl
theorem se_X11_form : Cond.selects RX11 yX11_form yX11_form ∈ jws := jmem (i := 1159) (by decide +kernel) rfl
theorem cm_X11_count : jcm mX11_count 1 := ⟨jmem (i := 1169) (by decide +kernel) rfl, jmem (i := 13) (by decide +kernel) rfl, rfl, by decide +kernel, ⟨by decide +kernel, by decide +kernel⟩, by decide +kernel⟩
theorem im_X11_count : Cond.instanceMethod yX11_count ∈ jws := jmem (i := 1167) (by decide +kernel) rfl
theorem se_X11_count : Cond.selects RX11 yX11_count yX11_count ∈ jws := jmem (i := 1168) (by decide +kernel) rfl
theorem cm_X11_mixed : jcm mX11_mixed 4 := ⟨jmem (i := 1177) (by decide +kernel) rfl, jmem (i := 13) (by decide +kernel) rfl, rfl, by decide +kernel, ⟨by decide +kernel, by decide +kernel⟩, by decide +kernel⟩
theorem st_X11_mixed : Cond.static yX11_mixed ∈ jws := jmem (i := 1176) (by decide +kernel) rfl
theorem cm_X11_digest : jcm mX11_digest 0 := ⟨jmem (i := 1173) (by decide +kernel) rfl, jmem (i := 13) (by decide +kernel) rfl, rfl, by decide +kernel, ⟨by decide +kernel, by decide +kernel⟩, by decide +kernel⟩
theorem im_X11_digest : Cond.instanceMethod yX11_digest ∈ jws := jmem (i := 1171) (by decide +kernel) rfl
theorem se_X11_digest : Cond.selects RX11 yX11_digest yX11_digest ∈ jws := jmem (i := 1172) (by decide +kernel) rfl
theorem cm_J6_numberOfTrailingZeros_0f7a4 : jcm mJ6_numberOfTrailingZeros_0f7a4 1 := ⟨jmem (i := 639) (by decide +kernel) rfl, jmem (i := 16) (by decide +kernel) rfl, rfl, by decide +kernel, ⟨by decide +kernel, by decide +kernel⟩, by decide +kernel⟩
theorem st_J6_numberOfTrailingZeros_0f7a4 : Cond.static yJ6_numberOfTrailingZeros_0f7a4 ∈ jws := jmem (i := 638) (by decide +kernel) rfl
theorem cm_J6_bitCount_0f7a4 : jcm mJ6_bitCount_0f7a4 1 := ⟨jmem (i := 670) (by decide +kernel) rfl, jmem (i := 16) (by decide +kernel) rfl, rfl, by decide +kernel, ⟨by decide +kernel, by decide +kernel⟩, by decide +kernel⟩
theorem st_J6_bitCount_0f7a4 : Cond.static yJ6_bitCount_0f7a4 ∈ jws := jmem (i := 669) (by decide +kernel) rfl
theorem st_J9_max_7cf53 : Cond.static yJ9_max_7cf53 ∈ jws := jmem (i := 598) (by decide +kernel) rfl
theorem st_J9_max_f86c9 : Cond.static yJ9_max_f86c9 ∈ jws := jmem (i := 723) (by decide +kernel) rfl
theorem st_J9_min_7cf53 : Cond.static yJ9_min_7cf53 ∈ jws := jmem (i := 646) (by decide +kernel) rfl
theorem st_J9_min_f86c9 : Cond.static yJ9_min_f86c9 ∈ jws := jmem (i := 587) (by decide +kernel) rfl
theorem cm_J7_fill_53178 : jcm mJ7_fill_53178 2 := ⟨jmem (i := 132) (by decide +kernel) rfl, jmem (i := 4) (by decide +kernel) rfl, rfl, by decide +kernel, ⟨by decide +kernel, by decide +kernel⟩, by decide +kernel⟩
theorem st_J7_fill_53178 : Cond.static yJ7_fill_53178 ∈ jws := jmem (i := 131) (by decide +kernel) rfl
theorem ki_J6_264 : Cond.constant RJ6 264 (65536) ∈ jws := jmem (i := 640) (by decide +kernel) rfl
theorem ki_J6_265 : Cond.constant RJ6 265 (1431655765) ∈ jws := jmem (i := 671) (by decide +kernel) rfl
theorem ki_J6_266 : Cond.constant RJ6 266 (858993459) ∈ jws := jmem (i := 672) (by decide +kernel) rfl
theorem ki_J6_267 : Cond.constant RJ6 267 (252645135) ∈ jws := jmem (i := 673) (by decide +kernel) rfl
theorem ki_X11_99 : Cond.constant RX11 99 (1073741823) ∈ jws := jmem (i := 990) (by decide +kernel) rfl
theorem kl_X0_27 : Cond.constantLong RX0 27 (1073741823) ∈ jws := jmem (i := 301) (by decide +kernel) rfl
theorem kl_X4_52 : Cond.constantLong RX4 52 (100) ∈ jws := jmem (i := 733) (by decide +kernel) rfl
theorem kl_X10_305 : Cond.constantLong RX10 305 (479) ∈ jws := jmem (i := 763) (by decide +kernel) rfl
theorem kl_X10_307 : Cond.constantLong RX10 307 (31) ∈ jws := jmem (i := 764) (by decide +kernel) rfl
theorem kl_X3_65 : Cond.constantLong RX3 65 (31) ∈ jws := jmem (i := 770) (by decide +kernel) rfl
theorem kl_X6_58 : Cond.constantLong RX6 58 (31) ∈ jws := jmem (i := 779) (by decide +kernel) rfl
theorem kl_X4_60 : Cond.constantLong RX4 60 (31) ∈ jws := jmem (i := 784) (by decide +kernel) rfl
theorem kl_X11_89 : Cond.constantLong RX11 89 (1073741823) ∈ jws := jmem (i := 798) (by decide +kernel) rfl
theorem kl_X11_124 : Cond.constantLong RX11 124 (9) ∈ jws := jmem (i := 894) (by decide +kernel) rfl
theorem kl_X11_126 : Cond.constantLong RX11 126 (2) ∈ jws := jmem (i := 895) (by decide +kernel) rfl
theorem kl_X11_132 : Cond.constantLong RX11 132 (-1) ∈ jws := jmem (i := 904) (by decide +kernel) rfl
theorem kl_X11_134 : Cond.constantLong RX11 134 (3) ∈ jws := jmem (i := 909) (by decide +kernel) rfl
theorem kl_X11_140 : Cond.constantLong RX11 140 (39) ∈ jws := jmem (i := 922) (by decide +kernel) rfl
theorem kl_X11_211 : Cond.constantLong RX11 211 (8) ∈ jws := jmem (i := 1084) (by decide +kernel) rfl
theorem kl_X11_219 : Cond.constantLong RX11 219 (5) ∈ jws := jmem (i := 1113) (by decide +kernel) rfl
theorem kl_X11_221 : Cond.constantLong RX11 221 (63) ∈ jws := jmem (i := 1114) (by decide +kernel) rfl
theorem kl_X11_232 : Cond.constantLong RX11 232 (9999) ∈ jws := jmem (i := 1135) (by decide +kernel) rfl
theorem kl_X11_236 : Cond.constantLong RX11 236 (30) ∈ jws := jmem (i := 1140) (by decide +kernel) rfl
theorem kl_X11_234 : Cond.constantLong RX11 234 (100) ∈ jws := jmem (i := 1144) (by decide +kernel) rfl
theorem kl_X11_249 : Cond.constantLong RX11 249 (200) ∈ jws := jmem (i := 1161) (by decide +kernel) rfl
theorem kl_X11_256 : Cond.constantLong RX11 256 (479) ∈ jws := jmem (i := 1174) (by decide +kernel) rfl
theorem kl_X11_254 : Cond.constantLong RX11 254 (31) ∈ jws := jmem (i := 1178) (by decide +kernel) rfl
theorem cl_L_7 : Cond.classLink RL 7 "PraiseDrawer" ∈ jws := jmem (i := 17) (by decide +kernel) rfl
theorem cl_X10_7 : Cond.classLink RX10 7 "PraiseDrawer$Drawer" ∈ jws := jmem (i := 25) (by decide +kernel) rfl
theorem cl_X3_39 : Cond.classLink RX3 39 "[[I" ∈ jws := jmem (i := 31) (by decide +kernel) rfl
theorem cl_X10_16 : Cond.classLink RX10 16 "PraiseDrawer$Tally" ∈ jws := jmem (i := 113) (by decide +kernel) rfl
theorem cl_X8_9 : Cond.classLink RX8 9 "[[I" ∈ jws := jmem (i := 119) (by decide +kernel) rfl
theorem cl_X10_35 : Cond.classLink RX10 35 "PraiseDrawer$Chances" ∈ jws := jmem (i := 133) (by decide +kernel) rfl
theorem cl_X1_9 : Cond.classLink RX1 9 "PraiseDrawer$Big" ∈ jws := jmem (i := 139) (by decide +kernel) rfl
theorem cl_X10_44 : Cond.classLink RX10 44 "PraiseDrawer$Years" ∈ jws := jmem (i := 173) (by decide +kernel) rfl
theorem cl_X10_51 : Cond.classLink RX10 51 "PraiseDrawer$Sides" ∈ jws := jmem (i := 191) (by decide +kernel) rfl
theorem cl_X7_9 : Cond.classLink RX7 9 "[[I" ∈ jws := jmem (i := 197) (by decide +kernel) rfl
theorem cl_X10_58 : Cond.classLink RX10 58 "PraiseDrawer$Sayings" ∈ jws := jmem (i := 205) (by decide +kernel) rfl
theorem cl_X6_21 : Cond.classLink RX6 21 "[[I" ∈ jws := jmem (i := 211) (by decide +kernel) rfl
theorem cl_X10_65 : Cond.classLink RX10 65 "PraiseDrawer$Deals" ∈ jws := jmem (i := 235) (by decide +kernel) rfl
theorem cl_X10_72 : Cond.classLink RX10 72 "PraiseDrawer$Forms" ∈ jws := jmem (i := 258) (by decide +kernel) rfl
theorem cl_X4_15 : Cond.classLink RX4 15 "[[I" ∈ jws := jmem (i := 264) (by decide +kernel) rfl
theorem cl_X4_20 : Cond.classLink RX4 20 "[[J" ∈ jws := jmem (i := 265) (by decide +kernel) rfl
theorem cl_X10_81 : Cond.classLink RX10 81 "PraiseDrawer$Fraction" ∈ jws := jmem (i := 285) (by decide +kernel) rfl
theorem cl_X5_9 : Cond.classLink RX5 9 "PraiseDrawer$Big" ∈ jws := jmem (i := 291) (by decide +kernel) rfl
theorem cl_L_10 : Cond.classLink RL 10 "PraiseDrawerModel" ∈ jws := jmem (i := 788) (by decide +kernel) rfl
theorem in_X10 : Cond.instantiable RX10 10 ∈ jws := jmem (i := 18) (by decide +kernel) rfl
theorem in_X3 : Cond.instantiable RX3 14 ∈ jws := jmem (i := 26) (by decide +kernel) rfl
theorem in_X8 : Cond.instantiable RX8 3 ∈ jws := jmem (i := 114) (by decide +kernel) rfl
theorem in_X1 : Cond.instantiable RX1 5 ∈ jws := jmem (i := 134) (by decide +kernel) rfl
theorem in_X0 : Cond.instantiable RX0 2 ∈ jws := jmem (i := 141) (by decide +kernel) rfl
theorem in_X9 : Cond.instantiable RX9 3 ∈ jws := jmem (i := 174) (by decide +kernel) rfl
theorem in_X7 : Cond.instantiable RX7 2 ∈ jws := jmem (i := 192) (by decide +kernel) rfl
theorem in_X6 : Cond.instantiable RX6 7 ∈ jws := jmem (i := 206) (by decide +kernel) rfl
theorem in_X2 : Cond.instantiable RX2 5 ∈ jws := jmem (i := 236) (by decide +kernel) rfl
theorem in_X4 : Cond.instantiable RX4 5 ∈ jws := jmem (i := 259) (by decide +kernel) rfl
theorem in_X5 : Cond.instantiable RX5 2 ∈ jws := jmem (i := 286) (by decide +kernel) rfl
theorem in_X11 : Cond.instantiable RX11 25 ∈ jws := jmem (i := 789) (by decide +kernel) rfl
theorem it_L : Cond.initialized RL ∈ jws := jmem (i := 0) (by decide +kernel) rfl
theorem it_X10 : Cond.initialized RX10 ∈ jws := jmem (i := 1) (by decide +kernel) rfl
theorem it_X3 : Cond.initialized RX3 ∈ jws := jmem (i := 2) (by decide +kernel) rfl
theorem it_X8 : Cond.initialized RX8 ∈ jws := jmem (i := 3) (by decide +kernel) rfl
theorem it_J7 : Cond.initialized RJ7 ∈ jws := jmem (i := 4) (by decide +kernel) rfl
theorem it_X1 : Cond.initialized RX1 ∈ jws := jmem (i := 5) (by decide +kernel) rfl
theorem it_X0 : Cond.initialized RX0 ∈ jws := jmem (i := 6) (by decide +kernel) rfl
theorem it_X9 : Cond.initialized RX9 ∈ jws := jmem (i := 7) (by decide +kernel) rfl
theorem it_X7 : Cond.initialized RX7 ∈ jws := jmem (i := 8) (by decide +kernel) rfl
theorem it_X6 : Cond.initialized RX6 ∈ jws := jmem (i := 9) (by decide +kernel) rfl
theorem it_X2 : Cond.initialized RX2 ∈ jws := jmem (i := 10) (by decide +kernel) rfl
theorem it_X4 : Cond.initialized RX4 ∈ jws := jmem (i := 11) (by decide +kernel) rfl
theorem it_X5 : Cond.initialized RX5 ∈ jws := jmem (i := 12) (by decide +kernel) rfl
theorem it_X11 : Cond.initialized RX11 ∈ jws := jmem (i := 13) (by decide +kernel) rfl
theorem it_J10 : Cond.initialized RJ10 ∈ jws := jmem (i := 14) (by decide +kernel) rfl
theorem it_J9 : Cond.initialized RJ9 ∈ jws := jmem (i := 15) (by decide +kernel) rfl
theorem it_J6 : Cond.initialized RJ6 ∈ jws := jmem (i := 16) (by decide +kernel) rfl
theorem oi_inst : Cond.instanceMethod Lib.objectInit ∈ jws := jmem (i := 23) (by decide +kernel) rfl
theorem oi_code : Cond.code Lib.objectInit ⟨#[0xb1]⟩ 1 none ∈ jws := jmem (i := 24) (by decide +kernel) rfl
theorem ac_int : Cond.arrayClass .int ∈ jws := jmem (i := 112) (by decide +kernel) rfl
theorem ac_long : Cond.arrayClass .long ∈ jws := jmem (i := 284) (by decide +kernel) rfl
theorem nat_copy : Cond.native arraycopyName ∈ jws := jmem (i := 504) (by decide +kernel) rfl
theorem st_copy : Cond.static arraycopyName ∈ jws := jmem (i := 503) (by decide +kernel) rfl
theorem it_sys : Cond.initialized "java/lang/System" ∈ jws := jmem (i := 14) (by decide +kernel) rfl
end
section
/-! THE LAYOUT of the cells when both objects are made, and the machine over it: what the cells hold is s : Int → Int → Int (cell, place: the place in an array, or the field's number) -/
abbrev jSh : Type := (Nat × List (Option jV)) ⊕ (Nat × Nat × (Unit ⊕ Unit ⊕ (Int → Option Int))) ⊕ Unit
abbrev hI (n : Nat) : jSh := .inr (.inl (0, n, .inl ()))
abbrev hL (n : Nat) : jSh := .inr (.inl (1, n, .inr (.inl ())))
abbrev hQ (t n : Nat) (g : Int → Option Int) : jSh := .inr (.inl (t, n, .inr (.inr g)))
abbrev hO (ci : Nat) (fs : List (Option jV)) : jSh := .inl (ci, fs)
def jfl : Int → List (Option jV) → (Int → Int) → List jV
  | _, [], _ => []
  | i, some v :: t, f => v :: jfl (i + 1) t f
  | i, none :: t, f => jI (f i) :: jfl (i + 1) t f
def jl1 : jSh → (Int → Int) → jE
  | .inl (ci, fs), f => .inl (ci, jfl 0 fs f)
  | .inr (.inl (t, n, .inl ())), f => .inr (t, n, .inl f)
  | .inr (.inl (t, n, .inr (.inl ()))), f => .inr (t, n, .inr (.inl f))
  | .inr (.inl (t, n, .inr (.inr g))), _ => .inr (t, n, .inr (.inr g))
  | .inr (.inr ()), f => .inr (0, (f 0).toNat, .inl (fun i => f (i + 1)))
def jshL : List jSh := [.inr (.inr ()), hO 10 [some (jR 2), some (jR 43), some (jR 71), some (jR 83), some (jR 86), some (jR 97), some (jR 120), some (jR 124), some (jR 138), some (jR 70)], hO 3 [some (jR 3), some (jR 4), some (jR 5), some (jR 6), some (jR 7), some (jR 8), some (jR 9), some (jR 10), some (jR 11), some (jR 12), none, none, none, none], hI 8, hI 8, hI 6, hI 8, hI 8, hI 30, hI 30, hI 30, hI 30, hQ 2 30 (fun i => some (13 + i)), .inr (.inr ()), .inr (.inr ()), .inr (.inr ()), .inr (.inr ()), .inr (.inr ()), .inr (.inr ()), .inr (.inr ()), .inr (.inr ()), .inr (.inr ()), .inr (.inr ()), .inr (.inr ()), .inr (.inr ()), .inr (.inr ()), .inr (.inr ()), .inr (.inr ()), .inr (.inr ()), .inr (.inr ()), .inr (.inr ()), .inr (.inr ()), .inr (.inr ()), .inr (.inr ()), .inr (.inr ()), .inr (.inr ()), .inr (.inr ()), .inr (.inr ()), .inr (.inr ()), .inr (.inr ()), .inr (.inr ()), .inr (.inr ()), .inr (.inr ()), hO 8 [some (jR 2), some (jR 44), some (jR 69)], hQ 2 24 (fun i => some (45 + i)), .inr (.inr ()), .inr (.inr ()), .inr (.inr ()), .inr (.inr ()), .inr (.inr ()), .inr (.inr ()), .inr (.inr ()), .inr (.inr ()), .inr (.inr ()), .inr (.inr ()), .inr (.inr ()), .inr (.inr ()), .inr (.inr ()), .inr (.inr ()), .inr (.inr ()), .inr (.inr ()), .inr (.inr ()), .inr (.inr ()), .inr (.inr ()), .inr (.inr ()), .inr (.inr ()), .inr (.inr ()), .inr (.inr ()), .inr (.inr ()), hI 24, hI 4, hO 1 [some (jR 2), some (jR 43), some (jR 70), some (jR 72), some (jR 73)], hQ 4 4 (fun i => some (75 + 2 * i)), hO 0 [some (jR 74), none], hI 16, hO 0 [some (jR 76), none], hI 16, hO 0 [some (jR 78), none], hI 16, hO 0 [some (jR 80), none], hI 16, hO 0 [some (jR 82), none], hI 16, hO 9 [some (jR 2), some (jR 84), some (jR 85)], hI 10, hI 10, hO 7 [some (jR 2), some (jR 87)], hQ 2 9 (fun i => some (88 + i)), .inr (.inr ()), .inr (.inr ()), .inr (.inr ()), .inr (.inr ()), .inr (.inr ()), .inr (.inr ()), .inr (.inr ()), .inr (.inr ()), .inr (.inr ()), hO 6 [some (jR 98), some (jR 99), some (jR 100), none, some (jR 101), some (jR 110), some (jR 119)], hI 40, hI 40, hI 40, hQ 2 8 (fun i => some (102 + i)), .inr (.inr ()), .inr (.inr ()), .inr (.inr ()), .inr (.inr ()), .inr (.inr ()), .inr (.inr ()), .inr (.inr ()), .inr (.inr ()), hQ 2 8 (fun i => some (111 + i)), .inr (.inr ()), .inr (.inr ()), .inr (.inr ()), .inr (.inr ()), .inr (.inr ()), .inr (.inr ()), .inr (.inr ()), .inr (.inr ()), hI 256, hO 2 [some (jR 2), some (jR 121), some (jR 122), none, some (jR 123)], hI 6, hI 6, hI 64, hO 4 [some (jR 70), some (jR 125), some (jR 126), none, some (jR 133)], hI 6, hQ 2 6 (fun i => some (127 + i)), .inr (.inr ()), .inr (.inr ()), .inr (.inr ()), .inr (.inr ()), .inr (.inr ()), .inr (.inr ()), hQ 3 4 (fun i => some (134 + i)), .inr (.inr ()), .inr (.inr ()), .inr (.inr ()), .inr (.inr ()), hO 5 [some (jR 139), some (jR 141)], hO 0 [some (jR 140), none], hI 16, hO 0 [some (jR 142), none], hI 16, hO 11 [some (jR 144), some (jR 145), some (jR 146), some (jR 147), some (jR 148), some (jR 149), some (jR 150), some (jR 151), some (jR 152), some (jR 153), some (jR 154), some (jR 155), some (jR 156), some (jR 157), some (jR 158), some (jR 159), some (jR 160), some (jR 161), some (jR 162), some (jR 163), some (jR 164), some (jR 165), some (jR 166), some (jR 167), some (jR 168)], hI 750, hI 15, hI 6, hI 8, hI 8, hI 6, hI 8, hI 8, hI 30, hI 30, hI 30, hI 30, hI 240, hI 4, hI 81, hI 40, hI 40, hI 40, hI 256, hI 6, hI 6, hI 6, hI 6, hI 6, hI 24]
def jsh (k : Int) : jSh := if 13 ≤ k ∧ k ≤ 42 then hI 8 else if 45 ≤ k ∧ k ≤ 68 then hI 8 else if 88 ≤ k ∧ k ≤ 96 then hI 9 else if 102 ≤ k ∧ k ≤ 109 then hI 8 else if 111 ≤ k ∧ k ≤ 118 then hI 256 else if 127 ≤ k ∧ k ≤ 132 then hI 4 else if 134 ≤ k ∧ k ≤ 137 then hL 64 else jshL.getD k.toNat (.inr (.inr ()))
theorem sh_0 : jsh 0 = .inr (.inr ()) := rfl
theorem sh_1 : jsh 1 = hO 10 [some (jR 2), some (jR 43), some (jR 71), some (jR 83), some (jR 86), some (jR 97), some (jR 120), some (jR 124), some (jR 138), some (jR 70)] := rfl
theorem sh_2 : jsh 2 = hO 3 [some (jR 3), some (jR 4), some (jR 5), some (jR 6), some (jR 7), some (jR 8), some (jR 9), some (jR 10), some (jR 11), some (jR 12), none, none, none, none] := rfl
theorem sh_3 : jsh 3 = hI 8 := rfl
theorem sh_4 : jsh 4 = hI 8 := rfl
theorem sh_5 : jsh 5 = hI 6 := rfl
theorem sh_6 : jsh 6 = hI 8 := rfl
theorem sh_7 : jsh 7 = hI 8 := rfl
theorem sh_8 : jsh 8 = hI 30 := rfl
theorem sh_9 : jsh 9 = hI 30 := rfl
theorem sh_10 : jsh 10 = hI 30 := rfl
theorem sh_11 : jsh 11 = hI 30 := rfl
theorem sh_12 : jsh 12 = hQ 2 30 (fun i => some (13 + i)) := rfl
theorem sh_43 : jsh 43 = hO 8 [some (jR 2), some (jR 44), some (jR 69)] := rfl
theorem sh_44 : jsh 44 = hQ 2 24 (fun i => some (45 + i)) := rfl
theorem sh_69 : jsh 69 = hI 24 := rfl
theorem sh_70 : jsh 70 = hI 4 := rfl
theorem sh_71 : jsh 71 = hO 1 [some (jR 2), some (jR 43), some (jR 70), some (jR 72), some (jR 73)] := rfl
theorem sh_72 : jsh 72 = hQ 4 4 (fun i => some (75 + 2 * i)) := rfl
theorem sh_73 : jsh 73 = hO 0 [some (jR 74), none] := rfl
theorem sh_74 : jsh 74 = hI 16 := rfl
theorem sh_75 : jsh 75 = hO 0 [some (jR 76), none] := rfl
theorem sh_76 : jsh 76 = hI 16 := rfl
theorem sh_77 : jsh 77 = hO 0 [some (jR 78), none] := rfl
theorem sh_78 : jsh 78 = hI 16 := rfl
theorem sh_79 : jsh 79 = hO 0 [some (jR 80), none] := rfl
theorem sh_80 : jsh 80 = hI 16 := rfl
theorem sh_81 : jsh 81 = hO 0 [some (jR 82), none] := rfl
theorem sh_82 : jsh 82 = hI 16 := rfl
theorem sh_83 : jsh 83 = hO 9 [some (jR 2), some (jR 84), some (jR 85)] := rfl
theorem sh_84 : jsh 84 = hI 10 := rfl
theorem sh_85 : jsh 85 = hI 10 := rfl
theorem sh_86 : jsh 86 = hO 7 [some (jR 2), some (jR 87)] := rfl
theorem sh_87 : jsh 87 = hQ 2 9 (fun i => some (88 + i)) := rfl
theorem sh_97 : jsh 97 = hO 6 [some (jR 98), some (jR 99), some (jR 100), none, some (jR 101), some (jR 110), some (jR 119)] := rfl
theorem sh_98 : jsh 98 = hI 40 := rfl
theorem sh_99 : jsh 99 = hI 40 := rfl
theorem sh_100 : jsh 100 = hI 40 := rfl
theorem sh_101 : jsh 101 = hQ 2 8 (fun i => some (102 + i)) := rfl
theorem sh_110 : jsh 110 = hQ 2 8 (fun i => some (111 + i)) := rfl
theorem sh_119 : jsh 119 = hI 256 := rfl
theorem sh_120 : jsh 120 = hO 2 [some (jR 2), some (jR 121), some (jR 122), none, some (jR 123)] := rfl
theorem sh_121 : jsh 121 = hI 6 := rfl
theorem sh_122 : jsh 122 = hI 6 := rfl
theorem sh_123 : jsh 123 = hI 64 := rfl
theorem sh_124 : jsh 124 = hO 4 [some (jR 70), some (jR 125), some (jR 126), none, some (jR 133)] := rfl
theorem sh_125 : jsh 125 = hI 6 := rfl
theorem sh_126 : jsh 126 = hQ 2 6 (fun i => some (127 + i)) := rfl
theorem sh_133 : jsh 133 = hQ 3 4 (fun i => some (134 + i)) := rfl
theorem sh_138 : jsh 138 = hO 5 [some (jR 139), some (jR 141)] := rfl
theorem sh_139 : jsh 139 = hO 0 [some (jR 140), none] := rfl
theorem sh_140 : jsh 140 = hI 16 := rfl
theorem sh_141 : jsh 141 = hO 0 [some (jR 142), none] := rfl
theorem sh_142 : jsh 142 = hI 16 := rfl
theorem sh_143 : jsh 143 = hO 11 [some (jR 144), some (jR 145), some (jR 146), some (jR 147), some (jR 148), some (jR 149), some (jR 150), some (jR 151), some (jR 152), some (jR 153), some (jR 154), some (jR 155), some (jR 156), some (jR 157), some (jR 158), some (jR 159), some (jR 160), some (jR 161), some (jR 162), some (jR 163), some (jR 164), some (jR 165), some (jR 166), some (jR 167), some (jR 168)] := rfl
theorem sh_144 : jsh 144 = hI 750 := rfl
theorem sh_145 : jsh 145 = hI 15 := rfl
theorem sh_146 : jsh 146 = hI 6 := rfl
theorem sh_147 : jsh 147 = hI 8 := rfl
theorem sh_148 : jsh 148 = hI 8 := rfl
theorem sh_149 : jsh 149 = hI 6 := rfl
theorem sh_150 : jsh 150 = hI 8 := rfl
theorem sh_151 : jsh 151 = hI 8 := rfl
theorem sh_152 : jsh 152 = hI 30 := rfl
theorem sh_153 : jsh 153 = hI 30 := rfl
theorem sh_154 : jsh 154 = hI 30 := rfl
theorem sh_155 : jsh 155 = hI 30 := rfl
theorem sh_156 : jsh 156 = hI 240 := rfl
theorem sh_157 : jsh 157 = hI 4 := rfl
theorem sh_158 : jsh 158 = hI 81 := rfl
theorem sh_159 : jsh 159 = hI 40 := rfl
theorem sh_160 : jsh 160 = hI 40 := rfl
theorem sh_161 : jsh 161 = hI 40 := rfl
theorem sh_162 : jsh 162 = hI 256 := rfl
theorem sh_163 : jsh 163 = hI 6 := rfl
theorem sh_164 : jsh 164 = hI 6 := rfl
theorem sh_165 : jsh 165 = hI 6 := rfl
theorem sh_166 : jsh 166 = hI 6 := rfl
theorem sh_167 : jsh 167 = hI 6 := rfl
theorem sh_168 : jsh 168 = hI 24 := rfl
theorem sr_12 (i : Int) (h : 0 ≤ i ∧ i < 30) : jsh (13 + i) = hI 8 := by
  unfold jsh
  rw [if_pos (by omega)]
theorem sr_44 (i : Int) (h : 0 ≤ i ∧ i < 24) : jsh (45 + i) = hI 8 := by
  unfold jsh
  rw [if_neg (by omega)]; rw [if_pos (by omega)]
theorem sr_87 (i : Int) (h : 0 ≤ i ∧ i < 9) : jsh (88 + i) = hI 9 := by
  unfold jsh
  rw [if_neg (by omega)]; rw [if_neg (by omega)]; rw [if_pos (by omega)]
theorem sr_101 (i : Int) (h : 0 ≤ i ∧ i < 8) : jsh (102 + i) = hI 8 := by
  unfold jsh
  rw [if_neg (by omega)]; rw [if_neg (by omega)]; rw [if_neg (by omega)]; rw [if_pos (by omega)]
theorem sr_110 (i : Int) (h : 0 ≤ i ∧ i < 8) : jsh (111 + i) = hI 256 := by
  unfold jsh
  rw [if_neg (by omega)]; rw [if_neg (by omega)]; rw [if_neg (by omega)]; rw [if_neg (by omega)]; rw [if_pos (by omega)]
theorem sr_126 (i : Int) (h : 0 ≤ i ∧ i < 6) : jsh (127 + i) = hI 4 := by
  unfold jsh
  rw [if_neg (by omega)]; rw [if_neg (by omega)]; rw [if_neg (by omega)]; rw [if_neg (by omega)]; rw [if_neg (by omega)]; rw [if_pos (by omega)]
theorem sr_133 (i : Int) (h : 0 ≤ i ∧ i < 4) : jsh (134 + i) = hL 64 := by
  unfold jsh
  rw [if_neg (by omega)]; rw [if_neg (by omega)]; rw [if_neg (by omega)]; rw [if_neg (by omega)]; rw [if_neg (by omega)]; rw [if_neg (by omega)]; rw [if_pos (by omega)]
abbrev jNT : Nat := 168
def jlay (s : Int → Int → Int) : Int → jE := fun k => jl1 (jsh k) (s k)
def w2 (s : Int → Int → Int) (k i v : Int) : Int → Int → Int := fun k' i' => if k' = k ∧ i' = i then v else s k' i'
def jQK (Q : Option jV → (Int → Int → Int) → Prop) : Option jV → Nat → (Int → jE) → Prop := fun r n h => n = jNT ∧ ∃ s, h = jlay s ∧ Q r s
def kK (me : jM) (pc : Nat) (ls st : List jV) (s : Int → Int → Int) (Q : Option jV → (Int → Int → Int) → Prop) : Prop := jJ me pc ls st jNT (jlay s) 0 0 (jQK Q)
theorem jfl_none : ∀ (fs : List (Option jV)) (i : Int) (f : Int → Int) (j : Nat), fs[j]? = some none → (jfl i fs f)[j]? = some (jI (f (i + j)))
  | [], _, _, _, h => by simp at h
  | some v :: t, i, f, 0, h => by simp at h
  | none :: t, i, f, 0, _ => by simp [jfl]
  | some v :: t, i, f, j + 1, h => by
    have := jfl_none t (i + 1) f j (by simpa using h)
    rw [show i + 1 + (j : Int) = i + ((j + 1 : Nat) : Int) by omega] at this
    simpa [jfl] using this
  | none :: t, i, f, j + 1, h => by
    have := jfl_none t (i + 1) f j (by simpa using h)
    rw [show i + 1 + (j : Int) = i + ((j + 1 : Nat) : Int) by omega] at this
    simpa [jfl] using this
theorem jfl_some : ∀ (fs : List (Option jV)) (i : Int) (f : Int → Int) (j : Nat) (v : jV), fs[j]? = some (some v) → (jfl i fs f)[j]? = some v
  | [], _, _, _, _, h => by simp at h
  | some w :: t, i, f, 0, v, h => by simpa [jfl] using h
  | none :: t, i, f, 0, v, h => by simp at h
  | some w :: t, i, f, j + 1, v, h => by simpa [jfl] using jfl_some t (i + 1) f j v (by simpa using h)
  | none :: t, i, f, j + 1, v, h => by simpa [jfl] using jfl_some t (i + 1) f j v (by simpa using h)
theorem jfl_len : ∀ (fs : List (Option jV)) (i : Int) (f : Int → Int), (jfl i fs f).length = fs.length
  | [], _, _ => rfl
  | some w :: t, i, f => by simp [jfl, jfl_len t]
  | none :: t, i, f => by simp [jfl, jfl_len t]
theorem jfl_same : ∀ (fs : List (Option jV)) (i : Int) (f g : Int → Int), (∀ z, i ≤ z → f z = g z) → jfl i fs f = jfl i fs g
  | [], _, _, _, _ => rfl
  | some w :: t, i, f, g, h => by simp only [jfl]; rw [jfl_same t (i + 1) f g (fun z hz => h z (by omega))]
  | none :: t, i, f, g, h => by simp only [jfl]; rw [jfl_same t (i + 1) f g (fun z hz => h z (by omega)), h i (Int.le_refl i)]
theorem jfl_set : ∀ (fs : List (Option jV)) (i : Int) (f : Int → Int) (j : Nat) (y : Int), fs[j]? = some none → jfl i fs (fun z => if z = i + j then y else f z) = (jfl i fs f).set j (jI y)
  | [], _, _, _, _, h => by simp at h
  | some v :: t, i, f, 0, y, h => by simp at h
  | none :: t, i, f, 0, y, _ => by
    simp only [jfl, List.set_cons_zero]
    rw [jfl_same t (i + 1) _ f (fun z hz => if_neg (by omega))]
    rw [if_pos (by omega)]
  | some v :: t, i, f, j + 1, y, h => by
    have := jfl_set t (i + 1) f j y (by simpa using h)
    rw [show i + 1 + (j : Int) = i + ((j + 1 : Nat) : Int) by omega] at this
    simp only [jfl, List.set_cons_succ]
    rw [this]
  | none :: t, i, f, j + 1, y, h => by
    have := jfl_set t (i + 1) f j y (by simpa using h)
    rw [show i + 1 + (j : Int) = i + ((j + 1 : Nat) : Int) by omega] at this
    simp only [jfl, List.set_cons_succ]
    rw [this, if_neg (by omega)]
theorem jlay_up {s : Int → Int → Int} {x i y : Int} {c : jE} (h : jl1 (jsh x) (fun z => if z = i then y else s x z) = c) : jup (jlay s) x c = jlay (w2 s x i y) := by
  funext k
  unfold jup jlay
  by_cases hk : k = x
  · subst hk
    rw [if_pos rfl, ← h]
    congr 1
    funext z
    simp [w2]
  · rw [if_neg hk]
    congr 1
    funext z
    simp [w2, hk]

theorem k_iconst {me : jM} {pc : Nat} {ls st : List jV} {s : Int → Int → Int} {Q : Option jV → (Int → Int → Int) → Prop} {v : Int} (hd : decode me.2.2.1 pc = .ok (.iconst v, 1)) (k : kK me (pc + 1) ls (jI v :: st) s Q) : kK me (pc) ls (st) s Q := j_iconst hd k
theorem k_bipush {me : jM} {pc : Nat} {ls st : List jV} {s : Int → Int → Int} {Q : Option jV → (Int → Int → Int) → Prop} {v : Int} (hd : decode me.2.2.1 pc = .ok (.bipush v, 2)) (hv : (Int8.ofInt v).toInt32 = Int32.ofInt v) (k : kK me (pc + 2) ls (jI v :: st) s Q) : kK me (pc) ls (st) s Q := j_bipush hd hv k
theorem k_sipush {me : jM} {pc : Nat} {ls st : List jV} {s : Int → Int → Int} {Q : Option jV → (Int → Int → Int) → Prop} {v : Int} (hd : decode me.2.2.1 pc = .ok (.sipush v, 3)) (hv : (Int16.ofInt v).toInt32 = Int32.ofInt v) (k : kK me (pc + 3) ls (jI v :: st) s Q) : kK me (pc) ls (st) s Q := j_sipush hd hv k
theorem k_lconst {me : jM} {pc : Nat} {ls st : List jV} {s : Int → Int → Int} {Q : Option jV → (Int → Int → Int) → Prop} {i : Fin 2} (v : Int) (hd : decode me.2.2.1 pc = .ok (.lconst i, 1)) (hv : Int64.ofNat (i : Nat) = Int64.ofInt v) (k : kK me (pc + 1) ls (jL v :: st) s Q) : kK me (pc) ls (st) s Q := j_lconst v hd hv k
theorem k_ldc {me : jM} {pc : Nat} {ls st : List jV} {s : Int → Int → Int} {Q : Option jV → (Int → Int → Int) → Prop} {i : Nat} (w : Int32) (v : Int) (hd : decode me.2.2.1 pc = .ok (.ldc i, 2)) (hw : Cond.constant me.1 i w ∈ jws) (hv : w = Int32.ofInt v) (k : kK me (pc + 2) ls (jI v :: st) s Q) : kK me (pc) ls (st) s Q := j_ldc w v hd hw hv k
theorem k_ldcw {me : jM} {pc : Nat} {ls st : List jV} {s : Int → Int → Int} {Q : Option jV → (Int → Int → Int) → Prop} {i : Nat} (w : Int32) (v : Int) (hd : decode me.2.2.1 pc = .ok (.ldc_w i, 3)) (hw : Cond.constant me.1 i w ∈ jws) (hv : w = Int32.ofInt v) (k : kK me (pc + 3) ls (jI v :: st) s Q) : kK me (pc) ls (st) s Q := j_ldcw w v hd hw hv k
theorem k_ldc2 {me : jM} {pc : Nat} {ls st : List jV} {s : Int → Int → Int} {Q : Option jV → (Int → Int → Int) → Prop} {i : Nat} (w : Int64) (v : Int) (hd : decode me.2.2.1 pc = .ok (.ldc2_w i, 3)) (hw : Cond.constantLong me.1 i w ∈ jws) (hv : w = Int64.ofInt v) (k : kK me (pc + 3) ls (jL v :: st) s Q) : kK me (pc) ls (st) s Q := j_ldc2 w v hd hw hv k
theorem k_iload_n {me : jM} {pc : Nat} {ls st : List jV} {s : Int → Int → Int} {Q : Option jV → (Int → Int → Int) → Prop} {i : Fin 4} {x : Int} (hd : decode me.2.2.1 pc = .ok (.iload_n i, 1)) (hl0 : ls[(i : Nat)]? = some (jI x)) (k : kK me (pc + 1) ls (jI x :: st) s Q) : kK me (pc) ls (st) s Q := j_iload_n hd hl0 k
theorem k_iload {me : jM} {pc : Nat} {ls st : List jV} {s : Int → Int → Int} {Q : Option jV → (Int → Int → Int) → Prop} {i : Nat} {x : Int} (hd : decode me.2.2.1 pc = .ok (.iload i, 2)) (hl0 : ls[i]? = some (jI x)) (k : kK me (pc + 2) ls (jI x :: st) s Q) : kK me (pc) ls (st) s Q := j_iload hd hl0 k
theorem k_lload_n {me : jM} {pc : Nat} {ls st : List jV} {s : Int → Int → Int} {Q : Option jV → (Int → Int → Int) → Prop} {i : Fin 4} {x : Int} (hd : decode me.2.2.1 pc = .ok (.lload_n i, 1)) (hl0 : ls[(i : Nat)]? = some (jL x)) (k : kK me (pc + 1) ls (jL x :: st) s Q) : kK me (pc) ls (st) s Q := j_lload_n hd hl0 k
theorem k_lload {me : jM} {pc : Nat} {ls st : List jV} {s : Int → Int → Int} {Q : Option jV → (Int → Int → Int) → Prop} {i : Nat} {x : Int} (hd : decode me.2.2.1 pc = .ok (.lload i, 2)) (hl0 : ls[i]? = some (jL x)) (k : kK me (pc + 2) ls (jL x :: st) s Q) : kK me (pc) ls (st) s Q := j_lload hd hl0 k
theorem k_aload_n {me : jM} {pc : Nat} {ls st : List jV} {s : Int → Int → Int} {Q : Option jV → (Int → Int → Int) → Prop} {i : Fin 4} {x : Int} (hd : decode me.2.2.1 pc = .ok (.aload_n i, 1)) (hl0 : ls[(i : Nat)]? = some (jR x)) (k : kK me (pc + 1) ls (jR x :: st) s Q) : kK me (pc) ls (st) s Q := j_aload_n hd hl0 k
theorem k_aload {me : jM} {pc : Nat} {ls st : List jV} {s : Int → Int → Int} {Q : Option jV → (Int → Int → Int) → Prop} {i : Nat} {x : Int} (hd : decode me.2.2.1 pc = .ok (.aload i, 2)) (hl0 : ls[i]? = some (jR x)) (k : kK me (pc + 2) ls (jR x :: st) s Q) : kK me (pc) ls (st) s Q := j_aload hd hl0 k
theorem k_istore_n {me : jM} {pc : Nat} {ls st : List jV} {s : Int → Int → Int} {Q : Option jV → (Int → Int → Int) → Prop} {i : Fin 4} {x : Int} (ls' : List jV) (hd : decode me.2.2.1 pc = .ok (.istore_n i, 1)) (hi : decide ((i : Nat) < ls.length) && decide ((i : Nat) < me.2.2.2.1) && jok ls (i : Nat) = true) (hs : ls.set (i : Nat) (jI x) = ls') (k : kK me (pc + 1) ls' st s Q) : kK me (pc) ls (jI x :: st) s Q := j_istore_n ls' hd hi hs k
theorem k_istore {me : jM} {pc : Nat} {ls st : List jV} {s : Int → Int → Int} {Q : Option jV → (Int → Int → Int) → Prop} {i : Nat} {x : Int} (ls' : List jV) (hd : decode me.2.2.1 pc = .ok (.istore i, 2)) (hi : decide (i < ls.length) && decide (i < me.2.2.2.1) && jok ls i = true) (hs : ls.set i (jI x) = ls') (k : kK me (pc + 2) ls' st s Q) : kK me (pc) ls (jI x :: st) s Q := j_istore ls' hd hi hs k
theorem k_lstore_n {me : jM} {pc : Nat} {ls st : List jV} {s : Int → Int → Int} {Q : Option jV → (Int → Int → Int) → Prop} {i : Fin 4} {x : Int} (ls' : List jV) (hd : decode me.2.2.1 pc = .ok (.lstore_n i, 1)) (hi : decide ((i : Nat) + 1 < ls.length) && decide ((i : Nat) + 1 < me.2.2.2.1) && jok ls (i : Nat) = true) (hs : (ls.set (i : Nat) (jL x)).set ((i : Nat) + 1) jU = ls') (k : kK me (pc + 1) ls' st s Q) : kK me (pc) ls (jL x :: st) s Q := j_lstore_n ls' hd hi hs k
theorem k_lstore {me : jM} {pc : Nat} {ls st : List jV} {s : Int → Int → Int} {Q : Option jV → (Int → Int → Int) → Prop} {i : Nat} {x : Int} (ls' : List jV) (hd : decode me.2.2.1 pc = .ok (.lstore i, 2)) (hi : decide (i + 1 < ls.length) && decide (i + 1 < me.2.2.2.1) && jok ls i = true) (hs : (ls.set i (jL x)).set (i + 1) jU = ls') (k : kK me (pc + 2) ls' st s Q) : kK me (pc) ls (jL x :: st) s Q := j_lstore ls' hd hi hs k
theorem k_astore_n {me : jM} {pc : Nat} {ls st : List jV} {s : Int → Int → Int} {Q : Option jV → (Int → Int → Int) → Prop} {i : Fin 4} {x : Int} (ls' : List jV) (hd : decode me.2.2.1 pc = .ok (.astore_n i, 1)) (hi : decide ((i : Nat) < ls.length) && decide ((i : Nat) < me.2.2.2.1) && jok ls (i : Nat) = true) (hs : ls.set (i : Nat) (jR x) = ls') (k : kK me (pc + 1) ls' st s Q) : kK me (pc) ls (jR x :: st) s Q := j_astore_n ls' hd hi hs k
theorem k_astore {me : jM} {pc : Nat} {ls st : List jV} {s : Int → Int → Int} {Q : Option jV → (Int → Int → Int) → Prop} {i : Nat} {x : Int} (ls' : List jV) (hd : decode me.2.2.1 pc = .ok (.astore i, 2)) (hi : decide (i < ls.length) && decide (i < me.2.2.2.1) && jok ls i = true) (hs : ls.set i (jR x) = ls') (k : kK me (pc + 2) ls' st s Q) : kK me (pc) ls (jR x :: st) s Q := j_astore ls' hd hi hs k
theorem k_iinc {me : jM} {pc : Nat} {ls st : List jV} {s : Int → Int → Int} {Q : Option jV → (Int → Int → Int) → Prop} {i : Nat} {d x : Int} (ls' : List jV) (hd : decode me.2.2.1 pc = .ok (.iinc i d, 3)) (hl0 : ls[i]? = some (jI x)) (hi : decide (i < ls.length) && decide (i < me.2.2.2.1) && jok ls i = true) (hs : ls.set i (jI (x + d)) = ls') (k : kK me (pc + 3) ls' st s Q) : kK me (pc) ls (st) s Q := j_iinc ls' hd hl0 hi hs k
theorem k_iadd {me : jM} {pc : Nat} {ls st : List jV} {s : Int → Int → Int} {Q : Option jV → (Int → Int → Int) → Prop} {x y : Int} (hd : decode me.2.2.1 pc = .ok (.iadd, 1)) (k : kK me (pc + 1) ls (jI (x + y) :: st) s Q) : kK me (pc) ls (jI y :: jI x :: st) s Q := j_iadd hd k
theorem k_isub {me : jM} {pc : Nat} {ls st : List jV} {s : Int → Int → Int} {Q : Option jV → (Int → Int → Int) → Prop} {x y : Int} (hd : decode me.2.2.1 pc = .ok (.isub, 1)) (k : kK me (pc + 1) ls (jI (x - y) :: st) s Q) : kK me (pc) ls (jI y :: jI x :: st) s Q := j_isub hd k
theorem k_imul {me : jM} {pc : Nat} {ls st : List jV} {s : Int → Int → Int} {Q : Option jV → (Int → Int → Int) → Prop} {x y : Int} (hd : decode me.2.2.1 pc = .ok (.imul, 1)) (k : kK me (pc + 1) ls (jI (x * y) :: st) s Q) : kK me (pc) ls (jI y :: jI x :: st) s Q := j_imul hd k
theorem k_ladd {me : jM} {pc : Nat} {ls st : List jV} {s : Int → Int → Int} {Q : Option jV → (Int → Int → Int) → Prop} {x y : Int} (hd : decode me.2.2.1 pc = .ok (.ladd, 1)) (k : kK me (pc + 1) ls (jL (x + y) :: st) s Q) : kK me (pc) ls (jL y :: jL x :: st) s Q := j_ladd hd k
theorem k_lsub {me : jM} {pc : Nat} {ls st : List jV} {s : Int → Int → Int} {Q : Option jV → (Int → Int → Int) → Prop} {x y : Int} (hd : decode me.2.2.1 pc = .ok (.lsub, 1)) (k : kK me (pc + 1) ls (jL (x - y) :: st) s Q) : kK me (pc) ls (jL y :: jL x :: st) s Q := j_lsub hd k
theorem k_lmul {me : jM} {pc : Nat} {ls st : List jV} {s : Int → Int → Int} {Q : Option jV → (Int → Int → Int) → Prop} {x y : Int} (hd : decode me.2.2.1 pc = .ok (.lmul, 1)) (k : kK me (pc + 1) ls (jL (x * y) :: st) s Q) : kK me (pc) ls (jL y :: jL x :: st) s Q := j_lmul hd k
theorem k_lneg {me : jM} {pc : Nat} {ls st : List jV} {s : Int → Int → Int} {Q : Option jV → (Int → Int → Int) → Prop} {x : Int} (hd : decode me.2.2.1 pc = .ok (.lneg, 1)) (k : kK me (pc + 1) ls (jL (-x) :: st) s Q) : kK me (pc) ls (jL x :: st) s Q := j_lneg hd k
theorem k_iand {me : jM} {pc : Nat} {ls st : List jV} {s : Int → Int → Int} {Q : Option jV → (Int → Int → Int) → Prop} {x y : Int} (v : Int) (hd : decode me.2.2.1 pc = .ok (.iand, 1)) (hv : Int32.ofInt x &&& Int32.ofInt y = Int32.ofInt v) (k : kK me (pc + 1) ls (jI v :: st) s Q) : kK me (pc) ls (jI y :: jI x :: st) s Q := j_iand v hd hv k
theorem k_ior {me : jM} {pc : Nat} {ls st : List jV} {s : Int → Int → Int} {Q : Option jV → (Int → Int → Int) → Prop} {x y : Int} (v : Int) (hd : decode me.2.2.1 pc = .ok (.ior, 1)) (hv : Int32.ofInt x ||| Int32.ofInt y = Int32.ofInt v) (k : kK me (pc + 1) ls (jI v :: st) s Q) : kK me (pc) ls (jI y :: jI x :: st) s Q := j_ior v hd hv k
theorem k_ixor {me : jM} {pc : Nat} {ls st : List jV} {s : Int → Int → Int} {Q : Option jV → (Int → Int → Int) → Prop} {x y : Int} (v : Int) (hd : decode me.2.2.1 pc = .ok (.ixor, 1)) (hv : Int32.ofInt x ^^^ Int32.ofInt y = Int32.ofInt v) (k : kK me (pc + 1) ls (jI v :: st) s Q) : kK me (pc) ls (jI y :: jI x :: st) s Q := j_ixor v hd hv k
theorem k_ishl {me : jM} {pc : Nat} {ls st : List jV} {s : Int → Int → Int} {Q : Option jV → (Int → Int → Int) → Prop} {x y : Int} (v : Int) (hd : decode me.2.2.1 pc = .ok (.ishl, 1)) (hv : Int32.ofInt x <<< (Int32.ofInt y &&& 31) = Int32.ofInt v) (k : kK me (pc + 1) ls (jI v :: st) s Q) : kK me (pc) ls (jI y :: jI x :: st) s Q := j_ishl v hd hv k
theorem k_ishr {me : jM} {pc : Nat} {ls st : List jV} {s : Int → Int → Int} {Q : Option jV → (Int → Int → Int) → Prop} {x y : Int} (v : Int) (hd : decode me.2.2.1 pc = .ok (.ishr, 1)) (hv : Int32.ofInt x >>> (Int32.ofInt y &&& 31) = Int32.ofInt v) (k : kK me (pc + 1) ls (jI v :: st) s Q) : kK me (pc) ls (jI y :: jI x :: st) s Q := j_ishr v hd hv k
theorem k_land {me : jM} {pc : Nat} {ls st : List jV} {s : Int → Int → Int} {Q : Option jV → (Int → Int → Int) → Prop} {x y : Int} (v : Int) (hd : decode me.2.2.1 pc = .ok (.land, 1)) (hv : Int64.ofInt x &&& Int64.ofInt y = Int64.ofInt v) (k : kK me (pc + 1) ls (jL v :: st) s Q) : kK me (pc) ls (jL y :: jL x :: st) s Q := j_land v hd hv k
theorem k_lor {me : jM} {pc : Nat} {ls st : List jV} {s : Int → Int → Int} {Q : Option jV → (Int → Int → Int) → Prop} {x y : Int} (v : Int) (hd : decode me.2.2.1 pc = .ok (.lor, 1)) (hv : Int64.ofInt x ||| Int64.ofInt y = Int64.ofInt v) (k : kK me (pc + 1) ls (jL v :: st) s Q) : kK me (pc) ls (jL y :: jL x :: st) s Q := j_lor v hd hv k
theorem k_iushr {me : jM} {pc : Nat} {ls st : List jV} {s : Int → Int → Int} {Q : Option jV → (Int → Int → Int) → Prop} {x y : Int} (v : Int) (hd : decode me.2.2.1 pc = .ok (.iushr, 1)) (hv : ((Int32.ofInt x).toUInt32 >>> ((Int32.ofInt y).toUInt32 &&& Int32.toUInt32 31)).toInt32 = Int32.ofInt v) (k : kK me (pc + 1) ls (jI v :: st) s Q) : kK me (pc) ls (jI y :: jI x :: st) s Q := j_iushr v hd hv k
theorem k_lshl {me : jM} {pc : Nat} {ls st : List jV} {s : Int → Int → Int} {Q : Option jV → (Int → Int → Int) → Prop} {x y : Int} (v : Int) (hd : decode me.2.2.1 pc = .ok (.lshl, 1)) (hv : Int64.ofInt x <<< ((Int32.ofInt y).toInt64 &&& 63) = Int64.ofInt v) (k : kK me (pc + 1) ls (jL v :: st) s Q) : kK me (pc) ls (jI y :: jL x :: st) s Q := j_lshl v hd hv k
theorem k_lshr {me : jM} {pc : Nat} {ls st : List jV} {s : Int → Int → Int} {Q : Option jV → (Int → Int → Int) → Prop} {x y : Int} (v : Int) (hd : decode me.2.2.1 pc = .ok (.lshr, 1)) (hv : Int64.ofInt x >>> ((Int32.ofInt y).toInt64 &&& 63) = Int64.ofInt v) (k : kK me (pc + 1) ls (jL v :: st) s Q) : kK me (pc) ls (jI y :: jL x :: st) s Q := j_lshr v hd hv k
theorem k_idiv {me : jM} {pc : Nat} {ls st : List jV} {s : Int → Int → Int} {Q : Option jV → (Int → Int → Int) → Prop} {x y : Int} (hd : decode me.2.2.1 pc = .ok (.idiv, 1)) (hxy : (0 ≤ x ∧ x ≤ 2147483647) ∧ (0 < y ∧ y ≤ 2147483647)) (k : kK me (pc + 1) ls (jI (x / y) :: st) s Q) : kK me (pc) ls (jI y :: jI x :: st) s Q := j_idiv hd hxy k
theorem k_irem {me : jM} {pc : Nat} {ls st : List jV} {s : Int → Int → Int} {Q : Option jV → (Int → Int → Int) → Prop} {x y : Int} (hd : decode me.2.2.1 pc = .ok (.irem, 1)) (hxy : (0 ≤ x ∧ x ≤ 2147483647) ∧ (0 < y ∧ y ≤ 2147483647)) (k : kK me (pc + 1) ls (jI (x % y) :: st) s Q) : kK me (pc) ls (jI y :: jI x :: st) s Q := j_irem hd hxy k
theorem k_ldiv {me : jM} {pc : Nat} {ls st : List jV} {s : Int → Int → Int} {Q : Option jV → (Int → Int → Int) → Prop} {x y : Int} (hd : decode me.2.2.1 pc = .ok (.ldiv, 1)) (hxy : (0 ≤ x ∧ x ≤ 9223372036854775807) ∧ (0 < y ∧ y ≤ 9223372036854775807)) (k : kK me (pc + 1) ls (jL (x / y) :: st) s Q) : kK me (pc) ls (jL y :: jL x :: st) s Q := j_ldiv hd hxy k
theorem k_lrem {me : jM} {pc : Nat} {ls st : List jV} {s : Int → Int → Int} {Q : Option jV → (Int → Int → Int) → Prop} {x y : Int} (hd : decode me.2.2.1 pc = .ok (.lrem, 1)) (hxy : (0 ≤ x ∧ x ≤ 9223372036854775807) ∧ (0 < y ∧ y ≤ 9223372036854775807)) (k : kK me (pc + 1) ls (jL (x % y) :: st) s Q) : kK me (pc) ls (jL y :: jL x :: st) s Q := j_lrem hd hxy k
theorem k_i2l {me : jM} {pc : Nat} {ls st : List jV} {s : Int → Int → Int} {Q : Option jV → (Int → Int → Int) → Prop} {x : Int} (hd : decode me.2.2.1 pc = .ok (.i2l, 1)) (hx : jr32 x) (k : kK me (pc + 1) ls (jL x :: st) s Q) : kK me (pc) ls (jI x :: st) s Q := j_i2l hd hx k
theorem k_l2i {me : jM} {pc : Nat} {ls st : List jV} {s : Int → Int → Int} {Q : Option jV → (Int → Int → Int) → Prop} {x : Int} (hd : decode me.2.2.1 pc = .ok (.l2i, 1)) (k : kK me (pc + 1) ls (jI x :: st) s Q) : kK me (pc) ls (jL x :: st) s Q := j_l2i hd k
theorem k_dup {me : jM} {pc : Nat} {ls st : List jV} {s : Int → Int → Int} {Q : Option jV → (Int → Int → Int) → Prop} {v : jV} (hd : decode me.2.2.1 pc = .ok (.dup, 1)) (hv : jc1 v = true) (k : kK me (pc + 1) ls (v :: v :: st) s Q) : kK me (pc) ls (v :: st) s Q := j_dup hd hv k
theorem k_dup_x1 {me : jM} {pc : Nat} {ls st : List jV} {s : Int → Int → Int} {Q : Option jV → (Int → Int → Int) → Prop} {v w : jV} (hd : decode me.2.2.1 pc = .ok (.dup_x1, 1)) (hv : (jc1 v && jc1 w) = true) (k : kK me (pc + 1) ls (v :: w :: v :: st) s Q) : kK me (pc) ls (v :: w :: st) s Q := j_dup_x1 hd hv k
theorem k_dup2 {me : jM} {pc : Nat} {ls st : List jV} {s : Int → Int → Int} {Q : Option jV → (Int → Int → Int) → Prop} {v w : jV} (hd : decode me.2.2.1 pc = .ok (.dup2, 1)) (hv : (jc1 v && jc1 w) = true) (k : kK me (pc + 1) ls (v :: w :: v :: w :: st) s Q) : kK me (pc) ls (v :: w :: st) s Q := j_dup2 hd hv k
theorem k_icmp_eq {me : jM} {pc : Nat} {ls st : List jV} {s : Int → Int → Int} {Q : Option jV → (Int → Int → Int) → Prop} {x y off : Int} (tgt : Nat) (hd : decode me.2.2.1 pc = .ok (.if_icmp .eq off, 3)) (ht : (pc : Int) + off = (tgt : Int)) (hx : jr32 x) (hy : jr32 y) (kt : x = y → kK me tgt ls st s Q) (kf : ¬ (x = y) → kK me (pc + 3) ls st s Q) : kK me (pc) ls (jI y :: jI x :: st) s Q := j_icmp_eq tgt hd ht hx hy kt kf
theorem k_icmp_ne {me : jM} {pc : Nat} {ls st : List jV} {s : Int → Int → Int} {Q : Option jV → (Int → Int → Int) → Prop} {x y off : Int} (tgt : Nat) (hd : decode me.2.2.1 pc = .ok (.if_icmp .ne off, 3)) (ht : (pc : Int) + off = (tgt : Int)) (hx : jr32 x) (hy : jr32 y) (kt : x ≠ y → kK me tgt ls st s Q) (kf : x = y → kK me (pc + 3) ls st s Q) : kK me (pc) ls (jI y :: jI x :: st) s Q := j_icmp_ne tgt hd ht hx hy kt kf
theorem k_icmp_lt {me : jM} {pc : Nat} {ls st : List jV} {s : Int → Int → Int} {Q : Option jV → (Int → Int → Int) → Prop} {x y off : Int} (tgt : Nat) (hd : decode me.2.2.1 pc = .ok (.if_icmp .lt off, 3)) (ht : (pc : Int) + off = (tgt : Int)) (hx : jr32 x) (hy : jr32 y) (kt : x < y → kK me tgt ls st s Q) (kf : ¬ (x < y) → kK me (pc + 3) ls st s Q) : kK me (pc) ls (jI y :: jI x :: st) s Q := j_icmp_lt tgt hd ht hx hy kt kf
theorem k_icmp_ge {me : jM} {pc : Nat} {ls st : List jV} {s : Int → Int → Int} {Q : Option jV → (Int → Int → Int) → Prop} {x y off : Int} (tgt : Nat) (hd : decode me.2.2.1 pc = .ok (.if_icmp .ge off, 3)) (ht : (pc : Int) + off = (tgt : Int)) (hx : jr32 x) (hy : jr32 y) (kt : y ≤ x → kK me tgt ls st s Q) (kf : ¬ (y ≤ x) → kK me (pc + 3) ls st s Q) : kK me (pc) ls (jI y :: jI x :: st) s Q := j_icmp_ge tgt hd ht hx hy kt kf
theorem k_icmp_gt {me : jM} {pc : Nat} {ls st : List jV} {s : Int → Int → Int} {Q : Option jV → (Int → Int → Int) → Prop} {x y off : Int} (tgt : Nat) (hd : decode me.2.2.1 pc = .ok (.if_icmp .gt off, 3)) (ht : (pc : Int) + off = (tgt : Int)) (hx : jr32 x) (hy : jr32 y) (kt : y < x → kK me tgt ls st s Q) (kf : ¬ (y < x) → kK me (pc + 3) ls st s Q) : kK me (pc) ls (jI y :: jI x :: st) s Q := j_icmp_gt tgt hd ht hx hy kt kf
theorem k_icmp_le {me : jM} {pc : Nat} {ls st : List jV} {s : Int → Int → Int} {Q : Option jV → (Int → Int → Int) → Prop} {x y off : Int} (tgt : Nat) (hd : decode me.2.2.1 pc = .ok (.if_icmp .le off, 3)) (ht : (pc : Int) + off = (tgt : Int)) (hx : jr32 x) (hy : jr32 y) (kt : x ≤ y → kK me tgt ls st s Q) (kf : ¬ (x ≤ y) → kK me (pc + 3) ls st s Q) : kK me (pc) ls (jI y :: jI x :: st) s Q := j_icmp_le tgt hd ht hx hy kt kf
theorem k_if_eq {me : jM} {pc : Nat} {ls st : List jV} {s : Int → Int → Int} {Q : Option jV → (Int → Int → Int) → Prop} {x off : Int} (tgt : Nat) (hd : decode me.2.2.1 pc = .ok (.ifCond .eq off, 3)) (ht : (pc : Int) + off = (tgt : Int)) (hx : jr32 x) (kt : x = 0 → kK me tgt ls st s Q) (kf : ¬ (x = 0) → kK me (pc + 3) ls st s Q) : kK me (pc) ls (jI x :: st) s Q := j_if_eq tgt hd ht hx kt kf
theorem k_if_ne {me : jM} {pc : Nat} {ls st : List jV} {s : Int → Int → Int} {Q : Option jV → (Int → Int → Int) → Prop} {x off : Int} (tgt : Nat) (hd : decode me.2.2.1 pc = .ok (.ifCond .ne off, 3)) (ht : (pc : Int) + off = (tgt : Int)) (hx : jr32 x) (kt : x ≠ 0 → kK me tgt ls st s Q) (kf : x = 0 → kK me (pc + 3) ls st s Q) : kK me (pc) ls (jI x :: st) s Q := j_if_ne tgt hd ht hx kt kf
theorem k_if_lt {me : jM} {pc : Nat} {ls st : List jV} {s : Int → Int → Int} {Q : Option jV → (Int → Int → Int) → Prop} {x off : Int} (tgt : Nat) (hd : decode me.2.2.1 pc = .ok (.ifCond .lt off, 3)) (ht : (pc : Int) + off = (tgt : Int)) (hx : jr32 x) (kt : x < 0 → kK me tgt ls st s Q) (kf : ¬ (x < 0) → kK me (pc + 3) ls st s Q) : kK me (pc) ls (jI x :: st) s Q := j_if_lt tgt hd ht hx kt kf
theorem k_if_ge {me : jM} {pc : Nat} {ls st : List jV} {s : Int → Int → Int} {Q : Option jV → (Int → Int → Int) → Prop} {x off : Int} (tgt : Nat) (hd : decode me.2.2.1 pc = .ok (.ifCond .ge off, 3)) (ht : (pc : Int) + off = (tgt : Int)) (hx : jr32 x) (kt : 0 ≤ x → kK me tgt ls st s Q) (kf : ¬ (0 ≤ x) → kK me (pc + 3) ls st s Q) : kK me (pc) ls (jI x :: st) s Q := j_if_ge tgt hd ht hx kt kf
theorem k_if_gt {me : jM} {pc : Nat} {ls st : List jV} {s : Int → Int → Int} {Q : Option jV → (Int → Int → Int) → Prop} {x off : Int} (tgt : Nat) (hd : decode me.2.2.1 pc = .ok (.ifCond .gt off, 3)) (ht : (pc : Int) + off = (tgt : Int)) (hx : jr32 x) (kt : 0 < x → kK me tgt ls st s Q) (kf : ¬ (0 < x) → kK me (pc + 3) ls st s Q) : kK me (pc) ls (jI x :: st) s Q := j_if_gt tgt hd ht hx kt kf
theorem k_if_le {me : jM} {pc : Nat} {ls st : List jV} {s : Int → Int → Int} {Q : Option jV → (Int → Int → Int) → Prop} {x off : Int} (tgt : Nat) (hd : decode me.2.2.1 pc = .ok (.ifCond .le off, 3)) (ht : (pc : Int) + off = (tgt : Int)) (hx : jr32 x) (kt : x ≤ 0 → kK me tgt ls st s Q) (kf : ¬ (x ≤ 0) → kK me (pc + 3) ls st s Q) : kK me (pc) ls (jI x :: st) s Q := j_if_le tgt hd ht hx kt kf
theorem k_goto {me : jM} {pc : Nat} {ls st : List jV} {s : Int → Int → Int} {Q : Option jV → (Int → Int → Int) → Prop} {off : Int} (tgt : Nat) (hd : decode me.2.2.1 pc = .ok (.goto off, 3)) (ht : (pc : Int) + off = (tgt : Int)) (k : kK me tgt ls st s Q) : kK me pc ls st s Q := j_goto tgt hd ht k
theorem k_lcmp {me : jM} {pc : Nat} {ls st : List jV} {s : Int → Int → Int} {Q : Option jV → (Int → Int → Int) → Prop} {x y : Int} (hd : decode me.2.2.1 pc = .ok (.lcmp, 1)) (hx : jr64 x) (hy : jr64 y) (k : kK me (pc + 1) ls (jI (jcmp x y) :: st) s Q) : kK me (pc) ls (jL y :: jL x :: st) s Q := j_lcmp hd hx hy k
theorem k_lcmp_same {me : jM} {pc : Nat} {ls st : List jV} {s : Int → Int → Int} {Q : Option jV → (Int → Int → Int) → Prop} {x y : Int} (hd : decode me.2.2.1 pc = .ok (.lcmp, 1)) (hxy : x = y) (k : kK me (pc + 1) ls (jI 0 :: st) s Q) : kK me (pc) ls (jL y :: jL x :: st) s Q := j_lcmp_same hd hxy k
theorem k_lcmp_if_lt {me : jM} {pc : Nat} {ls st : List jV} {s : Int → Int → Int} {Q : Option jV → (Int → Int → Int) → Prop} {x y off : Int} (tgt : Nat) (hd : decode me.2.2.1 pc = .ok (.lcmp, 1)) (hd2 : decode me.2.2.1 (pc + 1) = .ok (.ifCond .lt off, 3)) (ht : ((pc + 1 : Nat) : Int) + off = (tgt : Int)) (hx : jr64 x) (hy : jr64 y) (kt : x < y → kK me tgt ls st s Q) (kf : ¬ (x < y) → kK me (pc + 4) ls st s Q) : kK me (pc) ls (jL y :: jL x :: st) s Q := j_lcmp_if_lt tgt hd hd2 ht hx hy kt kf
theorem k_lcmp_if_gt {me : jM} {pc : Nat} {ls st : List jV} {s : Int → Int → Int} {Q : Option jV → (Int → Int → Int) → Prop} {x y off : Int} (tgt : Nat) (hd : decode me.2.2.1 pc = .ok (.lcmp, 1)) (hd2 : decode me.2.2.1 (pc + 1) = .ok (.ifCond .gt off, 3)) (ht : ((pc + 1 : Nat) : Int) + off = (tgt : Int)) (hx : jr64 x) (hy : jr64 y) (kt : y < x → kK me tgt ls st s Q) (kf : ¬ (y < x) → kK me (pc + 4) ls st s Q) : kK me (pc) ls (jL y :: jL x :: st) s Q := j_lcmp_if_gt tgt hd hd2 ht hx hy kt kf
theorem k_lcmp_if_le {me : jM} {pc : Nat} {ls st : List jV} {s : Int → Int → Int} {Q : Option jV → (Int → Int → Int) → Prop} {x y off : Int} (tgt : Nat) (hd : decode me.2.2.1 pc = .ok (.lcmp, 1)) (hd2 : decode me.2.2.1 (pc + 1) = .ok (.ifCond .le off, 3)) (ht : ((pc + 1 : Nat) : Int) + off = (tgt : Int)) (hx : jr64 x) (hy : jr64 y) (kt : x ≤ y → kK me tgt ls st s Q) (kf : ¬ (x ≤ y) → kK me (pc + 4) ls st s Q) : kK me (pc) ls (jL y :: jL x :: st) s Q := j_lcmp_if_le tgt hd hd2 ht hx hy kt kf
theorem k_lcmp_if_ge {me : jM} {pc : Nat} {ls st : List jV} {s : Int → Int → Int} {Q : Option jV → (Int → Int → Int) → Prop} {x y off : Int} (tgt : Nat) (hd : decode me.2.2.1 pc = .ok (.lcmp, 1)) (hd2 : decode me.2.2.1 (pc + 1) = .ok (.ifCond .ge off, 3)) (ht : ((pc + 1 : Nat) : Int) + off = (tgt : Int)) (hx : jr64 x) (hy : jr64 y) (kt : y ≤ x → kK me tgt ls st s Q) (kf : ¬ (y ≤ x) → kK me (pc + 4) ls st s Q) : kK me (pc) ls (jL y :: jL x :: st) s Q := j_lcmp_if_ge tgt hd hd2 ht hx hy kt kf
theorem k_lcmp_if_eq {me : jM} {pc : Nat} {ls st : List jV} {s : Int → Int → Int} {Q : Option jV → (Int → Int → Int) → Prop} {x y off : Int} (tgt : Nat) (hd : decode me.2.2.1 pc = .ok (.lcmp, 1)) (hd2 : decode me.2.2.1 (pc + 1) = .ok (.ifCond .eq off, 3)) (ht : ((pc + 1 : Nat) : Int) + off = (tgt : Int)) (hx : jr64 x) (hy : jr64 y) (kt : x = y → kK me tgt ls st s Q) (kf : ¬ (x = y) → kK me (pc + 4) ls st s Q) : kK me (pc) ls (jL y :: jL x :: st) s Q := j_lcmp_if_eq tgt hd hd2 ht hx hy kt kf
theorem k_lcmp_if_ne {me : jM} {pc : Nat} {ls st : List jV} {s : Int → Int → Int} {Q : Option jV → (Int → Int → Int) → Prop} {x y off : Int} (tgt : Nat) (hd : decode me.2.2.1 pc = .ok (.lcmp, 1)) (hd2 : decode me.2.2.1 (pc + 1) = .ok (.ifCond .ne off, 3)) (ht : ((pc + 1 : Nat) : Int) + off = (tgt : Int)) (hx : jr64 x) (hy : jr64 y) (kt : x ≠ y → kK me tgt ls st s Q) (kf : x = y → kK me (pc + 4) ls st s Q) : kK me (pc) ls (jL y :: jL x :: st) s Q := j_lcmp_if_ne tgt hd hd2 ht hx hy kt kf
theorem k_ireturn {me : jM} {pc : Nat} {ls st : List jV} {s : Int → Int → Int} {Q : Option jV → (Int → Int → Int) → Prop} {x : Int} (hd : decode me.2.2.1 pc = .ok (.ireturn, 1)) (hr : me.2.2.2.2.1 = some .int) (hq : Q (some (jI x)) s) : kK me pc ls [jI x] s Q := j_ireturn (st := []) hd hr ⟨Nat.zero_le _, Nat.zero_le _⟩ ⟨rfl, s, rfl, hq⟩
theorem k_zreturn {me : jM} {pc : Nat} {ls st : List jV} {s : Int → Int → Int} {Q : Option jV → (Int → Int → Int) → Prop} {x : Int} (hd : decode me.2.2.1 pc = .ok (.ireturn, 1)) (hr : me.2.2.2.2.1 = some .boolean) (hx : x = 0 ∨ x = 1) (hq : Q (some (jI x)) s) : kK me pc ls [jI x] s Q := j_zreturn (st := []) hd hr ⟨Nat.zero_le _, Nat.zero_le _⟩ hx ⟨rfl, s, rfl, hq⟩
theorem k_lreturn {me : jM} {pc : Nat} {ls st : List jV} {s : Int → Int → Int} {Q : Option jV → (Int → Int → Int) → Prop} {x : Int} (hd : decode me.2.2.1 pc = .ok (.lreturn, 1)) (hr : me.2.2.2.2.1 = some .long) (hq : Q (some (jL x)) s) : kK me pc ls [jL x] s Q := j_lreturn (st := []) hd hr ⟨Nat.zero_le _, Nat.zero_le _⟩ ⟨rfl, s, rfl, hq⟩
theorem k_return {me : jM} {pc : Nat} {ls st : List jV} {s : Int → Int → Int} {Q : Option jV → (Int → Int → Int) → Prop} (hd : decode me.2.2.1 pc = .ok (.return_, 1)) (hr : me.2.2.2.2.1 = none) (hq : Q none s) : kK me pc ls [] s Q := j_return (st := []) hd hr ⟨Nat.zero_le _, Nat.zero_le _⟩ ⟨rfl, s, rfl, hq⟩
theorem k_geti {me : jM} {pc : Nat} {ls st : List jV} {s : Int → Int → Int} {Q : Option jV → (Int → Int → Int) → Prop} {x : Int} {ci idx j : Nat} {fs : List (Option jV)} (ji : Int) (hd : decode me.2.2.1 pc = .ok (.getfield idx, 3)) (hf : jfd me.1 idx ci j) (hs : jsh x = .inl (ci, fs)) (hx : 0 ≤ x ∧ x ≤ 168) (hv : fs[j]? = some none) (hj : (0 : Int) + (j : Int) = ji) (k : kK me (pc + 3) ls (jI (s x ji) :: st) s Q) : kK me pc ls (jR x :: st) s Q := by
  subst hj
  exact j_get hd hf (fs := jfl 0 fs (s x)) (by show jl1 (jsh x) (s x) = _; rw [hs]; rfl) hx (jfl_none fs 0 (s x) j hv) k
theorem k_getr {me : jM} {pc : Nat} {ls st : List jV} {s : Int → Int → Int} {Q : Option jV → (Int → Int → Int) → Prop} {x : Int} {ci idx j : Nat} {fs : List (Option jV)} {v : jV} (hd : decode me.2.2.1 pc = .ok (.getfield idx, 3)) (hf : jfd me.1 idx ci j) (hs : jsh x = .inl (ci, fs)) (hx : 0 ≤ x ∧ x ≤ 168) (hv : fs[j]? = some (some v)) (k : kK me (pc + 3) ls (v :: st) s Q) : kK me pc ls (jR x :: st) s Q :=
  j_get hd hf (fs := jfl 0 fs (s x)) (by show jl1 (jsh x) (s x) = _; rw [hs]; rfl) hx (jfl_some fs 0 (s x) j v hv) k
theorem k_put {me : jM} {pc : Nat} {ls st : List jV} {s : Int → Int → Int} {Q : Option jV → (Int → Int → Int) → Prop} {x y : Int} {ci idx j : Nat} {fs : List (Option jV)} {C0 : String} {T : u_T} {N : Nat} {ty : Nat → FieldType} (ji : Int) (hd : decode me.2.2.1 pc = .ok (.putfield idx, 3)) (hct : jct ci C0 T N ty) (hjN : j < N) (hlk : Cond.fieldLink me.1 idx (T j).1 (T j).2.1 (T j).2.2.1 ∈ jws) (hfin : (T j).2.2.2 = false) (hty : ty j = .int) (hs : jsh x = .inl (ci, fs)) (hx : 0 < x ∧ x ≤ 168) (hv : fs[j]? = some none) (hj : (0 : Int) + (j : Int) = ji) (k : kK me (pc + 3) ls st (w2 s x ji y) Q) : kK me pc ls (jI y :: jR x :: st) s Q := by
  subst hj
  refine j_put hd hct hjN hlk hfin hty (fs := jfl 0 fs (s x)) (by show jl1 (jsh x) (s x) = _; rw [hs]; rfl) hx (by rw [jfl_len]; exact (List.getElem?_eq_some_iff.mp hv).1) ?_
  rw [jlay_up (i := 0 + (j : Int)) (y := y) (by rw [hs]; exact congrArg (fun l => (.inl (ci, l) : jE)) (jfl_set fs 0 (s x) j y hv))]
  exact k

theorem k_iald {me : jM} {pc : Nat} {ls st : List jV} {s : Int → Int → Int} {Q : Option jV → (Int → Int → Int) → Prop} {x i : Int} {len : Nat} (li : Int) (hd : decode me.2.2.1 pc = .ok (.iaload, 1)) (hs : jsh x = hI len) (hx : 0 ≤ x ∧ x ≤ 168) (hl : (len : Int) = li) (hlen : len < 2147483648) (hi : 0 ≤ i ∧ i < li) (k : kK me (pc + 1) ls (jI (s x i) :: st) s Q) : kK me pc ls (jI i :: jR x :: st) s Q := by
  subst hl
  exact j_iald hd (f := s x) (by show jl1 (jsh x) (s x) = _; rw [hs]; rfl) hx hi hlen k
theorem k_iast {me : jM} {pc : Nat} {ls st : List jV} {s : Int → Int → Int} {Q : Option jV → (Int → Int → Int) → Prop} {x i y : Int} {len : Nat} (li : Int) (hd : decode me.2.2.1 pc = .ok (.iastore, 1)) (hs : jsh x = hI len) (hx : 0 < x ∧ x ≤ 168) (hl : (len : Int) = li) (hlen : len < 2147483648) (hi : 0 ≤ i ∧ i < li) (k : kK me (pc + 1) ls st (w2 s x i y) Q) : kK me pc ls (jI y :: jI i :: jR x :: st) s Q := by
  subst hl
  refine j_iast hd (f := s x) (by show jl1 (jsh x) (s x) = _; rw [hs]; rfl) hx hi hlen ?_
  rw [jlay_up (i := i) (y := y) (by rw [hs]; rfl)]
  exact k
theorem k_lald {me : jM} {pc : Nat} {ls st : List jV} {s : Int → Int → Int} {Q : Option jV → (Int → Int → Int) → Prop} {x i : Int} {len : Nat} (li : Int) (hd : decode me.2.2.1 pc = .ok (.laload, 1)) (hs : jsh x = hL len) (hx : 0 ≤ x ∧ x ≤ 168) (hl : (len : Int) = li) (hlen : len < 2147483648) (hi : 0 ≤ i ∧ i < li) (k : kK me (pc + 1) ls (jL (s x i) :: st) s Q) : kK me pc ls (jI i :: jR x :: st) s Q := by
  subst hl
  exact j_lald hd (f := s x) (by show jl1 (jsh x) (s x) = _; rw [hs]; rfl) hx hi hlen k
theorem k_last {me : jM} {pc : Nat} {ls st : List jV} {s : Int → Int → Int} {Q : Option jV → (Int → Int → Int) → Prop} {x i y : Int} {len : Nat} (li : Int) (hd : decode me.2.2.1 pc = .ok (.lastore, 1)) (hs : jsh x = hL len) (hx : 0 < x ∧ x ≤ 168) (hl : (len : Int) = li) (hlen : len < 2147483648) (hi : 0 ≤ i ∧ i < li) (k : kK me (pc + 1) ls st (w2 s x i y) Q) : kK me pc ls (jL y :: jI i :: jR x :: st) s Q := by
  subst hl
  refine j_last hd (f := s x) (by show jl1 (jsh x) (s x) = _; rw [hs]; rfl) hx hi hlen ?_
  rw [jlay_up (i := i) (y := y) (by rw [hs]; rfl)]
  exact k
theorem k_sald {me : jM} {pc : Nat} {ls st : List jV} {s : Int → Int → Int} {Q : Option jV → (Int → Int → Int) → Prop} {i : Int} (hd : decode me.2.2.1 pc = .ok (.iaload, 1)) (hlen : s 0 0 < 2147483648) (hi : 0 ≤ i ∧ i < s 0 0) (k : kK me (pc + 1) ls (jI (s 0 (i + 1)) :: st) s Q) : kK me pc ls (jI i :: jR 0 :: st) s Q :=
  j_iald hd (f := fun i => s 0 (i + 1)) (len := (s 0 0).toNat) (by show jl1 (jsh 0) (s 0) = _; rw [sh_0]; rfl) ⟨Int.le_refl 0, by show (0 : Int) ≤ ((jNT : Nat) : Int); omega⟩ ⟨hi.1, by omega⟩ (by omega) k
theorem k_slen {me : jM} {pc : Nat} {ls st : List jV} {s : Int → Int → Int} {Q : Option jV → (Int → Int → Int) → Prop} (hd : decode me.2.2.1 pc = .ok (.arraylength, 1)) (hlen : 0 ≤ s 0 0) (k : kK me (pc + 1) ls (jI (s 0 0) :: st) s Q) : kK me pc ls (jR 0 :: st) s Q := by
  refine j_alen hd (t := 0) (len := (s 0 0).toNat) (f := .inl (fun i => s 0 (i + 1))) (by show jl1 (jsh 0) (s 0) = _; rw [sh_0]; rfl) (by omega) ⟨Int.le_refl 0, by show (0 : Int) ≤ ((jNT : Nat) : Int); omega⟩ ?_
  rw [show (((s 0 0).toNat : Nat) : Int) = s 0 0 by omega]
  exact k
theorem k_aald {me : jM} {pc : Nat} {ls st : List jV} {s : Int → Int → Int} {Q : Option jV → (Int → Int → Int) → Prop} {x i r : Int} {t len : Nat} {g : Int → Option Int} (li : Int) (hd : decode me.2.2.1 pc = .ok (.aaload, 1)) (hs : jsh x = hQ t len g) (ht : t = 2 ∨ t = 3 ∨ t = 4) (hx : 0 ≤ x ∧ x ≤ 168) (hl : (len : Int) = li) (hlen : len < 2147483648) (hg : g i = some r) (hi : 0 ≤ i ∧ i < li) (k : kK me (pc + 1) ls (jR r :: st) s Q) : kK me pc ls (jI i :: jR x :: st) s Q := by
  subst hl
  exact j_aald hd (by show jl1 (jsh x) (s x) = _; rw [hs]; rfl) ht hx hi hlen hg k
theorem k_alenI {me : jM} {pc : Nat} {ls st : List jV} {s : Int → Int → Int} {Q : Option jV → (Int → Int → Int) → Prop} {x : Int} {len : Nat} (li : Int) (hd : decode me.2.2.1 pc = .ok (.arraylength, 1)) (hs : jsh x = hI len) (hx : 0 ≤ x ∧ x ≤ 168) (hl : (len : Int) = li) (k : kK me (pc + 1) ls (jI li :: st) s Q) : kK me pc ls (jR x :: st) s Q := by
  subst hl
  exact j_alen hd (f := .inl (s x)) (t := 0) (by show jl1 (jsh x) (s x) = _; rw [hs]; rfl) (by omega) hx k
theorem k_alenQ {me : jM} {pc : Nat} {ls st : List jV} {s : Int → Int → Int} {Q : Option jV → (Int → Int → Int) → Prop} {x : Int} {t len : Nat} {g : Int → Option Int} (li : Int) (hd : decode me.2.2.1 pc = .ok (.arraylength, 1)) (hs : jsh x = hQ t len g) (ht : t < 5) (hx : 0 ≤ x ∧ x ≤ 168) (hl : (len : Int) = li) (k : kK me (pc + 1) ls (jI li :: st) s Q) : kK me pc ls (jR x :: st) s Q := by
  subst hl
  exact j_alen hd (f := .inr (.inr g)) (by show jl1 (jsh x) (s x) = _; rw [hs]; rfl) ht hx k
/-- a method z, with these arguments, from s: what it answers and leaves -/
def kM (z : jM) (As : List jV) (s : Int → Int → Int) (rv : Option jV) (sv : Int → Int → Int) : Prop := kK z 0 (jen z.2.2.2.1 As) [] s (fun r s' => r = rv ∧ s' = sv)
def kR (z : jM) (As : List jV) (s : Int → Int → Int) (Q : Option jV → (Int → Int → Int) → Prop) : Prop := kK z 0 (jen z.2.2.2.1 As) [] s Q
theorem kK.mono {me : jM} {pc : Nat} {ls st : List jV} {s : Int → Int → Int} {Q : Option jV → (Int → Int → Int) → Prop} {Q2 : Option jV → (Int → Int → Int) → Prop} (k : kK me pc ls st s Q) (hq : ∀ r s, Q r s → Q2 r s) : kK me pc ls st s Q2 := jJ.mono k (fun r n h q => ⟨q.1, by obtain ⟨-, s', e, q2⟩ := q; exact ⟨s', e, hq _ _ q2⟩⟩)
/-- a call's plain conditions, in one check -/
def jcb (me z : jM) (np : Nat) (As all rest : List jV) : Bool := jrm me z 0 0 && (decide (z.2.2.2.2.2.cells = 0) && (decide (z.2.2.2.2.2.slots = 0) && (decide (As.length = np) && (decide ((rest.map jcat).sum ≤ 8) && (all.all jnu && decide ((jent all).length ≤ z.2.2.2.1))))))

theorem k_invVR {me : jM} {pc : Nat} {ls st : List jV} {s : Int → Int → Int} {Q : Option jV → (Int → Int → Int) → Prop} {z : jM} {idx np : Nat} {ci : Nat} {fs : List (Option jV)} {x : Int} (As rest : List jV) (hd : decode me.2.2.1 pc = .ok (.invokevirtual idx, 3)) (hcm : jcm z np) (hw : Cond.methodLink me.1 idx z.2.1 ∈ jws) (hw2 : Cond.instanceMethod z.2.1 ∈ jws) (hw3 : Cond.selects z.1 z.2.1 z.2.1 ∈ jws) (hc : (vwCl[ci]?).map (fun q => q.1) = some z.1) (hs : jsh x = .inl (ci, fs)) (hx : 0 ≤ x ∧ x ≤ 168) (hb : jcb me z np As (jR x :: As) rest = true) (hst : st = As.reverse ++ jR x :: rest) {Qz : Option jV → (Int → Int → Int) → Prop} (hz : kR z (jR x :: As) s Qz) (kk : ∀ r s', Qz r s' → kK me (pc + 3) ls (r.toList ++ rest) s' Q) : kK me pc ls st s Q := by
  simp only [jcb, Bool.and_eq_true, decide_eq_true_eq] at hb
  obtain ⟨b1, b2, b3, b4, b5, b6, b7⟩ := hb
  refine j_invV As rest hd hcm hw hw2 hw3 hc (fs := jfl 0 fs (s x)) (by show jl1 (jsh x) (s x) = _; rw [hs]; rfl) b1 hst b4 b5 b6 b7 rfl hx hz (fun r n' h' q => ?_)
  obtain ⟨rfl, s', rfl, q⟩ := q
  rw [b2, b3]
  exact kk r s' q
theorem k_invV {me : jM} {pc : Nat} {ls st : List jV} {s : Int → Int → Int} {Q : Option jV → (Int → Int → Int) → Prop} {z : jM} {idx np : Nat} {ci : Nat} {fs : List (Option jV)} {x : Int} (As rest : List jV) (hd : decode me.2.2.1 pc = .ok (.invokevirtual idx, 3)) (hcm : jcm z np) (hw : Cond.methodLink me.1 idx z.2.1 ∈ jws) (hw2 : Cond.instanceMethod z.2.1 ∈ jws) (hw3 : Cond.selects z.1 z.2.1 z.2.1 ∈ jws) (hc : (vwCl[ci]?).map (fun q => q.1) = some z.1) (hs : jsh x = .inl (ci, fs)) (hx : 0 ≤ x ∧ x ≤ 168) (hb : jcb me z np As (jR x :: As) rest = true) (hst : st = As.reverse ++ jR x :: rest) {rv : Option jV} {sv : Int → Int → Int} (hz : kM z (jR x :: As) s rv sv) (kk : kK me (pc + 3) ls (rv.toList ++ rest) sv Q) : kK me pc ls st s Q :=
  k_invVR As rest hd hcm hw hw2 hw3 hc hs hx hb hst hz (fun r s' q => by obtain ⟨rfl, rfl⟩ := q; exact kk)
theorem k_invSR {me : jM} {pc : Nat} {ls st : List jV} {s : Int → Int → Int} {Q : Option jV → (Int → Int → Int) → Prop} {z : jM} {idx np : Nat} (As rest : List jV) (hd : decode me.2.2.1 pc = .ok (.invokestatic idx, 3)) (hcm : jcm z np) (hw : Cond.methodLink me.1 idx z.2.1 ∈ jws) (hw2 : Cond.static z.2.1 ∈ jws) (hb : jcb me z np As As rest = true) (hst : st = As.reverse ++ rest) {Qz : Option jV → (Int → Int → Int) → Prop} (hz : kR z As s Qz) (kk : ∀ r s', Qz r s' → kK me (pc + 3) ls (r.toList ++ rest) s' Q) : kK me pc ls st s Q := by
  simp only [jcb, Bool.and_eq_true, decide_eq_true_eq] at hb
  obtain ⟨b1, b2, b3, b4, b5, b6, b7⟩ := hb
  refine j_invS (x := 0) As rest hd hcm hw hw2 b1 hst b4 b5 b6 b7 rfl hz (fun r n' h' q => ?_)
  obtain ⟨rfl, s', rfl, q⟩ := q
  rw [b2, b3]
  exact kk r s' q
theorem k_invS {me : jM} {pc : Nat} {ls st : List jV} {s : Int → Int → Int} {Q : Option jV → (Int → Int → Int) → Prop} {z : jM} {idx np : Nat} (As rest : List jV) (hd : decode me.2.2.1 pc = .ok (.invokestatic idx, 3)) (hcm : jcm z np) (hw : Cond.methodLink me.1 idx z.2.1 ∈ jws) (hw2 : Cond.static z.2.1 ∈ jws) (hb : jcb me z np As As rest = true) (hst : st = As.reverse ++ rest) {rv : Option jV} {sv : Int → Int → Int} (hz : kM z As s rv sv) (kk : kK me (pc + 3) ls (rv.toList ++ rest) sv Q) : kK me pc ls st s Q :=
  k_invSR As rest hd hcm hw hw2 hb hst hz (fun r s' q => by obtain ⟨rfl, rfl⟩ := q; exact kk)
theorem k_invSNR {me : jM} {pc : Nat} {ls st : List jV} {s : Int → Int → Int} {Q : Option jV → (Int → Int → Int) → Prop} {z : jM} {idx np : Nat} (As rest : List jV) (hd : decode me.2.2.1 pc = .ok (.invokestatic idx, 3)) (hcm : jcm z np) (hw : (me.1, idx, z.2.1) ∈ jnest) (hw2 : Cond.static z.2.1 ∈ jws) (hb : jcb me z np As As rest = true) (hst : st = As.reverse ++ rest) {Qz : Option jV → (Int → Int → Int) → Prop} (hz : kR z As s Qz) (kk : ∀ r s', Qz r s' → kK me (pc + 3) ls (r.toList ++ rest) s' Q) : kK me pc ls st s Q := by
  simp only [jcb, Bool.and_eq_true, decide_eq_true_eq] at hb
  obtain ⟨b1, b2, b3, b4, b5, b6, b7⟩ := hb
  refine j_invSN (x := 0) As rest hd hcm hw hw2 b1 hst b4 b5 b6 b7 rfl hz (fun r n' h' q => ?_)
  obtain ⟨rfl, s', rfl, q⟩ := q
  rw [b2, b3]
  exact kk r s' q
theorem k_invSN {me : jM} {pc : Nat} {ls st : List jV} {s : Int → Int → Int} {Q : Option jV → (Int → Int → Int) → Prop} {z : jM} {idx np : Nat} (As rest : List jV) (hd : decode me.2.2.1 pc = .ok (.invokestatic idx, 3)) (hcm : jcm z np) (hw : (me.1, idx, z.2.1) ∈ jnest) (hw2 : Cond.static z.2.1 ∈ jws) (hb : jcb me z np As As rest = true) (hst : st = As.reverse ++ rest) {rv : Option jV} {sv : Int → Int → Int} (hz : kM z As s rv sv) (kk : kK me (pc + 3) ls (rv.toList ++ rest) sv Q) : kK me pc ls st s Q :=
  k_invSNR As rest hd hcm hw hw2 hb hst hz (fun r s' q => by obtain ⟨rfl, rfl⟩ := q; exact kk)
end
section
/-! answers that are true or false; bits and shifts over whole numbers; Math's members; a copied array -/
def jbo (p : Prop) [Decidable p] : Int := if p then 1 else 0
theorem jbo_01 (p : Prop) [Decidable p] : jbo p = 0 ∨ jbo p = 1 := by unfold jbo; split <;> simp
theorem jbo_32 (p : Prop) [Decidable p] : jr32 (jbo p) := by unfold jbo; split <;> exact ⟨by omega, by omega⟩
theorem jbo_0 {p : Prop} [Decidable p] : jbo p = 0 ↔ ¬ p := by unfold jbo; split <;> simp_all
theorem jbo_t {p : Prop} [Decidable p] (h : p) : jbo p = 1 := if_pos h
theorem jbo_f {p : Prop} [Decidable p] (h : ¬ p) : jbo p = 0 := if_neg h
theorem jbo_c {p q : Prop} [Decidable p] [Decidable q] (h : p ↔ q) : jbo p = jbo q := by unfold jbo; simp only [h]
def jor (x y : Int) : Int := ((x.toNat ||| y.toNat : Nat) : Int)
def jand (x y : Int) : Int := ((x.toNat &&& y.toNat : Nat) : Int)
theorem js_l : ∀ k, k < 32 → ((Int32.ofInt ((k : Nat) : Int) &&& 31).toBitVec.smod 32).toNat = k := by decide +kernel
theorem js_tp : ∀ k, k < 32 → (Int32.ofInt (((2 ^ k : Nat)) : Int)).toBitVec = BitVec.twoPow 32 k := by decide +kernel
theorem js_L : ∀ k, k < 64 → (((Int32.ofInt ((k : Nat) : Int)).toInt64 &&& 63).toBitVec.smod 64).toNat = k := by decide +kernel
theorem js_tpL : ∀ k, k < 64 → (Int64.ofInt (((2 ^ k : Nat)) : Int)).toBitVec = BitVec.twoPow 64 k := by decide +kernel
theorem jshr32 {x y : Int} (hx : jr32 x) (hy : 0 ≤ y ∧ y ≤ 31) : Int32.ofInt x >>> (Int32.ofInt y &&& 31) = Int32.ofInt (x / 2 ^ y.toNat) := by
  obtain ⟨k, rfl⟩ : ∃ k : Nat, y = (k : Int) := ⟨y.toNat, by omega⟩
  have hk : k < 32 := by omega
  apply Int32.toInt_inj.mp
  have hp : (0 : Int) < 2 ^ k := Int.pow_pos (by decide)
  have h1 : x / 2 ^ k ≤ 2147483647 := by
    by_cases h0 : 0 ≤ x
    · exact Int.le_trans (Int.ediv_le_self _ h0) hx.2
    · have := Int.ediv_neg_of_neg_of_pos (by omega : x < 0) hp
      omega
  have h2 : -2147483648 ≤ x / 2 ^ k := by
    rw [Int.le_ediv_iff_mul_le hp]
    have : (1 : Int) ≤ 2 ^ k := hp
    have h3 : (-2147483648 : Int) * 2 ^ k ≤ -2147483648 * 1 := Int.mul_le_mul_of_nonpos_left (by decide) this
    have := hx.1
    omega
  rw [pk_shr _ _ k (js_l k hk), j32T hx, Int.toNat_natCast, j32T ⟨h2, h1⟩, Int.shiftRight_eq_div_pow]
  rw [Int.natCast_pow]
  rfl
theorem jshl32 (x : Int) {y : Int} (hy : 0 ≤ y ∧ y ≤ 31) : Int32.ofInt x <<< (Int32.ofInt y &&& 31) = Int32.ofInt (x * 2 ^ y.toNat) := by
  obtain ⟨k, rfl⟩ : ∃ k : Nat, y = (k : Int) := ⟨y.toNat, by omega⟩
  have hk : k < 32 := by omega
  apply Int32.toBitVec_inj.1
  show (Int32.ofInt x).toBitVec <<< ((Int32.ofInt (k : Int) &&& 31).toBitVec.smod 32).toNat = _
  rw [js_l k hk, Int.toNat_natCast, Int32.ofInt_mul, Int32.toBitVec_mul, BitVec.shiftLeft_eq_mul_twoPow, ← js_tp k hk, Int.natCast_pow]
  rfl
theorem jshr64 {x y : Int} (hx : jr64 x) (hy : 0 ≤ y ∧ y ≤ 63) : Int64.ofInt x >>> ((Int32.ofInt y).toInt64 &&& 63) = Int64.ofInt (x / 2 ^ y.toNat) := by
  obtain ⟨k, rfl⟩ : ∃ k : Nat, y = (k : Int) := ⟨y.toNat, by omega⟩
  have hk : k < 64 := by omega
  apply Int64.toInt_inj.mp
  have hp : (0 : Int) < 2 ^ k := Int.pow_pos (by decide)
  have h1 : x / 2 ^ k ≤ 9223372036854775807 := by
    by_cases h0 : 0 ≤ x
    · exact Int.le_trans (Int.ediv_le_self _ h0) hx.2
    · have := Int.ediv_neg_of_neg_of_pos (by omega : x < 0) hp
      omega
  have h2 : -9223372036854775808 ≤ x / 2 ^ k := by
    rw [Int.le_ediv_iff_mul_le hp]
    have : (1 : Int) ≤ 2 ^ k := hp
    have h3 : (-9223372036854775808 : Int) * 2 ^ k ≤ -9223372036854775808 * 1 := Int.mul_le_mul_of_nonpos_left (by decide) this
    have := hx.1
    omega
  have e : (Int64.ofInt x >>> ((Int32.ofInt (k : Int)).toInt64 &&& 63)).toInt = (Int64.ofInt x).toInt >>> k := by
    show ((Int64.ofInt x).toBitVec.sshiftRight (((Int32.ofInt (k : Int)).toInt64 &&& 63).toBitVec.smod 64).toNat).toInt = _
    rw [js_L k hk, BitVec.toInt_sshiftRight]
    rfl
  rw [e, j64T hx, Int.toNat_natCast, j64T ⟨h2, h1⟩, Int.shiftRight_eq_div_pow, Int.natCast_pow]
  rfl
theorem jshl64 (x : Int) {y : Int} (hy : 0 ≤ y ∧ y ≤ 63) : Int64.ofInt x <<< ((Int32.ofInt y).toInt64 &&& 63) = Int64.ofInt (x * 2 ^ y.toNat) := by
  obtain ⟨k, rfl⟩ : ∃ k : Nat, y = (k : Int) := ⟨y.toNat, by omega⟩
  have hk : k < 64 := by omega
  apply Int64.toBitVec_inj.1
  show (Int64.ofInt x).toBitVec <<< (((Int32.ofInt (k : Int)).toInt64 &&& 63).toBitVec.smod 64).toNat = _
  rw [js_L k hk, Int.toNat_natCast, Int64.ofInt_mul, Int64.toBitVec_mul, BitVec.shiftLeft_eq_mul_twoPow, ← js_tpL k hk, Int.natCast_pow]
  rfl
theorem jdvd {k m : Nat} (h : k ≤ m) : (2 : Int) ^ k ∣ ((2 ^ m : Nat) : Int) := by
  rw [show (2 : Int) ^ k = ((2 ^ k : Nat) : Int) by rw [Int.natCast_pow]; rfl]
  exact Int.natCast_dvd_natCast.mpr (Nat.pow_dvd_pow 2 h)
theorem jmask32 (x : Int) (k : Nat) (hk : k ≤ 31) {v : Int} (hv : v = 2 ^ k - 1) : Int32.ofInt x &&& Int32.ofInt v = Int32.ofInt (x % 2 ^ k) := by
  have e : (Int32.ofInt v).toBitVec.toNat = 2 ^ k - 1 := by
    subst hv
    have : ∀ k, k < 32 → (Int32.ofInt (2 ^ k - 1)).toBitVec.toNat = 2 ^ k - 1 := by decide +kernel
    exact this k (by omega)
  rw [pk_and _ k e]
  show Int32.ofNat _ = _
  rw [← Int32.ofInt_eq_ofNat]
  congr 1
  show (((BitVec.ofInt 32 x).toNat % 2 ^ k : Nat) : Int) = _
  rw [BitVec.toNat_ofInt, Int.natCast_emod, Int.toNat_of_nonneg (Int.emod_nonneg _ (by decide)), Int.natCast_pow]
  exact Int.emod_emod_of_dvd x (jdvd (by omega))
theorem jmask64 (x : Int) (k : Nat) (hk : k ≤ 63) {v : Int} (hv : v = 2 ^ k - 1) : Int64.ofInt x &&& Int64.ofInt v = Int64.ofInt (x % 2 ^ k) := by
  have e : (Int64.ofInt v).toBitVec.toNat = 2 ^ k - 1 := by
    subst hv
    have : ∀ k, k < 64 → (Int64.ofInt (2 ^ k - 1)).toBitVec.toNat = 2 ^ k - 1 := by decide +kernel
    exact this k (by omega)
  apply Int64.toBitVec_inj.1
  apply BitVec.eq_of_toNat_eq
  rw [Int64.toBitVec_and, BitVec.toNat_and, e, Nat.and_two_pow_sub_one_eq_mod]
  show (BitVec.ofInt 64 x).toNat % 2 ^ k = (BitVec.ofInt 64 (x % 2 ^ k)).toNat
  rw [BitVec.toNat_ofInt, BitVec.toNat_ofInt]
  have hd : (2 : Int) ^ k ∣ ((2 ^ 64 : Nat) : Int) := jdvd (by omega)
  have h3 : (x % 2 ^ k) % ((2 ^ 64 : Nat) : Int) = x % 2 ^ k := Int.emod_eq_of_lt (Int.emod_nonneg _ (by have : (0 : Int) < 2 ^ k := Int.pow_pos (by decide); omega)) (by
    have h4 : (0 : Int) < 2 ^ k := Int.pow_pos (by decide)
    have h5 := Int.emod_lt_of_pos x h4
    have h6 := Int.le_of_dvd (by decide) hd
    omega)
  rw [h3]
  have h7 : (((x % ((2 ^ 64 : Nat) : Int)).toNat % 2 ^ k : Nat) : Int) = x % 2 ^ k := by
    rw [Int.natCast_emod, Int.toNat_of_nonneg (Int.emod_nonneg _ (by decide)), Int.natCast_pow]
    exact Int.emod_emod_of_dvd x hd
  omega
theorem jor32 {x y : Int} (hx : 0 ≤ x) (hy : 0 ≤ y) : Int32.ofInt x ||| Int32.ofInt y = Int32.ofInt (jor x y) := by
  obtain ⟨a, rfl⟩ : ∃ a : Nat, x = (a : Int) := ⟨x.toNat, by omega⟩
  obtain ⟨b, rfl⟩ : ∃ b : Nat, y = (b : Int) := ⟨y.toNat, by omega⟩
  simp only [jor, Int.toNat_natCast, Int32.ofInt_eq_ofNat]
  apply Int32.toBitVec_inj.1
  show BitVec.ofNat 32 a ||| BitVec.ofNat 32 b = BitVec.ofNat 32 (a ||| b)
  apply BitVec.eq_of_getLsbD_eq
  intro i hi
  simp [hi]
theorem jand32 {x y : Int} (hx : 0 ≤ x) (hy : 0 ≤ y) : Int32.ofInt x &&& Int32.ofInt y = Int32.ofInt (jand x y) := by
  obtain ⟨a, rfl⟩ : ∃ a : Nat, x = (a : Int) := ⟨x.toNat, by omega⟩
  obtain ⟨b, rfl⟩ : ∃ b : Nat, y = (b : Int) := ⟨y.toNat, by omega⟩
  simp only [jand, Int.toNat_natCast, Int32.ofInt_eq_ofNat]
  apply Int32.toBitVec_inj.1
  show BitVec.ofNat 32 a &&& BitVec.ofNat 32 b = BitVec.ofNat 32 (a &&& b)
  apply BitVec.eq_of_getLsbD_eq
  intro i hi
  simp [hi]
theorem jnot32 (x : Int) : Int32.ofInt x ^^^ Int32.ofInt (-1) = Int32.ofInt (-1 - x) := by
  apply Int32.toBitVec_inj.1
  show (Int32.ofInt x).toBitVec ^^^ BitVec.allOnes 32 = (Int32.ofInt (-1 - x)).toBitVec
  rw [BitVec.xor_allOnes, BitVec.not_eq_neg_add, Int32.ofInt_sub, Int32.toBitVec_sub]
  show - (Int32.ofInt x).toBitVec - 1#32 = (-1#32) - (Int32.ofInt x).toBitVec
  rw [BitVec.sub_eq_add_neg, BitVec.sub_eq_add_neg, BitVec.add_comm]
theorem jandn32 {x f : Int} (hx : 0 ≤ x ∧ x < 256) (hf : 0 ≤ f ∧ f < 8) : Int32.ofInt x &&& Int32.ofInt (-1 - 2 ^ f.toNat) = Int32.ofInt (x - x / 2 ^ f.toNat % 2 * 2 ^ f.toNat) := by
  obtain ⟨a, rfl⟩ : ∃ a : Nat, x = (a : Int) := ⟨x.toNat, by omega⟩
  obtain ⟨k, rfl⟩ : ∃ k : Nat, f = (k : Int) := ⟨f.toNat, by omega⟩
  have : ∀ a, a < 256 → ∀ k, k < 8 → Int32.ofInt ((a : Nat) : Int) &&& Int32.ofInt (-1 - 2 ^ ((k : Nat) : Int).toNat) = Int32.ofInt ((a : Int) - (a : Int) / 2 ^ ((k : Nat) : Int).toNat % 2 * 2 ^ ((k : Nat) : Int).toNat) := by decide +kernel
  exact this a (by omega) k (by omega)
theorem jlor_sum {x y : Int} (k : Nat) (hk : k ≤ 62) (hx : x % 2 ^ k = 0) (hy : 0 ≤ y ∧ y < 2 ^ k) : Int64.ofInt x ||| Int64.ofInt y = Int64.ofInt (x + y) := by
  have hp : (0 : Int) < 2 ^ k := Int.pow_pos (by decide)
  apply Int64.toBitVec_inj.1
  rw [Int64.ofInt_add, Int64.toBitVec_add, Int64.toBitVec_or]
  refine (BitVec.add_eq_or_of_and_eq_zero _ _ ?_).symm
  apply BitVec.eq_of_toNat_eq
  rw [BitVec.toNat_and]
  show (BitVec.ofInt 64 x).toNat &&& (BitVec.ofInt 64 y).toNat = 0
  obtain ⟨b, rfl⟩ : ∃ b : Nat, y = (b : Int) := ⟨y.toNat, by omega⟩
  have hb : b < 2 ^ k := by
    have : (b : Int) < ((2 ^ k : Nat) : Int) := by rw [Int.natCast_pow]; exact hy.2
    exact Int.ofNat_lt.mp this
  rw [BitVec.toNat_ofInt, BitVec.toNat_ofInt]
  have hd : (2 : Int) ^ k ∣ ((2 ^ 64 : Nat) : Int) := jdvd (by omega)
  have h1 : (2 : Nat) ^ k ∣ (x % ((2 ^ 64 : Nat) : Int)).toNat := by
    have h2 : (2 : Int) ^ k ∣ x % ((2 ^ 64 : Nat) : Int) := by
      rw [Int.emod_def]
      exact Int.dvd_sub (Int.dvd_of_emod_eq_zero hx) (Int.dvd_trans hd (Int.dvd_mul_right _ _))
    exact Int.natCast_dvd_natCast.mp (by rw [Int.natCast_pow, Int.toNat_of_nonneg (Int.emod_nonneg _ (by decide))]; exact h2)
  obtain ⟨q, hq⟩ := h1
  rw [hq]
  apply Nat.eq_of_testBit_eq
  intro i
  rw [Nat.testBit_and, Nat.zero_testBit, Nat.testBit_two_pow_mul]
  by_cases hi : k ≤ i
  · have : (((b : Int) % ((2 ^ 64 : Nat) : Int)).toNat).testBit i = false := by
      apply Nat.testBit_lt_two_pow
      have h9 : ((b : Int) % ((2 ^ 64 : Nat) : Int)).toNat ≤ b := by
        have : (b : Int) % ((2 ^ 64 : Nat) : Int) = ((b % 2 ^ 64 : Nat) : Int) := by rw [Int.natCast_emod]
        rw [this, Int.toNat_natCast]
        exact Nat.mod_le _ _
      exact Nat.lt_of_le_of_lt h9 (Nat.lt_of_lt_of_le hb (Nat.pow_le_pow_right (by decide) hi))
    rw [this, Bool.and_false]
  · simp [hi]

theorem k_ifb_eq {me : jM} {pc : Nat} {ls st : List jV} {s : Int → Int → Int} {Q : Option jV → (Int → Int → Int) → Prop} {p : Prop} [Decidable p] {off : Int} (tgt : Nat) (hd : decode me.2.2.1 pc = .ok (.ifCond .eq off, 3)) (ht : (pc : Int) + off = (tgt : Int)) (kt : ¬ p → kK me tgt ls st s Q) (kf : p → kK me (pc + 3) ls st s Q) : kK me pc ls (jI (jbo p) :: st) s Q :=
  k_if_eq tgt hd ht (jbo_32 p) (fun q => kt (jbo_0.mp q)) (fun q => kf (Decidable.byContradiction fun q2 => q (jbo_0.mpr q2)))
theorem k_ifb_ne {me : jM} {pc : Nat} {ls st : List jV} {s : Int → Int → Int} {Q : Option jV → (Int → Int → Int) → Prop} {p : Prop} [Decidable p] {off : Int} (tgt : Nat) (hd : decode me.2.2.1 pc = .ok (.ifCond .ne off, 3)) (ht : (pc : Int) + off = (tgt : Int)) (kt : p → kK me tgt ls st s Q) (kf : ¬ p → kK me (pc + 3) ls st s Q) : kK me pc ls (jI (jbo p) :: st) s Q :=
  k_if_ne tgt hd ht (jbo_32 p) (fun q => kt (Decidable.byContradiction fun q2 => q (jbo_0.mpr q2))) (fun q => kf (jbo_0.mp q))
theorem k_shr {me : jM} {pc : Nat} {ls st : List jV} {s : Int → Int → Int} {Q : Option jV → (Int → Int → Int) → Prop} {x y : Int} (hd : decode me.2.2.1 pc = .ok (.ishr, 1)) (hx : jr32 x) (hy : 0 ≤ y ∧ y ≤ 31) (k : kK me (pc + 1) ls (jI (x / 2 ^ y.toNat) :: st) s Q) : kK me pc ls (jI y :: jI x :: st) s Q := k_ishr _ hd (jshr32 hx hy) k
theorem k_shl {me : jM} {pc : Nat} {ls st : List jV} {s : Int → Int → Int} {Q : Option jV → (Int → Int → Int) → Prop} {x y : Int} (hd : decode me.2.2.1 pc = .ok (.ishl, 1)) (hy : 0 ≤ y ∧ y ≤ 31) (k : kK me (pc + 1) ls (jI (x * 2 ^ y.toNat) :: st) s Q) : kK me pc ls (jI y :: jI x :: st) s Q := k_ishl _ hd (jshl32 x hy) k
theorem k_shrL {me : jM} {pc : Nat} {ls st : List jV} {s : Int → Int → Int} {Q : Option jV → (Int → Int → Int) → Prop} {x y : Int} (hd : decode me.2.2.1 pc = .ok (.lshr, 1)) (hx : jr64 x) (hy : 0 ≤ y ∧ y ≤ 63) (k : kK me (pc + 1) ls (jL (x / 2 ^ y.toNat) :: st) s Q) : kK me pc ls (jI y :: jL x :: st) s Q := k_lshr _ hd (jshr64 hx hy) k
theorem k_shlL {me : jM} {pc : Nat} {ls st : List jV} {s : Int → Int → Int} {Q : Option jV → (Int → Int → Int) → Prop} {x y : Int} (hd : decode me.2.2.1 pc = .ok (.lshl, 1)) (hy : 0 ≤ y ∧ y ≤ 63) (k : kK me (pc + 1) ls (jL (x * 2 ^ y.toNat) :: st) s Q) : kK me pc ls (jI y :: jL x :: st) s Q := k_lshl _ hd (jshl64 x hy) k
theorem k_and1 {me : jM} {pc : Nat} {ls st : List jV} {s : Int → Int → Int} {Q : Option jV → (Int → Int → Int) → Prop} {x : Int} (hd : decode me.2.2.1 pc = .ok (.iand, 1)) (k : kK me (pc + 1) ls (jI (x % 2) :: st) s Q) : kK me pc ls (jI 1 :: jI x :: st) s Q := k_iand _ hd (jmask32 x 1 (by decide) rfl) k
theorem k_and31 {me : jM} {pc : Nat} {ls st : List jV} {s : Int → Int → Int} {Q : Option jV → (Int → Int → Int) → Prop} {x : Int} (hd : decode me.2.2.1 pc = .ok (.iand, 1)) (k : kK me (pc + 1) ls (jI (x % 32) :: st) s Q) : kK me pc ls (jI 31 :: jI x :: st) s Q := k_iand _ hd (jmask32 x 5 (by decide) rfl) k
theorem k_andM {me : jM} {pc : Nat} {ls st : List jV} {s : Int → Int → Int} {Q : Option jV → (Int → Int → Int) → Prop} {x : Int} (hd : decode me.2.2.1 pc = .ok (.iand, 1)) (k : kK me (pc + 1) ls (jI (x % 1073741824) :: st) s Q) : kK me pc ls (jI 1073741823 :: jI x :: st) s Q := k_iand _ hd (jmask32 x 30 (by decide) rfl) k
theorem k_andML {me : jM} {pc : Nat} {ls st : List jV} {s : Int → Int → Int} {Q : Option jV → (Int → Int → Int) → Prop} {x : Int} (hd : decode me.2.2.1 pc = .ok (.land, 1)) (k : kK me (pc + 1) ls (jL (x % 1073741824) :: st) s Q) : kK me pc ls (jL 1073741823 :: jL x :: st) s Q := k_land _ hd (jmask64 x 30 (by decide) rfl) k
theorem k_or {me : jM} {pc : Nat} {ls st : List jV} {s : Int → Int → Int} {Q : Option jV → (Int → Int → Int) → Prop} {x y : Int} (hd : decode me.2.2.1 pc = .ok (.ior, 1)) (hx : 0 ≤ x) (hy : 0 ≤ y) (k : kK me (pc + 1) ls (jI (jor x y) :: st) s Q) : kK me pc ls (jI y :: jI x :: st) s Q := k_ior _ hd (jor32 hx hy) k
theorem k_and {me : jM} {pc : Nat} {ls st : List jV} {s : Int → Int → Int} {Q : Option jV → (Int → Int → Int) → Prop} {x y : Int} (hd : decode me.2.2.1 pc = .ok (.iand, 1)) (hx : 0 ≤ x) (hy : 0 ≤ y) (k : kK me (pc + 1) ls (jI (jand x y) :: st) s Q) : kK me pc ls (jI y :: jI x :: st) s Q := k_iand _ hd (jand32 hx hy) k
theorem k_not {me : jM} {pc : Nat} {ls st : List jV} {s : Int → Int → Int} {Q : Option jV → (Int → Int → Int) → Prop} {x : Int} (hd : decode me.2.2.1 pc = .ok (.ixor, 1)) (k : kK me (pc + 1) ls (jI (-1 - x) :: st) s Q) : kK me pc ls (jI (-1) :: jI x :: st) s Q := k_ixor _ hd (jnot32 x) k
theorem k_lorS {me : jM} {pc : Nat} {ls st : List jV} {s : Int → Int → Int} {Q : Option jV → (Int → Int → Int) → Prop} {x y : Int} (hd : decode me.2.2.1 pc = .ok (.lor, 1)) (hx : x % 1073741824 = 0) (hy : 0 ≤ y ∧ y < 1073741824) (k : kK me (pc + 1) ls (jL (x + y) :: st) s Q) : kK me pc ls (jL y :: jL x :: st) s Q := k_lor _ hd (jlor_sum 30 (by decide) hx hy) k

theorem j_mmaxI {me : jM} {pc : Nat} {ls st : List jV} {n : Nat} {h : Int → jE} {nc ns : Nat} {Q : Option jV → Nat → (Int → jE) → Prop} {x y : Int} {idx : Nat} (hd : decode me.2.2.1 pc = .ok (.invokestatic idx, 3)) (hw : Cond.methodLink me.1 idx Lib.Math.max.name ∈ jws) (hw2 : Cond.static Lib.Math.max.name ∈ jws) (hw3 : Cond.initialized "java/lang/Math" ∈ jws) (hw4 : Cond.code Lib.Math.max.name Lib.Math.max.code 2 (some .int) ∈ jws) (hb : (decide (1 ≤ me.2.2.2.2.2.frames) && (decide ((st.map jcat).sum + 13 ≤ me.2.2.2.2.2.locals) && (decide (nc ≤ me.2.2.2.2.2.cells) && decide (ns ≤ me.2.2.2.2.2.slots)))) = true) (hx : jr32 x) (hy : jr32 y) (k : jJ me (pc + 3) ls (jI (max x y) :: st) n h nc ns Q) : jJ me pc ls (jI y :: jI x :: st) n h nc ns Q := by
  intro p l e s m args below meth c base b D cA H locs lsS Z C G hW hS hl hZ
  simp only [Bool.and_eq_true, decide_eq_true_eq] at hb
  have hts := C.2.2.2.2.2.1
  refine va_mmax C.1 C.2.1 (by rw [C.2.2.1]; exact hl.1.symm) C.2.2.2.2.1 (hts _ hw) (hts _ hw2) (hts _ hw3) (hts _ hw4) hb.1 (by rw [jcat_sum]; exact hb.2.1) hb.2.2.1 hb.2.2.2 hd ?_
  have ee : (if Int32.ofInt x < Int32.ofInt y then Int32.ofInt y else Int32.ofInt x) = Int32.ofInt (max x y) := by
    simp only [j32_lt hx hy]
    split
    · congr 1; omega
    · congr 1; omega
  rw [ee]
  exact k p l e s m args below meth c base b D cA H locs lsS Z C G hW hS hl hZ
theorem k_mmaxI {me : jM} {pc : Nat} {ls st : List jV} {s : Int → Int → Int} {Q : Option jV → (Int → Int → Int) → Prop} {x y : Int} {idx : Nat} (hd : decode me.2.2.1 pc = .ok (.invokestatic idx, 3)) (hw : Cond.methodLink me.1 idx Lib.Math.max.name ∈ jws) (hw2 : Cond.static Lib.Math.max.name ∈ jws) (hw3 : Cond.initialized "java/lang/Math" ∈ jws) (hw4 : Cond.code Lib.Math.max.name Lib.Math.max.code 2 (some .int) ∈ jws) (hb : (decide (1 ≤ me.2.2.2.2.2.frames) && (decide ((st.map jcat).sum + 13 ≤ me.2.2.2.2.2.locals) && (decide (0 ≤ me.2.2.2.2.2.cells) && decide (0 ≤ me.2.2.2.2.2.slots)))) = true) (hx : jr32 x) (hy : jr32 y) (k : kK me (pc + 3) ls (jI (max x y) :: st) s Q) : kK me pc ls (jI y :: jI x :: st) s Q := j_mmaxI hd hw hw2 hw3 hw4 hb hx hy k
theorem j_mminI {me : jM} {pc : Nat} {ls st : List jV} {n : Nat} {h : Int → jE} {nc ns : Nat} {Q : Option jV → Nat → (Int → jE) → Prop} {x y : Int} {idx : Nat} (hd : decode me.2.2.1 pc = .ok (.invokestatic idx, 3)) (hw : Cond.methodLink me.1 idx Lib.Math.min.name ∈ jws) (hw2 : Cond.static Lib.Math.min.name ∈ jws) (hw3 : Cond.initialized "java/lang/Math" ∈ jws) (hw4 : Cond.code Lib.Math.min.name Lib.Math.min.code 2 (some .int) ∈ jws) (hb : (decide (1 ≤ me.2.2.2.2.2.frames) && (decide ((st.map jcat).sum + 13 ≤ me.2.2.2.2.2.locals) && (decide (nc ≤ me.2.2.2.2.2.cells) && decide (ns ≤ me.2.2.2.2.2.slots)))) = true) (hx : jr32 x) (hy : jr32 y) (k : jJ me (pc + 3) ls (jI (min x y) :: st) n h nc ns Q) : jJ me pc ls (jI y :: jI x :: st) n h nc ns Q := by
  intro p l e s m args below meth c base b D cA H locs lsS Z C G hW hS hl hZ
  simp only [Bool.and_eq_true, decide_eq_true_eq] at hb
  have hts := C.2.2.2.2.2.1
  refine va_mmin C.1 C.2.1 (by rw [C.2.2.1]; exact hl.1.symm) C.2.2.2.2.1 (hts _ hw) (hts _ hw2) (hts _ hw3) (hts _ hw4) hb.1 (by rw [jcat_sum]; exact hb.2.1) hb.2.2.1 hb.2.2.2 hd ?_
  have ee : (if Int32.ofInt y < Int32.ofInt x then Int32.ofInt y else Int32.ofInt x) = Int32.ofInt (min x y) := by
    simp only [j32_lt hy hx]
    split
    · congr 1; omega
    · congr 1; omega
  rw [ee]
  exact k p l e s m args below meth c base b D cA H locs lsS Z C G hW hS hl hZ
theorem k_mminI {me : jM} {pc : Nat} {ls st : List jV} {s : Int → Int → Int} {Q : Option jV → (Int → Int → Int) → Prop} {x y : Int} {idx : Nat} (hd : decode me.2.2.1 pc = .ok (.invokestatic idx, 3)) (hw : Cond.methodLink me.1 idx Lib.Math.min.name ∈ jws) (hw2 : Cond.static Lib.Math.min.name ∈ jws) (hw3 : Cond.initialized "java/lang/Math" ∈ jws) (hw4 : Cond.code Lib.Math.min.name Lib.Math.min.code 2 (some .int) ∈ jws) (hb : (decide (1 ≤ me.2.2.2.2.2.frames) && (decide ((st.map jcat).sum + 13 ≤ me.2.2.2.2.2.locals) && (decide (0 ≤ me.2.2.2.2.2.cells) && decide (0 ≤ me.2.2.2.2.2.slots)))) = true) (hx : jr32 x) (hy : jr32 y) (k : kK me (pc + 3) ls (jI (min x y) :: st) s Q) : kK me pc ls (jI y :: jI x :: st) s Q := j_mminI hd hw hw2 hw3 hw4 hb hx hy k
theorem j_mmaxL {me : jM} {pc : Nat} {ls st : List jV} {n : Nat} {h : Int → jE} {nc ns : Nat} {Q : Option jV → Nat → (Int → jE) → Prop} {x y : Int} {idx : Nat} (hd : decode me.2.2.1 pc = .ok (.invokestatic idx, 3)) (hw : Cond.methodLink me.1 idx Lib.MathLoose.max_long.x ∈ jws) (hw2 : Cond.static Lib.MathLoose.max_long.x ∈ jws) (hw3 : Cond.initialized "java/lang/Math" ∈ jws) (hw4 : Cond.code Lib.MathLoose.max_long.x Lib.MathLoose.max_long.code 4 (some .long) ∈ jws) (hb : (decide (1 ≤ me.2.2.2.2.2.frames) && (decide ((st.map jcat).sum + 15 ≤ me.2.2.2.2.2.locals) && (decide (nc ≤ me.2.2.2.2.2.cells) && decide (ns ≤ me.2.2.2.2.2.slots)))) = true) (hx : jr64 x) (hy : jr64 y) (k : jJ me (pc + 3) ls (jL (max x y) :: st) n h nc ns Q) : jJ me pc ls (jL y :: jL x :: st) n h nc ns Q := by
  intro p l e s m args below meth c base b D cA H locs lsS Z C G hW hS hl hZ
  simp only [Bool.and_eq_true, decide_eq_true_eq] at hb
  have hts := C.2.2.2.2.2.1
  refine va_mmax_long C.1 C.2.1 (by rw [C.2.2.1]; exact hl.1.symm) C.2.2.2.2.1 (hts _ hw) (hts _ hw2) (hts _ hw3) (hts _ hw4) hb.1 (by rw [jcat_sum]; exact hb.2.1) hb.2.2.1 hb.2.2.2 hd ?_
  have ee : (if Int64.ofInt y < Int64.ofInt x then Int64.ofInt x else Int64.ofInt y) = Int64.ofInt (max x y) := by
    simp only [j64_lt hy hx]
    split
    · congr 1; omega
    · congr 1; omega
  rw [ee]
  exact k p l e s m args below meth c base b D cA H locs lsS Z C G hW hS hl hZ
theorem k_mmaxL {me : jM} {pc : Nat} {ls st : List jV} {s : Int → Int → Int} {Q : Option jV → (Int → Int → Int) → Prop} {x y : Int} {idx : Nat} (hd : decode me.2.2.1 pc = .ok (.invokestatic idx, 3)) (hw : Cond.methodLink me.1 idx Lib.MathLoose.max_long.x ∈ jws) (hw2 : Cond.static Lib.MathLoose.max_long.x ∈ jws) (hw3 : Cond.initialized "java/lang/Math" ∈ jws) (hw4 : Cond.code Lib.MathLoose.max_long.x Lib.MathLoose.max_long.code 4 (some .long) ∈ jws) (hb : (decide (1 ≤ me.2.2.2.2.2.frames) && (decide ((st.map jcat).sum + 15 ≤ me.2.2.2.2.2.locals) && (decide (0 ≤ me.2.2.2.2.2.cells) && decide (0 ≤ me.2.2.2.2.2.slots)))) = true) (hx : jr64 x) (hy : jr64 y) (k : kK me (pc + 3) ls (jL (max x y) :: st) s Q) : kK me pc ls (jL y :: jL x :: st) s Q := j_mmaxL hd hw hw2 hw3 hw4 hb hx hy k
theorem j_mminL {me : jM} {pc : Nat} {ls st : List jV} {n : Nat} {h : Int → jE} {nc ns : Nat} {Q : Option jV → Nat → (Int → jE) → Prop} {x y : Int} {idx : Nat} (hd : decode me.2.2.1 pc = .ok (.invokestatic idx, 3)) (hw : Cond.methodLink me.1 idx Lib.MathLoose.min_long.x ∈ jws) (hw2 : Cond.static Lib.MathLoose.min_long.x ∈ jws) (hw3 : Cond.initialized "java/lang/Math" ∈ jws) (hw4 : Cond.code Lib.MathLoose.min_long.x Lib.MathLoose.min_long.code 4 (some .long) ∈ jws) (hb : (decide (1 ≤ me.2.2.2.2.2.frames) && (decide ((st.map jcat).sum + 15 ≤ me.2.2.2.2.2.locals) && (decide (nc ≤ me.2.2.2.2.2.cells) && decide (ns ≤ me.2.2.2.2.2.slots)))) = true) (hx : jr64 x) (hy : jr64 y) (k : jJ me (pc + 3) ls (jL (min x y) :: st) n h nc ns Q) : jJ me pc ls (jL y :: jL x :: st) n h nc ns Q := by
  intro p l e s m args below meth c base b D cA H locs lsS Z C G hW hS hl hZ
  simp only [Bool.and_eq_true, decide_eq_true_eq] at hb
  have hts := C.2.2.2.2.2.1
  refine va_mmin_long C.1 C.2.1 (by rw [C.2.2.1]; exact hl.1.symm) C.2.2.2.2.1 (hts _ hw) (hts _ hw2) (hts _ hw3) (hts _ hw4) hb.1 (by rw [jcat_sum]; exact hb.2.1) hb.2.2.1 hb.2.2.2 hd ?_
  have ee : (if Int64.ofInt y < Int64.ofInt x then Int64.ofInt y else Int64.ofInt x) = Int64.ofInt (min x y) := by
    simp only [j64_lt hy hx]
    split
    · congr 1; omega
    · congr 1; omega
  rw [ee]
  exact k p l e s m args below meth c base b D cA H locs lsS Z C G hW hS hl hZ
theorem k_mminL {me : jM} {pc : Nat} {ls st : List jV} {s : Int → Int → Int} {Q : Option jV → (Int → Int → Int) → Prop} {x y : Int} {idx : Nat} (hd : decode me.2.2.1 pc = .ok (.invokestatic idx, 3)) (hw : Cond.methodLink me.1 idx Lib.MathLoose.min_long.x ∈ jws) (hw2 : Cond.static Lib.MathLoose.min_long.x ∈ jws) (hw3 : Cond.initialized "java/lang/Math" ∈ jws) (hw4 : Cond.code Lib.MathLoose.min_long.x Lib.MathLoose.min_long.code 4 (some .long) ∈ jws) (hb : (decide (1 ≤ me.2.2.2.2.2.frames) && (decide ((st.map jcat).sum + 15 ≤ me.2.2.2.2.2.locals) && (decide (0 ≤ me.2.2.2.2.2.cells) && decide (0 ≤ me.2.2.2.2.2.slots)))) = true) (hx : jr64 x) (hy : jr64 y) (k : kK me (pc + 3) ls (jL (min x y) :: st) s Q) : kK me pc ls (jL y :: jL x :: st) s Q := j_mminL hd hw hw2 hw3 hw4 hb hx hy k
theorem mw_mmaxI : Cond.static Lib.Math.max.name ∈ jws ∧ Cond.initialized "java/lang/Math" ∈ jws ∧ Cond.code Lib.Math.max.name Lib.Math.max.code 2 (some .int) ∈ jws := ⟨st_J9_max_7cf53, jmem (i := 15) (by decide +kernel) rfl, jmem (i := 599) (by decide +kernel) rfl⟩
theorem mw_mminI : Cond.static Lib.Math.min.name ∈ jws ∧ Cond.initialized "java/lang/Math" ∈ jws ∧ Cond.code Lib.Math.min.name Lib.Math.min.code 2 (some .int) ∈ jws := ⟨st_J9_min_7cf53, jmem (i := 15) (by decide +kernel) rfl, jmem (i := 647) (by decide +kernel) rfl⟩
theorem mw_mmaxL : Cond.static Lib.MathLoose.max_long.x ∈ jws ∧ Cond.initialized "java/lang/Math" ∈ jws ∧ Cond.code Lib.MathLoose.max_long.x Lib.MathLoose.max_long.code 4 (some .long) ∈ jws := ⟨st_J9_max_f86c9, jmem (i := 15) (by decide +kernel) rfl, jmem (i := 724) (by decide +kernel) rfl⟩
theorem mw_mminL : Cond.static Lib.MathLoose.min_long.x ∈ jws ∧ Cond.initialized "java/lang/Math" ∈ jws ∧ Cond.code Lib.MathLoose.min_long.x Lib.MathLoose.min_long.code 4 (some .long) ∈ jws := ⟨st_J9_min_f86c9, jmem (i := 15) (by decide +kernel) rfl, jmem (i := 588) (by decide +kernel) rfl⟩
theorem j_copy {me : jM} {pc : Nat} {ls st : List jV} {n : Nat} {h : Int → jE} {nc ns : Nat} {Q : Option jV → Nat → (Int → jE) → Prop} {x y z : Int} {idx len : Nat} {f g : Int → Int} (hd : decode me.2.2.1 pc = .ok (.invokestatic idx, 3)) (hw : Cond.methodLink me.1 idx arraycopyName ∈ jws) (hb : (decide (1 ≤ me.2.2.2.2.2.frames) && decide ((st.map jcat).sum + 18 ≤ me.2.2.2.2.2.locals)) = true) (hx : 0 < x ∧ x ≤ n) (hy : 0 < y ∧ y ≤ n) (hf : h x = .inr (0, len, .inl f)) (hg : h y = .inr (0, len, .inl g)) (hlen : len ≤ 60000000) (hz : z = (len : Int)) (k : jJ me (pc + 3) ls st n (jup h y (.inr (0, len, .inl f))) nc ns Q) : jJ me pc ls (jI z :: jI 0 :: jR y :: jI 0 :: jR x :: st) n h nc ns Q := by
  intro p l e s m args below meth c base b D cA H locs lsS Z C G hW hS hl hZ
  subst hz
  simp only [Bool.and_eq_true, decide_eq_true_eq] at hb
  have hts := C.2.2.2.2.2.1
  have hr : jr32 (len : Int) := ⟨by omega, by omega⟩
  have hcl : (Int32.ofInt (len : Int)).toNatClampNeg = len := by
    have := Int32.toNatClampNeg_ofInt_of_le (n := (len : Int)) (by omega) (by omega)
    rw [this]; rfl
  have hn0 : ¬ Int32.ofInt (len : Int) < 0 := fun q => by
    have q : Int32.ofInt (len : Int) < Int32.ofInt 0 := q
    rw [j32_lt hr jr32_0] at q; omega
  have hc0 := hW.at (Int.le_of_lt hx.1) hx.2
  have hc1 := hW.at (Int.le_of_lt hy.1) hy.2
  rw [hf] at hc0
  rw [hg] at hc1
  intro T hT X
  have hc0 : H[jad base b x]? = some (vp_cell (cA 0) (len, .inl (fun i => Int32.ofInt (f i)))) := hc0
  have hc1 : H[jad base b y]? = some (vp_cell (cA 0) (len, .inl (fun i => Int32.ofInt (g i)))) := hc1
  obtain ⟨-, k0, hk0, cm0, hkk0⟩ := (G.1.2 0 _ rfl).1 len (fun j => .int (Int32.ofInt (f j)))
  obtain ⟨vm', X', step⟩ := X.arraycopy C.1 C.2.2.2.2.1 (hts _ hw) (hts _ nat_copy) (hts _ st_copy) (hts _ it_sys) (src := jad base b x) (dst := jad base b y) (cs := vp_cell (cA 0) (len, .inl (fun i => Int32.ofInt (f i)))) (cd := vp_cell (cA 0) (len, .inl (fun i => Int32.ofInt (g i)))) (srcPos := 0) (destPos := 0) (n := Int32.ofInt (len : Int)) (by rw [hT]; exact hc0) (by rw [hT]; exact hc1)
    (fun _ h => by cases h) (fun _ h => by cases h) (fun h => by cases h) (fun h => by cases h) hk0 hk0 hkk0 hkk0 (by simp [refKind]) (by decide) (by decide) hn0
    (by rw [j32T hr]; show ¬ (0 : Int32).toInt + _ > ((arrV (cA 0) len (fun j => .int (Int32.ofInt (f j)))).slots.size : Int); rw [arrV_size]; show ¬ (0 : Int) + _ > _; omega)
    (by rw [j32T hr]; show ¬ (0 : Int32).toInt + _ > ((arrV (cA 0) len (fun j => .int (Int32.ofInt (g j)))).slots.size : Int); rw [arrV_size]; show ¬ (0 : Int) + _ > _; omega)
    (fun vm₁ _ i hi => by
      have hi2 : i < len := by rw [hcl] at hi; exact hi
      have e : (vp_cell (cA 0) (len, .inl (fun i => Int32.ofInt (f i)))).slots.getD ((0 : Int32).toNatClampNeg + i) .null = .int (Int32.ofInt (f i)) := by
        show (arrV (cA 0) len (fun j => .int (Int32.ofInt (f j)))).slots.getD (0 + i) _ = _
        rw [Nat.zero_add, Array.getD_eq_getD_getElem?, arrV_read _ _ hi2]
        rfl
      refine ⟨?_, ?_⟩
      · rw [e]
        rfl
      · rw [e]
        exact trivial)
    (g := F0 m pc lsS (.int (Int32.ofInt (len : Int)) :: .int 0 :: .ref (jad base b y) :: .int 0 :: .ref (jad base b x) :: st.map (jvv base b))) rfl (by rw [C.2.2.1]; exact hl.1) (rest := st.map (jvv base b)) rfl (by rw [C.2.1]; exact hd) hb.1 (by show 2 * 0 + ((st.map (jvv base b)).map fun v => v.category).sum + (nativeFrameWords "java/lang/System" "arraycopy" 5 + 11) ≤ _; rw [jcat_sum]; have := hb.2; show 2 * 0 + _ + 18 ≤ _; omega)
  have e1 : copied (vp_cell (cA 0) (len, .inl (fun i => Int32.ofInt (f i)))) (vp_cell (cA 0) (len, .inl (fun i => Int32.ofInt (g i)))) 0 0 (Int32.ofInt (len : Int)) = vp_cell (cA 0) (len, .inl (va_cpy (fun i => Int32.ofInt (f i)) (fun i => Int32.ofInt (g i)) (0 : Int32).toNatClampNeg (0 : Int32).toNatClampNeg (Int32.ofInt (len : Int)).toNatClampNeg)) := va_copied (fun z => .int z) (cA 0) (cA 0) (fun i : Nat => Int32.ofInt (f i)) (fun i : Nat => Int32.ofInt (g i)) (sp := (0 : Int32).toNatClampNeg) (n := (Int32.ofInt (len : Int)).toNatClampNeg) (by rw [hcl]; show 0 + len ≤ len; omega)
  have e2 : vp_cell (cA 0) (len, .inl (va_cpy (fun i => Int32.ofInt (f i)) (fun i => Int32.ofInt (g i)) (0 : Int32).toNatClampNeg (0 : Int32).toNatClampNeg (Int32.ofInt (len : Int)).toNatClampNeg)) = vp_cell (cA 0) (len, .inl (fun i => Int32.ofInt (f i))) := by
    rw [hcl, vp_cell_i, vp_cell_i]
    show arrV _ _ _ = arrV _ _ _
    unfold arrV
    congr 1
    apply Array.ext
    · simp
    · intro j h1 h2
      have hj : j < len := by simpa using h1
      simp only [Array.getElem_ofFn, va_cpy]
      rw [if_pos ⟨Nat.zero_le _, by show j < 0 + len; omega⟩]
      show Value.int (Int32.ofInt (f ((0 + (j - 0) : Nat) : Int))) = _
      rw [Nat.zero_add, Nat.sub_zero]
  rw [e1, e2] at X' step
  have hlt : jad base b y < H.size := (Array.getElem?_eq_some_iff.mp hc1).1
  have hheap : ((T.setVm vm').setCell (jad base b y) (vp_cell (cA 0) (len, .inl (fun i => Int32.ofInt (f i))))).heap = H.setIfInBounds (jad base b y) (vp_cell (cA 0) (len, .inl (fun i => Int32.ofInt (f i)))) := by rw [← hT]; rfl
  have oq : ∀ q : Nat, q ≠ jad base b y → (H.setIfInBounds (jad base b y) (vp_cell (cA 0) (len, .inl (fun i => Int32.ofInt (f i)))))[q]? = H[q]? := fun q hq => by simp [Array.getElem?_setIfInBounds, Ne.symm hq]
  obtain ⟨t, a1, b1⟩ := k p l e s m args below meth c base b D cA _ _ lsS Z C G (hW.up G.2.1 hy.1 (by simp) oq (c := .inr (0, len, .inl f)) (show (H.setIfInBounds _ _)[jad base b y]? = some _ by simp [Array.getElem?_setIfInBounds, hlt]; rfl)) ⟨by simp; exact hS.1, fun q g1 g2 => by
      rw [oq q (fun e => g2 (by rw [e]; exact jA hy.1))]
      exact hS.2.1 q g1 g2, fun q hq => by
      rcases List.mem_append.mp hq with h | h
      · exact hS.2.2 q h
      · obtain ⟨z, -, hz⟩ := List.mem_map.mp h
        rw [← hz]
        exact jA hy.1⟩ hl hZ _ hheap X'
  exact ⟨t, step t a1, b1⟩
end
