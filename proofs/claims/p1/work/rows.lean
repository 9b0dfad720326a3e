section
-- ===== PART A: goes FIRST, ahead of the names: the tables' words, and 'selects' of the private methods out of them =====
/-- a private method of a class that the tables say can be made, by its rows of tables_1 -/
def lw_okq (q : MethodName × Nat) : Prop := (q.1.cls ≠ "java/lang/invoke/MethodHandle" ∧ q.1.cls ≠ "java/lang/invoke/VarHandle") ∧ Cond.instantiable q.1.cls q.2 ∈ tables_1 ∧ Cond.privateMethod q.1 ∈ tables_1 ∧ Cond.instanceMethod q.1 ∈ tables_1
theorem lw_p0 : lw_okq (⟨"TailorRegiment$Roll", "setDefaults", "()V"⟩, 10) := ⟨⟨by decide +kernel, by decide +kernel⟩, List.mem_of_getElem? (i := 67) (by decide +kernel), List.mem_of_getElem? (i := 101) (by decide +kernel), List.mem_of_getElem? (i := 102) (by decide +kernel)⟩
theorem lw_p1 : lw_okq (⟨"TailorRegiment$Tape", "isLetter", "(I)Z"⟩, 6) := ⟨⟨by decide +kernel, by decide +kernel⟩, List.mem_of_getElem? (i := 31) (by decide +kernel), List.mem_of_getElem? (i := 463) (by decide +kernel), List.mem_of_getElem? (i := 464) (by decide +kernel)⟩
theorem lw_p2 : lw_okq (⟨"TailorRegiment$Tape", "wordKind", "()I"⟩, 6) := ⟨⟨by decide +kernel, by decide +kernel⟩, List.mem_of_getElem? (i := 31) (by decide +kernel), List.mem_of_getElem? (i := 467) (by decide +kernel), List.mem_of_getElem? (i := 468) (by decide +kernel)⟩
theorem lw_p3 : lw_okq (⟨"TailorRegiment$Tape", "isDigit", "(I)Z"⟩, 6) := ⟨⟨by decide +kernel, by decide +kernel⟩, List.mem_of_getElem? (i := 31) (by decide +kernel), List.mem_of_getElem? (i := 520) (by decide +kernel), List.mem_of_getElem? (i := 521) (by decide +kernel)⟩
theorem lw_p4 : lw_okq (⟨"TailorRegiment$Reader", "line", "()Z"⟩, 7) := ⟨⟨by decide +kernel, by decide +kernel⟩, List.mem_of_getElem? (i := 61) (by decide +kernel), List.mem_of_getElem? (i := 584) (by decide +kernel), List.mem_of_getElem? (i := 585) (by decide +kernel)⟩
theorem lw_p5 : lw_okq (⟨"TailorRegiment$Reader", "manLine", "()Z"⟩, 7) := ⟨⟨by decide +kernel, by decide +kernel⟩, List.mem_of_getElem? (i := 61) (by decide +kernel), List.mem_of_getElem? (i := 588) (by decide +kernel), List.mem_of_getElem? (i := 589) (by decide +kernel)⟩
theorem lw_p6 : lw_okq (⟨"TailorRegiment$Reader", "refuse", "()Z"⟩, 7) := ⟨⟨by decide +kernel, by decide +kernel⟩, List.mem_of_getElem? (i := 61) (by decide +kernel), List.mem_of_getElem? (i := 592) (by decide +kernel), List.mem_of_getElem? (i := 593) (by decide +kernel)⟩
theorem lw_p7 : lw_okq (⟨"TailorRegiment$Reader", "refuseAs", "(I)Z"⟩, 7) := ⟨⟨by decide +kernel, by decide +kernel⟩, List.mem_of_getElem? (i := 61) (by decide +kernel), List.mem_of_getElem? (i := 596) (by decide +kernel), List.mem_of_getElem? (i := 597) (by decide +kernel)⟩
theorem lw_p8 : lw_okq (⟨"TailorRegiment$Reader", "name", "([II)Z"⟩, 7) := ⟨⟨by decide +kernel, by decide +kernel⟩, List.mem_of_getElem? (i := 61) (by decide +kernel), List.mem_of_getElem? (i := 601) (by decide +kernel), List.mem_of_getElem? (i := 602) (by decide +kernel)⟩
theorem lw_p9 : lw_okq (⟨"TailorRegiment$Reader", "labelled", "(II)I"⟩, 7) := ⟨⟨by decide +kernel, by decide +kernel⟩, List.mem_of_getElem? (i := 61) (by decide +kernel), List.mem_of_getElem? (i := 609) (by decide +kernel), List.mem_of_getElem? (i := 610) (by decide +kernel)⟩
theorem lw_p10 : lw_okq (⟨"TailorRegiment$Reader", "numbered", "(I)I"⟩, 7) := ⟨⟨by decide +kernel, by decide +kernel⟩, List.mem_of_getElem? (i := 61) (by decide +kernel), List.mem_of_getElem? (i := 613) (by decide +kernel), List.mem_of_getElem? (i := 614) (by decide +kernel)⟩
theorem lw_p11 : lw_okq (⟨"TailorRegiment$Reader", "closing", "()Z"⟩, 7) := ⟨⟨by decide +kernel, by decide +kernel⟩, List.mem_of_getElem? (i := 61) (by decide +kernel), List.mem_of_getElem? (i := 621) (by decide +kernel), List.mem_of_getElem? (i := 622) (by decide +kernel)⟩
theorem lw_p12 : lw_okq (⟨"TailorRegiment$Reader", "taken", "(I)Z"⟩, 7) := ⟨⟨by decide +kernel, by decide +kernel⟩, List.mem_of_getElem? (i := 61) (by decide +kernel), List.mem_of_getElem? (i := 625) (by decide +kernel), List.mem_of_getElem? (i := 626) (by decide +kernel)⟩
theorem lw_p13 : lw_okq (⟨"TailorRegiment$Reader", "coatLine", "()Z"⟩, 7) := ⟨⟨by decide +kernel, by decide +kernel⟩, List.mem_of_getElem? (i := 61) (by decide +kernel), List.mem_of_getElem? (i := 629) (by decide +kernel), List.mem_of_getElem? (i := 630) (by decide +kernel)⟩
theorem lw_p14 : lw_okq (⟨"TailorRegiment$Reader", "opened", "(I)Z"⟩, 7) := ⟨⟨by decide +kernel, by decide +kernel⟩, List.mem_of_getElem? (i := 61) (by decide +kernel), List.mem_of_getElem? (i := 637) (by decide +kernel), List.mem_of_getElem? (i := 638) (by decide +kernel)⟩
theorem lw_p15 : lw_okq (⟨"TailorRegiment$Reader", "expression", "(II)Z"⟩, 7) := ⟨⟨by decide +kernel, by decide +kernel⟩, List.mem_of_getElem? (i := 61) (by decide +kernel), List.mem_of_getElem? (i := 641) (by decide +kernel), List.mem_of_getElem? (i := 642) (by decide +kernel)⟩
def lw_privs_1 : List (MethodName × Nat) := [(⟨"TailorRegiment$Roll", "setDefaults", "()V"⟩, 10), (⟨"TailorRegiment$Tape", "isLetter", "(I)Z"⟩, 6), (⟨"TailorRegiment$Tape", "wordKind", "()I"⟩, 6), (⟨"TailorRegiment$Tape", "isDigit", "(I)Z"⟩, 6), (⟨"TailorRegiment$Reader", "line", "()Z"⟩, 7), (⟨"TailorRegiment$Reader", "manLine", "()Z"⟩, 7), (⟨"TailorRegiment$Reader", "refuse", "()Z"⟩, 7), (⟨"TailorRegiment$Reader", "refuseAs", "(I)Z"⟩, 7), (⟨"TailorRegiment$Reader", "name", "([II)Z"⟩, 7), (⟨"TailorRegiment$Reader", "labelled", "(II)I"⟩, 7), (⟨"TailorRegiment$Reader", "numbered", "(I)I"⟩, 7), (⟨"TailorRegiment$Reader", "closing", "()Z"⟩, 7), (⟨"TailorRegiment$Reader", "taken", "(I)Z"⟩, 7), (⟨"TailorRegiment$Reader", "coatLine", "()Z"⟩, 7), (⟨"TailorRegiment$Reader", "opened", "(I)Z"⟩, 7), (⟨"TailorRegiment$Reader", "expression", "(II)Z"⟩, 7)]
theorem lw_r1 : ∀ q ∈ lw_privs_1, lw_okq q := List.forall_mem_cons.mpr ⟨lw_p0, List.forall_mem_cons.mpr ⟨lw_p1, List.forall_mem_cons.mpr ⟨lw_p2, List.forall_mem_cons.mpr ⟨lw_p3, List.forall_mem_cons.mpr ⟨lw_p4, List.forall_mem_cons.mpr ⟨lw_p5, List.forall_mem_cons.mpr ⟨lw_p6, List.forall_mem_cons.mpr ⟨lw_p7, List.forall_mem_cons.mpr ⟨lw_p8, List.forall_mem_cons.mpr ⟨lw_p9, List.forall_mem_cons.mpr ⟨lw_p10, List.forall_mem_cons.mpr ⟨lw_p11, List.forall_mem_cons.mpr ⟨lw_p12, List.forall_mem_cons.mpr ⟨lw_p13, List.forall_mem_cons.mpr ⟨lw_p14, List.forall_mem_cons.mpr ⟨lw_p15, fun _ h => absurd h List.not_mem_nil⟩⟩⟩⟩⟩⟩⟩⟩⟩⟩⟩⟩⟩⟩⟩⟩
theorem lw_p16 : lw_okq (⟨"TailorRegiment$Reader", "unit", "(I)Z"⟩, 7) := ⟨⟨by decide +kernel, by decide +kernel⟩, List.mem_of_getElem? (i := 61) (by decide +kernel), List.mem_of_getElem? (i := 645) (by decide +kernel), List.mem_of_getElem? (i := 646) (by decide +kernel)⟩
theorem lw_p17 : lw_okq (⟨"TailorRegiment$Reader", "negation", "(I)Z"⟩, 7) := ⟨⟨by decide +kernel, by decide +kernel⟩, List.mem_of_getElem? (i := 61) (by decide +kernel), List.mem_of_getElem? (i := 653) (by decide +kernel), List.mem_of_getElem? (i := 654) (by decide +kernel)⟩
theorem lw_p18 : lw_okq (⟨"TailorRegiment$Reader", "settingLine", "(I)Z"⟩, 7) := ⟨⟨by decide +kernel, by decide +kernel⟩, List.mem_of_getElem? (i := 61) (by decide +kernel), List.mem_of_getElem? (i := 660) (by decide +kernel), List.mem_of_getElem? (i := 661) (by decide +kernel)⟩
theorem lw_p19 : lw_okq (⟨"TailorRegiment$Memory", "forgetActs", "()V"⟩, 7) := ⟨⟨by decide +kernel, by decide +kernel⟩, List.mem_of_getElem? (i := 226) (by decide +kernel), List.mem_of_getElem? (i := 683) (by decide +kernel), List.mem_of_getElem? (i := 684) (by decide +kernel)⟩
theorem lw_p20 : lw_okq (⟨"TailorRegiment$Company", "weather", "(II)V"⟩, 2) := ⟨⟨by decide +kernel, by decide +kernel⟩, List.mem_of_getElem? (i := 193) (by decide +kernel), List.mem_of_getElem? (i := 771) (by decide +kernel), List.mem_of_getElem? (i := 772) (by decide +kernel)⟩
theorem lw_p21 : lw_okq (⟨"TailorRegiment", "widen", "(II)I"⟩, 10) := ⟨⟨by decide +kernel, by decide +kernel⟩, List.mem_of_getElem? (i := 23) (by decide +kernel), List.mem_of_getElem? (i := 801) (by decide +kernel), List.mem_of_getElem? (i := 802) (by decide +kernel)⟩
theorem lw_p22 : lw_okq (⟨"TailorRegiment$Choices", "reckonGains", "()V"⟩, 8) := ⟨⟨by decide +kernel, by decide +kernel⟩, List.mem_of_getElem? (i := 325) (by decide +kernel), List.mem_of_getElem? (i := 876) (by decide +kernel), List.mem_of_getElem? (i := 877) (by decide +kernel)⟩
theorem lw_p23 : lw_okq (⟨"TailorRegiment$Choices", "reckonBest", "()V"⟩, 8) := ⟨⟨by decide +kernel, by decide +kernel⟩, List.mem_of_getElem? (i := 325) (by decide +kernel), List.mem_of_getElem? (i := 881) (by decide +kernel), List.mem_of_getElem? (i := 882) (by decide +kernel)⟩
theorem lw_p24 : lw_okq (⟨"TailorRegiment$Choices", "worthOf", "(III)I"⟩, 8) := ⟨⟨by decide +kernel, by decide +kernel⟩, List.mem_of_getElem? (i := 325) (by decide +kernel), List.mem_of_getElem? (i := 886) (by decide +kernel), List.mem_of_getElem? (i := 887) (by decide +kernel)⟩
theorem lw_p25 : lw_okq (⟨"TailorRegiment$Choices", "firstBest", "(II)I"⟩, 8) := ⟨⟨by decide +kernel, by decide +kernel⟩, List.mem_of_getElem? (i := 325) (by decide +kernel), List.mem_of_getElem? (i := 892) (by decide +kernel), List.mem_of_getElem? (i := 893) (by decide +kernel)⟩
theorem lw_p26 : lw_okq (⟨"TailorRegiment$Choices", "lay", "(I)V"⟩, 8) := ⟨⟨by decide +kernel, by decide +kernel⟩, List.mem_of_getElem? (i := 325) (by decide +kernel), List.mem_of_getElem? (i := 896) (by decide +kernel), List.mem_of_getElem? (i := 897) (by decide +kernel)⟩
theorem lw_p27 : lw_okq (⟨"TailorRegiment$Fitting", "sewnFits", "(IIII)Z"⟩, 10) := ⟨⟨by decide +kernel, by decide +kernel⟩, List.mem_of_getElem? (i := 263) (by decide +kernel), List.mem_of_getElem? (i := 909) (by decide +kernel), List.mem_of_getElem? (i := 910) (by decide +kernel)⟩
theorem lw_p28 : lw_okq (⟨"TailorRegiment$Fitting", "rotaCount", "(I)I"⟩, 10) := ⟨⟨by decide +kernel, by decide +kernel⟩, List.mem_of_getElem? (i := 263) (by decide +kernel), List.mem_of_getElem? (i := 929) (by decide +kernel), List.mem_of_getElem? (i := 930) (by decide +kernel)⟩
theorem lw_p29 : lw_okq (⟨"TailorRegiment$Fitting", "changedCount", "(II)I"⟩, 10) := ⟨⟨by decide +kernel, by decide +kernel⟩, List.mem_of_getElem? (i := 263) (by decide +kernel), List.mem_of_getElem? (i := 949) (by decide +kernel), List.mem_of_getElem? (i := 950) (by decide +kernel)⟩
theorem lw_p30 : lw_okq (⟨"TailorRegiment$Cutting", "isEvener", "(II)Z"⟩, 3) := ⟨⟨by decide +kernel, by decide +kernel⟩, List.mem_of_getElem? (i := 309) (by decide +kernel), List.mem_of_getElem? (i := 984) (by decide +kernel), List.mem_of_getElem? (i := 985) (by decide +kernel)⟩
theorem lw_p31 : lw_okq (⟨"TailorRegiment$Cutting", "leastLength", "(I)I"⟩, 3) := ⟨⟨by decide +kernel, by decide +kernel⟩, List.mem_of_getElem? (i := 309) (by decide +kernel), List.mem_of_getElem? (i := 1002) (by decide +kernel), List.mem_of_getElem? (i := 1003) (by decide +kernel)⟩
def lw_privs_2 : List (MethodName × Nat) := [(⟨"TailorRegiment$Reader", "unit", "(I)Z"⟩, 7), (⟨"TailorRegiment$Reader", "negation", "(I)Z"⟩, 7), (⟨"TailorRegiment$Reader", "settingLine", "(I)Z"⟩, 7), (⟨"TailorRegiment$Memory", "forgetActs", "()V"⟩, 7), (⟨"TailorRegiment$Company", "weather", "(II)V"⟩, 2), (⟨"TailorRegiment", "widen", "(II)I"⟩, 10), (⟨"TailorRegiment$Choices", "reckonGains", "()V"⟩, 8), (⟨"TailorRegiment$Choices", "reckonBest", "()V"⟩, 8), (⟨"TailorRegiment$Choices", "worthOf", "(III)I"⟩, 8), (⟨"TailorRegiment$Choices", "firstBest", "(II)I"⟩, 8), (⟨"TailorRegiment$Choices", "lay", "(I)V"⟩, 8), (⟨"TailorRegiment$Fitting", "sewnFits", "(IIII)Z"⟩, 10), (⟨"TailorRegiment$Fitting", "rotaCount", "(I)I"⟩, 10), (⟨"TailorRegiment$Fitting", "changedCount", "(II)I"⟩, 10), (⟨"TailorRegiment$Cutting", "isEvener", "(II)Z"⟩, 3), (⟨"TailorRegiment$Cutting", "leastLength", "(I)I"⟩, 3)]
theorem lw_r2 : ∀ q ∈ lw_privs_2, lw_okq q := List.forall_mem_cons.mpr ⟨lw_p16, List.forall_mem_cons.mpr ⟨lw_p17, List.forall_mem_cons.mpr ⟨lw_p18, List.forall_mem_cons.mpr ⟨lw_p19, List.forall_mem_cons.mpr ⟨lw_p20, List.forall_mem_cons.mpr ⟨lw_p21, List.forall_mem_cons.mpr ⟨lw_p22, List.forall_mem_cons.mpr ⟨lw_p23, List.forall_mem_cons.mpr ⟨lw_p24, List.forall_mem_cons.mpr ⟨lw_p25, List.forall_mem_cons.mpr ⟨lw_p26, List.forall_mem_cons.mpr ⟨lw_p27, List.forall_mem_cons.mpr ⟨lw_p28, List.forall_mem_cons.mpr ⟨lw_p29, List.forall_mem_cons.mpr ⟨lw_p30, List.forall_mem_cons.mpr ⟨lw_p31, fun _ h => absurd h List.not_mem_nil⟩⟩⟩⟩⟩⟩⟩⟩⟩⟩⟩⟩⟩⟩⟩⟩
theorem lw_p32 : lw_okq (⟨"TailorRegiment$Cutting", "rowLength", "(I)I"⟩, 3) := ⟨⟨by decide +kernel, by decide +kernel⟩, List.mem_of_getElem? (i := 309) (by decide +kernel), List.mem_of_getElem? (i := 1006) (by decide +kernel), List.mem_of_getElem? (i := 1007) (by decide +kernel)⟩
theorem lw_p33 : lw_okq (⟨"TailorRegiment$Choices", "painted", "(II)Z"⟩, 8) := ⟨⟨by decide +kernel, by decide +kernel⟩, List.mem_of_getElem? (i := 325) (by decide +kernel), List.mem_of_getElem? (i := 1020) (by decide +kernel), List.mem_of_getElem? (i := 1021) (by decide +kernel)⟩
theorem lw_p34 : lw_okq (⟨"TailorRegiment$Choices", "isClear", "(II)Z"⟩, 8) := ⟨⟨by decide +kernel, by decide +kernel⟩, List.mem_of_getElem? (i := 325) (by decide +kernel), List.mem_of_getElem? (i := 1024) (by decide +kernel), List.mem_of_getElem? (i := 1025) (by decide +kernel)⟩
theorem lw_p35 : lw_okq (⟨"TailorRegiment$Choices", "isFree", "(I)Z"⟩, 8) := ⟨⟨by decide +kernel, by decide +kernel⟩, List.mem_of_getElem? (i := 325) (by decide +kernel), List.mem_of_getElem? (i := 1038) (by decide +kernel), List.mem_of_getElem? (i := 1039) (by decide +kernel)⟩
theorem lw_p36 : lw_okq (⟨"TailorRegiment$Choices", "isContent", "(III)Z"⟩, 8) := ⟨⟨by decide +kernel, by decide +kernel⟩, List.mem_of_getElem? (i := 325) (by decide +kernel), List.mem_of_getElem? (i := 1043) (by decide +kernel), List.mem_of_getElem? (i := 1044) (by decide +kernel)⟩
theorem lw_p37 : lw_okq (⟨"TailorRegiment$Choices", "illGetting", "(III)I"⟩, 8) := ⟨⟨by decide +kernel, by decide +kernel⟩, List.mem_of_getElem? (i := 325) (by decide +kernel), List.mem_of_getElem? (i := 1047) (by decide +kernel), List.mem_of_getElem? (i := 1048) (by decide +kernel)⟩
theorem lw_p38 : lw_okq (⟨"TailorRegiment$Sightings", "fittingBehind", "(I)I"⟩, 7) := ⟨⟨by decide +kernel, by decide +kernel⟩, List.mem_of_getElem? (i := 359) (by decide +kernel), List.mem_of_getElem? (i := 1153) (by decide +kernel), List.mem_of_getElem? (i := 1154) (by decide +kernel)⟩
theorem lw_p39 : lw_okq (⟨"TailorRegiment$Sightings", "fitsGrown", "(II)Z"⟩, 7) := ⟨⟨by decide +kernel, by decide +kernel⟩, List.mem_of_getElem? (i := 359) (by decide +kernel), List.mem_of_getElem? (i := 1157) (by decide +kernel), List.mem_of_getElem? (i := 1158) (by decide +kernel)⟩
theorem lw_p40 : lw_okq (⟨"TailorRegimentModel", "four", "(I)V"⟩, 79) := ⟨⟨by decide +kernel, by decide +kernel⟩, List.mem_of_getElem? (i := 1215) (by decide +kernel), List.mem_of_getElem? (i := 1464) (by decide +kernel), List.mem_of_getElem? (i := 1465) (by decide +kernel)⟩
theorem lw_p41 : lw_okq (⟨"TailorRegimentModel", "readAll", "()V"⟩, 79) := ⟨⟨by decide +kernel, by decide +kernel⟩, List.mem_of_getElem? (i := 1215) (by decide +kernel), List.mem_of_getElem? (i := 1476) (by decide +kernel), List.mem_of_getElem? (i := 1477) (by decide +kernel)⟩
theorem lw_p42 : lw_okq (⟨"TailorRegimentModel", "token", "()V"⟩, 79) := ⟨⟨by decide +kernel, by decide +kernel⟩, List.mem_of_getElem? (i := 1215) (by decide +kernel), List.mem_of_getElem? (i := 1480) (by decide +kernel), List.mem_of_getElem? (i := 1481) (by decide +kernel)⟩
theorem lw_p43 : lw_okq (⟨"TailorRegimentModel", "here", "(I)I"⟩, 79) := ⟨⟨by decide +kernel, by decide +kernel⟩, List.mem_of_getElem? (i := 1215) (by decide +kernel), List.mem_of_getElem? (i := 1484) (by decide +kernel), List.mem_of_getElem? (i := 1485) (by decide +kernel)⟩
theorem lw_p44 : lw_okq (⟨"TailorRegimentModel", "readLine", "()V"⟩, 79) := ⟨⟨by decide +kernel, by decide +kernel⟩, List.mem_of_getElem? (i := 1215) (by decide +kernel), List.mem_of_getElem? (i := 1497) (by decide +kernel), List.mem_of_getElem? (i := 1498) (by decide +kernel)⟩
theorem lw_p45 : lw_okq (⟨"TailorRegimentModel", "isWord", "(J)Z"⟩, 79) := ⟨⟨by decide +kernel, by decide +kernel⟩, List.mem_of_getElem? (i := 1215) (by decide +kernel), List.mem_of_getElem? (i := 1502) (by decide +kernel), List.mem_of_getElem? (i := 1503) (by decide +kernel)⟩
theorem lw_p46 : lw_okq (⟨"TailorRegimentModel", "readMan", "()V"⟩, 79) := ⟨⟨by decide +kernel, by decide +kernel⟩, List.mem_of_getElem? (i := 1215) (by decide +kernel), List.mem_of_getElem? (i := 1506) (by decide +kernel), List.mem_of_getElem? (i := 1507) (by decide +kernel)⟩
theorem lw_p47 : lw_okq (⟨"TailorRegimentModel", "newName", "(II)V"⟩, 79) := ⟨⟨by decide +kernel, by decide +kernel⟩, List.mem_of_getElem? (i := 1215) (by decide +kernel), List.mem_of_getElem? (i := 1510) (by decide +kernel), List.mem_of_getElem? (i := 1511) (by decide +kernel)⟩
def lw_privs_3 : List (MethodName × Nat) := [(⟨"TailorRegiment$Cutting", "rowLength", "(I)I"⟩, 3), (⟨"TailorRegiment$Choices", "painted", "(II)Z"⟩, 8), (⟨"TailorRegiment$Choices", "isClear", "(II)Z"⟩, 8), (⟨"TailorRegiment$Choices", "isFree", "(I)Z"⟩, 8), (⟨"TailorRegiment$Choices", "isContent", "(III)Z"⟩, 8), (⟨"TailorRegiment$Choices", "illGetting", "(III)I"⟩, 8), (⟨"TailorRegiment$Sightings", "fittingBehind", "(I)I"⟩, 7), (⟨"TailorRegiment$Sightings", "fitsGrown", "(II)Z"⟩, 7), (⟨"TailorRegimentModel", "four", "(I)V"⟩, 79), (⟨"TailorRegimentModel", "readAll", "()V"⟩, 79), (⟨"TailorRegimentModel", "token", "()V"⟩, 79), (⟨"TailorRegimentModel", "here", "(I)I"⟩, 79), (⟨"TailorRegimentModel", "readLine", "()V"⟩, 79), (⟨"TailorRegimentModel", "isWord", "(J)Z"⟩, 79), (⟨"TailorRegimentModel", "readMan", "()V"⟩, 79), (⟨"TailorRegimentModel", "newName", "(II)V"⟩, 79)]
theorem lw_r3 : ∀ q ∈ lw_privs_3, lw_okq q := List.forall_mem_cons.mpr ⟨lw_p32, List.forall_mem_cons.mpr ⟨lw_p33, List.forall_mem_cons.mpr ⟨lw_p34, List.forall_mem_cons.mpr ⟨lw_p35, List.forall_mem_cons.mpr ⟨lw_p36, List.forall_mem_cons.mpr ⟨lw_p37, List.forall_mem_cons.mpr ⟨lw_p38, List.forall_mem_cons.mpr ⟨lw_p39, List.forall_mem_cons.mpr ⟨lw_p40, List.forall_mem_cons.mpr ⟨lw_p41, List.forall_mem_cons.mpr ⟨lw_p42, List.forall_mem_cons.mpr ⟨lw_p43, List.forall_mem_cons.mpr ⟨lw_p44, List.forall_mem_cons.mpr ⟨lw_p45, List.forall_mem_cons.mpr ⟨lw_p46, List.forall_mem_cons.mpr ⟨lw_p47, fun _ h => absurd h List.not_mem_nil⟩⟩⟩⟩⟩⟩⟩⟩⟩⟩⟩⟩⟩⟩⟩⟩
theorem lw_p48 : lw_okq (⟨"TailorRegimentModel", "isName", "()Z"⟩, 79) := ⟨⟨by decide +kernel, by decide +kernel⟩, List.mem_of_getElem? (i := 1215) (by decide +kernel), List.mem_of_getElem? (i := 1514) (by decide +kernel), List.mem_of_getElem? (i := 1515) (by decide +kernel)⟩
theorem lw_p49 : lw_okq (⟨"TailorRegimentModel", "isOwn", "()Z"⟩, 79) := ⟨⟨by decide +kernel, by decide +kernel⟩, List.mem_of_getElem? (i := 1215) (by decide +kernel), List.mem_of_getElem? (i := 1518) (by decide +kernel), List.mem_of_getElem? (i := 1519) (by decide +kernel)⟩
theorem lw_p50 : lw_okq (⟨"TailorRegimentModel", "wrong", "(I)V"⟩, 79) := ⟨⟨by decide +kernel, by decide +kernel⟩, List.mem_of_getElem? (i := 1215) (by decide +kernel), List.mem_of_getElem? (i := 1542) (by decide +kernel), List.mem_of_getElem? (i := 1543) (by decide +kernel)⟩
theorem lw_p51 : lw_okq (⟨"TailorRegimentModel", "told", "(JI)I"⟩, 79) := ⟨⟨by decide +kernel, by decide +kernel⟩, List.mem_of_getElem? (i := 1215) (by decide +kernel), List.mem_of_getElem? (i := 1546) (by decide +kernel), List.mem_of_getElem? (i := 1547) (by decide +kernel)⟩
theorem lw_p52 : lw_okq (⟨"TailorRegimentModel", "want", "(J)V"⟩, 79) := ⟨⟨by decide +kernel, by decide +kernel⟩, List.mem_of_getElem? (i := 1215) (by decide +kernel), List.mem_of_getElem? (i := 1550) (by decide +kernel), List.mem_of_getElem? (i := 1551) (by decide +kernel)⟩
theorem lw_p53 : lw_okq (⟨"TailorRegimentModel", "toldNumber", "(II)I"⟩, 79) := ⟨⟨by decide +kernel, by decide +kernel⟩, List.mem_of_getElem? (i := 1215) (by decide +kernel), List.mem_of_getElem? (i := 1554) (by decide +kernel), List.mem_of_getElem? (i := 1555) (by decide +kernel)⟩
theorem lw_p54 : lw_okq (⟨"TailorRegimentModel", "option", "(JI)I"⟩, 79) := ⟨⟨by decide +kernel, by decide +kernel⟩, List.mem_of_getElem? (i := 1215) (by decide +kernel), List.mem_of_getElem? (i := 1558) (by decide +kernel), List.mem_of_getElem? (i := 1559) (by decide +kernel)⟩
theorem lw_p55 : lw_okq (⟨"TailorRegimentModel", "readCoat", "()V"⟩, 79) := ⟨⟨by decide +kernel, by decide +kernel⟩, List.mem_of_getElem? (i := 1215) (by decide +kernel), List.mem_of_getElem? (i := 1562) (by decide +kernel), List.mem_of_getElem? (i := 1563) (by decide +kernel)⟩
theorem lw_p56 : lw_okq (⟨"TailorRegimentModel", "formula", "()V"⟩, 79) := ⟨⟨by decide +kernel, by decide +kernel⟩, List.mem_of_getElem? (i := 1215) (by decide +kernel), List.mem_of_getElem? (i := 1566) (by decide +kernel), List.mem_of_getElem? (i := 1567) (by decide +kernel)⟩
theorem lw_p57 : lw_okq (⟨"TailorRegimentModel", "unit", "()V"⟩, 79) := ⟨⟨by decide +kernel, by decide +kernel⟩, List.mem_of_getElem? (i := 1215) (by decide +kernel), List.mem_of_getElem? (i := 1570) (by decide +kernel), List.mem_of_getElem? (i := 1571) (by decide +kernel)⟩
theorem lw_p58 : lw_okq (⟨"TailorRegimentModel", "mayNot", "()Z"⟩, 79) := ⟨⟨by decide +kernel, by decide +kernel⟩, List.mem_of_getElem? (i := 1215) (by decide +kernel), List.mem_of_getElem? (i := 1574) (by decide +kernel), List.mem_of_getElem? (i := 1575) (by decide +kernel)⟩
theorem lw_p59 : lw_okq (⟨"TailorRegimentModel", "openUp", "(I)V"⟩, 79) := ⟨⟨by decide +kernel, by decide +kernel⟩, List.mem_of_getElem? (i := 1215) (by decide +kernel), List.mem_of_getElem? (i := 1581) (by decide +kernel), List.mem_of_getElem? (i := 1582) (by decide +kernel)⟩
theorem lw_p60 : lw_okq (⟨"TailorRegimentModel", "isFull", "()Z"⟩, 79) := ⟨⟨by decide +kernel, by decide +kernel⟩, List.mem_of_getElem? (i := 1215) (by decide +kernel), List.mem_of_getElem? (i := 1585) (by decide +kernel), List.mem_of_getElem? (i := 1586) (by decide +kernel)⟩
theorem lw_p61 : lw_okq (⟨"TailorRegimentModel", "countUnit", "()V"⟩, 79) := ⟨⟨by decide +kernel, by decide +kernel⟩, List.mem_of_getElem? (i := 1215) (by decide +kernel), List.mem_of_getElem? (i := 1589) (by decide +kernel), List.mem_of_getElem? (i := 1590) (by decide +kernel)⟩
theorem lw_p62 : lw_okq (⟨"TailorRegimentModel", "asked", "()I"⟩, 79) := ⟨⟨by decide +kernel, by decide +kernel⟩, List.mem_of_getElem? (i := 1215) (by decide +kernel), List.mem_of_getElem? (i := 1593) (by decide +kernel), List.mem_of_getElem? (i := 1594) (by decide +kernel)⟩
theorem lw_p63 : lw_okq (⟨"TailorRegimentModel", "add", "(II)V"⟩, 79) := ⟨⟨by decide +kernel, by decide +kernel⟩, List.mem_of_getElem? (i := 1215) (by decide +kernel), List.mem_of_getElem? (i := 1597) (by decide +kernel), List.mem_of_getElem? (i := 1598) (by decide +kernel)⟩
def lw_privs_4 : List (MethodName × Nat) := [(⟨"TailorRegimentModel", "isName", "()Z"⟩, 79), (⟨"TailorRegimentModel", "isOwn", "()Z"⟩, 79), (⟨"TailorRegimentModel", "wrong", "(I)V"⟩, 79), (⟨"TailorRegimentModel", "told", "(JI)I"⟩, 79), (⟨"TailorRegimentModel", "want", "(J)V"⟩, 79), (⟨"TailorRegimentModel", "toldNumber", "(II)I"⟩, 79), (⟨"TailorRegimentModel", "option", "(JI)I"⟩, 79), (⟨"TailorRegimentModel", "readCoat", "()V"⟩, 79), (⟨"TailorRegimentModel", "formula", "()V"⟩, 79), (⟨"TailorRegimentModel", "unit", "()V"⟩, 79), (⟨"TailorRegimentModel", "mayNot", "()Z"⟩, 79), (⟨"TailorRegimentModel", "openUp", "(I)V"⟩, 79), (⟨"TailorRegimentModel", "isFull", "()Z"⟩, 79), (⟨"TailorRegimentModel", "countUnit", "()V"⟩, 79), (⟨"TailorRegimentModel", "asked", "()I"⟩, 79), (⟨"TailorRegimentModel", "add", "(II)V"⟩, 79)]
theorem lw_r4 : ∀ q ∈ lw_privs_4, lw_okq q := List.forall_mem_cons.mpr ⟨lw_p48, List.forall_mem_cons.mpr ⟨lw_p49, List.forall_mem_cons.mpr ⟨lw_p50, List.forall_mem_cons.mpr ⟨lw_p51, List.forall_mem_cons.mpr ⟨lw_p52, List.forall_mem_cons.mpr ⟨lw_p53, List.forall_mem_cons.mpr ⟨lw_p54, List.forall_mem_cons.mpr ⟨lw_p55, List.forall_mem_cons.mpr ⟨lw_p56, List.forall_mem_cons.mpr ⟨lw_p57, List.forall_mem_cons.mpr ⟨lw_p58, List.forall_mem_cons.mpr ⟨lw_p59, List.forall_mem_cons.mpr ⟨lw_p60, List.forall_mem_cons.mpr ⟨lw_p61, List.forall_mem_cons.mpr ⟨lw_p62, List.forall_mem_cons.mpr ⟨lw_p63, fun _ h => absurd h List.not_mem_nil⟩⟩⟩⟩⟩⟩⟩⟩⟩⟩⟩⟩⟩⟩⟩⟩
theorem lw_p64 : lw_okq (⟨"TailorRegimentModel", "sign", "()I"⟩, 79) := ⟨⟨by decide +kernel, by decide +kernel⟩, List.mem_of_getElem? (i := 1215) (by decide +kernel), List.mem_of_getElem? (i := 1601) (by decide +kernel), List.mem_of_getElem? (i := 1602) (by decide +kernel)⟩
theorem lw_p65 : lw_okq (⟨"TailorRegimentModel", "hasBracket", "()Z"⟩, 79) := ⟨⟨by decide +kernel, by decide +kernel⟩, List.mem_of_getElem? (i := 1215) (by decide +kernel), List.mem_of_getElem? (i := 1605) (by decide +kernel), List.mem_of_getElem? (i := 1606) (by decide +kernel)⟩
theorem lw_p66 : lw_okq (⟨"TailorRegimentModel", "close", "(I)V"⟩, 79) := ⟨⟨by decide +kernel, by decide +kernel⟩, List.mem_of_getElem? (i := 1215) (by decide +kernel), List.mem_of_getElem? (i := 1609) (by decide +kernel), List.mem_of_getElem? (i := 1610) (by decide +kernel)⟩
theorem lw_p67 : lw_okq (⟨"TailorRegimentModel", "hasRelation", "()Z"⟩, 79) := ⟨⟨by decide +kernel, by decide +kernel⟩, List.mem_of_getElem? (i := 1215) (by decide +kernel), List.mem_of_getElem? (i := 1613) (by decide +kernel), List.mem_of_getElem? (i := 1614) (by decide +kernel)⟩
theorem lw_p68 : lw_okq (⟨"TailorRegimentModel", "begin", "()V"⟩, 79) := ⟨⟨by decide +kernel, by decide +kernel⟩, List.mem_of_getElem? (i := 1215) (by decide +kernel), List.mem_of_getElem? (i := 1617) (by decide +kernel), List.mem_of_getElem? (i := 1618) (by decide +kernel)⟩
theorem lw_p69 : lw_okq (⟨"TailorRegimentModel", "keepAir", "()V"⟩, 79) := ⟨⟨by decide +kernel, by decide +kernel⟩, List.mem_of_getElem? (i := 1215) (by decide +kernel), List.mem_of_getElem? (i := 1621) (by decide +kernel), List.mem_of_getElem? (i := 1622) (by decide +kernel)⟩
theorem lw_p70 : lw_okq (⟨"TailorRegimentModel", "isMan", "(I)Z"⟩, 79) := ⟨⟨by decide +kernel, by decide +kernel⟩, List.mem_of_getElem? (i := 1215) (by decide +kernel), List.mem_of_getElem? (i := 1633) (by decide +kernel), List.mem_of_getElem? (i := 1634) (by decide +kernel)⟩
theorem lw_p71 : lw_okq (⟨"TailorRegimentModel", "fill", "()V"⟩, 79) := ⟨⟨by decide +kernel, by decide +kernel⟩, List.mem_of_getElem? (i := 1215) (by decide +kernel), List.mem_of_getElem? (i := 1640) (by decide +kernel), List.mem_of_getElem? (i := 1641) (by decide +kernel)⟩
theorem lw_p72 : lw_okq (⟨"TailorRegimentModel", "coatsFor", "(I)I"⟩, 79) := ⟨⟨by decide +kernel, by decide +kernel⟩, List.mem_of_getElem? (i := 1215) (by decide +kernel), List.mem_of_getElem? (i := 1644) (by decide +kernel), List.mem_of_getElem? (i := 1645) (by decide +kernel)⟩
theorem lw_p73 : lw_okq (⟨"TailorRegimentModel", "fits", "(II)Z"⟩, 79) := ⟨⟨by decide +kernel, by decide +kernel⟩, List.mem_of_getElem? (i := 1215) (by decide +kernel), List.mem_of_getElem? (i := 1648) (by decide +kernel), List.mem_of_getElem? (i := 1649) (by decide +kernel)⟩
theorem lw_p74 : lw_okq (⟨"TailorRegimentModel", "misfitOf", "(II)I"⟩, 79) := ⟨⟨by decide +kernel, by decide +kernel⟩, List.mem_of_getElem? (i := 1215) (by decide +kernel), List.mem_of_getElem? (i := 1652) (by decide +kernel), List.mem_of_getElem? (i := 1653) (by decide +kernel)⟩
theorem lw_p75 : lw_okq (⟨"TailorRegimentModel", "isCoat", "(I)Z"⟩, 79) := ⟨⟨by decide +kernel, by decide +kernel⟩, List.mem_of_getElem? (i := 1215) (by decide +kernel), List.mem_of_getElem? (i := 1672) (by decide +kernel), List.mem_of_getElem? (i := 1673) (by decide +kernel)⟩
theorem lw_p76 : lw_okq (⟨"TailorRegimentModel", "wearer", "(I)I"⟩, 79) := ⟨⟨by decide +kernel, by decide +kernel⟩, List.mem_of_getElem? (i := 1215) (by decide +kernel), List.mem_of_getElem? (i := 1676) (by decide +kernel), List.mem_of_getElem? (i := 1677) (by decide +kernel)⟩
theorem lw_p77 : lw_okq (⟨"TailorRegimentModel", "act", "()V"⟩, 79) := ⟨⟨by decide +kernel, by decide +kernel⟩, List.mem_of_getElem? (i := 1215) (by decide +kernel), List.mem_of_getElem? (i := 1688) (by decide +kernel), List.mem_of_getElem? (i := 1689) (by decide +kernel)⟩
theorem lw_p78 : lw_okq (⟨"TailorRegimentModel", "drawRain", "()Z"⟩, 79) := ⟨⟨by decide +kernel, by decide +kernel⟩, List.mem_of_getElem? (i := 1215) (by decide +kernel), List.mem_of_getElem? (i := 1692) (by decide +kernel), List.mem_of_getElem? (i := 1693) (by decide +kernel)⟩
theorem lw_p79 : lw_okq (⟨"TailorRegimentModel", "goDay", "(Z)I"⟩, 79) := ⟨⟨by decide +kernel, by decide +kernel⟩, List.mem_of_getElem? (i := 1215) (by decide +kernel), List.mem_of_getElem? (i := 1696) (by decide +kernel), List.mem_of_getElem? (i := 1697) (by decide +kernel)⟩
def lw_privs_5 : List (MethodName × Nat) := [(⟨"TailorRegimentModel", "sign", "()I"⟩, 79), (⟨"TailorRegimentModel", "hasBracket", "()Z"⟩, 79), (⟨"TailorRegimentModel", "close", "(I)V"⟩, 79), (⟨"TailorRegimentModel", "hasRelation", "()Z"⟩, 79), (⟨"TailorRegimentModel", "begin", "()V"⟩, 79), (⟨"TailorRegimentModel", "keepAir", "()V"⟩, 79), (⟨"TailorRegimentModel", "isMan", "(I)Z"⟩, 79), (⟨"TailorRegimentModel", "fill", "()V"⟩, 79), (⟨"TailorRegimentModel", "coatsFor", "(I)I"⟩, 79), (⟨"TailorRegimentModel", "fits", "(II)Z"⟩, 79), (⟨"TailorRegimentModel", "misfitOf", "(II)I"⟩, 79), (⟨"TailorRegimentModel", "isCoat", "(I)Z"⟩, 79), (⟨"TailorRegimentModel", "wearer", "(I)I"⟩, 79), (⟨"TailorRegimentModel", "act", "()V"⟩, 79), (⟨"TailorRegimentModel", "drawRain", "()Z"⟩, 79), (⟨"TailorRegimentModel", "goDay", "(Z)I"⟩, 79)]
theorem lw_r5 : ∀ q ∈ lw_privs_5, lw_okq q := List.forall_mem_cons.mpr ⟨lw_p64, List.forall_mem_cons.mpr ⟨lw_p65, List.forall_mem_cons.mpr ⟨lw_p66, List.forall_mem_cons.mpr ⟨lw_p67, List.forall_mem_cons.mpr ⟨lw_p68, List.forall_mem_cons.mpr ⟨lw_p69, List.forall_mem_cons.mpr ⟨lw_p70, List.forall_mem_cons.mpr ⟨lw_p71, List.forall_mem_cons.mpr ⟨lw_p72, List.forall_mem_cons.mpr ⟨lw_p73, List.forall_mem_cons.mpr ⟨lw_p74, List.forall_mem_cons.mpr ⟨lw_p75, List.forall_mem_cons.mpr ⟨lw_p76, List.forall_mem_cons.mpr ⟨lw_p77, List.forall_mem_cons.mpr ⟨lw_p78, List.forall_mem_cons.mpr ⟨lw_p79, fun _ h => absurd h List.not_mem_nil⟩⟩⟩⟩⟩⟩⟩⟩⟩⟩⟩⟩⟩⟩⟩⟩
theorem lw_p80 : lw_okq (⟨"TailorRegimentModel", "wearers", "()I"⟩, 79) := ⟨⟨by decide +kernel, by decide +kernel⟩, List.mem_of_getElem? (i := 1215) (by decide +kernel), List.mem_of_getElem? (i := 1706) (by decide +kernel), List.mem_of_getElem? (i := 1707) (by decide +kernel)⟩
theorem lw_p81 : lw_okq (⟨"TailorRegimentModel", "fittedOnes", "()I"⟩, 79) := ⟨⟨by decide +kernel, by decide +kernel⟩, List.mem_of_getElem? (i := 1215) (by decide +kernel), List.mem_of_getElem? (i := 1710) (by decide +kernel), List.mem_of_getElem? (i := 1711) (by decide +kernel)⟩
theorem lw_p82 : lw_okq (⟨"TailorRegimentModel", "fitsOwn", "(I)Z"⟩, 79) := ⟨⟨by decide +kernel, by decide +kernel⟩, List.mem_of_getElem? (i := 1215) (by decide +kernel), List.mem_of_getElem? (i := 1714) (by decide +kernel), List.mem_of_getElem? (i := 1715) (by decide +kernel)⟩
theorem lw_p83 : lw_okq (⟨"TailorRegimentModel", "exchange", "(I)V"⟩, 79) := ⟨⟨by decide +kernel, by decide +kernel⟩, List.mem_of_getElem? (i := 1215) (by decide +kernel), List.mem_of_getElem? (i := 1746) (by decide +kernel), List.mem_of_getElem? (i := 1747) (by decide +kernel)⟩
theorem lw_p84 : lw_okq (⟨"TailorRegimentModel", "layIlls", "()V"⟩, 79) := ⟨⟨by decide +kernel, by decide +kernel⟩, List.mem_of_getElem? (i := 1215) (by decide +kernel), List.mem_of_getElem? (i := 1774) (by decide +kernel), List.mem_of_getElem? (i := 1775) (by decide +kernel)⟩
theorem lw_p85 : lw_okq (⟨"TailorRegimentModel", "layDress", "(I)I"⟩, 79) := ⟨⟨by decide +kernel, by decide +kernel⟩, List.mem_of_getElem? (i := 1215) (by decide +kernel), List.mem_of_getElem? (i := 1781) (by decide +kernel), List.mem_of_getElem? (i := 1782) (by decide +kernel)⟩
theorem lw_p86 : lw_okq (⟨"TailorRegimentModel", "illOfRow", "()I"⟩, 79) := ⟨⟨by decide +kernel, by decide +kernel⟩, List.mem_of_getElem? (i := 1215) (by decide +kernel), List.mem_of_getElem? (i := 1785) (by decide +kernel), List.mem_of_getElem? (i := 1786) (by decide +kernel)⟩
theorem lw_p87 : lw_okq (⟨"TailorRegimentModel", "isSewn", "(IIII)Z"⟩, 79) := ⟨⟨by decide +kernel, by decide +kernel⟩, List.mem_of_getElem? (i := 1215) (by decide +kernel), List.mem_of_getElem? (i := 1793) (by decide +kernel), List.mem_of_getElem? (i := 1794) (by decide +kernel)⟩
theorem lw_p88 : lw_okq (⟨"TailorRegimentModel", "wideOf", "(I)I"⟩, 79) := ⟨⟨by decide +kernel, by decide +kernel⟩, List.mem_of_getElem? (i := 1215) (by decide +kernel), List.mem_of_getElem? (i := 1813) (by decide +kernel), List.mem_of_getElem? (i := 1814) (by decide +kernel)⟩
theorem lw_p89 : lw_okq (⟨"TailorRegimentModel", "rowOf", "(I)I"⟩, 79) := ⟨⟨by decide +kernel, by decide +kernel⟩, List.mem_of_getElem? (i := 1215) (by decide +kernel), List.mem_of_getElem? (i := 1829) (by decide +kernel), List.mem_of_getElem? (i := 1830) (by decide +kernel)⟩
theorem lw_p90 : lw_okq (⟨"TailorRegimentModel", "layColours", "(II)Z"⟩, 79) := ⟨⟨by decide +kernel, by decide +kernel⟩, List.mem_of_getElem? (i := 1215) (by decide +kernel), List.mem_of_getElem? (i := 1837) (by decide +kernel), List.mem_of_getElem? (i := 1838) (by decide +kernel)⟩
theorem lw_p91 : lw_okq (⟨"TailorRegimentModel", "areTaken", "(II)Z"⟩, 79) := ⟨⟨by decide +kernel, by decide +kernel⟩, List.mem_of_getElem? (i := 1215) (by decide +kernel), List.mem_of_getElem? (i := 1841) (by decide +kernel), List.mem_of_getElem? (i := 1842) (by decide +kernel)⟩
theorem lw_p92 : lw_okq (⟨"TailorRegimentModel", "freeCoats", "()I"⟩, 79) := ⟨⟨by decide +kernel, by decide +kernel⟩, List.mem_of_getElem? (i := 1215) (by decide +kernel), List.mem_of_getElem? (i := 1849) (by decide +kernel), List.mem_of_getElem? (i := 1850) (by decide +kernel)⟩
theorem lw_p93 : lw_okq (⟨"TailorRegimentModel", "isRest", "(IIIII)Z"⟩, 79) := ⟨⟨by decide +kernel, by decide +kernel⟩, List.mem_of_getElem? (i := 1215) (by decide +kernel), List.mem_of_getElem? (i := 1853) (by decide +kernel), List.mem_of_getElem? (i := 1854) (by decide +kernel)⟩
theorem lw_p94 : lw_okq (⟨"TailorRegimentModel", "reached", "(III)I"⟩, 79) := ⟨⟨by decide +kernel, by decide +kernel⟩, List.mem_of_getElem? (i := 1215) (by decide +kernel), List.mem_of_getElem? (i := 1857) (by decide +kernel), List.mem_of_getElem? (i := 1858) (by decide +kernel)⟩
theorem lw_p95 : lw_okq (⟨"TailorRegimentModel", "menFor", "(I)I"⟩, 79) := ⟨⟨by decide +kernel, by decide +kernel⟩, List.mem_of_getElem? (i := 1215) (by decide +kernel), List.mem_of_getElem? (i := 1869) (by decide +kernel), List.mem_of_getElem? (i := 1870) (by decide +kernel)⟩
def lw_privs_6 : List (MethodName × Nat) := [(⟨"TailorRegimentModel", "wearers", "()I"⟩, 79), (⟨"TailorRegimentModel", "fittedOnes", "()I"⟩, 79), (⟨"TailorRegimentModel", "fitsOwn", "(I)Z"⟩, 79), (⟨"TailorRegimentModel", "exchange", "(I)V"⟩, 79), (⟨"TailorRegimentModel", "layIlls", "()V"⟩, 79), (⟨"TailorRegimentModel", "layDress", "(I)I"⟩, 79), (⟨"TailorRegimentModel", "illOfRow", "()I"⟩, 79), (⟨"TailorRegimentModel", "isSewn", "(IIII)Z"⟩, 79), (⟨"TailorRegimentModel", "wideOf", "(I)I"⟩, 79), (⟨"TailorRegimentModel", "rowOf", "(I)I"⟩, 79), (⟨"TailorRegimentModel", "layColours", "(II)Z"⟩, 79), (⟨"TailorRegimentModel", "areTaken", "(II)Z"⟩, 79), (⟨"TailorRegimentModel", "freeCoats", "()I"⟩, 79), (⟨"TailorRegimentModel", "isRest", "(IIIII)Z"⟩, 79), (⟨"TailorRegimentModel", "reached", "(III)I"⟩, 79), (⟨"TailorRegimentModel", "menFor", "(I)I"⟩, 79)]
theorem lw_r6 : ∀ q ∈ lw_privs_6, lw_okq q := List.forall_mem_cons.mpr ⟨lw_p80, List.forall_mem_cons.mpr ⟨lw_p81, List.forall_mem_cons.mpr ⟨lw_p82, List.forall_mem_cons.mpr ⟨lw_p83, List.forall_mem_cons.mpr ⟨lw_p84, List.forall_mem_cons.mpr ⟨lw_p85, List.forall_mem_cons.mpr ⟨lw_p86, List.forall_mem_cons.mpr ⟨lw_p87, List.forall_mem_cons.mpr ⟨lw_p88, List.forall_mem_cons.mpr ⟨lw_p89, List.forall_mem_cons.mpr ⟨lw_p90, List.forall_mem_cons.mpr ⟨lw_p91, List.forall_mem_cons.mpr ⟨lw_p92, List.forall_mem_cons.mpr ⟨lw_p93, List.forall_mem_cons.mpr ⟨lw_p94, List.forall_mem_cons.mpr ⟨lw_p95, fun _ h => absurd h List.not_mem_nil⟩⟩⟩⟩⟩⟩⟩⟩⟩⟩⟩⟩⟩⟩⟩⟩
theorem lw_p96 : lw_okq (⟨"TailorRegimentModel", "ownIll", "(I)I"⟩, 79) := ⟨⟨by decide +kernel, by decide +kernel⟩, List.mem_of_getElem? (i := 1215) (by decide +kernel), List.mem_of_getElem? (i := 1885) (by decide +kernel), List.mem_of_getElem? (i := 1886) (by decide +kernel)⟩
theorem lw_p97 : lw_okq (⟨"TailorRegimentModel", "layGrowths", "(I)I"⟩, 79) := ⟨⟨by decide +kernel, by decide +kernel⟩, List.mem_of_getElem? (i := 1215) (by decide +kernel), List.mem_of_getElem? (i := 1925) (by decide +kernel), List.mem_of_getElem? (i := 1926) (by decide +kernel)⟩
theorem lw_p98 : lw_okq (⟨"TailorRegimentModel", "fitsGrowth", "(II)Z"⟩, 79) := ⟨⟨by decide +kernel, by decide +kernel⟩, List.mem_of_getElem? (i := 1215) (by decide +kernel), List.mem_of_getElem? (i := 1929) (by decide +kernel), List.mem_of_getElem? (i := 1930) (by decide +kernel)⟩
theorem lw_p99 : lw_okq (⟨"TailorRegimentModel", "leftBy", "(II)I"⟩, 79) := ⟨⟨by decide +kernel, by decide +kernel⟩, List.mem_of_getElem? (i := 1215) (by decide +kernel), List.mem_of_getElem? (i := 1941) (by decide +kernel), List.mem_of_getElem? (i := 1942) (by decide +kernel)⟩
def lw_privs_7 : List (MethodName × Nat) := [(⟨"TailorRegimentModel", "ownIll", "(I)I"⟩, 79), (⟨"TailorRegimentModel", "layGrowths", "(I)I"⟩, 79), (⟨"TailorRegimentModel", "fitsGrowth", "(II)Z"⟩, 79), (⟨"TailorRegimentModel", "leftBy", "(II)I"⟩, 79)]
theorem lw_r7 : ∀ q ∈ lw_privs_7, lw_okq q := List.forall_mem_cons.mpr ⟨lw_p96, List.forall_mem_cons.mpr ⟨lw_p97, List.forall_mem_cons.mpr ⟨lw_p98, List.forall_mem_cons.mpr ⟨lw_p99, fun _ h => absurd h List.not_mem_nil⟩⟩⟩⟩
def lw_privs : List (MethodName × Nat) := lw_privs_1 ++ (lw_privs_2 ++ (lw_privs_3 ++ (lw_privs_4 ++ (lw_privs_5 ++ (lw_privs_6 ++ (lw_privs_7))))))
def lw_tbl : List Cond := k2_sels lw_privs ++ tables_1
theorem lw_privs_ok : ∀ q ∈ lw_privs, lw_okq q := by
  show ∀ q ∈ lw_privs_1 ++ (lw_privs_2 ++ (lw_privs_3 ++ (lw_privs_4 ++ (lw_privs_5 ++ (lw_privs_6 ++ (lw_privs_7)))))), lw_okq q
  exact List.forall_mem_append.mpr ⟨lw_r1, List.forall_mem_append.mpr ⟨lw_r2, List.forall_mem_append.mpr ⟨lw_r3, List.forall_mem_append.mpr ⟨lw_r4, List.forall_mem_append.mpr ⟨lw_r5, List.forall_mem_append.mpr ⟨lw_r6, lw_r7⟩⟩⟩⟩⟩⟩
end
section
theorem goodIn_r {big : List Cond} (ws : List Cond) (ps : List Nat) (hp : ws = ps.filterMap (fun i => big[i]?)) (h : ws.all goodWord = true) : GoodIn big ws := by
  intro w hw
  have h1 := List.all_eq_true.mp h w hw
  rw [hp] at hw
  obtain ⟨i, -, hi⟩ := List.mem_filterMap.mp hw
  have hm : w ∈ big := by first | exact List.mem_of_getElem? hi | exact List.getElem?_mem hi
  exact ⟨hm, good_of_word h1⟩
theorem goodIn_app {big a b : List Cond} (ha : GoodIn big a) (hb : GoodIn big b) : GoodIn big (a ++ b) := fun w h => (List.mem_append.mp h).elim (ha w) (hb w)
theorem goodIn_ca {big a b : List Cond} {c : Cond} (ha : GoodIn big (c :: a)) (hb : GoodIn big b) : GoodIn big (c :: (a ++ b)) := fun w h => (List.mem_cons.mp h).elim (fun e => ha w (List.mem_cons.mpr (Or.inl e))) (fun h => (List.mem_append.mp h).elim (fun h => ha w (List.mem_cons.mpr (Or.inr h))) (hb w))
theorem goodIn_sub {big ws : List Cond} (hm : ∀ w ∈ ws, w ∈ big) (h : ws.all goodWord = true) : GoodIn big ws := fun w hw => ⟨hm w hw, good_of_word (List.all_eq_true.mp h w hw)⟩
def RX0 : String := "TailorRegiment$Choices"
def TX0 : u_T := fun k => match k with
  | 0 => ("TailorRegiment$Choices", "roll", "LTailorRegiment$Roll;", true)
  | 1 => ("TailorRegiment$Choices", "now", "LTailorRegiment$Company;", true)
  | 2 => ("TailorRegiment$Choices", "row", "[I", true)
  | 3 => ("TailorRegiment$Choices", "count", "I", false)
  | 4 => ("TailorRegiment$Choices", "best", "[I", true)
  | 5 => ("TailorRegiment$Choices", "gains", "[I", true)
  | 6 => ("TailorRegiment$Choices", "dressed", "I", false)
  | _ => ("TailorRegiment$Choices", "dressedIll", "I", false)
def tyX0 : Nat → FieldType := fun k => match k with
  | 0 => .object "TailorRegiment$Roll"
  | 1 => .object "TailorRegiment$Company"
  | 2 => .array .int
  | 3 => .int
  | 4 => .array .int
  | 5 => .array .int
  | 6 => .int
  | _ => .int
theorem nmX0 : ∀ a, a < 8 → ∀ b, b < 8 → a ≠ b → (TX0 a).2.1 ≠ (TX0 b).2.1 := by decide +kernel
theorem tyX0_ok : ∀ k, k < 8 → parseFieldDescriptor (TX0 k).2.2.1 = some (tyX0 k) := by decide +kernel
abbrev cX0_init : ByteArray := prog_2_method_1_code
def yX0_init : MethodName := ⟨RX0, "<init>", "(LTailorRegiment$Roll;LTailorRegiment$Company;)V"⟩
abbrev cX0_clear : ByteArray := prog_2_method_2_code
def yX0_clear : MethodName := ⟨RX0, "clear", "()V"⟩
abbrev cX0_lying : ByteArray := prog_2_method_3_code
def yX0_lying : MethodName := ⟨RX0, "lying", "(I)I"⟩
abbrev cX0_lay : ByteArray := prog_2_method_4_code
def yX0_lay : MethodName := ⟨RX0, "lay", "(I)V"⟩
abbrev cX0_layDressing : ByteArray := prog_2_method_5_code
def yX0_layDressing : MethodName := ⟨RX0, "layDressing", "()V"⟩
abbrev cX0_reckonGains : ByteArray := prog_2_method_6_code
def yX0_reckonGains : MethodName := ⟨RX0, "reckonGains", "()V"⟩
abbrev cX0_reckonBest : ByteArray := prog_2_method_7_code
def yX0_reckonBest : MethodName := ⟨RX0, "reckonBest", "()V"⟩
abbrev cX0_worthOf : ByteArray := prog_2_method_8_code
def yX0_worthOf : MethodName := ⟨RX0, "worthOf", "(III)I"⟩
abbrev cX0_firstBest : ByteArray := prog_2_method_9_code
def yX0_firstBest : MethodName := ⟨RX0, "firstBest", "(II)I"⟩
abbrev cX0_layColours : ByteArray := prog_2_method_10_code
def yX0_layColours : MethodName := ⟨RX0, "layColours", "()I"⟩
abbrev cX0_painted : ByteArray := prog_2_method_11_code
def yX0_painted : MethodName := ⟨RX0, "painted", "(II)Z"⟩
abbrev cX0_isClear : ByteArray := prog_2_method_12_code
def yX0_isClear : MethodName := ⟨RX0, "isClear", "(II)Z"⟩
abbrev cX0_layRest : ByteArray := prog_2_method_13_code
def yX0_layRest : MethodName := ⟨RX0, "layRest", "(II)I"⟩
abbrev cX0_isFree : ByteArray := prog_2_method_14_code
def yX0_isFree : MethodName := ⟨RX0, "isFree", "(I)Z"⟩
abbrev cX0_isContent : ByteArray := prog_2_method_15_code
def yX0_isContent : MethodName := ⟨RX0, "isContent", "(III)Z"⟩
abbrev cX0_illGetting : ByteArray := prog_2_method_16_code
def yX0_illGetting : MethodName := ⟨RX0, "illGetting", "(III)I"⟩
def RX1 : String := "TailorRegiment$Company"
def TX1 : u_T := fun k => match k with
  | 0 => ("TailorRegiment$Company", "roll", "LTailorRegiment$Roll;", true)
  | _ => ("TailorRegiment$Company", "cells", "[I", true)
def tyX1 : Nat → FieldType := fun k => match k with
  | 0 => .object "TailorRegiment$Roll"
  | _ => .array .int
theorem nmX1 : ∀ a, a < 2 → ∀ b, b < 2 → a ≠ b → (TX1 a).2.1 ≠ (TX1 b).2.1 := by decide +kernel
theorem tyX1_ok : ∀ k, k < 2 → parseFieldDescriptor (TX1 k).2.2.1 = some (tyX1 k) := by decide +kernel
abbrev cX1_init : ByteArray := prog_3_method_1_code
def yX1_init : MethodName := ⟨RX1, "<init>", "(LTailorRegiment$Roll;)V"⟩
abbrev cX1_muster : ByteArray := prog_3_method_2_code
def yX1_muster : MethodName := ⟨RX1, "muster", "()V"⟩
abbrev cX1_copy : ByteArray := prog_3_method_3_code
def yX1_copy : MethodName := ⟨RX1, "copy", "(LTailorRegiment$Company;)V"⟩
abbrev cX1_saveTo : ByteArray := prog_3_method_4_code
def yX1_saveTo : MethodName := ⟨RX1, "saveTo", "([II)V"⟩
abbrev cX1_loadFrom : ByteArray := prog_3_method_5_code
def yX1_loadFrom : MethodName := ⟨RX1, "loadFrom", "([II)V"⟩
abbrev cX1_today : ByteArray := prog_3_method_6_code
def yX1_today : MethodName := ⟨RX1, "today", "()I"⟩
abbrev cX1_seed : ByteArray := prog_3_method_7_code
def yX1_seed : MethodName := ⟨RX1, "seed", "()I"⟩
abbrev cX1_manWide : ByteArray := prog_3_method_8_code
def yX1_manWide : MethodName := ⟨RX1, "manWide", "(I)I"⟩
abbrev cX1_wears : ByteArray := prog_3_method_9_code
def yX1_wears : MethodName := ⟨RX1, "wears", "(I)I"⟩
abbrev cX1_setWears : ByteArray := prog_3_method_10_code
def yX1_setWears : MethodName := ⟨RX1, "setWears", "(II)V"⟩
abbrev cX1_part : ByteArray := prog_3_method_11_code
def yX1_part : MethodName := ⟨RX1, "part", "(II)I"⟩
abbrev cX1_setPart : ByteArray := prog_3_method_12_code
def yX1_setPart : MethodName := ⟨RX1, "setPart", "(III)V"⟩
abbrev cX1_wearer : ByteArray := prog_3_method_13_code
def yX1_wearer : MethodName := ⟨RX1, "wearer", "(I)I"⟩
abbrev cX1_wearers : ByteArray := prog_3_method_14_code
def yX1_wearers : MethodName := ⟨RX1, "wearers", "()I"⟩
abbrev cX1_illness : ByteArray := prog_3_method_15_code
def yX1_illness : MethodName := ⟨RX1, "illness", "(II)I"⟩
abbrev cX1_fits : ByteArray := prog_3_method_16_code
def yX1_fits : MethodName := ⟨RX1, "fits", "(II)Z"⟩
abbrev cX1_fittingCoats : ByteArray := prog_3_method_17_code
def yX1_fittingCoats : MethodName := ⟨RX1, "fittingCoats", "(I)I"⟩
abbrev cX1_menFitting : ByteArray := prog_3_method_18_code
def yX1_menFitting : MethodName := ⟨RX1, "menFitting", "(I)I"⟩
abbrev cX1_fittedMen : ByteArray := prog_3_method_19_code
def yX1_fittedMen : MethodName := ⟨RX1, "fittedMen", "()I"⟩
abbrev cX1_passDay : ByteArray := prog_3_method_20_code
def yX1_passDay : MethodName := ⟨RX1, "passDay", "(I)I"⟩
abbrev cX1_weather : ByteArray := prog_3_method_21_code
def yX1_weather : MethodName := ⟨RX1, "weather", "(II)V"⟩
def RX2 : String := "TailorRegiment$Cutting"
def TX2 : u_T := fun k => match k with
  | 0 => ("TailorRegiment$Cutting", "roll", "LTailorRegiment$Roll;", true)
  | 1 => ("TailorRegiment$Cutting", "now", "LTailorRegiment$Company;", true)
  | _ => ("TailorRegiment$Cutting", "lengths", "[I", true)
def tyX2 : Nat → FieldType := fun k => match k with
  | 0 => .object "TailorRegiment$Roll"
  | 1 => .object "TailorRegiment$Company"
  | _ => .array .int
theorem nmX2 : ∀ a, a < 3 → ∀ b, b < 3 → a ≠ b → (TX2 a).2.1 ≠ (TX2 b).2.1 := by decide +kernel
theorem tyX2_ok : ∀ k, k < 3 → parseFieldDescriptor (TX2 k).2.2.1 = some (tyX2 k) := by decide +kernel
abbrev cX2_init : ByteArray := prog_4_method_1_code
def yX2_init : MethodName := ⟨RX2, "<init>", "(LTailorRegiment$Roll;LTailorRegiment$Company;)V"⟩
abbrev cX2_wideTogether : ByteArray := prog_4_method_2_code
def yX2_wideTogether : MethodName := ⟨RX2, "wideTogether", "(I)I"⟩
abbrev cX2_frontOf : ByteArray := prog_4_method_3_code
def yX2_frontOf : MethodName := ⟨RX2, "frontOf", "(I)I"⟩
abbrev cX2_leftWing : ByteArray := prog_4_method_4_code
def yX2_leftWing : MethodName := ⟨RX2, "leftWing", "()I"⟩
abbrev cX2_isEvener : ByteArray := prog_4_method_5_code
def yX2_isEvener : MethodName := ⟨RX2, "isEvener", "(II)Z"⟩
abbrev cX2_difference : ByteArray := prog_4_method_6_code
def yX2_difference : MethodName := ⟨RX2, "difference", "(I)I"⟩
abbrev cX2_leastCloth : ByteArray := prog_4_method_7_code
def yX2_leastCloth : MethodName := ⟨RX2, "leastCloth", "()I"⟩
abbrev cX2_leastLength : ByteArray := prog_4_method_8_code
def yX2_leastLength : MethodName := ⟨RX2, "leastLength", "(I)I"⟩
abbrev cX2_rowLength : ByteArray := prog_4_method_9_code
def yX2_rowLength : MethodName := ⟨RX2, "rowLength", "(I)I"⟩
def RX3 : String := "TailorRegiment$Fitting"
def TX3 : u_T := fun k => match k with
  | 0 => ("TailorRegiment$Fitting", "roll", "LTailorRegiment$Roll;", true)
  | 1 => ("TailorRegiment$Fitting", "now", "LTailorRegiment$Company;", true)
  | 2 => ("TailorRegiment$Fitting", "ahead", "LTailorRegiment$Company;", true)
  | 3 => ("TailorRegiment$Fitting", "hemmed", "I", false)
  | 4 => ("TailorRegiment$Fitting", "takenIn", "I", false)
  | 5 => ("TailorRegiment$Fitting", "rotaStep", "I", false)
  | 6 => ("TailorRegiment$Fitting", "rotaFits", "I", false)
  | 7 => ("TailorRegiment$Fitting", "changeOne", "I", false)
  | 8 => ("TailorRegiment$Fitting", "changeOther", "I", false)
  | _ => ("TailorRegiment$Fitting", "changeFits", "I", false)
def tyX3 : Nat → FieldType := fun k => match k with
  | 0 => .object "TailorRegiment$Roll"
  | 1 => .object "TailorRegiment$Company"
  | 2 => .object "TailorRegiment$Company"
  | 3 => .int
  | 4 => .int
  | 5 => .int
  | 6 => .int
  | 7 => .int
  | 8 => .int
  | _ => .int
theorem nmX3 : ∀ a, a < 10 → ∀ b, b < 10 → a ≠ b → (TX3 a).2.1 ≠ (TX3 b).2.1 := by decide +kernel
theorem tyX3_ok : ∀ k, k < 10 → parseFieldDescriptor (TX3 k).2.2.1 = some (tyX3 k) := by decide +kernel
abbrev cX3_init : ByteArray := prog_5_method_1_code
def yX3_init : MethodName := ⟨RX3, "<init>", "(LTailorRegiment$Roll;LTailorRegiment$Company;)V"⟩
abbrev cX3_coatBehind : ByteArray := prog_5_method_2_code
def yX3_coatBehind : MethodName := ⟨RX3, "coatBehind", "(III)I"⟩
abbrev cX3_daysTillOut : ByteArray := prog_5_method_3_code
def yX3_daysTillOut : MethodName := ⟨RX3, "daysTillOut", "(I)I"⟩
abbrev cX3_daysTillRout : ByteArray := prog_5_method_4_code
def yX3_daysTillRout : MethodName := ⟨RX3, "daysTillRout", "()I"⟩
abbrev cX3_findSewing : ByteArray := prog_5_method_5_code
def yX3_findSewing : MethodName := ⟨RX3, "findSewing", "(II)Z"⟩
abbrev cX3_sewnFits : ByteArray := prog_5_method_6_code
def yX3_sewnFits : MethodName := ⟨RX3, "sewnFits", "(IIII)Z"⟩
abbrev cX3_findRota : ByteArray := prog_5_method_7_code
def yX3_findRota : MethodName := ⟨RX3, "findRota", "()V"⟩
abbrev cX3_rotaCount : ByteArray := prog_5_method_8_code
def yX3_rotaCount : MethodName := ⟨RX3, "rotaCount", "(I)I"⟩
abbrev cX3_findChange : ByteArray := prog_5_method_9_code
def yX3_findChange : MethodName := ⟨RX3, "findChange", "()Z"⟩
abbrev cX3_changedCount : ByteArray := prog_5_method_10_code
def yX3_changedCount : MethodName := ⟨RX3, "changedCount", "(II)I"⟩
abbrev cX3_bestTurning : ByteArray := prog_5_method_11_code
def yX3_bestTurning : MethodName := ⟨RX3, "bestTurning", "()I"⟩
abbrev cX3_fittingBy : ByteArray := prog_5_method_12_code
def yX3_fittingBy : MethodName := ⟨RX3, "fittingBy", "(I)I"⟩
abbrev cX3_worstIllness : ByteArray := prog_5_method_13_code
def yX3_worstIllness : MethodName := ⟨RX3, "worstIllness", "()I"⟩
def RX4 : String := "TailorRegiment$Formula"
def TX4 : u_T := fun k => match k with
  | 0 => ("TailorRegiment$Formula", "kinds", "[I", true)
  | 1 => ("TailorRegiment$Formula", "numbers", "[I", true)
  | 2 => ("TailorRegiment$Formula", "stack", "[I", true)
  | 3 => ("TailorRegiment$Formula", "facts", "[I", true)
  | 4 => ("TailorRegiment$Formula", "steps", "I", false)
  | _ => ("TailorRegiment$Formula", "units", "I", false)
def tyX4 : Nat → FieldType := fun k => match k with
  | 0 => .array .int
  | 1 => .array .int
  | 2 => .array .int
  | 3 => .array .int
  | 4 => .int
  | _ => .int
theorem nmX4 : ∀ a, a < 6 → ∀ b, b < 6 → a ≠ b → (TX4 a).2.1 ≠ (TX4 b).2.1 := by decide +kernel
theorem tyX4_ok : ∀ k, k < 6 → parseFieldDescriptor (TX4 k).2.2.1 = some (tyX4 k) := by decide +kernel
abbrev cX4_init : ByteArray := prog_6_method_1_code
def yX4_init : MethodName := ⟨RX4, "<init>", "()V"⟩
abbrev cX4_clear : ByteArray := prog_6_method_2_code
def yX4_clear : MethodName := ⟨RX4, "clear", "()V"⟩
abbrev cX4_copy : ByteArray := prog_6_method_3_code
def yX4_copy : MethodName := ⟨RX4, "copy", "(LTailorRegiment$Formula;)V"⟩
abbrev cX4_add : ByteArray := prog_6_method_4_code
def yX4_add : MethodName := ⟨RX4, "add", "(II)V"⟩
abbrev cX4_worth : ByteArray := prog_6_method_5_code
def yX4_worth : MethodName := ⟨RX4, "worth", "(IIIIII)I"⟩
abbrev cX4_joined : ByteArray := prog_6_method_6_code
def yX4_joined : MethodName := ⟨RX4, "joined", "(III)I"⟩
def RX5 : String := "TailorRegiment$Memory"
def TX5 : u_T := fun k => match k with
  | 0 => ("TailorRegiment$Memory", "now", "LTailorRegiment$Company;", true)
  | 1 => ("TailorRegiment$Memory", "rows", "[I", true)
  | 2 => ("TailorRegiment$Memory", "boxes", "[I", true)
  | 3 => ("TailorRegiment$Memory", "filled", "I", false)
  | 4 => ("TailorRegiment$Memory", "first", "I", false)
  | 5 => ("TailorRegiment$Memory", "done", "I", false)
  | _ => ("TailorRegiment$Memory", "undone", "I", false)
def tyX5 : Nat → FieldType := fun k => match k with
  | 0 => .object "TailorRegiment$Company"
  | 1 => .array .int
  | 2 => .array .int
  | 3 => .int
  | 4 => .int
  | 5 => .int
  | _ => .int
theorem nmX5 : ∀ a, a < 7 → ∀ b, b < 7 → a ≠ b → (TX5 a).2.1 ≠ (TX5 b).2.1 := by decide +kernel
theorem tyX5_ok : ∀ k, k < 7 → parseFieldDescriptor (TX5 k).2.2.1 = some (tyX5 k) := by decide +kernel
abbrev cX5_init : ByteArray := prog_7_method_1_code
def yX5_init : MethodName := ⟨RX5, "<init>", "(LTailorRegiment$Company;)V"⟩
abbrev cX5_forgetAll : ByteArray := prog_7_method_2_code
def yX5_forgetAll : MethodName := ⟨RX5, "forgetAll", "()V"⟩
abbrev cX5_forgetActs : ByteArray := prog_7_method_3_code
def yX5_forgetActs : MethodName := ⟨RX5, "forgetActs", "()V"⟩
abbrev cX5_keepAct : ByteArray := prog_7_method_4_code
def yX5_keepAct : MethodName := ⟨RX5, "keepAct", "()V"⟩
abbrev cX5_stepBack : ByteArray := prog_7_method_5_code
def yX5_stepBack : MethodName := ⟨RX5, "stepBack", "()Z"⟩
abbrev cX5_stepOn : ByteArray := prog_7_method_6_code
def yX5_stepOn : MethodName := ⟨RX5, "stepOn", "()Z"⟩
abbrev cX5_fillBox : ByteArray := prog_7_method_7_code
def yX5_fillBox : MethodName := ⟨RX5, "fillBox", "(I)Z"⟩
abbrev cX5_takeBox : ByteArray := prog_7_method_8_code
def yX5_takeBox : MethodName := ⟨RX5, "takeBox", "(I)Z"⟩
def RX6 : String := "TailorRegiment$Reader"
def TX6 : u_T := fun k => match k with
  | 0 => ("TailorRegiment$Reader", "tape", "LTailorRegiment$Tape;", true)
  | 1 => ("TailorRegiment$Reader", "draft", "LTailorRegiment$Roll;", true)
  | 2 => ("TailorRegiment$Reader", "manNames", "[I", true)
  | 3 => ("TailorRegiment$Reader", "coatNames", "[I", true)
  | 4 => ("TailorRegiment$Reader", "told", "I", false)
  | 5 => ("TailorRegiment$Reader", "faultSort", "I", false)
  | _ => ("TailorRegiment$Reader", "faultPlace", "I", false)
def tyX6 : Nat → FieldType := fun k => match k with
  | 0 => .object "TailorRegiment$Tape"
  | 1 => .object "TailorRegiment$Roll"
  | 2 => .array .int
  | 3 => .array .int
  | 4 => .int
  | 5 => .int
  | _ => .int
theorem nmX6 : ∀ a, a < 7 → ∀ b, b < 7 → a ≠ b → (TX6 a).2.1 ≠ (TX6 b).2.1 := by decide +kernel
theorem tyX6_ok : ∀ k, k < 7 → parseFieldDescriptor (TX6 k).2.2.1 = some (tyX6 k) := by decide +kernel
abbrev cX6_init : ByteArray := prog_8_method_1_code
def yX6_init : MethodName := ⟨RX6, "<init>", "(LTailorRegiment$Tape;)V"⟩
abbrev cX6_read : ByteArray := prog_8_method_2_code
def yX6_read : MethodName := ⟨RX6, "read", "()Z"⟩
abbrev cX6_line : ByteArray := prog_8_method_3_code
def yX6_line : MethodName := ⟨RX6, "line", "()Z"⟩
abbrev cX6_refuse : ByteArray := prog_8_method_4_code
def yX6_refuse : MethodName := ⟨RX6, "refuse", "()Z"⟩
abbrev cX6_refuseAs : ByteArray := prog_8_method_5_code
def yX6_refuseAs : MethodName := ⟨RX6, "refuseAs", "(I)Z"⟩
abbrev cX6_closing : ByteArray := prog_8_method_6_code
def yX6_closing : MethodName := ⟨RX6, "closing", "()Z"⟩
abbrev cX6_taken : ByteArray := prog_8_method_7_code
def yX6_taken : MethodName := ⟨RX6, "taken", "(I)Z"⟩
abbrev cX6_manLine : ByteArray := prog_8_method_8_code
def yX6_manLine : MethodName := ⟨RX6, "manLine", "()Z"⟩
abbrev cX6_coatLine : ByteArray := prog_8_method_9_code
def yX6_coatLine : MethodName := ⟨RX6, "coatLine", "()Z"⟩
abbrev cX6_name : ByteArray := prog_8_method_10_code
def yX6_name : MethodName := ⟨RX6, "name", "([II)Z"⟩
abbrev cX6_labelled : ByteArray := prog_8_method_11_code
def yX6_labelled : MethodName := ⟨RX6, "labelled", "(II)I"⟩
abbrev cX6_numbered : ByteArray := prog_8_method_12_code
def yX6_numbered : MethodName := ⟨RX6, "numbered", "(I)I"⟩
abbrev cX6_opened : ByteArray := prog_8_method_13_code
def yX6_opened : MethodName := ⟨RX6, "opened", "(I)Z"⟩
abbrev cX6_settingLine : ByteArray := prog_8_method_14_code
def yX6_settingLine : MethodName := ⟨RX6, "settingLine", "(I)Z"⟩
abbrev cX6_expression : ByteArray := prog_8_method_15_code
def yX6_expression : MethodName := ⟨RX6, "expression", "(II)Z"⟩
abbrev cX6_joins : ByteArray := prog_8_method_16_code
def yX6_joins : MethodName := ⟨RX6, "joins", "(II)Z"⟩
abbrev cX6_negation : ByteArray := prog_8_method_17_code
def yX6_negation : MethodName := ⟨RX6, "negation", "(I)Z"⟩
abbrev cX6_unit : ByteArray := prog_8_method_18_code
def yX6_unit : MethodName := ⟨RX6, "unit", "(I)Z"⟩
def RX7 : String := "TailorRegiment$Roll"
def TX7 : u_T := fun k => match k with
  | 0 => ("TailorRegiment$Roll", "manParts", "[I", true)
  | 1 => ("TailorRegiment$Roll", "coatParts", "[I", true)
  | 2 => ("TailorRegiment$Roll", "ill", "LTailorRegiment$Formula;", true)
  | 3 => ("TailorRegiment$Roll", "men", "I", false)
  | 4 => ("TailorRegiment$Roll", "coats", "I", false)
  | 5 => ("TailorRegiment$Roll", "easy", "I", false)
  | 6 => ("TailorRegiment$Roll", "bolt", "I", false)
  | 7 => ("TailorRegiment$Roll", "like", "I", false)
  | 8 => ("TailorRegiment$Roll", "rain", "I", false)
  | _ => ("TailorRegiment$Roll", "draw", "I", false)
def tyX7 : Nat → FieldType := fun k => match k with
  | 0 => .array .int
  | 1 => .array .int
  | 2 => .object "TailorRegiment$Formula"
  | 3 => .int
  | 4 => .int
  | 5 => .int
  | 6 => .int
  | 7 => .int
  | 8 => .int
  | _ => .int
theorem nmX7 : ∀ a, a < 10 → ∀ b, b < 10 → a ≠ b → (TX7 a).2.1 ≠ (TX7 b).2.1 := by decide +kernel
theorem tyX7_ok : ∀ k, k < 10 → parseFieldDescriptor (TX7 k).2.2.1 = some (tyX7 k) := by decide +kernel
abbrev cX7_init : ByteArray := prog_9_method_1_code
def yX7_init : MethodName := ⟨RX7, "<init>", "()V"⟩
abbrev cX7_clear : ByteArray := prog_9_method_2_code
def yX7_clear : MethodName := ⟨RX7, "clear", "()V"⟩
abbrev cX7_setDefaults : ByteArray := prog_9_method_3_code
def yX7_setDefaults : MethodName := ⟨RX7, "setDefaults", "()V"⟩
abbrev cX7_copy : ByteArray := prog_9_method_4_code
def yX7_copy : MethodName := ⟨RX7, "copy", "(LTailorRegiment$Roll;)V"⟩
abbrev cX7_addMan : ByteArray := prog_9_method_5_code
def yX7_addMan : MethodName := ⟨RX7, "addMan", "(III)V"⟩
abbrev cX7_addCoat : ByteArray := prog_9_method_6_code
def yX7_addCoat : MethodName := ⟨RX7, "addCoat", "(IIII)V"⟩
abbrev cX7_set : ByteArray := prog_9_method_7_code
def yX7_set : MethodName := ⟨RX7, "set", "(II)V"⟩
abbrev cX7_hasMan : ByteArray := prog_9_method_8_code
def yX7_hasMan : MethodName := ⟨RX7, "hasMan", "(I)Z"⟩
abbrev cX7_hasCoat : ByteArray := prog_9_method_9_code
def yX7_hasCoat : MethodName := ⟨RX7, "hasCoat", "(I)Z"⟩
abbrev cX7_manPart : ByteArray := prog_9_method_10_code
def yX7_manPart : MethodName := ⟨RX7, "manPart", "(II)I"⟩
abbrev cX7_coatPart : ByteArray := prog_9_method_11_code
def yX7_coatPart : MethodName := ⟨RX7, "coatPart", "(II)I"⟩
def RX8 : String := "TailorRegiment$Sightings"
def TX8 : u_T := fun k => match k with
  | 0 => ("TailorRegiment$Sightings", "roll", "LTailorRegiment$Roll;", true)
  | 1 => ("TailorRegiment$Sightings", "days", "[I", true)
  | 2 => ("TailorRegiment$Sightings", "fitted", "[Z", true)
  | 3 => ("TailorRegiment$Sightings", "toldAt", "[I", true)
  | 4 => ("TailorRegiment$Sightings", "untoldAt", "[I", true)
  | 5 => ("TailorRegiment$Sightings", "count", "I", false)
  | _ => ("TailorRegiment$Sightings", "fitting", "[I", true)
def tyX8 : Nat → FieldType := fun k => match k with
  | 0 => .object "TailorRegiment$Roll"
  | 1 => .array .int
  | 2 => .array .boolean
  | 3 => .array .int
  | 4 => .array .int
  | 5 => .int
  | _ => .array .int
theorem nmX8 : ∀ a, a < 7 → ∀ b, b < 7 → a ≠ b → (TX8 a).2.1 ≠ (TX8 b).2.1 := by decide +kernel
theorem tyX8_ok : ∀ k, k < 7 → parseFieldDescriptor (TX8 k).2.2.1 = some (tyX8 k) := by decide +kernel
abbrev cX8_init : ByteArray := prog_10_method_1_code
def yX8_init : MethodName := ⟨RX8, "<init>", "(LTailorRegiment$Roll;)V"⟩
abbrev cX8_clear : ByteArray := prog_10_method_2_code
def yX8_clear : MethodName := ⟨RX8, "clear", "()V"⟩
abbrev cX8_tell : ByteArray := prog_10_method_3_code
def yX8_tell : MethodName := ⟨RX8, "tell", "(IZI)I"⟩
abbrev cX8_takeBack : ByteArray := prog_10_method_4_code
def yX8_takeBack : MethodName := ⟨RX8, "takeBack", "(II)Z"⟩
abbrev cX8_growthsAt : ByteArray := prog_10_method_5_code
def yX8_growthsAt : MethodName := ⟨RX8, "growthsAt", "(I)I"⟩
abbrev cX8_fittingBehind : ByteArray := prog_10_method_6_code
def yX8_fittingBehind : MethodName := ⟨RX8, "fittingBehind", "(I)I"⟩
abbrev cX8_fitsGrown : ByteArray := prog_10_method_7_code
def yX8_fitsGrown : MethodName := ⟨RX8, "fitsGrown", "(II)Z"⟩
abbrev cX8_bestQuestion : ByteArray := prog_10_method_8_code
def yX8_bestQuestion : MethodName := ⟨RX8, "bestQuestion", "(I)I"⟩
abbrev cX8_leftAtMost : ByteArray := prog_10_method_9_code
def yX8_leftAtMost : MethodName := ⟨RX8, "leftAtMost", "(II)I"⟩
def RX9 : String := "TailorRegiment$Tape"
def TX9 : u_T := fun k => match k with
  | 0 => ("TailorRegiment$Tape", "bytes", "[B", true)
  | 1 => ("TailorRegiment$Tape", "size", "I", false)
  | 2 => ("TailorRegiment$Tape", "kind", "I", false)
  | 3 => ("TailorRegiment$Tape", "place", "I", false)
  | 4 => ("TailorRegiment$Tape", "behind", "I", false)
  | _ => ("TailorRegiment$Tape", "number", "I", false)
def tyX9 : Nat → FieldType := fun k => match k with
  | 0 => .array .byte
  | 1 => .int
  | 2 => .int
  | 3 => .int
  | 4 => .int
  | _ => .int
theorem nmX9 : ∀ a, a < 6 → ∀ b, b < 6 → a ≠ b → (TX9 a).2.1 ≠ (TX9 b).2.1 := by decide +kernel
theorem tyX9_ok : ∀ k, k < 6 → parseFieldDescriptor (TX9 k).2.2.1 = some (tyX9 k) := by decide +kernel
abbrev cX9_init : ByteArray := prog_11_method_1_code
def yX9_init : MethodName := ⟨RX9, "<init>", "()V"⟩
abbrev cX9_hasRoom : ByteArray := prog_11_method_2_code
def yX9_hasRoom : MethodName := ⟨RX9, "hasRoom", "()Z"⟩
abbrev cX9_append : ByteArray := prog_11_method_3_code
def yX9_append : MethodName := ⟨RX9, "append", "(I)V"⟩
abbrev cX9_rewind : ByteArray := prog_11_method_4_code
def yX9_rewind : MethodName := ⟨RX9, "rewind", "()V"⟩
abbrev cX9_advance : ByteArray := prog_11_method_5_code
def yX9_advance : MethodName := ⟨RX9, "advance", "()V"⟩
abbrev cX9_isLetter : ByteArray := prog_11_method_6_code
def yX9_isLetter : MethodName := ⟨RX9, "isLetter", "(I)Z"⟩
abbrev cX9_isDigit : ByteArray := prog_11_method_7_code
def yX9_isDigit : MethodName := ⟨RX9, "isDigit", "(I)Z"⟩
abbrev cX9_wordKind : ByteArray := prog_11_method_8_code
def yX9_wordKind : MethodName := ⟨RX9, "wordKind", "()I"⟩
abbrev cX9_sameWord : ByteArray := prog_11_method_9_code
def yX9_sameWord : MethodName := ⟨RX9, "sameWord", "(II)Z"⟩
def RX10 : String := "TailorRegiment"
def TX10 : u_T := fun k => match k with
  | 0 => ("TailorRegiment", "tape", "LTailorRegiment$Tape;", true)
  | 1 => ("TailorRegiment", "reader", "LTailorRegiment$Reader;", true)
  | 2 => ("TailorRegiment", "roll", "LTailorRegiment$Roll;", true)
  | 3 => ("TailorRegiment", "now", "LTailorRegiment$Company;", true)
  | 4 => ("TailorRegiment", "memory", "LTailorRegiment$Memory;", true)
  | 5 => ("TailorRegiment", "fitting", "LTailorRegiment$Fitting;", true)
  | 6 => ("TailorRegiment", "cutting", "LTailorRegiment$Cutting;", true)
  | 7 => ("TailorRegiment", "choices", "LTailorRegiment$Choices;", true)
  | 8 => ("TailorRegiment", "sightings", "LTailorRegiment$Sightings;", true)
  | _ => ("TailorRegiment", "time", "I", false)
def tyX10 : Nat → FieldType := fun k => match k with
  | 0 => .object "TailorRegiment$Tape"
  | 1 => .object "TailorRegiment$Reader"
  | 2 => .object "TailorRegiment$Roll"
  | 3 => .object "TailorRegiment$Company"
  | 4 => .object "TailorRegiment$Memory"
  | 5 => .object "TailorRegiment$Fitting"
  | 6 => .object "TailorRegiment$Cutting"
  | 7 => .object "TailorRegiment$Choices"
  | 8 => .object "TailorRegiment$Sightings"
  | _ => .int
theorem nmX10 : ∀ a, a < 10 → ∀ b, b < 10 → a ≠ b → (TX10 a).2.1 ≠ (TX10 b).2.1 := by decide +kernel
theorem tyX10_ok : ∀ k, k < 10 → parseFieldDescriptor (TX10 k).2.2.1 = some (tyX10 k) := by decide +kernel
abbrev cX10_init : ByteArray := prog_1_method_1_code
def yX10_init : MethodName := ⟨RX10, "<init>", "()V"⟩
abbrev cX10_feed : ByteArray := prog_1_method_2_code
def yX10_feed : MethodName := ⟨RX10, "feed", "(IIIII)I"⟩
abbrev cX10_end : ByteArray := prog_1_method_3_code
def yX10_end : MethodName := ⟨RX10, "end", "(I)I"⟩
abbrev cX10_regiment : ByteArray := prog_1_method_4_code
def yX10_regiment : MethodName := ⟨RX10, "regiment", "()I"⟩
abbrev cX10_fault : ByteArray := prog_1_method_5_code
def yX10_fault : MethodName := ⟨RX10, "fault", "(I)I"⟩
abbrev cX10_man : ByteArray := prog_1_method_6_code
def yX10_man : MethodName := ⟨RX10, "man", "(II)I"⟩
abbrev cX10_coat : ByteArray := prog_1_method_7_code
def yX10_coat : MethodName := ⟨RX10, "coat", "(II)I"⟩
abbrev cX10_misfit : ByteArray := prog_1_method_8_code
def yX10_misfit : MethodName := ⟨RX10, "misfit", "(II)I"⟩
abbrev cX10_day : ByteArray := prog_1_method_9_code
def yX10_day : MethodName := ⟨RX10, "day", "()I"⟩
abbrev cX10_don : ByteArray := prog_1_method_10_code
def yX10_don : MethodName := ⟨RX10, "don", "(II)I"⟩
abbrev cX10_doff : ByteArray := prog_1_method_11_code
def yX10_doff : MethodName := ⟨RX10, "doff", "(I)I"⟩
abbrev cX10_letout : ByteArray := prog_1_method_12_code
def yX10_letout : MethodName := ⟨RX10, "letout", "(II)I"⟩
abbrev cX10_takein : ByteArray := prog_1_method_13_code
def yX10_takein : MethodName := ⟨RX10, "takein", "(II)I"⟩
abbrev cX10_widen : ByteArray := prog_1_method_14_code
def yX10_widen : MethodName := ⟨RX10, "widen", "(II)I"⟩
abbrev cX10_hem : ByteArray := prog_1_method_15_code
def yX10_hem : MethodName := ⟨RX10, "hem", "(II)I"⟩
abbrev cX10_turn : ByteArray := prog_1_method_16_code
def yX10_turn : MethodName := ⟨RX10, "turn", "(I)I"⟩
abbrev cX10_undo : ByteArray := prog_1_method_17_code
def yX10_undo : MethodName := ⟨RX10, "undo", "()Z"⟩
abbrev cX10_redo : ByteArray := prog_1_method_18_code
def yX10_redo : MethodName := ⟨RX10, "redo", "()Z"⟩
abbrev cX10_will : ByteArray := prog_1_method_19_code
def yX10_will : MethodName := ⟨RX10, "will", "(III)I"⟩
abbrev cX10_out : ByteArray := prog_1_method_20_code
def yX10_out : MethodName := ⟨RX10, "out", "(I)I"⟩
abbrev cX10_fitted : ByteArray := prog_1_method_21_code
def yX10_fitted : MethodName := ⟨RX10, "fitted", "()I"⟩
abbrev cX10_dress : ByteArray := prog_1_method_22_code
def yX10_dress : MethodName := ⟨RX10, "dress", "(I)I"⟩
abbrev cX10_sewing : ByteArray := prog_1_method_23_code
def yX10_sewing : MethodName := ⟨RX10, "sewing", "(III)I"⟩
abbrev cX10_rota : ByteArray := prog_1_method_24_code
def yX10_rota : MethodName := ⟨RX10, "rota", "(I)I"⟩
abbrev cX10_change : ByteArray := prog_1_method_25_code
def yX10_change : MethodName := ⟨RX10, "change", "(I)I"⟩
abbrev cX10_front : ByteArray := prog_1_method_26_code
def yX10_front : MethodName := ⟨RX10, "front", "(II)I"⟩
abbrev cX10_wings : ByteArray := prog_1_method_27_code
def yX10_wings : MethodName := ⟨RX10, "wings", "(I)I"⟩
abbrev cX10_cloth : ByteArray := prog_1_method_28_code
def yX10_cloth : MethodName := ⟨RX10, "cloth", "()I"⟩
abbrev cX10_buttons : ByteArray := prog_1_method_29_code
def yX10_buttons : MethodName := ⟨RX10, "buttons", "()I"⟩
abbrev cX10_reach : ByteArray := prog_1_method_30_code
def yX10_reach : MethodName := ⟨RX10, "reach", "(II)I"⟩
abbrev cX10_turning : ByteArray := prog_1_method_31_code
def yX10_turning : MethodName := ⟨RX10, "turning", "()I"⟩
abbrev cX10_rags : ByteArray := prog_1_method_32_code
def yX10_rags : MethodName := ⟨RX10, "rags", "()I"⟩
abbrev cX10_naked : ByteArray := prog_1_method_33_code
def yX10_naked : MethodName := ⟨RX10, "naked", "()I"⟩
abbrev cX10_popular : ByteArray := prog_1_method_34_code
def yX10_popular : MethodName := ⟨RX10, "popular", "(I)I"⟩
abbrev cX10_law : ByteArray := prog_1_method_35_code
def yX10_law : MethodName := ⟨RX10, "law", "(I)I"⟩
abbrev cX10_ease : ByteArray := prog_1_method_36_code
def yX10_ease : MethodName := ⟨RX10, "ease", "()I"⟩
abbrev cX10_breadth : ByteArray := prog_1_method_37_code
def yX10_breadth : MethodName := ⟨RX10, "breadth", "()I"⟩
abbrev cX10_rout : ByteArray := prog_1_method_38_code
def yX10_rout : MethodName := ⟨RX10, "rout", "()I"⟩
abbrev cX10_odds : ByteArray := prog_1_method_39_code
def yX10_odds : MethodName := ⟨RX10, "odds", "(II)I"⟩
abbrev cX10_commonDivisor : ByteArray := prog_1_method_40_code
def yX10_commonDivisor : MethodName := ⟨RX10, "commonDivisor", "(II)I"⟩
abbrev cX10_lies : ByteArray := prog_1_method_41_code
def yX10_lies : MethodName := ⟨RX10, "lies", "(I)I"⟩
abbrev cX10_seen : ByteArray := prog_1_method_42_code
def yX10_seen : MethodName := ⟨RX10, "seen", "(IZ)I"⟩
abbrev cX10_untell : ByteArray := prog_1_method_43_code
def yX10_untell : MethodName := ⟨RX10, "untell", "(I)Z"⟩
abbrev cX10_later : ByteArray := prog_1_method_44_code
def yX10_later : MethodName := ⟨RX10, "later", "(I)I"⟩
abbrev cX10_growths : ByteArray := prog_1_method_45_code
def yX10_growths : MethodName := ⟨RX10, "growths", "(I)I"⟩
abbrev cX10_sure : ByteArray := prog_1_method_46_code
def yX10_sure : MethodName := ⟨RX10, "sure", "(II)I"⟩
abbrev cX10_ask : ByteArray := prog_1_method_47_code
def yX10_ask : MethodName := ⟨RX10, "ask", "(II)I"⟩
abbrev cX10_image : ByteArray := prog_1_method_48_code
def yX10_image : MethodName := ⟨RX10, "image", "(I)I"⟩
abbrev cX10_back : ByteArray := prog_1_method_49_code
def yX10_back : MethodName := ⟨RX10, "back", "(I)I"⟩
abbrev cX10_about : ByteArray := prog_1_method_50_code
def yX10_about : MethodName := ⟨RX10, "about", "(I)I"⟩
def RX11 : String := "TailorRegimentModel"
def TX11 : u_T := fun k => match k with
  | 0 => ("TailorRegimentModel", "tape", "[I", true)
  | 1 => ("TailorRegimentModel", "taped", "I", false)
  | 2 => ("TailorRegimentModel", "fault", "I", false)
  | 3 => ("TailorRegimentModel", "faultPlace", "I", false)
  | 4 => ("TailorRegimentModel", "at", "I", false)
  | 5 => ("TailorRegimentModel", "size", "I", false)
  | 6 => ("TailorRegimentModel", "sort", "I", false)
  | 7 => ("TailorRegimentModel", "place", "I", false)
  | 8 => ("TailorRegimentModel", "number", "I", false)
  | 9 => ("TailorRegimentModel", "word", "J", false)
  | 10 => ("TailorRegimentModel", "nName", "[J", true)
  | 11 => ("TailorRegimentModel", "nStep", "[I", true)
  | 12 => ("TailorRegimentModel", "nArg", "[I", true)
  | 13 => ("TailorRegimentModel", "step", "[I", true)
  | 14 => ("TailorRegimentModel", "arg", "[I", true)
  | 15 => ("TailorRegimentModel", "open", "[I", true)
  | 16 => ("TailorRegimentModel", "values", "[I", true)
  | 17 => ("TailorRegimentModel", "nMany", "I", false)
  | 18 => ("TailorRegimentModel", "steps", "I", false)
  | 19 => ("TailorRegimentModel", "opens", "I", false)
  | 20 => ("TailorRegimentModel", "nUnits", "I", false)
  | 21 => ("TailorRegimentModel", "units", "I", false)
  | 22 => ("TailorRegimentModel", "ownUnits", "I", false)
  | 23 => ("TailorRegimentModel", "deep", "I", false)
  | 24 => ("TailorRegimentModel", "nHasForm", "Z", false)
  | 25 => ("TailorRegimentModel", "hasForm", "Z", false)
  | 26 => ("TailorRegimentModel", "asks", "[I", true)
  | 27 => ("TailorRegimentModel", "nTall", "[I", true)
  | 28 => ("TailorRegimentModel", "nWide", "[I", true)
  | 29 => ("TailorRegimentModel", "nGrows", "[I", true)
  | 30 => ("TailorRegimentModel", "nCoatTall", "[I", true)
  | 31 => ("TailorRegimentModel", "nCoatWide", "[I", true)
  | 32 => ("TailorRegimentModel", "nSeam", "[I", true)
  | 33 => ("TailorRegimentModel", "nWorn", "[I", true)
  | 34 => ("TailorRegimentModel", "tall", "[I", true)
  | 35 => ("TailorRegimentModel", "wide", "[I", true)
  | 36 => ("TailorRegimentModel", "grows", "[I", true)
  | 37 => ("TailorRegimentModel", "coatTall", "[I", true)
  | 38 => ("TailorRegimentModel", "coatWide", "[I", true)
  | 39 => ("TailorRegimentModel", "seam", "[I", true)
  | 40 => ("TailorRegimentModel", "worn", "[I", true)
  | 41 => ("TailorRegimentModel", "nMen", "I", false)
  | 42 => ("TailorRegimentModel", "nCoats", "I", false)
  | 43 => ("TailorRegimentModel", "nEasy", "I", false)
  | 44 => ("TailorRegimentModel", "nBolt", "I", false)
  | 45 => ("TailorRegimentModel", "nLike", "I", false)
  | 46 => ("TailorRegimentModel", "nRain", "I", false)
  | 47 => ("TailorRegimentModel", "nDraw", "I", false)
  | 48 => ("TailorRegimentModel", "men", "I", false)
  | 49 => ("TailorRegimentModel", "coats", "I", false)
  | 50 => ("TailorRegimentModel", "easy", "I", false)
  | 51 => ("TailorRegimentModel", "bolt", "I", false)
  | 52 => ("TailorRegimentModel", "like", "I", false)
  | 53 => ("TailorRegimentModel", "rain", "I", false)
  | 54 => ("TailorRegimentModel", "nHasEasy", "Z", false)
  | 55 => ("TailorRegimentModel", "nHasBolt", "Z", false)
  | 56 => ("TailorRegimentModel", "nHasLike", "Z", false)
  | 57 => ("TailorRegimentModel", "nHasRain", "Z", false)
  | 58 => ("TailorRegimentModel", "nHasDraw", "Z", false)
  | 59 => ("TailorRegimentModel", "now", "[I", true)
  | 60 => ("TailorRegimentModel", "air", "[I", true)
  | 61 => ("TailorRegimentModel", "were", "[I", true)
  | 62 => ("TailorRegimentModel", "acts", "I", false)
  | 63 => ("TailorRegimentModel", "undone", "I", false)
  | 64 => ("TailorRegimentModel", "lies", "[I", true)
  | 65 => ("TailorRegimentModel", "row", "[I", true)
  | 66 => ("TailorRegimentModel", "ills", "[I", true)
  | 67 => ("TailorRegimentModel", "lain", "I", false)
  | 68 => ("TailorRegimentModel", "lengths", "[I", true)
  | 69 => ("TailorRegimentModel", "sightDays", "[I", true)
  | 70 => ("TailorRegimentModel", "sightTold", "[I", true)
  | 71 => ("TailorRegimentModel", "sightUntold", "[I", true)
  | 72 => ("TailorRegimentModel", "sightIs", "[Z", true)
  | 73 => ("TailorRegimentModel", "sights", "I", false)
  | 74 => ("TailorRegimentModel", "time", "I", false)
  | 75 => ("TailorRegimentModel", "was", "[Z", true)
  | 76 => ("TailorRegimentModel", "isFit", "[Z", true)
  | 77 => ("TailorRegimentModel", "hasBox", "[Z", true)
  | _ => ("TailorRegimentModel", "boxes", "[I", true)
def tyX11 : Nat → FieldType := fun k => match k with
  | 0 => .array .int
  | 1 => .int
  | 2 => .int
  | 3 => .int
  | 4 => .int
  | 5 => .int
  | 6 => .int
  | 7 => .int
  | 8 => .int
  | 9 => .long
  | 10 => .array .long
  | 11 => .array .int
  | 12 => .array .int
  | 13 => .array .int
  | 14 => .array .int
  | 15 => .array .int
  | 16 => .array .int
  | 17 => .int
  | 18 => .int
  | 19 => .int
  | 20 => .int
  | 21 => .int
  | 22 => .int
  | 23 => .int
  | 24 => .boolean
  | 25 => .boolean
  | 26 => .array .int
  | 27 => .array .int
  | 28 => .array .int
  | 29 => .array .int
  | 30 => .array .int
  | 31 => .array .int
  | 32 => .array .int
  | 33 => .array .int
  | 34 => .array .int
  | 35 => .array .int
  | 36 => .array .int
  | 37 => .array .int
  | 38 => .array .int
  | 39 => .array .int
  | 40 => .array .int
  | 41 => .int
  | 42 => .int
  | 43 => .int
  | 44 => .int
  | 45 => .int
  | 46 => .int
  | 47 => .int
  | 48 => .int
  | 49 => .int
  | 50 => .int
  | 51 => .int
  | 52 => .int
  | 53 => .int
  | 54 => .boolean
  | 55 => .boolean
  | 56 => .boolean
  | 57 => .boolean
  | 58 => .boolean
  | 59 => .array .int
  | 60 => .array .int
  | 61 => .array .int
  | 62 => .int
  | 63 => .int
  | 64 => .array .int
  | 65 => .array .int
  | 66 => .array .int
  | 67 => .int
  | 68 => .array .int
  | 69 => .array .int
  | 70 => .array .int
  | 71 => .array .int
  | 72 => .array .boolean
  | 73 => .int
  | 74 => .int
  | 75 => .array .boolean
  | 76 => .array .boolean
  | 77 => .array .boolean
  | _ => .array .int
theorem nmX11 : ∀ a, a < 79 → ∀ b, b < 79 → a ≠ b → (TX11 a).2.1 ≠ (TX11 b).2.1 := by decide +kernel
theorem tyX11_ok : ∀ k, k < 79 → parseFieldDescriptor (TX11 k).2.2.1 = some (tyX11 k) := by decide +kernel
abbrev cX11_init : ByteArray := prog_13_method_1_code
def yX11_init : MethodName := ⟨RX11, "<init>", "()V"⟩
abbrev cX11_feed : ByteArray := prog_13_method_2_code
def yX11_feed : MethodName := ⟨RX11, "feed", "(IIIII)I"⟩
abbrev cX11_four : ByteArray := prog_13_method_3_code
def yX11_four : MethodName := ⟨RX11, "four", "(I)V"⟩
abbrev cX11_end : ByteArray := prog_13_method_4_code
def yX11_end : MethodName := ⟨RX11, "end", "(I)I"⟩
abbrev cX11_here : ByteArray := prog_13_method_5_code
def yX11_here : MethodName := ⟨RX11, "here", "(I)I"⟩
abbrev cX11_isLetter : ByteArray := prog_13_method_6_code
def yX11_isLetter : MethodName := ⟨RX11, "isLetter", "(I)Z"⟩
abbrev cX11_isDigit : ByteArray := prog_13_method_7_code
def yX11_isDigit : MethodName := ⟨RX11, "isDigit", "(I)Z"⟩
abbrev cX11_isSign : ByteArray := prog_13_method_8_code
def yX11_isSign : MethodName := ⟨RX11, "isSign", "(I)Z"⟩
abbrev cX11_token : ByteArray := prog_13_method_9_code
def yX11_token : MethodName := ⟨RX11, "token", "()V"⟩
abbrev cX11_wrong : ByteArray := prog_13_method_10_code
def yX11_wrong : MethodName := ⟨RX11, "wrong", "(I)V"⟩
abbrev cX11_isWord : ByteArray := prog_13_method_11_code
def yX11_isWord : MethodName := ⟨RX11, "isWord", "(J)Z"⟩
abbrev cX11_isOwn : ByteArray := prog_13_method_12_code
def yX11_isOwn : MethodName := ⟨RX11, "isOwn", "()Z"⟩
abbrev cX11_isName : ByteArray := prog_13_method_13_code
def yX11_isName : MethodName := ⟨RX11, "isName", "()Z"⟩
abbrev cX11_want : ByteArray := prog_13_method_14_code
def yX11_want : MethodName := ⟨RX11, "want", "(J)V"⟩
abbrev cX11_toldNumber : ByteArray := prog_13_method_15_code
def yX11_toldNumber : MethodName := ⟨RX11, "toldNumber", "(II)I"⟩
abbrev cX11_told : ByteArray := prog_13_method_16_code
def yX11_told : MethodName := ⟨RX11, "told", "(JI)I"⟩
abbrev cX11_option : ByteArray := prog_13_method_17_code
def yX11_option : MethodName := ⟨RX11, "option", "(JI)I"⟩
abbrev cX11_newName : ByteArray := prog_13_method_18_code
def yX11_newName : MethodName := ⟨RX11, "newName", "(II)V"⟩
abbrev cX11_add : ByteArray := prog_13_method_19_code
def yX11_add : MethodName := ⟨RX11, "add", "(II)V"⟩
abbrev cX11_tight : ByteArray := prog_13_method_20_code
def yX11_tight : MethodName := ⟨RX11, "tight", "(I)I"⟩
abbrev cX11_close : ByteArray := prog_13_method_21_code
def yX11_close : MethodName := ⟨RX11, "close", "(I)V"⟩
abbrev cX11_hasRelation : ByteArray := prog_13_method_22_code
def yX11_hasRelation : MethodName := ⟨RX11, "hasRelation", "()Z"⟩
abbrev cX11_mayNot : ByteArray := prog_13_method_23_code
def yX11_mayNot : MethodName := ⟨RX11, "mayNot", "()Z"⟩
abbrev cX11_asked : ByteArray := prog_13_method_24_code
def yX11_asked : MethodName := ⟨RX11, "asked", "()I"⟩
abbrev cX11_isFull : ByteArray := prog_13_method_25_code
def yX11_isFull : MethodName := ⟨RX11, "isFull", "()Z"⟩
abbrev cX11_countUnit : ByteArray := prog_13_method_26_code
def yX11_countUnit : MethodName := ⟨RX11, "countUnit", "()V"⟩
abbrev cX11_openUp : ByteArray := prog_13_method_27_code
def yX11_openUp : MethodName := ⟨RX11, "openUp", "(I)V"⟩
abbrev cX11_unit : ByteArray := prog_13_method_28_code
def yX11_unit : MethodName := ⟨RX11, "unit", "()V"⟩
abbrev cX11_sign : ByteArray := prog_13_method_29_code
def yX11_sign : MethodName := ⟨RX11, "sign", "()I"⟩
abbrev cX11_hasBracket : ByteArray := prog_13_method_30_code
def yX11_hasBracket : MethodName := ⟨RX11, "hasBracket", "()Z"⟩
abbrev cX11_formula : ByteArray := prog_13_method_31_code
def yX11_formula : MethodName := ⟨RX11, "formula", "()V"⟩
abbrev cX11_truth : ByteArray := prog_13_method_32_code
def yX11_truth : MethodName := ⟨RX11, "truth", "(Z)I"⟩
abbrev cX11_done : ByteArray := prog_13_method_33_code
def yX11_done : MethodName := ⟨RX11, "done", "(III)I"⟩
abbrev cX11_within : ByteArray := prog_13_method_34_code
def yX11_within : MethodName := ⟨RX11, "within", "(II)I"⟩
abbrev cX11_lesser : ByteArray := prog_13_method_35_code
def yX11_lesser : MethodName := ⟨RX11, "lesser", "(II)I"⟩
abbrev cX11_greater : ByteArray := prog_13_method_36_code
def yX11_greater : MethodName := ⟨RX11, "greater", "(II)I"⟩
abbrev cX11_plain : ByteArray := prog_13_method_37_code
def yX11_plain : MethodName := ⟨RX11, "plain", "(I)I"⟩
abbrev cX11_over : ByteArray := prog_13_method_38_code
def yX11_over : MethodName := ⟨RX11, "over", "(II)I"⟩
abbrev cX11_misfitOf : ByteArray := prog_13_method_39_code
def yX11_misfitOf : MethodName := ⟨RX11, "misfitOf", "(II)I"⟩
abbrev cX11_readMan : ByteArray := prog_13_method_40_code
def yX11_readMan : MethodName := ⟨RX11, "readMan", "()V"⟩
abbrev cX11_readCoat : ByteArray := prog_13_method_41_code
def yX11_readCoat : MethodName := ⟨RX11, "readCoat", "()V"⟩
abbrev cX11_readLine : ByteArray := prog_13_method_42_code
def yX11_readLine : MethodName := ⟨RX11, "readLine", "()V"⟩
abbrev cX11_readAll : ByteArray := prog_13_method_43_code
def yX11_readAll : MethodName := ⟨RX11, "readAll", "()V"⟩
abbrev cX11_regiment : ByteArray := prog_13_method_44_code
def yX11_regiment : MethodName := ⟨RX11, "regiment", "()I"⟩
abbrev cX11_fault : ByteArray := prog_13_method_45_code
def yX11_fault : MethodName := ⟨RX11, "fault", "(I)I"⟩
abbrev cX11_isIn : ByteArray := prog_13_method_46_code
def yX11_isIn : MethodName := ⟨RX11, "isIn", "(III)Z"⟩
abbrev cX11_isMan : ByteArray := prog_13_method_47_code
def yX11_isMan : MethodName := ⟨RX11, "isMan", "(I)Z"⟩
abbrev cX11_isCoat : ByteArray := prog_13_method_48_code
def yX11_isCoat : MethodName := ⟨RX11, "isCoat", "(I)Z"⟩
abbrev cX11_members : ByteArray := prog_13_method_49_code
def yX11_members : MethodName := ⟨RX11, "members", "(I)I"⟩
abbrev cX11_fill : ByteArray := prog_13_method_50_code
def yX11_fill : MethodName := ⟨RX11, "fill", "()V"⟩
abbrev cX11_keepAir : ByteArray := prog_13_method_51_code
def yX11_keepAir : MethodName := ⟨RX11, "keepAir", "()V"⟩
abbrev cX11_begin : ByteArray := prog_13_method_52_code
def yX11_begin : MethodName := ⟨RX11, "begin", "()V"⟩
abbrev cX11_wearer : ByteArray := prog_13_method_53_code
def yX11_wearer : MethodName := ⟨RX11, "wearer", "(I)I"⟩
abbrev cX11_fits : ByteArray := prog_13_method_54_code
def yX11_fits : MethodName := ⟨RX11, "fits", "(II)Z"⟩
abbrev cX11_fitsOwn : ByteArray := prog_13_method_55_code
def yX11_fitsOwn : MethodName := ⟨RX11, "fitsOwn", "(I)Z"⟩
abbrev cX11_fittedOnes : ByteArray := prog_13_method_56_code
def yX11_fittedOnes : MethodName := ⟨RX11, "fittedOnes", "()I"⟩
abbrev cX11_wearers : ByteArray := prog_13_method_57_code
def yX11_wearers : MethodName := ⟨RX11, "wearers", "()I"⟩
abbrev cX11_goDay : ByteArray := prog_13_method_58_code
def yX11_goDay : MethodName := ⟨RX11, "goDay", "(Z)I"⟩
abbrev cX11_drawRain : ByteArray := prog_13_method_59_code
def yX11_drawRain : MethodName := ⟨RX11, "drawRain", "()Z"⟩
abbrev cX11_coatsFor : ByteArray := prog_13_method_60_code
def yX11_coatsFor : MethodName := ⟨RX11, "coatsFor", "(I)I"⟩
abbrev cX11_man : ByteArray := prog_13_method_61_code
def yX11_man : MethodName := ⟨RX11, "man", "(II)I"⟩
abbrev cX11_coat : ByteArray := prog_13_method_62_code
def yX11_coat : MethodName := ⟨RX11, "coat", "(II)I"⟩
abbrev cX11_misfit : ByteArray := prog_13_method_63_code
def yX11_misfit : MethodName := ⟨RX11, "misfit", "(II)I"⟩
abbrev cX11_act : ByteArray := prog_13_method_64_code
def yX11_act : MethodName := ⟨RX11, "act", "()V"⟩
abbrev cX11_exchange : ByteArray := prog_13_method_65_code
def yX11_exchange : MethodName := ⟨RX11, "exchange", "(I)V"⟩
abbrev cX11_day : ByteArray := prog_13_method_66_code
def yX11_day : MethodName := ⟨RX11, "day", "()I"⟩
abbrev cX11_don : ByteArray := prog_13_method_67_code
def yX11_don : MethodName := ⟨RX11, "don", "(II)I"⟩
abbrev cX11_doff : ByteArray := prog_13_method_68_code
def yX11_doff : MethodName := ⟨RX11, "doff", "(I)I"⟩
abbrev cX11_letout : ByteArray := prog_13_method_69_code
def yX11_letout : MethodName := ⟨RX11, "letout", "(II)I"⟩
abbrev cX11_takein : ByteArray := prog_13_method_70_code
def yX11_takein : MethodName := ⟨RX11, "takein", "(II)I"⟩
abbrev cX11_hem : ByteArray := prog_13_method_71_code
def yX11_hem : MethodName := ⟨RX11, "hem", "(II)I"⟩
abbrev cX11_turn : ByteArray := prog_13_method_72_code
def yX11_turn : MethodName := ⟨RX11, "turn", "(I)I"⟩
abbrev cX11_undo : ByteArray := prog_13_method_73_code
def yX11_undo : MethodName := ⟨RX11, "undo", "()Z"⟩
abbrev cX11_redo : ByteArray := prog_13_method_74_code
def yX11_redo : MethodName := ⟨RX11, "redo", "()Z"⟩
abbrev cX11_will : ByteArray := prog_13_method_75_code
def yX11_will : MethodName := ⟨RX11, "will", "(III)I"⟩
abbrev cX11_out : ByteArray := prog_13_method_76_code
def yX11_out : MethodName := ⟨RX11, "out", "(I)I"⟩
abbrev cX11_rout : ByteArray := prog_13_method_77_code
def yX11_rout : MethodName := ⟨RX11, "rout", "()I"⟩
abbrev cX11_fitted : ByteArray := prog_13_method_78_code
def yX11_fitted : MethodName := ⟨RX11, "fitted", "()I"⟩
abbrev cX11_layIlls : ByteArray := prog_13_method_79_code
def yX11_layIlls : MethodName := ⟨RX11, "layIlls", "()V"⟩
abbrev cX11_power : ByteArray := prog_13_method_80_code
def yX11_power : MethodName := ⟨RX11, "power", "(II)I"⟩
abbrev cX11_layDress : ByteArray := prog_13_method_81_code
def yX11_layDress : MethodName := ⟨RX11, "layDress", "(I)I"⟩
abbrev cX11_illOfRow : ByteArray := prog_13_method_82_code
def yX11_illOfRow : MethodName := ⟨RX11, "illOfRow", "()I"⟩
abbrev cX11_dress : ByteArray := prog_13_method_83_code
def yX11_dress : MethodName := ⟨RX11, "dress", "(I)I"⟩
abbrev cX11_isSewn : ByteArray := prog_13_method_84_code
def yX11_isSewn : MethodName := ⟨RX11, "isSewn", "(IIII)Z"⟩
abbrev cX11_sewing : ByteArray := prog_13_method_85_code
def yX11_sewing : MethodName := ⟨RX11, "sewing", "(III)I"⟩
abbrev cX11_rota : ByteArray := prog_13_method_86_code
def yX11_rota : MethodName := ⟨RX11, "rota", "(I)I"⟩
abbrev cX11_change : ByteArray := prog_13_method_87_code
def yX11_change : MethodName := ⟨RX11, "change", "(I)I"⟩
abbrev cX11_wideOf : ByteArray := prog_13_method_88_code
def yX11_wideOf : MethodName := ⟨RX11, "wideOf", "(I)I"⟩
abbrev cX11_front : ByteArray := prog_13_method_89_code
def yX11_front : MethodName := ⟨RX11, "front", "(II)I"⟩
abbrev cX11_wings : ByteArray := prog_13_method_90_code
def yX11_wings : MethodName := ⟨RX11, "wings", "(I)I"⟩
abbrev cX11_rowOf : ByteArray := prog_13_method_91_code
def yX11_rowOf : MethodName := ⟨RX11, "rowOf", "(I)I"⟩
abbrev cX11_cloth : ByteArray := prog_13_method_92_code
def yX11_cloth : MethodName := ⟨RX11, "cloth", "()I"⟩
abbrev cX11_areTaken : ByteArray := prog_13_method_93_code
def yX11_areTaken : MethodName := ⟨RX11, "areTaken", "(II)Z"⟩
abbrev cX11_layColours : ByteArray := prog_13_method_94_code
def yX11_layColours : MethodName := ⟨RX11, "layColours", "(II)Z"⟩
abbrev cX11_buttons : ByteArray := prog_13_method_95_code
def yX11_buttons : MethodName := ⟨RX11, "buttons", "()I"⟩
abbrev cX11_reached : ByteArray := prog_13_method_96_code
def yX11_reached : MethodName := ⟨RX11, "reached", "(III)I"⟩
abbrev cX11_isRest : ByteArray := prog_13_method_97_code
def yX11_isRest : MethodName := ⟨RX11, "isRest", "(IIIII)Z"⟩
abbrev cX11_freeCoats : ByteArray := prog_13_method_98_code
def yX11_freeCoats : MethodName := ⟨RX11, "freeCoats", "()I"⟩
abbrev cX11_reach : ByteArray := prog_13_method_99_code
def yX11_reach : MethodName := ⟨RX11, "reach", "(II)I"⟩
abbrev cX11_turning : ByteArray := prog_13_method_100_code
def yX11_turning : MethodName := ⟨RX11, "turning", "()I"⟩
abbrev cX11_menFor : ByteArray := prog_13_method_101_code
def yX11_menFor : MethodName := ⟨RX11, "menFor", "(I)I"⟩
abbrev cX11_rags : ByteArray := prog_13_method_102_code
def yX11_rags : MethodName := ⟨RX11, "rags", "()I"⟩
abbrev cX11_naked : ByteArray := prog_13_method_103_code
def yX11_naked : MethodName := ⟨RX11, "naked", "()I"⟩
abbrev cX11_popular : ByteArray := prog_13_method_104_code
def yX11_popular : MethodName := ⟨RX11, "popular", "(I)I"⟩
abbrev cX11_ownIll : ByteArray := prog_13_method_105_code
def yX11_ownIll : MethodName := ⟨RX11, "ownIll", "(I)I"⟩
abbrev cX11_law : ByteArray := prog_13_method_106_code
def yX11_law : MethodName := ⟨RX11, "law", "(I)I"⟩
abbrev cX11_ease : ByteArray := prog_13_method_107_code
def yX11_ease : MethodName := ⟨RX11, "ease", "()I"⟩
abbrev cX11_breadth : ByteArray := prog_13_method_108_code
def yX11_breadth : MethodName := ⟨RX11, "breadth", "()I"⟩
abbrev cX11_divisor : ByteArray := prog_13_method_109_code
def yX11_divisor : MethodName := ⟨RX11, "divisor", "(II)I"⟩
abbrev cX11_odds : ByteArray := prog_13_method_110_code
def yX11_odds : MethodName := ⟨RX11, "odds", "(II)I"⟩
abbrev cX11_lies : ByteArray := prog_13_method_111_code
def yX11_lies : MethodName := ⟨RX11, "lies", "(I)I"⟩
abbrev cX11_seen : ByteArray := prog_13_method_112_code
def yX11_seen : MethodName := ⟨RX11, "seen", "(IZ)I"⟩
abbrev cX11_untell : ByteArray := prog_13_method_113_code
def yX11_untell : MethodName := ⟨RX11, "untell", "(I)Z"⟩
abbrev cX11_later : ByteArray := prog_13_method_114_code
def yX11_later : MethodName := ⟨RX11, "later", "(I)I"⟩
abbrev cX11_fitsGrowth : ByteArray := prog_13_method_115_code
def yX11_fitsGrowth : MethodName := ⟨RX11, "fitsGrowth", "(II)Z"⟩
abbrev cX11_layGrowths : ByteArray := prog_13_method_116_code
def yX11_layGrowths : MethodName := ⟨RX11, "layGrowths", "(I)I"⟩
abbrev cX11_growths : ByteArray := prog_13_method_117_code
def yX11_growths : MethodName := ⟨RX11, "growths", "(I)I"⟩
abbrev cX11_sure : ByteArray := prog_13_method_118_code
def yX11_sure : MethodName := ⟨RX11, "sure", "(II)I"⟩
abbrev cX11_leftBy : ByteArray := prog_13_method_119_code
def yX11_leftBy : MethodName := ⟨RX11, "leftBy", "(II)I"⟩
abbrev cX11_ask : ByteArray := prog_13_method_120_code
def yX11_ask : MethodName := ⟨RX11, "ask", "(II)I"⟩
abbrev cX11_isBox : ByteArray := prog_13_method_121_code
def yX11_isBox : MethodName := ⟨RX11, "isBox", "(I)Z"⟩
abbrev cX11_image : ByteArray := prog_13_method_122_code
def yX11_image : MethodName := ⟨RX11, "image", "(I)I"⟩
abbrev cX11_back : ByteArray := prog_13_method_123_code
def yX11_back : MethodName := ⟨RX11, "back", "(I)I"⟩
abbrev cX11_about : ByteArray := prog_13_method_124_code
def yX11_about : MethodName := ⟨RX11, "about", "(I)I"⟩
def RJx145de : String := "java/io/Serializable"
def RJx9f9b0 : String := "java/lang/CharSequence"
def RJ11 : String := "java/lang/Character"
abbrev cJ11_isValidCodePoint_9a6ad : ByteArray := prog_14_method_11_code
def yJ11_isValidCodePoint_9a6ad : MethodName := ⟨RJ11, "isValidCodePoint", "(I)Z"⟩
abbrev cJ11_highSurrogate_5068e : ByteArray := prog_14_method_28_code
def yJ11_highSurrogate_5068e : MethodName := ⟨RJ11, "highSurrogate", "(I)C"⟩
abbrev cJ11_lowSurrogate_5068e : ByteArray := prog_14_method_29_code
def yJ11_lowSurrogate_5068e : MethodName := ⟨RJ11, "lowSurrogate", "(I)C"⟩
def RJxb160c : String := "java/lang/Comparable"
def RJ6 : String := "java/lang/Integer"
abbrev cJ6_lowestOneBit_0f7a4 : ByteArray := prog_15_method_46_code
def yJ6_lowestOneBit_0f7a4 : MethodName := ⟨RJ6, "lowestOneBit", "(I)I"⟩
abbrev cJ6_numberOfLeadingZeros_0f7a4 : ByteArray := prog_15_method_47_code
def yJ6_numberOfLeadingZeros_0f7a4 : MethodName := ⟨RJ6, "numberOfLeadingZeros", "(I)I"⟩
abbrev cJ6_numberOfTrailingZeros_0f7a4 : ByteArray := prog_15_method_48_code
def yJ6_numberOfTrailingZeros_0f7a4 : MethodName := ⟨RJ6, "numberOfTrailingZeros", "(I)I"⟩
abbrev cJ6_bitCount_0f7a4 : ByteArray := prog_15_method_49_code
def yJ6_bitCount_0f7a4 : MethodName := ⟨RJ6, "bitCount", "(I)I"⟩
def RJ9 : String := "java/lang/Math"
abbrev cJ9_abs_0f7a4 : ByteArray := prog_16_method_59_code
def yJ9_abs_0f7a4 : MethodName := ⟨RJ9, "abs", "(I)I"⟩
abbrev cJ9_max_7cf53 : ByteArray := prog_16_method_65_code
def yJ9_max_7cf53 : MethodName := ⟨RJ9, "max", "(II)I"⟩
abbrev cJ9_min_7cf53 : ByteArray := prog_16_method_69_code
def yJ9_min_7cf53 : MethodName := ⟨RJ9, "min", "(II)I"⟩
def RJ0 : String := "java/lang/String"
abbrev cJ0_length_8abf5 : ByteArray := prog_17_method_54_code
def yJ0_length_8abf5 : MethodName := ⟨RJ0, "length", "()I"⟩
abbrev cJ0_charAt_5068e : ByteArray := prog_17_method_56_code
def yJ0_charAt_5068e : MethodName := ⟨RJ0, "charAt", "(I)C"⟩
abbrev cJ0_indexOf_0f7a4 : ByteArray := prog_17_method_79_code
def yJ0_indexOf_0f7a4 : MethodName := ⟨RJ0, "indexOf", "(I)I"⟩
abbrev cJ0_indexOf_7cf53 : ByteArray := prog_17_method_80_code
def yJ0_indexOf_7cf53 : MethodName := ⟨RJ0, "indexOf", "(II)I"⟩
abbrev cJ0_coder_7d493 : ByteArray := prog_17_method_152_code
def yJ0_coder_7d493 : MethodName := ⟨RJ0, "coder", "()B"⟩
abbrev cJ0_isLatin1_aae02 : ByteArray := prog_17_method_154_code
def yJ0_isLatin1_aae02 : MethodName := ⟨RJ0, "isLatin1", "()Z"⟩
abbrev cJ0_checkIndex_df160 : ByteArray := prog_17_method_155_code
def yJ0_checkIndex_df160 : MethodName := ⟨RJ0, "checkIndex", "(II)V"⟩
abbrev cJ0_checkBoundsBeginEnd_23922 : ByteArray := prog_17_method_158_code
def yJ0_checkBoundsBeginEnd_23922 : MethodName := ⟨RJ0, "checkBoundsBeginEnd", "(III)V"⟩
def RJ1 : String := "java/lang/StringLatin1"
abbrev cJ1_charAt_3b067 : ByteArray := prog_18_method_2_code
def yJ1_charAt_3b067 : MethodName := ⟨RJ1, "charAt", "([BI)C"⟩
abbrev cJ1_canEncode_9a6ad : ByteArray := prog_18_method_4_code
def yJ1_canEncode_9a6ad : MethodName := ⟨RJ1, "canEncode", "(I)Z"⟩
abbrev cJ1_indexOf_4cfef : ByteArray := prog_18_method_22_code
def yJ1_indexOf_4cfef : MethodName := ⟨RJ1, "indexOf", "([BIII)I"⟩
abbrev cJ1_indexOfChar_4cfef : ByteArray := prog_18_method_23_code
def yJ1_indexOfChar_4cfef : MethodName := ⟨RJ1, "indexOfChar", "([BIII)I"⟩
def RJ2 : String := "java/lang/StringUTF16"
abbrev cJ2_getChar_3b067 : ByteArray := prog_19_method_5_code
def yJ2_getChar_3b067 : MethodName := ⟨RJ2, "getChar", "([BI)C"⟩
abbrev cJ2_length_9d52b : ByteArray := prog_19_method_6_code
def yJ2_length_9d52b : MethodName := ⟨RJ2, "length", "([B)I"⟩
abbrev cJ2_indexOf_4cfef : ByteArray := prog_19_method_40_code
def yJ2_indexOf_4cfef : MethodName := ⟨RJ2, "indexOf", "([BIII)I"⟩
abbrev cJ2_indexOfChar_4cfef : ByteArray := prog_19_method_47_code
def yJ2_indexOfChar_4cfef : MethodName := ⟨RJ2, "indexOfChar", "([BIII)I"⟩
abbrev cJ2_indexOfCharUnsafe_4cfef : ByteArray := prog_19_method_48_code
def yJ2_indexOfCharUnsafe_4cfef : MethodName := ⟨RJ2, "indexOfCharUnsafe", "([BIII)I"⟩
abbrev cJ2_indexOfSupplementary_4cfef : ByteArray := prog_19_method_49_code
def yJ2_indexOfSupplementary_4cfef : MethodName := ⟨RJ2, "indexOfSupplementary", "([BIII)I"⟩
abbrev cJ2_charAt_3b067 : ByteArray := prog_19_method_83_code
def yJ2_charAt_3b067 : MethodName := ⟨RJ2, "charAt", "([BI)C"⟩
abbrev cJ2_checkIndex_2214a : ByteArray := prog_19_method_91_code
def yJ2_checkIndex_2214a : MethodName := ⟨RJ2, "checkIndex", "(I[B)V"⟩
abbrev cJ2_checkBoundsBeginEnd_d044e : ByteArray := prog_19_method_93_code
def yJ2_checkBoundsBeginEnd_d044e : MethodName := ⟨RJ2, "checkBoundsBeginEnd", "(II[B)V"⟩
def RJ10 : String := "java/lang/System"
def RJxfd54e : String := "java/lang/constant/Constable"
def RJx3cf43 : String := "java/lang/constant/ConstantDesc"
def RJ7 : String := "java/util/Arrays"
abbrev cJ7_fill_53178 : ByteArray := prog_21_method_103_code
def yJ7_fill_53178 : MethodName := ⟨RJ7, "fill", "([II)V"⟩
def RJ3 : String := "jdk/internal/util/Preconditions"
abbrev cJ3_checkIndex_8e157 : ByteArray := prog_22_method_11_code
def yJ3_checkIndex_8e157 : MethodName := ⟨RJ3, "checkIndex", "(IILjava/util/function/BiFunction;)I"⟩
abbrev cJ3_checkFromToIndex_8c36e : ByteArray := prog_22_method_12_code
def yJ3_checkFromToIndex_8c36e : MethodName := ⟨RJ3, "checkFromToIndex", "(IIILjava/util/function/BiFunction;)I"⟩
def RL : String := "TailorRegimentLaw"
abbrev cL_law : ByteArray := code
def yL_law : MethodName := ⟨RL, "law", "([I)Z"⟩
abbrev vwCl : List vw_C := [(RX0, TX0, 8), (RX1, TX1, 2), (RX2, TX2, 3), (RX3, TX3, 10), (RX4, TX4, 6), (RX5, TX5, 7), (RX6, TX6, 7), (RX7, TX7, 10), (RX8, TX8, 7), (RX9, TX9, 6), (RX10, TX10, 10), (RX11, TX11, 79)]
end
section
theorem dJ6_bitCount_0f7a4_0 : decode cJ6_bitCount_0f7a4 0 = .ok (.iload_n 0, 1) := by decide +kernel
theorem dJ6_bitCount_0f7a4_1 : decode cJ6_bitCount_0f7a4 1 = .ok (.iload_n 0, 1) := by decide +kernel
theorem dJ6_bitCount_0f7a4_2 : decode cJ6_bitCount_0f7a4 2 = .ok (.iconst 1, 1) := by decide +kernel
theorem dJ6_bitCount_0f7a4_3 : decode cJ6_bitCount_0f7a4 3 = .ok (.iushr, 1) := by decide +kernel
theorem dJ6_bitCount_0f7a4_4 : decode cJ6_bitCount_0f7a4 4 = .ok (.ldc_w 265, 3) := by decide +kernel
theorem dJ6_bitCount_0f7a4_7 : decode cJ6_bitCount_0f7a4 7 = .ok (.iand, 1) := by decide +kernel
theorem dJ6_bitCount_0f7a4_8 : decode cJ6_bitCount_0f7a4 8 = .ok (.isub, 1) := by decide +kernel
theorem dJ6_bitCount_0f7a4_9 : decode cJ6_bitCount_0f7a4 9 = .ok (.istore_n 0, 1) := by decide +kernel
theorem dJ6_bitCount_0f7a4_10 : decode cJ6_bitCount_0f7a4 10 = .ok (.iload_n 0, 1) := by decide +kernel
theorem dJ6_bitCount_0f7a4_11 : decode cJ6_bitCount_0f7a4 11 = .ok (.ldc_w 266, 3) := by decide +kernel
theorem dJ6_bitCount_0f7a4_14 : decode cJ6_bitCount_0f7a4 14 = .ok (.iand, 1) := by decide +kernel
theorem dJ6_bitCount_0f7a4_15 : decode cJ6_bitCount_0f7a4 15 = .ok (.iload_n 0, 1) := by decide +kernel
theorem dJ6_bitCount_0f7a4_16 : decode cJ6_bitCount_0f7a4 16 = .ok (.iconst 2, 1) := by decide +kernel
theorem dJ6_bitCount_0f7a4_17 : decode cJ6_bitCount_0f7a4 17 = .ok (.iushr, 1) := by decide +kernel
theorem dJ6_bitCount_0f7a4_18 : decode cJ6_bitCount_0f7a4 18 = .ok (.ldc_w 266, 3) := by decide +kernel
theorem dJ6_bitCount_0f7a4_21 : decode cJ6_bitCount_0f7a4 21 = .ok (.iand, 1) := by decide +kernel
theorem dJ6_bitCount_0f7a4_22 : decode cJ6_bitCount_0f7a4 22 = .ok (.iadd, 1) := by decide +kernel
theorem dJ6_bitCount_0f7a4_23 : decode cJ6_bitCount_0f7a4 23 = .ok (.istore_n 0, 1) := by decide +kernel
theorem dJ6_bitCount_0f7a4_24 : decode cJ6_bitCount_0f7a4 24 = .ok (.iload_n 0, 1) := by decide +kernel
theorem dJ6_bitCount_0f7a4_25 : decode cJ6_bitCount_0f7a4 25 = .ok (.iload_n 0, 1) := by decide +kernel
theorem dJ6_bitCount_0f7a4_26 : decode cJ6_bitCount_0f7a4 26 = .ok (.iconst 4, 1) := by decide +kernel
theorem dJ6_bitCount_0f7a4_27 : decode cJ6_bitCount_0f7a4 27 = .ok (.iushr, 1) := by decide +kernel
theorem dJ6_bitCount_0f7a4_28 : decode cJ6_bitCount_0f7a4 28 = .ok (.iadd, 1) := by decide +kernel
theorem dJ6_bitCount_0f7a4_29 : decode cJ6_bitCount_0f7a4 29 = .ok (.ldc_w 267, 3) := by decide +kernel
theorem dJ6_bitCount_0f7a4_32 : decode cJ6_bitCount_0f7a4 32 = .ok (.iand, 1) := by decide +kernel
theorem dJ6_bitCount_0f7a4_33 : decode cJ6_bitCount_0f7a4 33 = .ok (.istore_n 0, 1) := by decide +kernel
theorem dJ6_bitCount_0f7a4_34 : decode cJ6_bitCount_0f7a4 34 = .ok (.iload_n 0, 1) := by decide +kernel
theorem dJ6_bitCount_0f7a4_35 : decode cJ6_bitCount_0f7a4 35 = .ok (.iload_n 0, 1) := by decide +kernel
theorem dJ6_bitCount_0f7a4_36 : decode cJ6_bitCount_0f7a4 36 = .ok (.bipush 8, 2) := by decide +kernel
theorem dJ6_bitCount_0f7a4_38 : decode cJ6_bitCount_0f7a4 38 = .ok (.iushr, 1) := by decide +kernel
theorem dJ6_bitCount_0f7a4_39 : decode cJ6_bitCount_0f7a4 39 = .ok (.iadd, 1) := by decide +kernel
theorem dJ6_bitCount_0f7a4_40 : decode cJ6_bitCount_0f7a4 40 = .ok (.istore_n 0, 1) := by decide +kernel
theorem dJ6_bitCount_0f7a4_41 : decode cJ6_bitCount_0f7a4 41 = .ok (.iload_n 0, 1) := by decide +kernel
theorem dJ6_bitCount_0f7a4_42 : decode cJ6_bitCount_0f7a4 42 = .ok (.iload_n 0, 1) := by decide +kernel
theorem dJ6_bitCount_0f7a4_43 : decode cJ6_bitCount_0f7a4 43 = .ok (.bipush 16, 2) := by decide +kernel
theorem dJ6_bitCount_0f7a4_45 : decode cJ6_bitCount_0f7a4 45 = .ok (.iushr, 1) := by decide +kernel
theorem dJ6_bitCount_0f7a4_46 : decode cJ6_bitCount_0f7a4 46 = .ok (.iadd, 1) := by decide +kernel
theorem dJ6_bitCount_0f7a4_47 : decode cJ6_bitCount_0f7a4 47 = .ok (.istore_n 0, 1) := by decide +kernel
theorem dJ6_bitCount_0f7a4_48 : decode cJ6_bitCount_0f7a4 48 = .ok (.iload_n 0, 1) := by decide +kernel
theorem dJ6_bitCount_0f7a4_49 : decode cJ6_bitCount_0f7a4 49 = .ok (.bipush 63, 2) := by decide +kernel
theorem dJ6_bitCount_0f7a4_51 : decode cJ6_bitCount_0f7a4 51 = .ok (.iand, 1) := by decide +kernel
theorem dJ6_bitCount_0f7a4_52 : decode cJ6_bitCount_0f7a4 52 = .ok (.ireturn, 1) := by decide +kernel
theorem dJ6_lowestOneBit_0f7a4_0 : decode cJ6_lowestOneBit_0f7a4 0 = .ok (.iload_n 0, 1) := by decide +kernel
theorem dJ6_lowestOneBit_0f7a4_1 : decode cJ6_lowestOneBit_0f7a4 1 = .ok (.iload_n 0, 1) := by decide +kernel
theorem dJ6_lowestOneBit_0f7a4_2 : decode cJ6_lowestOneBit_0f7a4 2 = .ok (.ineg, 1) := by decide +kernel
theorem dJ6_lowestOneBit_0f7a4_3 : decode cJ6_lowestOneBit_0f7a4 3 = .ok (.iand, 1) := by decide +kernel
theorem dJ6_lowestOneBit_0f7a4_4 : decode cJ6_lowestOneBit_0f7a4 4 = .ok (.ireturn, 1) := by decide +kernel
theorem dJ7_fill_53178_0 : decode cJ7_fill_53178 0 = .ok (.iconst 0, 1) := by decide +kernel
theorem dJ7_fill_53178_1 : decode cJ7_fill_53178 1 = .ok (.istore_n 2, 1) := by decide +kernel
theorem dJ7_fill_53178_2 : decode cJ7_fill_53178 2 = .ok (.aload_n 0, 1) := by decide +kernel
theorem dJ7_fill_53178_3 : decode cJ7_fill_53178 3 = .ok (.arraylength, 1) := by decide +kernel
theorem dJ7_fill_53178_4 : decode cJ7_fill_53178 4 = .ok (.istore_n 3, 1) := by decide +kernel
theorem dJ7_fill_53178_5 : decode cJ7_fill_53178 5 = .ok (.iload_n 2, 1) := by decide +kernel
theorem dJ7_fill_53178_6 : decode cJ7_fill_53178 6 = .ok (.iload_n 3, 1) := by decide +kernel
theorem dJ7_fill_53178_7 : decode cJ7_fill_53178 7 = .ok (.if_icmp .ge 13, 3) := by decide +kernel
theorem dJ7_fill_53178_10 : decode cJ7_fill_53178 10 = .ok (.aload_n 0, 1) := by decide +kernel
theorem dJ7_fill_53178_11 : decode cJ7_fill_53178 11 = .ok (.iload_n 2, 1) := by decide +kernel
theorem dJ7_fill_53178_12 : decode cJ7_fill_53178 12 = .ok (.iload_n 1, 1) := by decide +kernel
theorem dJ7_fill_53178_13 : decode cJ7_fill_53178 13 = .ok (.iastore, 1) := by decide +kernel
theorem dJ7_fill_53178_14 : decode cJ7_fill_53178 14 = .ok (.iinc 2 1, 3) := by decide +kernel
theorem dJ7_fill_53178_17 : decode cJ7_fill_53178 17 = .ok (.goto (-12), 3) := by decide +kernel
theorem dJ7_fill_53178_20 : decode cJ7_fill_53178 20 = .ok (.return_, 1) := by decide +kernel
theorem dL_law_0 : decode cL_law 0 = .ok (.new 7, 3) := by decide +kernel
theorem dL_law_3 : decode cL_law 3 = .ok (.dup, 1) := by decide +kernel
theorem dL_law_4 : decode cL_law 4 = .ok (.invokespecial 9, 3) := by decide +kernel
theorem dL_law_7 : decode cL_law 7 = .ok (.astore_n 1, 1) := by decide +kernel
theorem dL_law_8 : decode cL_law 8 = .ok (.new 10, 3) := by decide +kernel
theorem dL_law_11 : decode cL_law 11 = .ok (.dup, 1) := by decide +kernel
theorem dL_law_12 : decode cL_law 12 = .ok (.invokespecial 12, 3) := by decide +kernel
theorem dL_law_15 : decode cL_law 15 = .ok (.astore_n 2, 1) := by decide +kernel
theorem dL_law_16 : decode cL_law 16 = .ok (.iconst 0, 1) := by decide +kernel
theorem dL_law_17 : decode cL_law 17 = .ok (.istore_n 3, 1) := by decide +kernel
theorem dL_law_18 : decode cL_law 18 = .ok (.iload_n 3, 1) := by decide +kernel
theorem dL_law_19 : decode cL_law 19 = .ok (.aload_n 0, 1) := by decide +kernel
theorem dL_law_20 : decode cL_law 20 = .ok (.arraylength, 1) := by decide +kernel
theorem dL_law_21 : decode cL_law 21 = .ok (.bipush 6, 2) := by decide +kernel
theorem dL_law_23 : decode cL_law 23 = .ok (.isub, 1) := by decide +kernel
theorem dL_law_24 : decode cL_law 24 = .ok (.if_icmp .gt 1395, 3) := by decide +kernel
theorem dL_law_27 : decode cL_law 27 = .ok (.aload_n 0, 1) := by decide +kernel
theorem dL_law_28 : decode cL_law 28 = .ok (.iload_n 3, 1) := by decide +kernel
theorem dL_law_29 : decode cL_law 29 = .ok (.iaload, 1) := by decide +kernel
theorem dL_law_30 : decode cL_law 30 = .ok (.bipush 63, 2) := by decide +kernel
theorem dL_law_32 : decode cL_law 32 = .ok (.iand, 1) := by decide +kernel
theorem dL_law_33 : decode cL_law 33 = .ok (.tableswitch 1380 0 46 #[203, 266, 289, 302, 325, 358, 391, 424, 437, 470, 493, 526, 559, 592, 615, 628, 641, 684, 707, 720, 743, 786, 809, 832, 865, 888, 901, 914, 947, 960, 973, 986, 1009, 1032, 1045, 1058, 1071, 1104, 1127, 1176, 1199, 1222, 1245, 1278, 1311, 1334, 1357], 203) := by decide +kernel
theorem dL_law_236 : decode cL_law 236 = .ok (.aload_n 1, 1) := by decide +kernel
theorem dL_law_237 : decode cL_law 237 = .ok (.aload_n 0, 1) := by decide +kernel
theorem dL_law_238 : decode cL_law 238 = .ok (.iload_n 3, 1) := by decide +kernel
theorem dL_law_239 : decode cL_law 239 = .ok (.iconst 1, 1) := by decide +kernel
theorem dL_law_240 : decode cL_law 240 = .ok (.iadd, 1) := by decide +kernel
theorem dL_law_241 : decode cL_law 241 = .ok (.iaload, 1) := by decide +kernel
theorem dL_law_242 : decode cL_law 242 = .ok (.aload_n 0, 1) := by decide +kernel
theorem dL_law_243 : decode cL_law 243 = .ok (.iload_n 3, 1) := by decide +kernel
theorem dL_law_244 : decode cL_law 244 = .ok (.iconst 2, 1) := by decide +kernel
theorem dL_law_245 : decode cL_law 245 = .ok (.iadd, 1) := by decide +kernel
theorem dL_law_246 : decode cL_law 246 = .ok (.iaload, 1) := by decide +kernel
theorem dL_law_247 : decode cL_law 247 = .ok (.aload_n 0, 1) := by decide +kernel
theorem dL_law_248 : decode cL_law 248 = .ok (.iload_n 3, 1) := by decide +kernel
theorem dL_law_249 : decode cL_law 249 = .ok (.iconst 3, 1) := by decide +kernel
theorem dL_law_250 : decode cL_law 250 = .ok (.iadd, 1) := by decide +kernel
theorem dL_law_251 : decode cL_law 251 = .ok (.iaload, 1) := by decide +kernel
theorem dL_law_252 : decode cL_law 252 = .ok (.aload_n 0, 1) := by decide +kernel
theorem dL_law_253 : decode cL_law 253 = .ok (.iload_n 3, 1) := by decide +kernel
theorem dL_law_254 : decode cL_law 254 = .ok (.iconst 4, 1) := by decide +kernel
theorem dL_law_255 : decode cL_law 255 = .ok (.iadd, 1) := by decide +kernel
theorem dL_law_256 : decode cL_law 256 = .ok (.iaload, 1) := by decide +kernel
theorem dL_law_257 : decode cL_law 257 = .ok (.aload_n 0, 1) := by decide +kernel
theorem dL_law_258 : decode cL_law 258 = .ok (.iload_n 3, 1) := by decide +kernel
theorem dL_law_259 : decode cL_law 259 = .ok (.iconst 5, 1) := by decide +kernel
theorem dL_law_260 : decode cL_law 260 = .ok (.iadd, 1) := by decide +kernel
theorem dL_law_261 : decode cL_law 261 = .ok (.iaload, 1) := by decide +kernel
theorem dL_law_262 : decode cL_law 262 = .ok (.invokevirtual 13, 3) := by decide +kernel
theorem dL_law_265 : decode cL_law 265 = .ok (.aload_n 2, 1) := by decide +kernel
theorem dL_law_266 : decode cL_law 266 = .ok (.aload_n 0, 1) := by decide +kernel
theorem dL_law_267 : decode cL_law 267 = .ok (.iload_n 3, 1) := by decide +kernel
theorem dL_law_268 : decode cL_law 268 = .ok (.iconst 1, 1) := by decide +kernel
theorem dL_law_269 : decode cL_law 269 = .ok (.iadd, 1) := by decide +kernel
theorem dL_law_270 : decode cL_law 270 = .ok (.iaload, 1) := by decide +kernel
theorem dL_law_271 : decode cL_law 271 = .ok (.aload_n 0, 1) := by decide +kernel
theorem dL_law_272 : decode cL_law 272 = .ok (.iload_n 3, 1) := by decide +kernel
theorem dL_law_273 : decode cL_law 273 = .ok (.iconst 2, 1) := by decide +kernel
theorem dL_law_274 : decode cL_law 274 = .ok (.iadd, 1) := by decide +kernel
theorem dL_law_275 : decode cL_law 275 = .ok (.iaload, 1) := by decide +kernel
theorem dL_law_276 : decode cL_law 276 = .ok (.aload_n 0, 1) := by decide +kernel
theorem dL_law_277 : decode cL_law 277 = .ok (.iload_n 3, 1) := by decide +kernel
theorem dL_law_278 : decode cL_law 278 = .ok (.iconst 3, 1) := by decide +kernel
theorem dL_law_279 : decode cL_law 279 = .ok (.iadd, 1) := by decide +kernel
theorem dL_law_280 : decode cL_law 280 = .ok (.iaload, 1) := by decide +kernel
theorem dL_law_281 : decode cL_law 281 = .ok (.aload_n 0, 1) := by decide +kernel
theorem dL_law_282 : decode cL_law 282 = .ok (.iload_n 3, 1) := by decide +kernel
theorem dL_law_283 : decode cL_law 283 = .ok (.iconst 4, 1) := by decide +kernel
theorem dL_law_284 : decode cL_law 284 = .ok (.iadd, 1) := by decide +kernel
theorem dL_law_285 : decode cL_law 285 = .ok (.iaload, 1) := by decide +kernel
theorem dL_law_286 : decode cL_law 286 = .ok (.aload_n 0, 1) := by decide +kernel
theorem dL_law_287 : decode cL_law 287 = .ok (.iload_n 3, 1) := by decide +kernel
theorem dL_law_288 : decode cL_law 288 = .ok (.iconst 5, 1) := by decide +kernel
theorem dL_law_289 : decode cL_law 289 = .ok (.iadd, 1) := by decide +kernel
theorem dL_law_290 : decode cL_law 290 = .ok (.iaload, 1) := by decide +kernel
theorem dL_law_291 : decode cL_law 291 = .ok (.invokevirtual 17, 3) := by decide +kernel
theorem dL_law_294 : decode cL_law 294 = .ok (.if_icmp .eq 1119, 3) := by decide +kernel
theorem dL_law_299 : decode cL_law 299 = .ok (.aload_n 1, 1) := by decide +kernel
theorem dL_law_300 : decode cL_law 300 = .ok (.aload_n 0, 1) := by decide +kernel
theorem dL_law_301 : decode cL_law 301 = .ok (.iload_n 3, 1) := by decide +kernel
theorem dL_law_302 : decode cL_law 302 = .ok (.iconst 1, 1) := by decide +kernel
theorem dL_law_303 : decode cL_law 303 = .ok (.iadd, 1) := by decide +kernel
theorem dL_law_304 : decode cL_law 304 = .ok (.iaload, 1) := by decide +kernel
theorem dL_law_305 : decode cL_law 305 = .ok (.invokevirtual 18, 3) := by decide +kernel
theorem dL_law_308 : decode cL_law 308 = .ok (.aload_n 2, 1) := by decide +kernel
theorem dL_law_309 : decode cL_law 309 = .ok (.aload_n 0, 1) := by decide +kernel
theorem dL_law_310 : decode cL_law 310 = .ok (.iload_n 3, 1) := by decide +kernel
theorem dL_law_311 : decode cL_law 311 = .ok (.iconst 1, 1) := by decide +kernel
theorem dL_law_312 : decode cL_law 312 = .ok (.iadd, 1) := by decide +kernel
theorem dL_law_313 : decode cL_law 313 = .ok (.iaload, 1) := by decide +kernel
theorem dL_law_314 : decode cL_law 314 = .ok (.invokevirtual 22, 3) := by decide +kernel
theorem dL_law_317 : decode cL_law 317 = .ok (.if_icmp .eq 1096, 3) := by decide +kernel
theorem dL_law_322 : decode cL_law 322 = .ok (.aload_n 1, 1) := by decide +kernel
theorem dL_law_323 : decode cL_law 323 = .ok (.invokevirtual 23, 3) := by decide +kernel
theorem dL_law_326 : decode cL_law 326 = .ok (.aload_n 2, 1) := by decide +kernel
theorem dL_law_327 : decode cL_law 327 = .ok (.invokevirtual 27, 3) := by decide +kernel
theorem dL_law_330 : decode cL_law 330 = .ok (.if_icmp .eq 1083, 3) := by decide +kernel
theorem dL_law_335 : decode cL_law 335 = .ok (.aload_n 1, 1) := by decide +kernel
theorem dL_law_336 : decode cL_law 336 = .ok (.aload_n 0, 1) := by decide +kernel
theorem dL_law_337 : decode cL_law 337 = .ok (.iload_n 3, 1) := by decide +kernel
theorem dL_law_338 : decode cL_law 338 = .ok (.iconst 1, 1) := by decide +kernel
theorem dL_law_339 : decode cL_law 339 = .ok (.iadd, 1) := by decide +kernel
theorem dL_law_340 : decode cL_law 340 = .ok (.iaload, 1) := by decide +kernel
theorem dL_law_341 : decode cL_law 341 = .ok (.invokevirtual 28, 3) := by decide +kernel
theorem dL_law_344 : decode cL_law 344 = .ok (.aload_n 2, 1) := by decide +kernel
theorem dL_law_345 : decode cL_law 345 = .ok (.aload_n 0, 1) := by decide +kernel
theorem dL_law_346 : decode cL_law 346 = .ok (.iload_n 3, 1) := by decide +kernel
theorem dL_law_347 : decode cL_law 347 = .ok (.iconst 1, 1) := by decide +kernel
theorem dL_law_348 : decode cL_law 348 = .ok (.iadd, 1) := by decide +kernel
theorem dL_law_349 : decode cL_law 349 = .ok (.iaload, 1) := by decide +kernel
theorem dL_law_350 : decode cL_law 350 = .ok (.invokevirtual 31, 3) := by decide +kernel
theorem dL_law_353 : decode cL_law 353 = .ok (.if_icmp .eq 1060, 3) := by decide +kernel
theorem dL_law_358 : decode cL_law 358 = .ok (.aload_n 1, 1) := by decide +kernel
theorem dL_law_359 : decode cL_law 359 = .ok (.aload_n 0, 1) := by decide +kernel
theorem dL_law_360 : decode cL_law 360 = .ok (.iload_n 3, 1) := by decide +kernel
theorem dL_law_361 : decode cL_law 361 = .ok (.iconst 1, 1) := by decide +kernel
theorem dL_law_362 : decode cL_law 362 = .ok (.iadd, 1) := by decide +kernel
theorem dL_law_363 : decode cL_law 363 = .ok (.iaload, 1) := by decide +kernel
theorem dL_law_364 : decode cL_law 364 = .ok (.aload_n 0, 1) := by decide +kernel
theorem dL_law_365 : decode cL_law 365 = .ok (.iload_n 3, 1) := by decide +kernel
theorem dL_law_366 : decode cL_law 366 = .ok (.iconst 2, 1) := by decide +kernel
theorem dL_law_367 : decode cL_law 367 = .ok (.iadd, 1) := by decide +kernel
theorem dL_law_368 : decode cL_law 368 = .ok (.iaload, 1) := by decide +kernel
theorem dL_law_369 : decode cL_law 369 = .ok (.invokevirtual 32, 3) := by decide +kernel
theorem dL_law_372 : decode cL_law 372 = .ok (.aload_n 2, 1) := by decide +kernel
theorem dL_law_373 : decode cL_law 373 = .ok (.aload_n 0, 1) := by decide +kernel
theorem dL_law_374 : decode cL_law 374 = .ok (.iload_n 3, 1) := by decide +kernel
theorem dL_law_375 : decode cL_law 375 = .ok (.iconst 1, 1) := by decide +kernel
theorem dL_law_376 : decode cL_law 376 = .ok (.iadd, 1) := by decide +kernel
theorem dL_law_377 : decode cL_law 377 = .ok (.iaload, 1) := by decide +kernel
theorem dL_law_378 : decode cL_law 378 = .ok (.aload_n 0, 1) := by decide +kernel
theorem dL_law_379 : decode cL_law 379 = .ok (.iload_n 3, 1) := by decide +kernel
theorem dL_law_380 : decode cL_law 380 = .ok (.iconst 2, 1) := by decide +kernel
theorem dL_law_381 : decode cL_law 381 = .ok (.iadd, 1) := by decide +kernel
theorem dL_law_382 : decode cL_law 382 = .ok (.iaload, 1) := by decide +kernel
theorem dL_law_383 : decode cL_law 383 = .ok (.invokevirtual 36, 3) := by decide +kernel
theorem dL_law_386 : decode cL_law 386 = .ok (.if_icmp .eq 1027, 3) := by decide +kernel
theorem dL_law_391 : decode cL_law 391 = .ok (.aload_n 1, 1) := by decide +kernel
theorem dL_law_392 : decode cL_law 392 = .ok (.aload_n 0, 1) := by decide +kernel
theorem dL_law_393 : decode cL_law 393 = .ok (.iload_n 3, 1) := by decide +kernel
theorem dL_law_394 : decode cL_law 394 = .ok (.iconst 1, 1) := by decide +kernel
theorem dL_law_395 : decode cL_law 395 = .ok (.iadd, 1) := by decide +kernel
theorem dL_law_396 : decode cL_law 396 = .ok (.iaload, 1) := by decide +kernel
theorem dL_law_397 : decode cL_law 397 = .ok (.aload_n 0, 1) := by decide +kernel
theorem dL_law_398 : decode cL_law 398 = .ok (.iload_n 3, 1) := by decide +kernel
theorem dL_law_399 : decode cL_law 399 = .ok (.iconst 2, 1) := by decide +kernel
theorem dL_law_400 : decode cL_law 400 = .ok (.iadd, 1) := by decide +kernel
theorem dL_law_401 : decode cL_law 401 = .ok (.iaload, 1) := by decide +kernel
theorem dL_law_402 : decode cL_law 402 = .ok (.invokevirtual 37, 3) := by decide +kernel
theorem dL_law_405 : decode cL_law 405 = .ok (.aload_n 2, 1) := by decide +kernel
theorem dL_law_406 : decode cL_law 406 = .ok (.aload_n 0, 1) := by decide +kernel
theorem dL_law_407 : decode cL_law 407 = .ok (.iload_n 3, 1) := by decide +kernel
theorem dL_law_408 : decode cL_law 408 = .ok (.iconst 1, 1) := by decide +kernel
theorem dL_law_409 : decode cL_law 409 = .ok (.iadd, 1) := by decide +kernel
theorem dL_law_410 : decode cL_law 410 = .ok (.iaload, 1) := by decide +kernel
theorem dL_law_411 : decode cL_law 411 = .ok (.aload_n 0, 1) := by decide +kernel
theorem dL_law_412 : decode cL_law 412 = .ok (.iload_n 3, 1) := by decide +kernel
theorem dL_law_413 : decode cL_law 413 = .ok (.iconst 2, 1) := by decide +kernel
theorem dL_law_414 : decode cL_law 414 = .ok (.iadd, 1) := by decide +kernel
theorem dL_law_415 : decode cL_law 415 = .ok (.iaload, 1) := by decide +kernel
theorem dL_law_416 : decode cL_law 416 = .ok (.invokevirtual 40, 3) := by decide +kernel
theorem dL_law_419 : decode cL_law 419 = .ok (.if_icmp .eq 994, 3) := by decide +kernel
theorem dL_law_424 : decode cL_law 424 = .ok (.aload_n 1, 1) := by decide +kernel
theorem dL_law_425 : decode cL_law 425 = .ok (.aload_n 0, 1) := by decide +kernel
theorem dL_law_426 : decode cL_law 426 = .ok (.iload_n 3, 1) := by decide +kernel
theorem dL_law_427 : decode cL_law 427 = .ok (.iconst 1, 1) := by decide +kernel
theorem dL_law_428 : decode cL_law 428 = .ok (.iadd, 1) := by decide +kernel
theorem dL_law_429 : decode cL_law 429 = .ok (.iaload, 1) := by decide +kernel
theorem dL_law_430 : decode cL_law 430 = .ok (.aload_n 0, 1) := by decide +kernel
theorem dL_law_431 : decode cL_law 431 = .ok (.iload_n 3, 1) := by decide +kernel
theorem dL_law_432 : decode cL_law 432 = .ok (.iconst 2, 1) := by decide +kernel
theorem dL_law_433 : decode cL_law 433 = .ok (.iadd, 1) := by decide +kernel
theorem dL_law_434 : decode cL_law 434 = .ok (.iaload, 1) := by decide +kernel
theorem dL_law_435 : decode cL_law 435 = .ok (.invokevirtual 41, 3) := by decide +kernel
theorem dL_law_438 : decode cL_law 438 = .ok (.aload_n 2, 1) := by decide +kernel
theorem dL_law_439 : decode cL_law 439 = .ok (.aload_n 0, 1) := by decide +kernel
theorem dL_law_440 : decode cL_law 440 = .ok (.iload_n 3, 1) := by decide +kernel
theorem dL_law_441 : decode cL_law 441 = .ok (.iconst 1, 1) := by decide +kernel
theorem dL_law_442 : decode cL_law 442 = .ok (.iadd, 1) := by decide +kernel
theorem dL_law_443 : decode cL_law 443 = .ok (.iaload, 1) := by decide +kernel
theorem dL_law_444 : decode cL_law 444 = .ok (.aload_n 0, 1) := by decide +kernel
theorem dL_law_445 : decode cL_law 445 = .ok (.iload_n 3, 1) := by decide +kernel
theorem dL_law_446 : decode cL_law 446 = .ok (.iconst 2, 1) := by decide +kernel
theorem dL_law_447 : decode cL_law 447 = .ok (.iadd, 1) := by decide +kernel
theorem dL_law_448 : decode cL_law 448 = .ok (.iaload, 1) := by decide +kernel
theorem dL_law_449 : decode cL_law 449 = .ok (.invokevirtual 44, 3) := by decide +kernel
theorem dL_law_452 : decode cL_law 452 = .ok (.if_icmp .eq 961, 3) := by decide +kernel
theorem dL_law_457 : decode cL_law 457 = .ok (.aload_n 1, 1) := by decide +kernel
theorem dL_law_458 : decode cL_law 458 = .ok (.invokevirtual 45, 3) := by decide +kernel
theorem dL_law_461 : decode cL_law 461 = .ok (.aload_n 2, 1) := by decide +kernel
theorem dL_law_462 : decode cL_law 462 = .ok (.invokevirtual 48, 3) := by decide +kernel
theorem dL_law_465 : decode cL_law 465 = .ok (.if_icmp .eq 948, 3) := by decide +kernel
theorem dL_law_470 : decode cL_law 470 = .ok (.aload_n 1, 1) := by decide +kernel
theorem dL_law_471 : decode cL_law 471 = .ok (.aload_n 0, 1) := by decide +kernel
theorem dL_law_472 : decode cL_law 472 = .ok (.iload_n 3, 1) := by decide +kernel
theorem dL_law_473 : decode cL_law 473 = .ok (.iconst 1, 1) := by decide +kernel
theorem dL_law_474 : decode cL_law 474 = .ok (.iadd, 1) := by decide +kernel
theorem dL_law_475 : decode cL_law 475 = .ok (.iaload, 1) := by decide +kernel
theorem dL_law_476 : decode cL_law 476 = .ok (.aload_n 0, 1) := by decide +kernel
theorem dL_law_477 : decode cL_law 477 = .ok (.iload_n 3, 1) := by decide +kernel
theorem dL_law_478 : decode cL_law 478 = .ok (.iconst 2, 1) := by decide +kernel
theorem dL_law_479 : decode cL_law 479 = .ok (.iadd, 1) := by decide +kernel
theorem dL_law_480 : decode cL_law 480 = .ok (.iaload, 1) := by decide +kernel
theorem dL_law_481 : decode cL_law 481 = .ok (.invokevirtual 49, 3) := by decide +kernel
theorem dL_law_484 : decode cL_law 484 = .ok (.aload_n 2, 1) := by decide +kernel
theorem dL_law_485 : decode cL_law 485 = .ok (.aload_n 0, 1) := by decide +kernel
theorem dL_law_486 : decode cL_law 486 = .ok (.iload_n 3, 1) := by decide +kernel
theorem dL_law_487 : decode cL_law 487 = .ok (.iconst 1, 1) := by decide +kernel
theorem dL_law_488 : decode cL_law 488 = .ok (.iadd, 1) := by decide +kernel
theorem dL_law_489 : decode cL_law 489 = .ok (.iaload, 1) := by decide +kernel
theorem dL_law_490 : decode cL_law 490 = .ok (.aload_n 0, 1) := by decide +kernel
theorem dL_law_491 : decode cL_law 491 = .ok (.iload_n 3, 1) := by decide +kernel
theorem dL_law_492 : decode cL_law 492 = .ok (.iconst 2, 1) := by decide +kernel
theorem dL_law_493 : decode cL_law 493 = .ok (.iadd, 1) := by decide +kernel
theorem dL_law_494 : decode cL_law 494 = .ok (.iaload, 1) := by decide +kernel
theorem dL_law_495 : decode cL_law 495 = .ok (.invokevirtual 52, 3) := by decide +kernel
theorem dL_law_498 : decode cL_law 498 = .ok (.if_icmp .eq 915, 3) := by decide +kernel
theorem dL_law_503 : decode cL_law 503 = .ok (.aload_n 1, 1) := by decide +kernel
theorem dL_law_504 : decode cL_law 504 = .ok (.aload_n 0, 1) := by decide +kernel
theorem dL_law_505 : decode cL_law 505 = .ok (.iload_n 3, 1) := by decide +kernel
theorem dL_law_506 : decode cL_law 506 = .ok (.iconst 1, 1) := by decide +kernel
theorem dL_law_507 : decode cL_law 507 = .ok (.iadd, 1) := by decide +kernel
theorem dL_law_508 : decode cL_law 508 = .ok (.iaload, 1) := by decide +kernel
theorem dL_law_509 : decode cL_law 509 = .ok (.invokevirtual 53, 3) := by decide +kernel
theorem dL_law_512 : decode cL_law 512 = .ok (.aload_n 2, 1) := by decide +kernel
theorem dL_law_513 : decode cL_law 513 = .ok (.aload_n 0, 1) := by decide +kernel
theorem dL_law_514 : decode cL_law 514 = .ok (.iload_n 3, 1) := by decide +kernel
theorem dL_law_515 : decode cL_law 515 = .ok (.iconst 1, 1) := by decide +kernel
theorem dL_law_516 : decode cL_law 516 = .ok (.iadd, 1) := by decide +kernel
theorem dL_law_517 : decode cL_law 517 = .ok (.iaload, 1) := by decide +kernel
theorem dL_law_518 : decode cL_law 518 = .ok (.invokevirtual 56, 3) := by decide +kernel
theorem dL_law_521 : decode cL_law 521 = .ok (.if_icmp .eq 892, 3) := by decide +kernel
theorem dL_law_526 : decode cL_law 526 = .ok (.aload_n 1, 1) := by decide +kernel
theorem dL_law_527 : decode cL_law 527 = .ok (.aload_n 0, 1) := by decide +kernel
theorem dL_law_528 : decode cL_law 528 = .ok (.iload_n 3, 1) := by decide +kernel
theorem dL_law_529 : decode cL_law 529 = .ok (.iconst 1, 1) := by decide +kernel
theorem dL_law_530 : decode cL_law 530 = .ok (.iadd, 1) := by decide +kernel
theorem dL_law_531 : decode cL_law 531 = .ok (.iaload, 1) := by decide +kernel
theorem dL_law_532 : decode cL_law 532 = .ok (.aload_n 0, 1) := by decide +kernel
theorem dL_law_533 : decode cL_law 533 = .ok (.iload_n 3, 1) := by decide +kernel
theorem dL_law_534 : decode cL_law 534 = .ok (.iconst 2, 1) := by decide +kernel
theorem dL_law_535 : decode cL_law 535 = .ok (.iadd, 1) := by decide +kernel
theorem dL_law_536 : decode cL_law 536 = .ok (.iaload, 1) := by decide +kernel
theorem dL_law_537 : decode cL_law 537 = .ok (.invokevirtual 57, 3) := by decide +kernel
theorem dL_law_540 : decode cL_law 540 = .ok (.aload_n 2, 1) := by decide +kernel
theorem dL_law_541 : decode cL_law 541 = .ok (.aload_n 0, 1) := by decide +kernel
theorem dL_law_542 : decode cL_law 542 = .ok (.iload_n 3, 1) := by decide +kernel
theorem dL_law_543 : decode cL_law 543 = .ok (.iconst 1, 1) := by decide +kernel
theorem dL_law_544 : decode cL_law 544 = .ok (.iadd, 1) := by decide +kernel
theorem dL_law_545 : decode cL_law 545 = .ok (.iaload, 1) := by decide +kernel
theorem dL_law_546 : decode cL_law 546 = .ok (.aload_n 0, 1) := by decide +kernel
theorem dL_law_547 : decode cL_law 547 = .ok (.iload_n 3, 1) := by decide +kernel
theorem dL_law_548 : decode cL_law 548 = .ok (.iconst 2, 1) := by decide +kernel
theorem dL_law_549 : decode cL_law 549 = .ok (.iadd, 1) := by decide +kernel
theorem dL_law_550 : decode cL_law 550 = .ok (.iaload, 1) := by decide +kernel
theorem dL_law_551 : decode cL_law 551 = .ok (.invokevirtual 60, 3) := by decide +kernel
theorem dL_law_554 : decode cL_law 554 = .ok (.if_icmp .eq 859, 3) := by decide +kernel
theorem dL_law_559 : decode cL_law 559 = .ok (.aload_n 1, 1) := by decide +kernel
theorem dL_law_560 : decode cL_law 560 = .ok (.aload_n 0, 1) := by decide +kernel
theorem dL_law_561 : decode cL_law 561 = .ok (.iload_n 3, 1) := by decide +kernel
theorem dL_law_562 : decode cL_law 562 = .ok (.iconst 1, 1) := by decide +kernel
theorem dL_law_563 : decode cL_law 563 = .ok (.iadd, 1) := by decide +kernel
theorem dL_law_564 : decode cL_law 564 = .ok (.iaload, 1) := by decide +kernel
theorem dL_law_565 : decode cL_law 565 = .ok (.aload_n 0, 1) := by decide +kernel
theorem dL_law_566 : decode cL_law 566 = .ok (.iload_n 3, 1) := by decide +kernel
theorem dL_law_567 : decode cL_law 567 = .ok (.iconst 2, 1) := by decide +kernel
theorem dL_law_568 : decode cL_law 568 = .ok (.iadd, 1) := by decide +kernel
theorem dL_law_569 : decode cL_law 569 = .ok (.iaload, 1) := by decide +kernel
theorem dL_law_570 : decode cL_law 570 = .ok (.invokevirtual 61, 3) := by decide +kernel
theorem dL_law_573 : decode cL_law 573 = .ok (.aload_n 2, 1) := by decide +kernel
theorem dL_law_574 : decode cL_law 574 = .ok (.aload_n 0, 1) := by decide +kernel
theorem dL_law_575 : decode cL_law 575 = .ok (.iload_n 3, 1) := by decide +kernel
theorem dL_law_576 : decode cL_law 576 = .ok (.iconst 1, 1) := by decide +kernel
theorem dL_law_577 : decode cL_law 577 = .ok (.iadd, 1) := by decide +kernel
theorem dL_law_578 : decode cL_law 578 = .ok (.iaload, 1) := by decide +kernel
theorem dL_law_579 : decode cL_law 579 = .ok (.aload_n 0, 1) := by decide +kernel
theorem dL_law_580 : decode cL_law 580 = .ok (.iload_n 3, 1) := by decide +kernel
theorem dL_law_581 : decode cL_law 581 = .ok (.iconst 2, 1) := by decide +kernel
theorem dL_law_582 : decode cL_law 582 = .ok (.iadd, 1) := by decide +kernel
theorem dL_law_583 : decode cL_law 583 = .ok (.iaload, 1) := by decide +kernel
theorem dL_law_584 : decode cL_law 584 = .ok (.invokevirtual 64, 3) := by decide +kernel
theorem dL_law_587 : decode cL_law 587 = .ok (.if_icmp .eq 826, 3) := by decide +kernel
theorem dL_law_592 : decode cL_law 592 = .ok (.aload_n 1, 1) := by decide +kernel
theorem dL_law_593 : decode cL_law 593 = .ok (.aload_n 0, 1) := by decide +kernel
theorem dL_law_594 : decode cL_law 594 = .ok (.iload_n 3, 1) := by decide +kernel
theorem dL_law_595 : decode cL_law 595 = .ok (.iconst 1, 1) := by decide +kernel
theorem dL_law_596 : decode cL_law 596 = .ok (.iadd, 1) := by decide +kernel
theorem dL_law_597 : decode cL_law 597 = .ok (.iaload, 1) := by decide +kernel
theorem dL_law_598 : decode cL_law 598 = .ok (.aload_n 0, 1) := by decide +kernel
theorem dL_law_599 : decode cL_law 599 = .ok (.iload_n 3, 1) := by decide +kernel
theorem dL_law_600 : decode cL_law 600 = .ok (.iconst 2, 1) := by decide +kernel
theorem dL_law_601 : decode cL_law 601 = .ok (.iadd, 1) := by decide +kernel
theorem dL_law_602 : decode cL_law 602 = .ok (.iaload, 1) := by decide +kernel
theorem dL_law_603 : decode cL_law 603 = .ok (.invokevirtual 65, 3) := by decide +kernel
theorem dL_law_606 : decode cL_law 606 = .ok (.aload_n 2, 1) := by decide +kernel
theorem dL_law_607 : decode cL_law 607 = .ok (.aload_n 0, 1) := by decide +kernel
theorem dL_law_608 : decode cL_law 608 = .ok (.iload_n 3, 1) := by decide +kernel
theorem dL_law_609 : decode cL_law 609 = .ok (.iconst 1, 1) := by decide +kernel
theorem dL_law_610 : decode cL_law 610 = .ok (.iadd, 1) := by decide +kernel
theorem dL_law_611 : decode cL_law 611 = .ok (.iaload, 1) := by decide +kernel
theorem dL_law_612 : decode cL_law 612 = .ok (.aload_n 0, 1) := by decide +kernel
theorem dL_law_613 : decode cL_law 613 = .ok (.iload_n 3, 1) := by decide +kernel
theorem dL_law_614 : decode cL_law 614 = .ok (.iconst 2, 1) := by decide +kernel
theorem dL_law_615 : decode cL_law 615 = .ok (.iadd, 1) := by decide +kernel
theorem dL_law_616 : decode cL_law 616 = .ok (.iaload, 1) := by decide +kernel
theorem dL_law_617 : decode cL_law 617 = .ok (.invokevirtual 68, 3) := by decide +kernel
theorem dL_law_620 : decode cL_law 620 = .ok (.if_icmp .eq 793, 3) := by decide +kernel
theorem dL_law_625 : decode cL_law 625 = .ok (.aload_n 1, 1) := by decide +kernel
theorem dL_law_626 : decode cL_law 626 = .ok (.aload_n 0, 1) := by decide +kernel
theorem dL_law_627 : decode cL_law 627 = .ok (.iload_n 3, 1) := by decide +kernel
theorem dL_law_628 : decode cL_law 628 = .ok (.iconst 1, 1) := by decide +kernel
theorem dL_law_629 : decode cL_law 629 = .ok (.iadd, 1) := by decide +kernel
theorem dL_law_630 : decode cL_law 630 = .ok (.iaload, 1) := by decide +kernel
theorem dL_law_631 : decode cL_law 631 = .ok (.invokevirtual 69, 3) := by decide +kernel
theorem dL_law_634 : decode cL_law 634 = .ok (.aload_n 2, 1) := by decide +kernel
theorem dL_law_635 : decode cL_law 635 = .ok (.aload_n 0, 1) := by decide +kernel
theorem dL_law_636 : decode cL_law 636 = .ok (.iload_n 3, 1) := by decide +kernel
theorem dL_law_637 : decode cL_law 637 = .ok (.iconst 1, 1) := by decide +kernel
theorem dL_law_638 : decode cL_law 638 = .ok (.iadd, 1) := by decide +kernel
theorem dL_law_639 : decode cL_law 639 = .ok (.iaload, 1) := by decide +kernel
theorem dL_law_640 : decode cL_law 640 = .ok (.invokevirtual 72, 3) := by decide +kernel
theorem dL_law_643 : decode cL_law 643 = .ok (.if_icmp .eq 770, 3) := by decide +kernel
theorem dL_law_648 : decode cL_law 648 = .ok (.aload_n 1, 1) := by decide +kernel
theorem dL_law_649 : decode cL_law 649 = .ok (.invokevirtual 73, 3) := by decide +kernel
theorem dL_law_652 : decode cL_law 652 = .ok (.aload_n 2, 1) := by decide +kernel
theorem dL_law_653 : decode cL_law 653 = .ok (.invokevirtual 77, 3) := by decide +kernel
theorem dL_law_656 : decode cL_law 656 = .ok (.if_icmp .eq 757, 3) := by decide +kernel
theorem dL_law_661 : decode cL_law 661 = .ok (.aload_n 1, 1) := by decide +kernel
theorem dL_law_662 : decode cL_law 662 = .ok (.invokevirtual 78, 3) := by decide +kernel
theorem dL_law_665 : decode cL_law 665 = .ok (.aload_n 2, 1) := by decide +kernel
theorem dL_law_666 : decode cL_law 666 = .ok (.invokevirtual 81, 3) := by decide +kernel
theorem dL_law_669 : decode cL_law 669 = .ok (.if_icmp .eq 744, 3) := by decide +kernel
theorem dL_law_674 : decode cL_law 674 = .ok (.aload_n 1, 1) := by decide +kernel
theorem dL_law_675 : decode cL_law 675 = .ok (.aload_n 0, 1) := by decide +kernel
theorem dL_law_676 : decode cL_law 676 = .ok (.iload_n 3, 1) := by decide +kernel
theorem dL_law_677 : decode cL_law 677 = .ok (.iconst 1, 1) := by decide +kernel
theorem dL_law_678 : decode cL_law 678 = .ok (.iadd, 1) := by decide +kernel
theorem dL_law_679 : decode cL_law 679 = .ok (.iaload, 1) := by decide +kernel
theorem dL_law_680 : decode cL_law 680 = .ok (.aload_n 0, 1) := by decide +kernel
theorem dL_law_681 : decode cL_law 681 = .ok (.iload_n 3, 1) := by decide +kernel
theorem dL_law_682 : decode cL_law 682 = .ok (.iconst 2, 1) := by decide +kernel
theorem dL_law_683 : decode cL_law 683 = .ok (.iadd, 1) := by decide +kernel
theorem dL_law_684 : decode cL_law 684 = .ok (.iaload, 1) := by decide +kernel
theorem dL_law_685 : decode cL_law 685 = .ok (.aload_n 0, 1) := by decide +kernel
theorem dL_law_686 : decode cL_law 686 = .ok (.iload_n 3, 1) := by decide +kernel
theorem dL_law_687 : decode cL_law 687 = .ok (.iconst 3, 1) := by decide +kernel
theorem dL_law_688 : decode cL_law 688 = .ok (.iadd, 1) := by decide +kernel
theorem dL_law_689 : decode cL_law 689 = .ok (.iaload, 1) := by decide +kernel
theorem dL_law_690 : decode cL_law 690 = .ok (.invokevirtual 82, 3) := by decide +kernel
theorem dL_law_693 : decode cL_law 693 = .ok (.aload_n 2, 1) := by decide +kernel
theorem dL_law_694 : decode cL_law 694 = .ok (.aload_n 0, 1) := by decide +kernel
theorem dL_law_695 : decode cL_law 695 = .ok (.iload_n 3, 1) := by decide +kernel
theorem dL_law_696 : decode cL_law 696 = .ok (.iconst 1, 1) := by decide +kernel
theorem dL_law_697 : decode cL_law 697 = .ok (.iadd, 1) := by decide +kernel
theorem dL_law_698 : decode cL_law 698 = .ok (.iaload, 1) := by decide +kernel
theorem dL_law_699 : decode cL_law 699 = .ok (.aload_n 0, 1) := by decide +kernel
theorem dL_law_700 : decode cL_law 700 = .ok (.iload_n 3, 1) := by decide +kernel
theorem dL_law_701 : decode cL_law 701 = .ok (.iconst 2, 1) := by decide +kernel
theorem dL_law_702 : decode cL_law 702 = .ok (.iadd, 1) := by decide +kernel
theorem dL_law_703 : decode cL_law 703 = .ok (.iaload, 1) := by decide +kernel
theorem dL_law_704 : decode cL_law 704 = .ok (.aload_n 0, 1) := by decide +kernel
theorem dL_law_705 : decode cL_law 705 = .ok (.iload_n 3, 1) := by decide +kernel
theorem dL_law_706 : decode cL_law 706 = .ok (.iconst 3, 1) := by decide +kernel
theorem dL_law_707 : decode cL_law 707 = .ok (.iadd, 1) := by decide +kernel
theorem dL_law_708 : decode cL_law 708 = .ok (.iaload, 1) := by decide +kernel
theorem dL_law_709 : decode cL_law 709 = .ok (.invokevirtual 86, 3) := by decide +kernel
theorem dL_law_712 : decode cL_law 712 = .ok (.if_icmp .eq 701, 3) := by decide +kernel
theorem dL_law_717 : decode cL_law 717 = .ok (.aload_n 1, 1) := by decide +kernel
theorem dL_law_718 : decode cL_law 718 = .ok (.aload_n 0, 1) := by decide +kernel
theorem dL_law_719 : decode cL_law 719 = .ok (.iload_n 3, 1) := by decide +kernel
theorem dL_law_720 : decode cL_law 720 = .ok (.iconst 1, 1) := by decide +kernel
theorem dL_law_721 : decode cL_law 721 = .ok (.iadd, 1) := by decide +kernel
theorem dL_law_722 : decode cL_law 722 = .ok (.iaload, 1) := by decide +kernel
theorem dL_law_723 : decode cL_law 723 = .ok (.invokevirtual 87, 3) := by decide +kernel
theorem dL_law_726 : decode cL_law 726 = .ok (.aload_n 2, 1) := by decide +kernel
theorem dL_law_727 : decode cL_law 727 = .ok (.aload_n 0, 1) := by decide +kernel
theorem dL_law_728 : decode cL_law 728 = .ok (.iload_n 3, 1) := by decide +kernel
theorem dL_law_729 : decode cL_law 729 = .ok (.iconst 1, 1) := by decide +kernel
theorem dL_law_730 : decode cL_law 730 = .ok (.iadd, 1) := by decide +kernel
theorem dL_law_731 : decode cL_law 731 = .ok (.iaload, 1) := by decide +kernel
theorem dL_law_732 : decode cL_law 732 = .ok (.invokevirtual 90, 3) := by decide +kernel
theorem dL_law_735 : decode cL_law 735 = .ok (.if_icmp .eq 678, 3) := by decide +kernel
theorem dL_law_740 : decode cL_law 740 = .ok (.aload_n 1, 1) := by decide +kernel
theorem dL_law_741 : decode cL_law 741 = .ok (.invokevirtual 91, 3) := by decide +kernel
theorem dL_law_744 : decode cL_law 744 = .ok (.aload_n 2, 1) := by decide +kernel
theorem dL_law_745 : decode cL_law 745 = .ok (.invokevirtual 94, 3) := by decide +kernel
theorem dL_law_748 : decode cL_law 748 = .ok (.if_icmp .eq 665, 3) := by decide +kernel
theorem dL_law_753 : decode cL_law 753 = .ok (.aload_n 1, 1) := by decide +kernel
theorem dL_law_754 : decode cL_law 754 = .ok (.aload_n 0, 1) := by decide +kernel
theorem dL_law_755 : decode cL_law 755 = .ok (.iload_n 3, 1) := by decide +kernel
theorem dL_law_756 : decode cL_law 756 = .ok (.iconst 1, 1) := by decide +kernel
theorem dL_law_757 : decode cL_law 757 = .ok (.iadd, 1) := by decide +kernel
theorem dL_law_758 : decode cL_law 758 = .ok (.iaload, 1) := by decide +kernel
theorem dL_law_759 : decode cL_law 759 = .ok (.invokevirtual 95, 3) := by decide +kernel
theorem dL_law_762 : decode cL_law 762 = .ok (.aload_n 2, 1) := by decide +kernel
theorem dL_law_763 : decode cL_law 763 = .ok (.aload_n 0, 1) := by decide +kernel
theorem dL_law_764 : decode cL_law 764 = .ok (.iload_n 3, 1) := by decide +kernel
theorem dL_law_765 : decode cL_law 765 = .ok (.iconst 1, 1) := by decide +kernel
theorem dL_law_766 : decode cL_law 766 = .ok (.iadd, 1) := by decide +kernel
theorem dL_law_767 : decode cL_law 767 = .ok (.iaload, 1) := by decide +kernel
theorem dL_law_768 : decode cL_law 768 = .ok (.invokevirtual 98, 3) := by decide +kernel
theorem dL_law_771 : decode cL_law 771 = .ok (.if_icmp .eq 642, 3) := by decide +kernel
theorem dL_law_776 : decode cL_law 776 = .ok (.aload_n 1, 1) := by decide +kernel
theorem dL_law_777 : decode cL_law 777 = .ok (.aload_n 0, 1) := by decide +kernel
theorem dL_law_778 : decode cL_law 778 = .ok (.iload_n 3, 1) := by decide +kernel
theorem dL_law_779 : decode cL_law 779 = .ok (.iconst 1, 1) := by decide +kernel
theorem dL_law_780 : decode cL_law 780 = .ok (.iadd, 1) := by decide +kernel
theorem dL_law_781 : decode cL_law 781 = .ok (.iaload, 1) := by decide +kernel
theorem dL_law_782 : decode cL_law 782 = .ok (.aload_n 0, 1) := by decide +kernel
theorem dL_law_783 : decode cL_law 783 = .ok (.iload_n 3, 1) := by decide +kernel
theorem dL_law_784 : decode cL_law 784 = .ok (.iconst 2, 1) := by decide +kernel
theorem dL_law_785 : decode cL_law 785 = .ok (.iadd, 1) := by decide +kernel
theorem dL_law_786 : decode cL_law 786 = .ok (.iaload, 1) := by decide +kernel
theorem dL_law_787 : decode cL_law 787 = .ok (.aload_n 0, 1) := by decide +kernel
theorem dL_law_788 : decode cL_law 788 = .ok (.iload_n 3, 1) := by decide +kernel
theorem dL_law_789 : decode cL_law 789 = .ok (.iconst 3, 1) := by decide +kernel
theorem dL_law_790 : decode cL_law 790 = .ok (.iadd, 1) := by decide +kernel
theorem dL_law_791 : decode cL_law 791 = .ok (.iaload, 1) := by decide +kernel
theorem dL_law_792 : decode cL_law 792 = .ok (.invokevirtual 99, 3) := by decide +kernel
theorem dL_law_795 : decode cL_law 795 = .ok (.aload_n 2, 1) := by decide +kernel
theorem dL_law_796 : decode cL_law 796 = .ok (.aload_n 0, 1) := by decide +kernel
theorem dL_law_797 : decode cL_law 797 = .ok (.iload_n 3, 1) := by decide +kernel
theorem dL_law_798 : decode cL_law 798 = .ok (.iconst 1, 1) := by decide +kernel
theorem dL_law_799 : decode cL_law 799 = .ok (.iadd, 1) := by decide +kernel
theorem dL_law_800 : decode cL_law 800 = .ok (.iaload, 1) := by decide +kernel
theorem dL_law_801 : decode cL_law 801 = .ok (.aload_n 0, 1) := by decide +kernel
theorem dL_law_802 : decode cL_law 802 = .ok (.iload_n 3, 1) := by decide +kernel
theorem dL_law_803 : decode cL_law 803 = .ok (.iconst 2, 1) := by decide +kernel
theorem dL_law_804 : decode cL_law 804 = .ok (.iadd, 1) := by decide +kernel
theorem dL_law_805 : decode cL_law 805 = .ok (.iaload, 1) := by decide +kernel
theorem dL_law_806 : decode cL_law 806 = .ok (.aload_n 0, 1) := by decide +kernel
theorem dL_law_807 : decode cL_law 807 = .ok (.iload_n 3, 1) := by decide +kernel
theorem dL_law_808 : decode cL_law 808 = .ok (.iconst 3, 1) := by decide +kernel
theorem dL_law_809 : decode cL_law 809 = .ok (.iadd, 1) := by decide +kernel
theorem dL_law_810 : decode cL_law 810 = .ok (.iaload, 1) := by decide +kernel
theorem dL_law_811 : decode cL_law 811 = .ok (.invokevirtual 102, 3) := by decide +kernel
theorem dL_law_814 : decode cL_law 814 = .ok (.if_icmp .eq 599, 3) := by decide +kernel
theorem dL_law_819 : decode cL_law 819 = .ok (.aload_n 1, 1) := by decide +kernel
theorem dL_law_820 : decode cL_law 820 = .ok (.aload_n 0, 1) := by decide +kernel
theorem dL_law_821 : decode cL_law 821 = .ok (.iload_n 3, 1) := by decide +kernel
theorem dL_law_822 : decode cL_law 822 = .ok (.iconst 1, 1) := by decide +kernel
theorem dL_law_823 : decode cL_law 823 = .ok (.iadd, 1) := by decide +kernel
theorem dL_law_824 : decode cL_law 824 = .ok (.iaload, 1) := by decide +kernel
theorem dL_law_825 : decode cL_law 825 = .ok (.invokevirtual 103, 3) := by decide +kernel
theorem dL_law_828 : decode cL_law 828 = .ok (.aload_n 2, 1) := by decide +kernel
theorem dL_law_829 : decode cL_law 829 = .ok (.aload_n 0, 1) := by decide +kernel
theorem dL_law_830 : decode cL_law 830 = .ok (.iload_n 3, 1) := by decide +kernel
theorem dL_law_831 : decode cL_law 831 = .ok (.iconst 1, 1) := by decide +kernel
theorem dL_law_832 : decode cL_law 832 = .ok (.iadd, 1) := by decide +kernel
theorem dL_law_833 : decode cL_law 833 = .ok (.iaload, 1) := by decide +kernel
theorem dL_law_834 : decode cL_law 834 = .ok (.invokevirtual 106, 3) := by decide +kernel
theorem dL_law_837 : decode cL_law 837 = .ok (.if_icmp .eq 576, 3) := by decide +kernel
theorem dL_law_842 : decode cL_law 842 = .ok (.aload_n 1, 1) := by decide +kernel
theorem dL_law_843 : decode cL_law 843 = .ok (.aload_n 0, 1) := by decide +kernel
theorem dL_law_844 : decode cL_law 844 = .ok (.iload_n 3, 1) := by decide +kernel
theorem dL_law_845 : decode cL_law 845 = .ok (.iconst 1, 1) := by decide +kernel
theorem dL_law_846 : decode cL_law 846 = .ok (.iadd, 1) := by decide +kernel
theorem dL_law_847 : decode cL_law 847 = .ok (.iaload, 1) := by decide +kernel
theorem dL_law_848 : decode cL_law 848 = .ok (.invokevirtual 107, 3) := by decide +kernel
theorem dL_law_851 : decode cL_law 851 = .ok (.aload_n 2, 1) := by decide +kernel
theorem dL_law_852 : decode cL_law 852 = .ok (.aload_n 0, 1) := by decide +kernel
theorem dL_law_853 : decode cL_law 853 = .ok (.iload_n 3, 1) := by decide +kernel
theorem dL_law_854 : decode cL_law 854 = .ok (.iconst 1, 1) := by decide +kernel
theorem dL_law_855 : decode cL_law 855 = .ok (.iadd, 1) := by decide +kernel
theorem dL_law_856 : decode cL_law 856 = .ok (.iaload, 1) := by decide +kernel
theorem dL_law_857 : decode cL_law 857 = .ok (.invokevirtual 110, 3) := by decide +kernel
theorem dL_law_860 : decode cL_law 860 = .ok (.if_icmp .eq 553, 3) := by decide +kernel
theorem dL_law_865 : decode cL_law 865 = .ok (.aload_n 1, 1) := by decide +kernel
theorem dL_law_866 : decode cL_law 866 = .ok (.aload_n 0, 1) := by decide +kernel
theorem dL_law_867 : decode cL_law 867 = .ok (.iload_n 3, 1) := by decide +kernel
theorem dL_law_868 : decode cL_law 868 = .ok (.iconst 1, 1) := by decide +kernel
theorem dL_law_869 : decode cL_law 869 = .ok (.iadd, 1) := by decide +kernel
theorem dL_law_870 : decode cL_law 870 = .ok (.iaload, 1) := by decide +kernel
theorem dL_law_871 : decode cL_law 871 = .ok (.aload_n 0, 1) := by decide +kernel
theorem dL_law_872 : decode cL_law 872 = .ok (.iload_n 3, 1) := by decide +kernel
theorem dL_law_873 : decode cL_law 873 = .ok (.iconst 2, 1) := by decide +kernel
theorem dL_law_874 : decode cL_law 874 = .ok (.iadd, 1) := by decide +kernel
theorem dL_law_875 : decode cL_law 875 = .ok (.iaload, 1) := by decide +kernel
theorem dL_law_876 : decode cL_law 876 = .ok (.invokevirtual 111, 3) := by decide +kernel
theorem dL_law_879 : decode cL_law 879 = .ok (.aload_n 2, 1) := by decide +kernel
theorem dL_law_880 : decode cL_law 880 = .ok (.aload_n 0, 1) := by decide +kernel
theorem dL_law_881 : decode cL_law 881 = .ok (.iload_n 3, 1) := by decide +kernel
theorem dL_law_882 : decode cL_law 882 = .ok (.iconst 1, 1) := by decide +kernel
theorem dL_law_883 : decode cL_law 883 = .ok (.iadd, 1) := by decide +kernel
theorem dL_law_884 : decode cL_law 884 = .ok (.iaload, 1) := by decide +kernel
theorem dL_law_885 : decode cL_law 885 = .ok (.aload_n 0, 1) := by decide +kernel
theorem dL_law_886 : decode cL_law 886 = .ok (.iload_n 3, 1) := by decide +kernel
theorem dL_law_887 : decode cL_law 887 = .ok (.iconst 2, 1) := by decide +kernel
theorem dL_law_888 : decode cL_law 888 = .ok (.iadd, 1) := by decide +kernel
theorem dL_law_889 : decode cL_law 889 = .ok (.iaload, 1) := by decide +kernel
theorem dL_law_890 : decode cL_law 890 = .ok (.invokevirtual 114, 3) := by decide +kernel
theorem dL_law_893 : decode cL_law 893 = .ok (.if_icmp .eq 520, 3) := by decide +kernel
theorem dL_law_898 : decode cL_law 898 = .ok (.aload_n 1, 1) := by decide +kernel
theorem dL_law_899 : decode cL_law 899 = .ok (.aload_n 0, 1) := by decide +kernel
theorem dL_law_900 : decode cL_law 900 = .ok (.iload_n 3, 1) := by decide +kernel
theorem dL_law_901 : decode cL_law 901 = .ok (.iconst 1, 1) := by decide +kernel
theorem dL_law_902 : decode cL_law 902 = .ok (.iadd, 1) := by decide +kernel
theorem dL_law_903 : decode cL_law 903 = .ok (.iaload, 1) := by decide +kernel
theorem dL_law_904 : decode cL_law 904 = .ok (.invokevirtual 115, 3) := by decide +kernel
theorem dL_law_907 : decode cL_law 907 = .ok (.aload_n 2, 1) := by decide +kernel
theorem dL_law_908 : decode cL_law 908 = .ok (.aload_n 0, 1) := by decide +kernel
theorem dL_law_909 : decode cL_law 909 = .ok (.iload_n 3, 1) := by decide +kernel
theorem dL_law_910 : decode cL_law 910 = .ok (.iconst 1, 1) := by decide +kernel
theorem dL_law_911 : decode cL_law 911 = .ok (.iadd, 1) := by decide +kernel
theorem dL_law_912 : decode cL_law 912 = .ok (.iaload, 1) := by decide +kernel
theorem dL_law_913 : decode cL_law 913 = .ok (.invokevirtual 118, 3) := by decide +kernel
theorem dL_law_916 : decode cL_law 916 = .ok (.if_icmp .eq 497, 3) := by decide +kernel
theorem dL_law_921 : decode cL_law 921 = .ok (.aload_n 1, 1) := by decide +kernel
theorem dL_law_922 : decode cL_law 922 = .ok (.invokevirtual 119, 3) := by decide +kernel
theorem dL_law_925 : decode cL_law 925 = .ok (.aload_n 2, 1) := by decide +kernel
theorem dL_law_926 : decode cL_law 926 = .ok (.invokevirtual 122, 3) := by decide +kernel
theorem dL_law_929 : decode cL_law 929 = .ok (.if_icmp .eq 484, 3) := by decide +kernel
theorem dL_law_934 : decode cL_law 934 = .ok (.aload_n 1, 1) := by decide +kernel
theorem dL_law_935 : decode cL_law 935 = .ok (.invokevirtual 123, 3) := by decide +kernel
theorem dL_law_938 : decode cL_law 938 = .ok (.aload_n 2, 1) := by decide +kernel
theorem dL_law_939 : decode cL_law 939 = .ok (.invokevirtual 126, 3) := by decide +kernel
theorem dL_law_942 : decode cL_law 942 = .ok (.if_icmp .eq 471, 3) := by decide +kernel
theorem dL_law_947 : decode cL_law 947 = .ok (.aload_n 1, 1) := by decide +kernel
theorem dL_law_948 : decode cL_law 948 = .ok (.aload_n 0, 1) := by decide +kernel
theorem dL_law_949 : decode cL_law 949 = .ok (.iload_n 3, 1) := by decide +kernel
theorem dL_law_950 : decode cL_law 950 = .ok (.iconst 1, 1) := by decide +kernel
theorem dL_law_951 : decode cL_law 951 = .ok (.iadd, 1) := by decide +kernel
theorem dL_law_952 : decode cL_law 952 = .ok (.iaload, 1) := by decide +kernel
theorem dL_law_953 : decode cL_law 953 = .ok (.aload_n 0, 1) := by decide +kernel
theorem dL_law_954 : decode cL_law 954 = .ok (.iload_n 3, 1) := by decide +kernel
theorem dL_law_955 : decode cL_law 955 = .ok (.iconst 2, 1) := by decide +kernel
theorem dL_law_956 : decode cL_law 956 = .ok (.iadd, 1) := by decide +kernel
theorem dL_law_957 : decode cL_law 957 = .ok (.iaload, 1) := by decide +kernel
theorem dL_law_958 : decode cL_law 958 = .ok (.invokevirtual 127, 3) := by decide +kernel
theorem dL_law_961 : decode cL_law 961 = .ok (.aload_n 2, 1) := by decide +kernel
theorem dL_law_962 : decode cL_law 962 = .ok (.aload_n 0, 1) := by decide +kernel
theorem dL_law_963 : decode cL_law 963 = .ok (.iload_n 3, 1) := by decide +kernel
theorem dL_law_964 : decode cL_law 964 = .ok (.iconst 1, 1) := by decide +kernel
theorem dL_law_965 : decode cL_law 965 = .ok (.iadd, 1) := by decide +kernel
theorem dL_law_966 : decode cL_law 966 = .ok (.iaload, 1) := by decide +kernel
theorem dL_law_967 : decode cL_law 967 = .ok (.aload_n 0, 1) := by decide +kernel
theorem dL_law_968 : decode cL_law 968 = .ok (.iload_n 3, 1) := by decide +kernel
theorem dL_law_969 : decode cL_law 969 = .ok (.iconst 2, 1) := by decide +kernel
theorem dL_law_970 : decode cL_law 970 = .ok (.iadd, 1) := by decide +kernel
theorem dL_law_971 : decode cL_law 971 = .ok (.iaload, 1) := by decide +kernel
theorem dL_law_972 : decode cL_law 972 = .ok (.invokevirtual 130, 3) := by decide +kernel
theorem dL_law_975 : decode cL_law 975 = .ok (.if_icmp .eq 438, 3) := by decide +kernel
theorem dL_law_980 : decode cL_law 980 = .ok (.aload_n 1, 1) := by decide +kernel
theorem dL_law_981 : decode cL_law 981 = .ok (.invokevirtual 131, 3) := by decide +kernel
theorem dL_law_984 : decode cL_law 984 = .ok (.aload_n 2, 1) := by decide +kernel
theorem dL_law_985 : decode cL_law 985 = .ok (.invokevirtual 134, 3) := by decide +kernel
theorem dL_law_988 : decode cL_law 988 = .ok (.if_icmp .eq 425, 3) := by decide +kernel
theorem dL_law_993 : decode cL_law 993 = .ok (.aload_n 1, 1) := by decide +kernel
theorem dL_law_994 : decode cL_law 994 = .ok (.invokevirtual 135, 3) := by decide +kernel
theorem dL_law_997 : decode cL_law 997 = .ok (.aload_n 2, 1) := by decide +kernel
theorem dL_law_998 : decode cL_law 998 = .ok (.invokevirtual 138, 3) := by decide +kernel
theorem dL_law_1001 : decode cL_law 1001 = .ok (.if_icmp .eq 412, 3) := by decide +kernel
theorem dL_law_1006 : decode cL_law 1006 = .ok (.aload_n 1, 1) := by decide +kernel
theorem dL_law_1007 : decode cL_law 1007 = .ok (.invokevirtual 139, 3) := by decide +kernel
theorem dL_law_1010 : decode cL_law 1010 = .ok (.aload_n 2, 1) := by decide +kernel
theorem dL_law_1011 : decode cL_law 1011 = .ok (.invokevirtual 142, 3) := by decide +kernel
theorem dL_law_1014 : decode cL_law 1014 = .ok (.if_icmp .eq 399, 3) := by decide +kernel
theorem dL_law_1019 : decode cL_law 1019 = .ok (.aload_n 1, 1) := by decide +kernel
theorem dL_law_1020 : decode cL_law 1020 = .ok (.aload_n 0, 1) := by decide +kernel
theorem dL_law_1021 : decode cL_law 1021 = .ok (.iload_n 3, 1) := by decide +kernel
theorem dL_law_1022 : decode cL_law 1022 = .ok (.iconst 1, 1) := by decide +kernel
theorem dL_law_1023 : decode cL_law 1023 = .ok (.iadd, 1) := by decide +kernel
theorem dL_law_1024 : decode cL_law 1024 = .ok (.iaload, 1) := by decide +kernel
theorem dL_law_1025 : decode cL_law 1025 = .ok (.invokevirtual 143, 3) := by decide +kernel
theorem dL_law_1028 : decode cL_law 1028 = .ok (.aload_n 2, 1) := by decide +kernel
theorem dL_law_1029 : decode cL_law 1029 = .ok (.aload_n 0, 1) := by decide +kernel
theorem dL_law_1030 : decode cL_law 1030 = .ok (.iload_n 3, 1) := by decide +kernel
theorem dL_law_1031 : decode cL_law 1031 = .ok (.iconst 1, 1) := by decide +kernel
theorem dL_law_1032 : decode cL_law 1032 = .ok (.iadd, 1) := by decide +kernel
theorem dL_law_1033 : decode cL_law 1033 = .ok (.iaload, 1) := by decide +kernel
theorem dL_law_1034 : decode cL_law 1034 = .ok (.invokevirtual 146, 3) := by decide +kernel
theorem dL_law_1037 : decode cL_law 1037 = .ok (.if_icmp .eq 376, 3) := by decide +kernel
theorem dL_law_1042 : decode cL_law 1042 = .ok (.aload_n 1, 1) := by decide +kernel
theorem dL_law_1043 : decode cL_law 1043 = .ok (.aload_n 0, 1) := by decide +kernel
theorem dL_law_1044 : decode cL_law 1044 = .ok (.iload_n 3, 1) := by decide +kernel
theorem dL_law_1045 : decode cL_law 1045 = .ok (.iconst 1, 1) := by decide +kernel
theorem dL_law_1046 : decode cL_law 1046 = .ok (.iadd, 1) := by decide +kernel
theorem dL_law_1047 : decode cL_law 1047 = .ok (.iaload, 1) := by decide +kernel
theorem dL_law_1048 : decode cL_law 1048 = .ok (.invokevirtual 147, 3) := by decide +kernel
theorem dL_law_1051 : decode cL_law 1051 = .ok (.aload_n 2, 1) := by decide +kernel
theorem dL_law_1052 : decode cL_law 1052 = .ok (.aload_n 0, 1) := by decide +kernel
theorem dL_law_1053 : decode cL_law 1053 = .ok (.iload_n 3, 1) := by decide +kernel
theorem dL_law_1054 : decode cL_law 1054 = .ok (.iconst 1, 1) := by decide +kernel
theorem dL_law_1055 : decode cL_law 1055 = .ok (.iadd, 1) := by decide +kernel
theorem dL_law_1056 : decode cL_law 1056 = .ok (.iaload, 1) := by decide +kernel
theorem dL_law_1057 : decode cL_law 1057 = .ok (.invokevirtual 150, 3) := by decide +kernel
theorem dL_law_1060 : decode cL_law 1060 = .ok (.if_icmp .eq 353, 3) := by decide +kernel
theorem dL_law_1065 : decode cL_law 1065 = .ok (.aload_n 1, 1) := by decide +kernel
theorem dL_law_1066 : decode cL_law 1066 = .ok (.invokevirtual 151, 3) := by decide +kernel
theorem dL_law_1069 : decode cL_law 1069 = .ok (.aload_n 2, 1) := by decide +kernel
theorem dL_law_1070 : decode cL_law 1070 = .ok (.invokevirtual 154, 3) := by decide +kernel
theorem dL_law_1073 : decode cL_law 1073 = .ok (.if_icmp .eq 340, 3) := by decide +kernel
theorem dL_law_1078 : decode cL_law 1078 = .ok (.aload_n 1, 1) := by decide +kernel
theorem dL_law_1079 : decode cL_law 1079 = .ok (.invokevirtual 155, 3) := by decide +kernel
theorem dL_law_1082 : decode cL_law 1082 = .ok (.aload_n 2, 1) := by decide +kernel
theorem dL_law_1083 : decode cL_law 1083 = .ok (.invokevirtual 158, 3) := by decide +kernel
theorem dL_law_1086 : decode cL_law 1086 = .ok (.if_icmp .eq 327, 3) := by decide +kernel
theorem dL_law_1091 : decode cL_law 1091 = .ok (.aload_n 1, 1) := by decide +kernel
theorem dL_law_1092 : decode cL_law 1092 = .ok (.invokevirtual 159, 3) := by decide +kernel
theorem dL_law_1095 : decode cL_law 1095 = .ok (.aload_n 2, 1) := by decide +kernel
theorem dL_law_1096 : decode cL_law 1096 = .ok (.invokevirtual 162, 3) := by decide +kernel
theorem dL_law_1099 : decode cL_law 1099 = .ok (.if_icmp .eq 314, 3) := by decide +kernel
theorem dL_law_1104 : decode cL_law 1104 = .ok (.aload_n 1, 1) := by decide +kernel
theorem dL_law_1105 : decode cL_law 1105 = .ok (.aload_n 0, 1) := by decide +kernel
theorem dL_law_1106 : decode cL_law 1106 = .ok (.iload_n 3, 1) := by decide +kernel
theorem dL_law_1107 : decode cL_law 1107 = .ok (.iconst 1, 1) := by decide +kernel
theorem dL_law_1108 : decode cL_law 1108 = .ok (.iadd, 1) := by decide +kernel
theorem dL_law_1109 : decode cL_law 1109 = .ok (.iaload, 1) := by decide +kernel
theorem dL_law_1110 : decode cL_law 1110 = .ok (.aload_n 0, 1) := by decide +kernel
theorem dL_law_1111 : decode cL_law 1111 = .ok (.iload_n 3, 1) := by decide +kernel
theorem dL_law_1112 : decode cL_law 1112 = .ok (.iconst 2, 1) := by decide +kernel
theorem dL_law_1113 : decode cL_law 1113 = .ok (.iadd, 1) := by decide +kernel
theorem dL_law_1114 : decode cL_law 1114 = .ok (.iaload, 1) := by decide +kernel
theorem dL_law_1115 : decode cL_law 1115 = .ok (.invokevirtual 163, 3) := by decide +kernel
theorem dL_law_1118 : decode cL_law 1118 = .ok (.aload_n 2, 1) := by decide +kernel
theorem dL_law_1119 : decode cL_law 1119 = .ok (.aload_n 0, 1) := by decide +kernel
theorem dL_law_1120 : decode cL_law 1120 = .ok (.iload_n 3, 1) := by decide +kernel
theorem dL_law_1121 : decode cL_law 1121 = .ok (.iconst 1, 1) := by decide +kernel
theorem dL_law_1122 : decode cL_law 1122 = .ok (.iadd, 1) := by decide +kernel
theorem dL_law_1123 : decode cL_law 1123 = .ok (.iaload, 1) := by decide +kernel
theorem dL_law_1124 : decode cL_law 1124 = .ok (.aload_n 0, 1) := by decide +kernel
theorem dL_law_1125 : decode cL_law 1125 = .ok (.iload_n 3, 1) := by decide +kernel
theorem dL_law_1126 : decode cL_law 1126 = .ok (.iconst 2, 1) := by decide +kernel
theorem dL_law_1127 : decode cL_law 1127 = .ok (.iadd, 1) := by decide +kernel
theorem dL_law_1128 : decode cL_law 1128 = .ok (.iaload, 1) := by decide +kernel
theorem dL_law_1129 : decode cL_law 1129 = .ok (.invokevirtual 166, 3) := by decide +kernel
theorem dL_law_1132 : decode cL_law 1132 = .ok (.if_icmp .eq 281, 3) := by decide +kernel
theorem dL_law_1137 : decode cL_law 1137 = .ok (.aload_n 1, 1) := by decide +kernel
theorem dL_law_1138 : decode cL_law 1138 = .ok (.aload_n 0, 1) := by decide +kernel
theorem dL_law_1139 : decode cL_law 1139 = .ok (.iload_n 3, 1) := by decide +kernel
theorem dL_law_1140 : decode cL_law 1140 = .ok (.iconst 1, 1) := by decide +kernel
theorem dL_law_1141 : decode cL_law 1141 = .ok (.iadd, 1) := by decide +kernel
theorem dL_law_1142 : decode cL_law 1142 = .ok (.iaload, 1) := by decide +kernel
theorem dL_law_1143 : decode cL_law 1143 = .ok (.invokevirtual 167, 3) := by decide +kernel
theorem dL_law_1146 : decode cL_law 1146 = .ok (.aload_n 2, 1) := by decide +kernel
theorem dL_law_1147 : decode cL_law 1147 = .ok (.aload_n 0, 1) := by decide +kernel
theorem dL_law_1148 : decode cL_law 1148 = .ok (.iload_n 3, 1) := by decide +kernel
theorem dL_law_1149 : decode cL_law 1149 = .ok (.iconst 1, 1) := by decide +kernel
theorem dL_law_1150 : decode cL_law 1150 = .ok (.iadd, 1) := by decide +kernel
theorem dL_law_1151 : decode cL_law 1151 = .ok (.iaload, 1) := by decide +kernel
theorem dL_law_1152 : decode cL_law 1152 = .ok (.invokevirtual 170, 3) := by decide +kernel
theorem dL_law_1155 : decode cL_law 1155 = .ok (.if_icmp .eq 258, 3) := by decide +kernel
theorem dL_law_1160 : decode cL_law 1160 = .ok (.aload_n 1, 1) := by decide +kernel
theorem dL_law_1161 : decode cL_law 1161 = .ok (.aload_n 0, 1) := by decide +kernel
theorem dL_law_1162 : decode cL_law 1162 = .ok (.iload_n 3, 1) := by decide +kernel
theorem dL_law_1163 : decode cL_law 1163 = .ok (.iconst 1, 1) := by decide +kernel
theorem dL_law_1164 : decode cL_law 1164 = .ok (.iadd, 1) := by decide +kernel
theorem dL_law_1165 : decode cL_law 1165 = .ok (.iaload, 1) := by decide +kernel
theorem dL_law_1166 : decode cL_law 1166 = .ok (.aload_n 0, 1) := by decide +kernel
theorem dL_law_1167 : decode cL_law 1167 = .ok (.iload_n 3, 1) := by decide +kernel
theorem dL_law_1168 : decode cL_law 1168 = .ok (.iconst 2, 1) := by decide +kernel
theorem dL_law_1169 : decode cL_law 1169 = .ok (.iadd, 1) := by decide +kernel
theorem dL_law_1170 : decode cL_law 1170 = .ok (.iaload, 1) := by decide +kernel
theorem dL_law_1171 : decode cL_law 1171 = .ok (.ifCond .eq 7, 3) := by decide +kernel
theorem dL_law_1174 : decode cL_law 1174 = .ok (.iconst 1, 1) := by decide +kernel
theorem dL_law_1175 : decode cL_law 1175 = .ok (.goto 4, 3) := by decide +kernel
theorem dL_law_1178 : decode cL_law 1178 = .ok (.iconst 0, 1) := by decide +kernel
theorem dL_law_1179 : decode cL_law 1179 = .ok (.invokevirtual 171, 3) := by decide +kernel
theorem dL_law_1182 : decode cL_law 1182 = .ok (.aload_n 2, 1) := by decide +kernel
theorem dL_law_1183 : decode cL_law 1183 = .ok (.aload_n 0, 1) := by decide +kernel
theorem dL_law_1184 : decode cL_law 1184 = .ok (.iload_n 3, 1) := by decide +kernel
theorem dL_law_1185 : decode cL_law 1185 = .ok (.iconst 1, 1) := by decide +kernel
theorem dL_law_1186 : decode cL_law 1186 = .ok (.iadd, 1) := by decide +kernel
theorem dL_law_1187 : decode cL_law 1187 = .ok (.iaload, 1) := by decide +kernel
theorem dL_law_1188 : decode cL_law 1188 = .ok (.aload_n 0, 1) := by decide +kernel
theorem dL_law_1189 : decode cL_law 1189 = .ok (.iload_n 3, 1) := by decide +kernel
theorem dL_law_1190 : decode cL_law 1190 = .ok (.iconst 2, 1) := by decide +kernel
theorem dL_law_1191 : decode cL_law 1191 = .ok (.iadd, 1) := by decide +kernel
theorem dL_law_1192 : decode cL_law 1192 = .ok (.iaload, 1) := by decide +kernel
theorem dL_law_1193 : decode cL_law 1193 = .ok (.ifCond .eq 7, 3) := by decide +kernel
theorem dL_law_1196 : decode cL_law 1196 = .ok (.iconst 1, 1) := by decide +kernel
theorem dL_law_1197 : decode cL_law 1197 = .ok (.goto 4, 3) := by decide +kernel
theorem dL_law_1200 : decode cL_law 1200 = .ok (.iconst 0, 1) := by decide +kernel
theorem dL_law_1201 : decode cL_law 1201 = .ok (.invokevirtual 175, 3) := by decide +kernel
theorem dL_law_1204 : decode cL_law 1204 = .ok (.if_icmp .eq 209, 3) := by decide +kernel
theorem dL_law_1209 : decode cL_law 1209 = .ok (.aload_n 1, 1) := by decide +kernel
theorem dL_law_1210 : decode cL_law 1210 = .ok (.aload_n 0, 1) := by decide +kernel
theorem dL_law_1211 : decode cL_law 1211 = .ok (.iload_n 3, 1) := by decide +kernel
theorem dL_law_1212 : decode cL_law 1212 = .ok (.iconst 1, 1) := by decide +kernel
theorem dL_law_1213 : decode cL_law 1213 = .ok (.iadd, 1) := by decide +kernel
theorem dL_law_1214 : decode cL_law 1214 = .ok (.iaload, 1) := by decide +kernel
theorem dL_law_1215 : decode cL_law 1215 = .ok (.invokevirtual 176, 3) := by decide +kernel
theorem dL_law_1218 : decode cL_law 1218 = .ok (.aload_n 2, 1) := by decide +kernel
theorem dL_law_1219 : decode cL_law 1219 = .ok (.aload_n 0, 1) := by decide +kernel
theorem dL_law_1220 : decode cL_law 1220 = .ok (.iload_n 3, 1) := by decide +kernel
theorem dL_law_1221 : decode cL_law 1221 = .ok (.iconst 1, 1) := by decide +kernel
theorem dL_law_1222 : decode cL_law 1222 = .ok (.iadd, 1) := by decide +kernel
theorem dL_law_1223 : decode cL_law 1223 = .ok (.iaload, 1) := by decide +kernel
theorem dL_law_1224 : decode cL_law 1224 = .ok (.invokevirtual 180, 3) := by decide +kernel
theorem dL_law_1227 : decode cL_law 1227 = .ok (.if_icmp .eq 186, 3) := by decide +kernel
theorem dL_law_1232 : decode cL_law 1232 = .ok (.aload_n 1, 1) := by decide +kernel
theorem dL_law_1233 : decode cL_law 1233 = .ok (.aload_n 0, 1) := by decide +kernel
theorem dL_law_1234 : decode cL_law 1234 = .ok (.iload_n 3, 1) := by decide +kernel
theorem dL_law_1235 : decode cL_law 1235 = .ok (.iconst 1, 1) := by decide +kernel
theorem dL_law_1236 : decode cL_law 1236 = .ok (.iadd, 1) := by decide +kernel
theorem dL_law_1237 : decode cL_law 1237 = .ok (.iaload, 1) := by decide +kernel
theorem dL_law_1238 : decode cL_law 1238 = .ok (.invokevirtual 181, 3) := by decide +kernel
theorem dL_law_1241 : decode cL_law 1241 = .ok (.aload_n 2, 1) := by decide +kernel
theorem dL_law_1242 : decode cL_law 1242 = .ok (.aload_n 0, 1) := by decide +kernel
theorem dL_law_1243 : decode cL_law 1243 = .ok (.iload_n 3, 1) := by decide +kernel
theorem dL_law_1244 : decode cL_law 1244 = .ok (.iconst 1, 1) := by decide +kernel
theorem dL_law_1245 : decode cL_law 1245 = .ok (.iadd, 1) := by decide +kernel
theorem dL_law_1246 : decode cL_law 1246 = .ok (.iaload, 1) := by decide +kernel
theorem dL_law_1247 : decode cL_law 1247 = .ok (.invokevirtual 184, 3) := by decide +kernel
theorem dL_law_1250 : decode cL_law 1250 = .ok (.if_icmp .eq 163, 3) := by decide +kernel
theorem dL_law_1255 : decode cL_law 1255 = .ok (.aload_n 1, 1) := by decide +kernel
theorem dL_law_1256 : decode cL_law 1256 = .ok (.aload_n 0, 1) := by decide +kernel
theorem dL_law_1257 : decode cL_law 1257 = .ok (.iload_n 3, 1) := by decide +kernel
theorem dL_law_1258 : decode cL_law 1258 = .ok (.iconst 1, 1) := by decide +kernel
theorem dL_law_1259 : decode cL_law 1259 = .ok (.iadd, 1) := by decide +kernel
theorem dL_law_1260 : decode cL_law 1260 = .ok (.iaload, 1) := by decide +kernel
theorem dL_law_1261 : decode cL_law 1261 = .ok (.invokevirtual 185, 3) := by decide +kernel
theorem dL_law_1264 : decode cL_law 1264 = .ok (.aload_n 2, 1) := by decide +kernel
theorem dL_law_1265 : decode cL_law 1265 = .ok (.aload_n 0, 1) := by decide +kernel
theorem dL_law_1266 : decode cL_law 1266 = .ok (.iload_n 3, 1) := by decide +kernel
theorem dL_law_1267 : decode cL_law 1267 = .ok (.iconst 1, 1) := by decide +kernel
theorem dL_law_1268 : decode cL_law 1268 = .ok (.iadd, 1) := by decide +kernel
theorem dL_law_1269 : decode cL_law 1269 = .ok (.iaload, 1) := by decide +kernel
theorem dL_law_1270 : decode cL_law 1270 = .ok (.invokevirtual 188, 3) := by decide +kernel
theorem dL_law_1273 : decode cL_law 1273 = .ok (.if_icmp .eq 140, 3) := by decide +kernel
theorem dL_law_1278 : decode cL_law 1278 = .ok (.aload_n 1, 1) := by decide +kernel
theorem dL_law_1279 : decode cL_law 1279 = .ok (.aload_n 0, 1) := by decide +kernel
theorem dL_law_1280 : decode cL_law 1280 = .ok (.iload_n 3, 1) := by decide +kernel
theorem dL_law_1281 : decode cL_law 1281 = .ok (.iconst 1, 1) := by decide +kernel
theorem dL_law_1282 : decode cL_law 1282 = .ok (.iadd, 1) := by decide +kernel
theorem dL_law_1283 : decode cL_law 1283 = .ok (.iaload, 1) := by decide +kernel
theorem dL_law_1284 : decode cL_law 1284 = .ok (.aload_n 0, 1) := by decide +kernel
theorem dL_law_1285 : decode cL_law 1285 = .ok (.iload_n 3, 1) := by decide +kernel
theorem dL_law_1286 : decode cL_law 1286 = .ok (.iconst 2, 1) := by decide +kernel
theorem dL_law_1287 : decode cL_law 1287 = .ok (.iadd, 1) := by decide +kernel
theorem dL_law_1288 : decode cL_law 1288 = .ok (.iaload, 1) := by decide +kernel
theorem dL_law_1289 : decode cL_law 1289 = .ok (.invokevirtual 189, 3) := by decide +kernel
theorem dL_law_1292 : decode cL_law 1292 = .ok (.aload_n 2, 1) := by decide +kernel
theorem dL_law_1293 : decode cL_law 1293 = .ok (.aload_n 0, 1) := by decide +kernel
theorem dL_law_1294 : decode cL_law 1294 = .ok (.iload_n 3, 1) := by decide +kernel
theorem dL_law_1295 : decode cL_law 1295 = .ok (.iconst 1, 1) := by decide +kernel
theorem dL_law_1296 : decode cL_law 1296 = .ok (.iadd, 1) := by decide +kernel
theorem dL_law_1297 : decode cL_law 1297 = .ok (.iaload, 1) := by decide +kernel
theorem dL_law_1298 : decode cL_law 1298 = .ok (.aload_n 0, 1) := by decide +kernel
theorem dL_law_1299 : decode cL_law 1299 = .ok (.iload_n 3, 1) := by decide +kernel
theorem dL_law_1300 : decode cL_law 1300 = .ok (.iconst 2, 1) := by decide +kernel
theorem dL_law_1301 : decode cL_law 1301 = .ok (.iadd, 1) := by decide +kernel
theorem dL_law_1302 : decode cL_law 1302 = .ok (.iaload, 1) := by decide +kernel
theorem dL_law_1303 : decode cL_law 1303 = .ok (.invokevirtual 192, 3) := by decide +kernel
theorem dL_law_1306 : decode cL_law 1306 = .ok (.if_icmp .eq 107, 3) := by decide +kernel
theorem dL_law_1311 : decode cL_law 1311 = .ok (.aload_n 1, 1) := by decide +kernel
theorem dL_law_1312 : decode cL_law 1312 = .ok (.aload_n 0, 1) := by decide +kernel
theorem dL_law_1313 : decode cL_law 1313 = .ok (.iload_n 3, 1) := by decide +kernel
theorem dL_law_1314 : decode cL_law 1314 = .ok (.iconst 1, 1) := by decide +kernel
theorem dL_law_1315 : decode cL_law 1315 = .ok (.iadd, 1) := by decide +kernel
theorem dL_law_1316 : decode cL_law 1316 = .ok (.iaload, 1) := by decide +kernel
theorem dL_law_1317 : decode cL_law 1317 = .ok (.aload_n 0, 1) := by decide +kernel
theorem dL_law_1318 : decode cL_law 1318 = .ok (.iload_n 3, 1) := by decide +kernel
theorem dL_law_1319 : decode cL_law 1319 = .ok (.iconst 2, 1) := by decide +kernel
theorem dL_law_1320 : decode cL_law 1320 = .ok (.iadd, 1) := by decide +kernel
theorem dL_law_1321 : decode cL_law 1321 = .ok (.iaload, 1) := by decide +kernel
theorem dL_law_1322 : decode cL_law 1322 = .ok (.invokevirtual 193, 3) := by decide +kernel
theorem dL_law_1325 : decode cL_law 1325 = .ok (.aload_n 2, 1) := by decide +kernel
theorem dL_law_1326 : decode cL_law 1326 = .ok (.aload_n 0, 1) := by decide +kernel
theorem dL_law_1327 : decode cL_law 1327 = .ok (.iload_n 3, 1) := by decide +kernel
theorem dL_law_1328 : decode cL_law 1328 = .ok (.iconst 1, 1) := by decide +kernel
theorem dL_law_1329 : decode cL_law 1329 = .ok (.iadd, 1) := by decide +kernel
theorem dL_law_1330 : decode cL_law 1330 = .ok (.iaload, 1) := by decide +kernel
theorem dL_law_1331 : decode cL_law 1331 = .ok (.aload_n 0, 1) := by decide +kernel
theorem dL_law_1332 : decode cL_law 1332 = .ok (.iload_n 3, 1) := by decide +kernel
theorem dL_law_1333 : decode cL_law 1333 = .ok (.iconst 2, 1) := by decide +kernel
theorem dL_law_1334 : decode cL_law 1334 = .ok (.iadd, 1) := by decide +kernel
theorem dL_law_1335 : decode cL_law 1335 = .ok (.iaload, 1) := by decide +kernel
theorem dL_law_1336 : decode cL_law 1336 = .ok (.invokevirtual 196, 3) := by decide +kernel
theorem dL_law_1339 : decode cL_law 1339 = .ok (.if_icmp .eq 74, 3) := by decide +kernel
theorem dL_law_1344 : decode cL_law 1344 = .ok (.aload_n 1, 1) := by decide +kernel
theorem dL_law_1345 : decode cL_law 1345 = .ok (.aload_n 0, 1) := by decide +kernel
theorem dL_law_1346 : decode cL_law 1346 = .ok (.iload_n 3, 1) := by decide +kernel
theorem dL_law_1347 : decode cL_law 1347 = .ok (.iconst 1, 1) := by decide +kernel
theorem dL_law_1348 : decode cL_law 1348 = .ok (.iadd, 1) := by decide +kernel
theorem dL_law_1349 : decode cL_law 1349 = .ok (.iaload, 1) := by decide +kernel
theorem dL_law_1350 : decode cL_law 1350 = .ok (.invokevirtual 197, 3) := by decide +kernel
theorem dL_law_1353 : decode cL_law 1353 = .ok (.aload_n 2, 1) := by decide +kernel
theorem dL_law_1354 : decode cL_law 1354 = .ok (.aload_n 0, 1) := by decide +kernel
theorem dL_law_1355 : decode cL_law 1355 = .ok (.iload_n 3, 1) := by decide +kernel
theorem dL_law_1356 : decode cL_law 1356 = .ok (.iconst 1, 1) := by decide +kernel
theorem dL_law_1357 : decode cL_law 1357 = .ok (.iadd, 1) := by decide +kernel
theorem dL_law_1358 : decode cL_law 1358 = .ok (.iaload, 1) := by decide +kernel
theorem dL_law_1359 : decode cL_law 1359 = .ok (.invokevirtual 200, 3) := by decide +kernel
theorem dL_law_1362 : decode cL_law 1362 = .ok (.if_icmp .eq 51, 3) := by decide +kernel
theorem dL_law_1367 : decode cL_law 1367 = .ok (.aload_n 1, 1) := by decide +kernel
theorem dL_law_1368 : decode cL_law 1368 = .ok (.aload_n 0, 1) := by decide +kernel
theorem dL_law_1369 : decode cL_law 1369 = .ok (.iload_n 3, 1) := by decide +kernel
theorem dL_law_1370 : decode cL_law 1370 = .ok (.iconst 1, 1) := by decide +kernel
theorem dL_law_1371 : decode cL_law 1371 = .ok (.iadd, 1) := by decide +kernel
theorem dL_law_1372 : decode cL_law 1372 = .ok (.iaload, 1) := by decide +kernel
theorem dL_law_1373 : decode cL_law 1373 = .ok (.invokevirtual 201, 3) := by decide +kernel
theorem dL_law_1376 : decode cL_law 1376 = .ok (.aload_n 2, 1) := by decide +kernel
theorem dL_law_1377 : decode cL_law 1377 = .ok (.aload_n 0, 1) := by decide +kernel
theorem dL_law_1378 : decode cL_law 1378 = .ok (.iload_n 3, 1) := by decide +kernel
theorem dL_law_1379 : decode cL_law 1379 = .ok (.iconst 1, 1) := by decide +kernel
theorem dL_law_1380 : decode cL_law 1380 = .ok (.iadd, 1) := by decide +kernel
theorem dL_law_1381 : decode cL_law 1381 = .ok (.iaload, 1) := by decide +kernel
theorem dL_law_1382 : decode cL_law 1382 = .ok (.invokevirtual 204, 3) := by decide +kernel
theorem dL_law_1385 : decode cL_law 1385 = .ok (.if_icmp .eq 28, 3) := by decide +kernel
theorem dL_law_1390 : decode cL_law 1390 = .ok (.aload_n 1, 1) := by decide +kernel
theorem dL_law_1391 : decode cL_law 1391 = .ok (.aload_n 0, 1) := by decide +kernel
theorem dL_law_1392 : decode cL_law 1392 = .ok (.iload_n 3, 1) := by decide +kernel
theorem dL_law_1393 : decode cL_law 1393 = .ok (.iconst 1, 1) := by decide +kernel
theorem dL_law_1394 : decode cL_law 1394 = .ok (.iadd, 1) := by decide +kernel
theorem dL_law_1395 : decode cL_law 1395 = .ok (.iaload, 1) := by decide +kernel
theorem dL_law_1396 : decode cL_law 1396 = .ok (.invokevirtual 205, 3) := by decide +kernel
theorem dL_law_1399 : decode cL_law 1399 = .ok (.aload_n 2, 1) := by decide +kernel
theorem dL_law_1400 : decode cL_law 1400 = .ok (.aload_n 0, 1) := by decide +kernel
theorem dL_law_1401 : decode cL_law 1401 = .ok (.iload_n 3, 1) := by decide +kernel
theorem dL_law_1402 : decode cL_law 1402 = .ok (.iconst 1, 1) := by decide +kernel
theorem dL_law_1403 : decode cL_law 1403 = .ok (.iadd, 1) := by decide +kernel
theorem dL_law_1404 : decode cL_law 1404 = .ok (.iaload, 1) := by decide +kernel
theorem dL_law_1405 : decode cL_law 1405 = .ok (.invokevirtual 208, 3) := by decide +kernel
theorem dL_law_1408 : decode cL_law 1408 = .ok (.if_icmp .eq 5, 3) := by decide +kernel
theorem dL_law_1413 : decode cL_law 1413 = .ok (.iinc 3 6, 3) := by decide +kernel
theorem dL_law_1416 : decode cL_law 1416 = .ok (.goto (-1398), 3) := by decide +kernel
theorem dL_law_1419 : decode cL_law 1419 = .ok (.iconst 1, 1) := by decide +kernel
theorem dL_law_1420 : decode cL_law 1420 = .ok (.ireturn, 1) := by decide +kernel
theorem dX0_clear_0 : decode cX0_clear 0 = .ok (.aload_n 0, 1) := by decide +kernel
theorem dX0_clear_1 : decode cX0_clear 1 = .ok (.iconst 0, 1) := by decide +kernel
theorem dX0_clear_2 : decode cX0_clear 2 = .ok (.putfield 29, 3) := by decide +kernel
theorem dX0_clear_5 : decode cX0_clear 5 = .ok (.return_, 1) := by decide +kernel
theorem dX0_init_0 : decode cX0_init 0 = .ok (.aload_n 0, 1) := by decide +kernel
theorem dX0_init_1 : decode cX0_init 1 = .ok (.invokespecial 3, 3) := by decide +kernel
theorem dX0_init_4 : decode cX0_init 4 = .ok (.aload_n 0, 1) := by decide +kernel
theorem dX0_init_5 : decode cX0_init 5 = .ok (.bipush 6, 2) := by decide +kernel
theorem dX0_init_7 : decode cX0_init 7 = .ok (.newarray .int, 2) := by decide +kernel
theorem dX0_init_9 : decode cX0_init 9 = .ok (.putfield 9, 3) := by decide +kernel
theorem dX0_init_12 : decode cX0_init 12 = .ok (.aload_n 0, 1) := by decide +kernel
theorem dX0_init_13 : decode cX0_init 13 = .ok (.sipush 448, 3) := by decide +kernel
theorem dX0_init_16 : decode cX0_init 16 = .ok (.newarray .int, 2) := by decide +kernel
theorem dX0_init_18 : decode cX0_init 18 = .ok (.putfield 15, 3) := by decide +kernel
theorem dX0_init_21 : decode cX0_init 21 = .ok (.aload_n 0, 1) := by decide +kernel
theorem dX0_init_22 : decode cX0_init 22 = .ok (.bipush 36, 2) := by decide +kernel
theorem dX0_init_24 : decode cX0_init 24 = .ok (.newarray .int, 2) := by decide +kernel
theorem dX0_init_26 : decode cX0_init 26 = .ok (.putfield 18, 3) := by decide +kernel
theorem dX0_init_29 : decode cX0_init 29 = .ok (.aload_n 0, 1) := by decide +kernel
end
section
theorem dX0_init_30 : decode cX0_init 30 = .ok (.aload_n 1, 1) := by decide +kernel
theorem dX0_init_31 : decode cX0_init 31 = .ok (.putfield 21, 3) := by decide +kernel
theorem dX0_init_34 : decode cX0_init 34 = .ok (.aload_n 0, 1) := by decide +kernel
theorem dX0_init_35 : decode cX0_init 35 = .ok (.aload_n 2, 1) := by decide +kernel
theorem dX0_init_36 : decode cX0_init 36 = .ok (.putfield 25, 3) := by decide +kernel
theorem dX0_init_39 : decode cX0_init 39 = .ok (.return_, 1) := by decide +kernel
theorem dX0_layColours_0 : decode cX0_layColours 0 = .ok (.aload_n 0, 1) := by decide +kernel
theorem dX0_layColours_1 : decode cX0_layColours 1 = .ok (.invokevirtual 39, 3) := by decide +kernel
theorem dX0_layColours_4 : decode cX0_layColours 4 = .ok (.iconst 0, 1) := by decide +kernel
theorem dX0_layColours_5 : decode cX0_layColours 5 = .ok (.istore_n 1, 1) := by decide +kernel
theorem dX0_layColours_6 : decode cX0_layColours 6 = .ok (.iload_n 1, 1) := by decide +kernel
theorem dX0_layColours_7 : decode cX0_layColours 7 = .ok (.aload_n 0, 1) := by decide +kernel
theorem dX0_layColours_8 : decode cX0_layColours 8 = .ok (.getfield 21, 3) := by decide +kernel
theorem dX0_layColours_11 : decode cX0_layColours 11 = .ok (.getfield 48, 3) := by decide +kernel
theorem dX0_layColours_14 : decode cX0_layColours 14 = .ok (.if_icmp .gt 20, 3) := by decide +kernel
theorem dX0_layColours_17 : decode cX0_layColours 17 = .ok (.aload_n 0, 1) := by decide +kernel
theorem dX0_layColours_18 : decode cX0_layColours 18 = .ok (.iconst 0, 1) := by decide +kernel
theorem dX0_layColours_19 : decode cX0_layColours 19 = .ok (.iload_n 1, 1) := by decide +kernel
theorem dX0_layColours_20 : decode cX0_layColours 20 = .ok (.invokevirtual 87, 3) := by decide +kernel
theorem dX0_layColours_23 : decode cX0_layColours 23 = .ok (.ifCond .eq 5, 3) := by decide +kernel
theorem dX0_layColours_26 : decode cX0_layColours 26 = .ok (.iload_n 1, 1) := by decide +kernel
theorem dX0_layColours_27 : decode cX0_layColours 27 = .ok (.ireturn, 1) := by decide +kernel
theorem dX0_layDressing_0 : decode cX0_layDressing 0 = .ok (.aload_n 0, 1) := by decide +kernel
theorem dX0_layDressing_1 : decode cX0_layDressing 1 = .ok (.invokevirtual 33, 3) := by decide +kernel
theorem dX0_layDressing_4 : decode cX0_layDressing 4 = .ok (.aload_n 0, 1) := by decide +kernel
theorem dX0_layDressing_5 : decode cX0_layDressing 5 = .ok (.invokevirtual 36, 3) := by decide +kernel
theorem dX0_layDressing_8 : decode cX0_layDressing 8 = .ok (.aload_n 0, 1) := by decide +kernel
theorem dX0_layDressing_9 : decode cX0_layDressing 9 = .ok (.invokevirtual 39, 3) := by decide +kernel
theorem dX0_layDressing_12 : decode cX0_layDressing 12 = .ok (.aload_n 0, 1) := by decide +kernel
theorem dX0_layDressing_13 : decode cX0_layDressing 13 = .ok (.iconst 0, 1) := by decide +kernel
theorem dX0_layDressing_14 : decode cX0_layDressing 14 = .ok (.putfield 42, 3) := by decide +kernel
theorem dX0_layDressing_17 : decode cX0_layDressing 17 = .ok (.aload_n 0, 1) := by decide +kernel
theorem dX0_layDressing_18 : decode cX0_layDressing 18 = .ok (.iconst 0, 1) := by decide +kernel
theorem dX0_layDressing_19 : decode cX0_layDressing 19 = .ok (.putfield 45, 3) := by decide +kernel
theorem dX0_layDressing_22 : decode cX0_layDressing 22 = .ok (.iconst 0, 1) := by decide +kernel
theorem dX0_layDressing_23 : decode cX0_layDressing 23 = .ok (.istore_n 1, 1) := by decide +kernel
theorem dX0_layDressing_24 : decode cX0_layDressing 24 = .ok (.iconst 0, 1) := by decide +kernel
theorem dX0_layDressing_25 : decode cX0_layDressing 25 = .ok (.istore_n 2, 1) := by decide +kernel
theorem dX0_layDressing_26 : decode cX0_layDressing 26 = .ok (.iload_n 2, 1) := by decide +kernel
theorem dX0_layDressing_27 : decode cX0_layDressing 27 = .ok (.aload_n 0, 1) := by decide +kernel
theorem dX0_layDressing_28 : decode cX0_layDressing 28 = .ok (.getfield 21, 3) := by decide +kernel
theorem dX0_layDressing_31 : decode cX0_layDressing 31 = .ok (.getfield 48, 3) := by decide +kernel
theorem dX0_layDressing_34 : decode cX0_layDressing 34 = .ok (.if_icmp .ge 60, 3) := by decide +kernel
theorem dX0_layDressing_94 : decode cX0_layDressing 94 = .ok (.return_, 1) := by decide +kernel
theorem dX0_lying_0 : decode cX0_lying 0 = .ok (.iload_n 1, 1) := by decide +kernel
theorem dX0_lying_1 : decode cX0_lying 1 = .ok (.ifCond .lt 29, 3) := by decide +kernel
theorem dX0_lying_4 : decode cX0_lying 4 = .ok (.iload_n 1, 1) := by decide +kernel
theorem dX0_lying_5 : decode cX0_lying 5 = .ok (.aload_n 0, 1) := by decide +kernel
theorem dX0_lying_6 : decode cX0_lying 6 = .ok (.getfield 29, 3) := by decide +kernel
theorem dX0_lying_9 : decode cX0_lying 9 = .ok (.if_icmp .ge 21, 3) := by decide +kernel
theorem dX0_lying_30 : decode cX0_lying 30 = .ok (.bipush (-2), 2) := by decide +kernel
theorem dX0_lying_32 : decode cX0_lying 32 = .ok (.ireturn, 1) := by decide +kernel
theorem dX0_painted_0 : decode cX0_painted 0 = .ok (.iload_n 1, 1) := by decide +kernel
theorem dX0_painted_1 : decode cX0_painted 1 = .ok (.aload_n 0, 1) := by decide +kernel
theorem dX0_painted_2 : decode cX0_painted 2 = .ok (.getfield 21, 3) := by decide +kernel
theorem dX0_painted_5 : decode cX0_painted 5 = .ok (.getfield 48, 3) := by decide +kernel
theorem dX0_painted_8 : decode cX0_painted 8 = .ok (.if_icmp .ge 9, 3) := by decide +kernel
theorem dX0_painted_17 : decode cX0_painted 17 = .ok (.iconst 1, 1) := by decide +kernel
theorem dX0_painted_18 : decode cX0_painted 18 = .ok (.ireturn, 1) := by decide +kernel
theorem dX0_reckonBest_0 : decode cX0_reckonBest 0 = .ok (.aload_n 0, 1) := by decide +kernel
theorem dX0_reckonBest_1 : decode cX0_reckonBest 1 = .ok (.getfield 15, 3) := by decide +kernel
theorem dX0_reckonBest_4 : decode cX0_reckonBest 4 = .ok (.iconst 0, 1) := by decide +kernel
theorem dX0_reckonBest_5 : decode cX0_reckonBest 5 = .ok (.invokestatic 72, 3) := by decide +kernel
theorem dX0_reckonBest_8 : decode cX0_reckonBest 8 = .ok (.aload_n 0, 1) := by decide +kernel
theorem dX0_reckonBest_9 : decode cX0_reckonBest 9 = .ok (.getfield 21, 3) := by decide +kernel
theorem dX0_reckonBest_12 : decode cX0_reckonBest 12 = .ok (.getfield 48, 3) := by decide +kernel
theorem dX0_reckonBest_15 : decode cX0_reckonBest 15 = .ok (.iconst 1, 1) := by decide +kernel
theorem dX0_reckonBest_16 : decode cX0_reckonBest 16 = .ok (.isub, 1) := by decide +kernel
theorem dX0_reckonBest_17 : decode cX0_reckonBest 17 = .ok (.istore_n 1, 1) := by decide +kernel
theorem dX0_reckonBest_18 : decode cX0_reckonBest 18 = .ok (.iload_n 1, 1) := by decide +kernel
theorem dX0_reckonBest_19 : decode cX0_reckonBest 19 = .ok (.ifCond .lt 83, 3) := by decide +kernel
theorem dX0_reckonBest_102 : decode cX0_reckonBest 102 = .ok (.return_, 1) := by decide +kernel
theorem dX0_reckonGains_0 : decode cX0_reckonGains 0 = .ok (.iconst 0, 1) := by decide +kernel
theorem dX0_reckonGains_1 : decode cX0_reckonGains 1 = .ok (.istore_n 1, 1) := by decide +kernel
theorem dX0_reckonGains_2 : decode cX0_reckonGains 2 = .ok (.iload_n 1, 1) := by decide +kernel
theorem dX0_reckonGains_3 : decode cX0_reckonGains 3 = .ok (.aload_n 0, 1) := by decide +kernel
theorem dX0_reckonGains_4 : decode cX0_reckonGains 4 = .ok (.getfield 21, 3) := by decide +kernel
theorem dX0_reckonGains_7 : decode cX0_reckonGains 7 = .ok (.getfield 48, 3) := by decide +kernel
theorem dX0_reckonGains_10 : decode cX0_reckonGains 10 = .ok (.if_icmp .ge 69, 3) := by decide +kernel
theorem dX0_reckonGains_79 : decode cX0_reckonGains 79 = .ok (.return_, 1) := by decide +kernel
theorem dX10_about_0 : decode cX10_about 0 = .ok (.iload_n 1, 1) := by decide +kernel
theorem dX10_about_1 : decode cX10_about 1 = .ok (.tableswitch 183 0 13 #[71, 79, 87, 95, 103, 111, 119, 127, 135, 143, 151, 156, 164, 175], 71) := by decide +kernel
theorem dX10_about_72 : decode cX10_about 72 = .ok (.aload_n 0, 1) := by decide +kernel
theorem dX10_about_73 : decode cX10_about 73 = .ok (.getfield 28, 3) := by decide +kernel
theorem dX10_about_76 : decode cX10_about 76 = .ok (.getfield 111, 3) := by decide +kernel
theorem dX10_about_79 : decode cX10_about 79 = .ok (.ireturn, 1) := by decide +kernel
theorem dX10_about_80 : decode cX10_about 80 = .ok (.aload_n 0, 1) := by decide +kernel
theorem dX10_about_81 : decode cX10_about 81 = .ok (.getfield 28, 3) := by decide +kernel
theorem dX10_about_84 : decode cX10_about 84 = .ok (.getfield 261, 3) := by decide +kernel
theorem dX10_about_87 : decode cX10_about 87 = .ok (.ireturn, 1) := by decide +kernel
theorem dX10_about_88 : decode cX10_about 88 = .ok (.aload_n 0, 1) := by decide +kernel
theorem dX10_about_89 : decode cX10_about 89 = .ok (.getfield 28, 3) := by decide +kernel
theorem dX10_about_92 : decode cX10_about 92 = .ok (.getfield 320, 3) := by decide +kernel
theorem dX10_about_95 : decode cX10_about 95 = .ok (.ireturn, 1) := by decide +kernel
theorem dX10_about_96 : decode cX10_about 96 = .ok (.aload_n 0, 1) := by decide +kernel
theorem dX10_about_97 : decode cX10_about 97 = .ok (.getfield 28, 3) := by decide +kernel
theorem dX10_about_100 : decode cX10_about 100 = .ok (.getfield 323, 3) := by decide +kernel
theorem dX10_about_103 : decode cX10_about 103 = .ok (.ireturn, 1) := by decide +kernel
theorem dX10_about_104 : decode cX10_about 104 = .ok (.aload_n 0, 1) := by decide +kernel
theorem dX10_about_105 : decode cX10_about 105 = .ok (.getfield 28, 3) := by decide +kernel
theorem dX10_about_108 : decode cX10_about 108 = .ok (.getfield 326, 3) := by decide +kernel
theorem dX10_about_111 : decode cX10_about 111 = .ok (.ireturn, 1) := by decide +kernel
theorem dX10_about_112 : decode cX10_about 112 = .ok (.aload_n 0, 1) := by decide +kernel
theorem dX10_about_113 : decode cX10_about 113 = .ok (.getfield 37, 3) := by decide +kernel
theorem dX10_about_116 : decode cX10_about 116 = .ok (.invokevirtual 150, 3) := by decide +kernel
theorem dX10_about_119 : decode cX10_about 119 = .ok (.ireturn, 1) := by decide +kernel
theorem dX10_about_120 : decode cX10_about 120 = .ok (.aload_n 0, 1) := by decide +kernel
theorem dX10_about_121 : decode cX10_about 121 = .ok (.getfield 37, 3) := by decide +kernel
theorem dX10_about_124 : decode cX10_about 124 = .ok (.invokevirtual 329, 3) := by decide +kernel
theorem dX10_about_127 : decode cX10_about 127 = .ok (.ireturn, 1) := by decide +kernel
theorem dX10_about_128 : decode cX10_about 128 = .ok (.aload_n 0, 1) := by decide +kernel
theorem dX10_about_129 : decode cX10_about 129 = .ok (.getfield 46, 3) := by decide +kernel
theorem dX10_about_132 : decode cX10_about 132 = .ok (.getfield 332, 3) := by decide +kernel
theorem dX10_about_135 : decode cX10_about 135 = .ok (.ireturn, 1) := by decide +kernel
theorem dX10_about_136 : decode cX10_about 136 = .ok (.aload_n 0, 1) := by decide +kernel
theorem dX10_about_137 : decode cX10_about 137 = .ok (.getfield 46, 3) := by decide +kernel
theorem dX10_about_140 : decode cX10_about 140 = .ok (.getfield 335, 3) := by decide +kernel
theorem dX10_about_143 : decode cX10_about 143 = .ok (.ireturn, 1) := by decide +kernel
theorem dX10_about_144 : decode cX10_about 144 = .ok (.aload_n 0, 1) := by decide +kernel
theorem dX10_about_145 : decode cX10_about 145 = .ok (.getfield 76, 3) := by decide +kernel
theorem dX10_about_148 : decode cX10_about 148 = .ok (.getfield 338, 3) := by decide +kernel
theorem dX10_about_151 : decode cX10_about 151 = .ok (.ireturn, 1) := by decide +kernel
theorem dX10_about_152 : decode cX10_about 152 = .ok (.aload_n 0, 1) := by decide +kernel
theorem dX10_about_153 : decode cX10_about 153 = .ok (.getfield 288, 3) := by decide +kernel
theorem dX10_about_156 : decode cX10_about 156 = .ok (.ireturn, 1) := by decide +kernel
theorem dX10_about_157 : decode cX10_about 157 = .ok (.aload_n 0, 1) := by decide +kernel
theorem dX10_about_158 : decode cX10_about 158 = .ok (.getfield 10, 3) := by decide +kernel
theorem dX10_about_161 : decode cX10_about 161 = .ok (.getfield 88, 3) := by decide +kernel
theorem dX10_about_164 : decode cX10_about 164 = .ok (.ireturn, 1) := by decide +kernel
theorem dX10_about_165 : decode cX10_about 165 = .ok (.aload_n 0, 1) := by decide +kernel
theorem dX10_about_166 : decode cX10_about 166 = .ok (.getfield 28, 3) := by decide +kernel
theorem dX10_about_169 : decode cX10_about 169 = .ok (.getfield 341, 3) := by decide +kernel
theorem dX10_about_172 : decode cX10_about 172 = .ok (.getfield 345, 3) := by decide +kernel
theorem dX10_about_175 : decode cX10_about 175 = .ok (.ireturn, 1) := by decide +kernel
theorem dX10_about_176 : decode cX10_about 176 = .ok (.aload_n 0, 1) := by decide +kernel
theorem dX10_about_177 : decode cX10_about 177 = .ok (.getfield 69, 3) := by decide +kernel
theorem dX10_about_180 : decode cX10_about 180 = .ok (.getfield 350, 3) := by decide +kernel
theorem dX10_about_183 : decode cX10_about 183 = .ok (.ireturn, 1) := by decide +kernel
theorem dX10_about_184 : decode cX10_about 184 = .ok (.iconst (-1), 1) := by decide +kernel
theorem dX10_about_185 : decode cX10_about 185 = .ok (.ireturn, 1) := by decide +kernel
theorem dX10_ask_0 : decode cX10_ask 0 = .ok (.aload_n 0, 1) := by decide +kernel
theorem dX10_ask_1 : decode cX10_ask 1 = .ok (.getfield 76, 3) := by decide +kernel
theorem dX10_ask_4 : decode cX10_ask 4 = .ok (.iload_n 2, 1) := by decide +kernel
theorem dX10_ask_5 : decode cX10_ask 5 = .ok (.invokevirtual 299, 3) := by decide +kernel
theorem dX10_ask_8 : decode cX10_ask 8 = .ok (.istore_n 3, 1) := by decide +kernel
theorem dX10_ask_9 : decode cX10_ask 9 = .ok (.iload_n 3, 1) := by decide +kernel
theorem dX10_ask_10 : decode cX10_ask 10 = .ok (.ifCond .eq 12, 3) := by decide +kernel
theorem dX10_ask_22 : decode cX10_ask 22 = .ok (.iconst (-1), 1) := by decide +kernel
theorem dX10_ask_23 : decode cX10_ask 23 = .ok (.ireturn, 1) := by decide +kernel
theorem dX10_back_0 : decode cX10_back 0 = .ok (.aload_n 0, 1) := by decide +kernel
theorem dX10_back_1 : decode cX10_back 1 = .ok (.getfield 46, 3) := by decide +kernel
theorem dX10_back_4 : decode cX10_back 4 = .ok (.iload_n 1, 1) := by decide +kernel
theorem dX10_back_5 : decode cX10_back 5 = .ok (.invokevirtual 317, 3) := by decide +kernel
theorem dX10_back_8 : decode cX10_back 8 = .ok (.ifCond .eq 13, 3) := by decide +kernel
theorem dX10_back_21 : decode cX10_back 21 = .ok (.iconst (-1), 1) := by decide +kernel
theorem dX10_back_22 : decode cX10_back 22 = .ok (.ireturn, 1) := by decide +kernel
theorem dX10_breadth_0 : decode cX10_breadth 0 = .ok (.aload_n 0, 1) := by decide +kernel
theorem dX10_breadth_1 : decode cX10_breadth 1 = .ok (.getfield 62, 3) := by decide +kernel
theorem dX10_breadth_4 : decode cX10_breadth 4 = .ok (.aload_n 0, 1) := by decide +kernel
theorem dX10_breadth_5 : decode cX10_breadth 5 = .ok (.getfield 37, 3) := by decide +kernel
theorem dX10_breadth_8 : decode cX10_breadth 8 = .ok (.invokevirtual 273, 3) := by decide +kernel
theorem dX10_breadth_11 : decode cX10_breadth 11 = .ok (.invokevirtual 276, 3) := by decide +kernel
theorem dX10_breadth_14 : decode cX10_breadth 14 = .ok (.ireturn, 1) := by decide +kernel
theorem dX10_buttons_0 : decode cX10_buttons 0 = .ok (.aload_n 0, 1) := by decide +kernel
theorem dX10_buttons_1 : decode cX10_buttons 1 = .ok (.getfield 69, 3) := by decide +kernel
theorem dX10_buttons_4 : decode cX10_buttons 4 = .ok (.invokevirtual 252, 3) := by decide +kernel
theorem dX10_buttons_7 : decode cX10_buttons 7 = .ok (.ireturn, 1) := by decide +kernel
theorem dX10_change_0 : decode cX10_change 0 = .ok (.iload_n 1, 1) := by decide +kernel
theorem dX10_change_1 : decode cX10_change 1 = .ok (.ifCond .lt 18, 3) := by decide +kernel
theorem dX10_change_4 : decode cX10_change 4 = .ok (.iload_n 1, 1) := by decide +kernel
theorem dX10_change_5 : decode cX10_change 5 = .ok (.iconst 2, 1) := by decide +kernel
theorem dX10_change_6 : decode cX10_change 6 = .ok (.if_icmp .gt 13, 3) := by decide +kernel
theorem dX10_change_9 : decode cX10_change 9 = .ok (.aload_n 0, 1) := by decide +kernel
theorem dX10_change_10 : decode cX10_change 10 = .ok (.getfield 55, 3) := by decide +kernel
theorem dX10_change_13 : decode cX10_change 13 = .ok (.invokevirtual 223, 3) := by decide +kernel
theorem dX10_change_16 : decode cX10_change 16 = .ok (.ifCond .ne 5, 3) := by decide +kernel
theorem dX10_change_19 : decode cX10_change 19 = .ok (.iconst (-1), 1) := by decide +kernel
theorem dX10_change_20 : decode cX10_change 20 = .ok (.ireturn, 1) := by decide +kernel
theorem dX10_cloth_0 : decode cX10_cloth 0 = .ok (.aload_n 0, 1) := by decide +kernel
theorem dX10_cloth_1 : decode cX10_cloth 1 = .ok (.getfield 62, 3) := by decide +kernel
theorem dX10_cloth_4 : decode cX10_cloth 4 = .ok (.invokevirtual 249, 3) := by decide +kernel
theorem dX10_cloth_7 : decode cX10_cloth 7 = .ok (.ireturn, 1) := by decide +kernel
theorem dX10_coat_0 : decode cX10_coat 0 = .ok (.aload_n 0, 1) := by decide +kernel
theorem dX10_coat_1 : decode cX10_coat 1 = .ok (.getfield 28, 3) := by decide +kernel
theorem dX10_coat_4 : decode cX10_coat 4 = .ok (.iload_n 1, 1) := by decide +kernel
theorem dX10_coat_5 : decode cX10_coat 5 = .ok (.invokevirtual 138, 3) := by decide +kernel
theorem dX10_coat_8 : decode cX10_coat 8 = .ok (.ifCond .eq 12, 3) := by decide +kernel
theorem dX10_coat_20 : decode cX10_coat 20 = .ok (.bipush (-2), 2) := by decide +kernel
theorem dX10_coat_22 : decode cX10_coat 22 = .ok (.ireturn, 1) := by decide +kernel
theorem dX10_commonDivisor_0 : decode cX10_commonDivisor 0 = .ok (.iload_n 0, 1) := by decide +kernel
theorem dX10_commonDivisor_1 : decode cX10_commonDivisor 1 = .ok (.istore_n 2, 1) := by decide +kernel
theorem dX10_commonDivisor_2 : decode cX10_commonDivisor 2 = .ok (.iload_n 1, 1) := by decide +kernel
theorem dX10_commonDivisor_3 : decode cX10_commonDivisor 3 = .ok (.istore_n 3, 1) := by decide +kernel
theorem dX10_commonDivisor_4 : decode cX10_commonDivisor 4 = .ok (.iconst 0, 1) := by decide +kernel
theorem dX10_commonDivisor_5 : decode cX10_commonDivisor 5 = .ok (.istore 4, 2) := by decide +kernel
theorem dX10_commonDivisor_7 : decode cX10_commonDivisor 7 = .ok (.iload 4, 2) := by decide +kernel
theorem dX10_commonDivisor_9 : decode cX10_commonDivisor 9 = .ok (.bipush 100, 2) := by decide +kernel
theorem dX10_commonDivisor_11 : decode cX10_commonDivisor 11 = .ok (.if_icmp .ge 23, 3) := by decide +kernel
theorem dX10_commonDivisor_14 : decode cX10_commonDivisor 14 = .ok (.iload_n 3, 1) := by decide +kernel
theorem dX10_commonDivisor_15 : decode cX10_commonDivisor 15 = .ok (.ifCond .eq 19, 3) := by decide +kernel
theorem dX10_commonDivisor_18 : decode cX10_commonDivisor 18 = .ok (.iload_n 2, 1) := by decide +kernel
theorem dX10_commonDivisor_19 : decode cX10_commonDivisor 19 = .ok (.iload_n 3, 1) := by decide +kernel
theorem dX10_commonDivisor_20 : decode cX10_commonDivisor 20 = .ok (.irem, 1) := by decide +kernel
theorem dX10_commonDivisor_21 : decode cX10_commonDivisor 21 = .ok (.istore 5, 2) := by decide +kernel
theorem dX10_commonDivisor_23 : decode cX10_commonDivisor 23 = .ok (.iload_n 3, 1) := by decide +kernel
theorem dX10_commonDivisor_24 : decode cX10_commonDivisor 24 = .ok (.istore_n 2, 1) := by decide +kernel
theorem dX10_commonDivisor_25 : decode cX10_commonDivisor 25 = .ok (.iload 5, 2) := by decide +kernel
theorem dX10_commonDivisor_27 : decode cX10_commonDivisor 27 = .ok (.istore_n 3, 1) := by decide +kernel
theorem dX10_commonDivisor_28 : decode cX10_commonDivisor 28 = .ok (.iinc 4 1, 3) := by decide +kernel
theorem dX10_commonDivisor_31 : decode cX10_commonDivisor 31 = .ok (.goto (-24), 3) := by decide +kernel
theorem dX10_commonDivisor_34 : decode cX10_commonDivisor 34 = .ok (.iload_n 2, 1) := by decide +kernel
theorem dX10_commonDivisor_35 : decode cX10_commonDivisor 35 = .ok (.ireturn, 1) := by decide +kernel
theorem dX10_day_0 : decode cX10_day 0 = .ok (.aload_n 0, 1) := by decide +kernel
theorem dX10_day_1 : decode cX10_day 1 = .ok (.getfield 37, 3) := by decide +kernel
theorem dX10_day_4 : decode cX10_day 4 = .ok (.invokevirtual 150, 3) := by decide +kernel
theorem dX10_day_7 : decode cX10_day 7 = .ok (.sipush 999, 3) := by decide +kernel
theorem dX10_day_10 : decode cX10_day 10 = .ok (.if_icmp .lt 5, 3) := by decide +kernel
theorem dX10_day_15 : decode cX10_day 15 = .ok (.aload_n 0, 1) := by decide +kernel
theorem dX10_day_16 : decode cX10_day 16 = .ok (.getfield 37, 3) := by decide +kernel
theorem dX10_day_19 : decode cX10_day 19 = .ok (.aload_n 0, 1) := by decide +kernel
theorem dX10_day_20 : decode cX10_day 20 = .ok (.getfield 28, 3) := by decide +kernel
theorem dX10_day_23 : decode cX10_day 23 = .ok (.getfield 154, 3) := by decide +kernel
theorem dX10_day_26 : decode cX10_day 26 = .ok (.invokevirtual 157, 3) := by decide +kernel
theorem dX10_day_29 : decode cX10_day 29 = .ok (.istore_n 1, 1) := by decide +kernel
theorem dX10_day_30 : decode cX10_day 30 = .ok (.aload_n 0, 1) := by decide +kernel
theorem dX10_day_31 : decode cX10_day 31 = .ok (.getfield 46, 3) := by decide +kernel
theorem dX10_day_34 : decode cX10_day 34 = .ok (.invokevirtual 160, 3) := by decide +kernel
theorem dX10_day_37 : decode cX10_day 37 = .ok (.iload_n 1, 1) := by decide +kernel
theorem dX10_day_38 : decode cX10_day 38 = .ok (.ireturn, 1) := by decide +kernel
theorem dX10_doff_0 : decode cX10_doff 0 = .ok (.aload_n 0, 1) := by decide +kernel
theorem dX10_doff_1 : decode cX10_doff 1 = .ok (.getfield 37, 3) := by decide +kernel
theorem dX10_doff_4 : decode cX10_doff 4 = .ok (.iload_n 1, 1) := by decide +kernel
theorem dX10_doff_5 : decode cX10_doff 5 = .ok (.invokevirtual 132, 3) := by decide +kernel
theorem dX10_doff_8 : decode cX10_doff 8 = .ok (.istore_n 2, 1) := by decide +kernel
theorem dX10_doff_9 : decode cX10_doff 9 = .ok (.iload_n 2, 1) := by decide +kernel
theorem dX10_doff_10 : decode cX10_doff 10 = .ok (.iconst (-1), 1) := by decide +kernel
theorem dX10_doff_11 : decode cX10_doff 11 = .ok (.if_icmp .ne 5, 3) := by decide +kernel
theorem dX10_doff_14 : decode cX10_doff 14 = .ok (.iconst (-1), 1) := by decide +kernel
theorem dX10_doff_15 : decode cX10_doff 15 = .ok (.ireturn, 1) := by decide +kernel
theorem dX10_don_0 : decode cX10_don 0 = .ok (.aload_n 0, 1) := by decide +kernel
theorem dX10_don_1 : decode cX10_don 1 = .ok (.getfield 28, 3) := by decide +kernel
theorem dX10_don_4 : decode cX10_don 4 = .ok (.iload_n 1, 1) := by decide +kernel
theorem dX10_don_5 : decode cX10_don 5 = .ok (.invokevirtual 120, 3) := by decide +kernel
theorem dX10_don_8 : decode cX10_don 8 = .ok (.ifCond .eq 26, 3) := by decide +kernel
theorem dX10_don_34 : decode cX10_don 34 = .ok (.bipush (-2), 2) := by decide +kernel
theorem dX10_don_36 : decode cX10_don 36 = .ok (.ireturn, 1) := by decide +kernel
theorem dX10_dress_0 : decode cX10_dress 0 = .ok (.aload_n 0, 1) := by decide +kernel
theorem dX10_dress_1 : decode cX10_dress 1 = .ok (.getfield 69, 3) := by decide +kernel
theorem dX10_dress_4 : decode cX10_dress 4 = .ok (.invokevirtual 190, 3) := by decide +kernel
theorem dX10_dress_7 : decode cX10_dress 7 = .ok (.iload_n 1, 1) := by decide +kernel
theorem dX10_dress_8 : decode cX10_dress 8 = .ok (.ifCond .ne 13, 3) := by decide +kernel
theorem dX10_dress_11 : decode cX10_dress 11 = .ok (.aload_n 0, 1) := by decide +kernel
theorem dX10_dress_12 : decode cX10_dress 12 = .ok (.getfield 69, 3) := by decide +kernel
theorem dX10_dress_15 : decode cX10_dress 15 = .ok (.getfield 193, 3) := by decide +kernel
theorem dX10_dress_18 : decode cX10_dress 18 = .ok (.goto 19, 3) := by decide +kernel
theorem dX10_dress_21 : decode cX10_dress 21 = .ok (.iload_n 1, 1) := by decide +kernel
theorem dX10_dress_22 : decode cX10_dress 22 = .ok (.iconst 1, 1) := by decide +kernel
theorem dX10_dress_23 : decode cX10_dress 23 = .ok (.if_icmp .ne 13, 3) := by decide +kernel
theorem dX10_dress_26 : decode cX10_dress 26 = .ok (.aload_n 0, 1) := by decide +kernel
theorem dX10_dress_27 : decode cX10_dress 27 = .ok (.getfield 69, 3) := by decide +kernel
theorem dX10_dress_30 : decode cX10_dress 30 = .ok (.getfield 196, 3) := by decide +kernel
theorem dX10_dress_33 : decode cX10_dress 33 = .ok (.goto 4, 3) := by decide +kernel
theorem dX10_dress_36 : decode cX10_dress 36 = .ok (.iconst (-1), 1) := by decide +kernel
theorem dX10_dress_37 : decode cX10_dress 37 = .ok (.ireturn, 1) := by decide +kernel
theorem dX10_ease_0 : decode cX10_ease 0 = .ok (.aload_n 0, 1) := by decide +kernel
theorem dX10_ease_1 : decode cX10_ease 1 = .ok (.getfield 55, 3) := by decide +kernel
theorem dX10_ease_4 : decode cX10_ease 4 = .ok (.invokevirtual 270, 3) := by decide +kernel
theorem dX10_ease_7 : decode cX10_ease 7 = .ok (.ireturn, 1) := by decide +kernel
theorem dX10_end_0 : decode cX10_end 0 = .ok (.iload_n 1, 1) := by decide +kernel
theorem dX10_end_1 : decode cX10_end 1 = .ok (.ifCond .lt 14, 3) := by decide +kernel
theorem dX10_end_4 : decode cX10_end 4 = .ok (.iload_n 1, 1) := by decide +kernel
theorem dX10_end_5 : decode cX10_end 5 = .ok (.aload_n 0, 1) := by decide +kernel
theorem dX10_end_6 : decode cX10_end 6 = .ok (.getfield 10, 3) := by decide +kernel
theorem dX10_end_9 : decode cX10_end 9 = .ok (.getfield 88, 3) := by decide +kernel
theorem dX10_end_12 : decode cX10_end 12 = .ok (.if_icmp .le 5, 3) := by decide +kernel
theorem dX10_end_15 : decode cX10_end 15 = .ok (.iconst (-1), 1) := by decide +kernel
theorem dX10_end_16 : decode cX10_end 16 = .ok (.ireturn, 1) := by decide +kernel
theorem dX10_end_17 : decode cX10_end 17 = .ok (.aload_n 0, 1) := by decide +kernel
theorem dX10_end_18 : decode cX10_end 18 = .ok (.getfield 10, 3) := by decide +kernel
theorem dX10_end_21 : decode cX10_end 21 = .ok (.iload_n 1, 1) := by decide +kernel
theorem dX10_end_22 : decode cX10_end 22 = .ok (.putfield 88, 3) := by decide +kernel
theorem dX10_end_25 : decode cX10_end 25 = .ok (.iload_n 1, 1) := by decide +kernel
theorem dX10_end_26 : decode cX10_end 26 = .ok (.ireturn, 1) := by decide +kernel
theorem dX10_fault_0 : decode cX10_fault 0 = .ok (.iload_n 1, 1) := by decide +kernel
theorem dX10_fault_1 : decode cX10_fault 1 = .ok (.ifCond .ne 13, 3) := by decide +kernel
theorem dX10_fault_4 : decode cX10_fault 4 = .ok (.aload_n 0, 1) := by decide +kernel
theorem dX10_fault_5 : decode cX10_fault 5 = .ok (.getfield 21, 3) := by decide +kernel
theorem dX10_fault_8 : decode cX10_fault 8 = .ok (.getfield 114, 3) := by decide +kernel
theorem dX10_fault_11 : decode cX10_fault 11 = .ok (.goto 19, 3) := by decide +kernel
theorem dX10_fault_14 : decode cX10_fault 14 = .ok (.iload_n 1, 1) := by decide +kernel
theorem dX10_fault_15 : decode cX10_fault 15 = .ok (.iconst 1, 1) := by decide +kernel
theorem dX10_fault_16 : decode cX10_fault 16 = .ok (.if_icmp .ne 13, 3) := by decide +kernel
theorem dX10_fault_19 : decode cX10_fault 19 = .ok (.aload_n 0, 1) := by decide +kernel
theorem dX10_fault_20 : decode cX10_fault 20 = .ok (.getfield 21, 3) := by decide +kernel
theorem dX10_fault_23 : decode cX10_fault 23 = .ok (.getfield 117, 3) := by decide +kernel
theorem dX10_fault_26 : decode cX10_fault 26 = .ok (.goto 4, 3) := by decide +kernel
theorem dX10_fault_29 : decode cX10_fault 29 = .ok (.iconst (-1), 1) := by decide +kernel
theorem dX10_fault_30 : decode cX10_fault 30 = .ok (.ireturn, 1) := by decide +kernel
theorem dX10_feed_0 : decode cX10_feed 0 = .ok (.aload_n 0, 1) := by decide +kernel
theorem dX10_feed_1 : decode cX10_feed 1 = .ok (.getfield 10, 3) := by decide +kernel
theorem dX10_feed_4 : decode cX10_feed 4 = .ok (.invokevirtual 80, 3) := by decide +kernel
theorem dX10_feed_7 : decode cX10_feed 7 = .ok (.ifCond .ne 5, 3) := by decide +kernel
theorem dX10_feed_12 : decode cX10_feed 12 = .ok (.aload_n 0, 1) := by decide +kernel
theorem dX10_feed_13 : decode cX10_feed 13 = .ok (.getfield 10, 3) := by decide +kernel
theorem dX10_feed_16 : decode cX10_feed 16 = .ok (.iload_n 1, 1) := by decide +kernel
theorem dX10_feed_17 : decode cX10_feed 17 = .ok (.invokevirtual 84, 3) := by decide +kernel
theorem dX10_feed_20 : decode cX10_feed 20 = .ok (.aload_n 0, 1) := by decide +kernel
theorem dX10_feed_21 : decode cX10_feed 21 = .ok (.getfield 10, 3) := by decide +kernel
theorem dX10_feed_24 : decode cX10_feed 24 = .ok (.iload_n 2, 1) := by decide +kernel
theorem dX10_feed_25 : decode cX10_feed 25 = .ok (.invokevirtual 84, 3) := by decide +kernel
theorem dX10_feed_28 : decode cX10_feed 28 = .ok (.aload_n 0, 1) := by decide +kernel
theorem dX10_feed_29 : decode cX10_feed 29 = .ok (.getfield 10, 3) := by decide +kernel
theorem dX10_feed_32 : decode cX10_feed 32 = .ok (.iload_n 3, 1) := by decide +kernel
theorem dX10_feed_33 : decode cX10_feed 33 = .ok (.invokevirtual 84, 3) := by decide +kernel
theorem dX10_feed_36 : decode cX10_feed 36 = .ok (.aload_n 0, 1) := by decide +kernel
theorem dX10_feed_37 : decode cX10_feed 37 = .ok (.getfield 10, 3) := by decide +kernel
theorem dX10_feed_40 : decode cX10_feed 40 = .ok (.iload 4, 2) := by decide +kernel
theorem dX10_feed_42 : decode cX10_feed 42 = .ok (.invokevirtual 84, 3) := by decide +kernel
theorem dX10_feed_45 : decode cX10_feed 45 = .ok (.aload_n 0, 1) := by decide +kernel
theorem dX10_feed_46 : decode cX10_feed 46 = .ok (.getfield 10, 3) := by decide +kernel
theorem dX10_feed_49 : decode cX10_feed 49 = .ok (.iload 5, 2) := by decide +kernel
theorem dX10_feed_51 : decode cX10_feed 51 = .ok (.invokevirtual 84, 3) := by decide +kernel
theorem dX10_feed_54 : decode cX10_feed 54 = .ok (.aload_n 0, 1) := by decide +kernel
theorem dX10_feed_55 : decode cX10_feed 55 = .ok (.getfield 10, 3) := by decide +kernel
theorem dX10_feed_58 : decode cX10_feed 58 = .ok (.getfield 88, 3) := by decide +kernel
theorem dX10_feed_61 : decode cX10_feed 61 = .ok (.ireturn, 1) := by decide +kernel
theorem dX10_fitted_0 : decode cX10_fitted 0 = .ok (.aload_n 0, 1) := by decide +kernel
theorem dX10_fitted_1 : decode cX10_fitted 1 = .ok (.getfield 37, 3) := by decide +kernel
theorem dX10_fitted_4 : decode cX10_fitted 4 = .ok (.invokevirtual 187, 3) := by decide +kernel
theorem dX10_fitted_7 : decode cX10_fitted 7 = .ok (.ireturn, 1) := by decide +kernel
theorem dX10_front_0 : decode cX10_front 0 = .ok (.iload_n 1, 1) := by decide +kernel
theorem dX10_front_1 : decode cX10_front 1 = .ok (.ifCond .lt 19, 3) := by decide +kernel
theorem dX10_front_4 : decode cX10_front 4 = .ok (.iload_n 1, 1) := by decide +kernel
theorem dX10_front_5 : decode cX10_front 5 = .ok (.sipush 999, 3) := by decide +kernel
theorem dX10_front_8 : decode cX10_front 8 = .ok (.if_icmp .gt 12, 3) := by decide +kernel
theorem dX10_front_11 : decode cX10_front 11 = .ok (.iload_n 2, 1) := by decide +kernel
theorem dX10_front_12 : decode cX10_front 12 = .ok (.ifCond .lt 8, 3) := by decide +kernel
theorem dX10_front_15 : decode cX10_front 15 = .ok (.iload_n 2, 1) := by decide +kernel
theorem dX10_front_16 : decode cX10_front 16 = .ok (.iconst 1, 1) := by decide +kernel
theorem dX10_front_17 : decode cX10_front 17 = .ok (.if_icmp .le 5, 3) := by decide +kernel
theorem dX10_front_20 : decode cX10_front 20 = .ok (.iconst (-1), 1) := by decide +kernel
theorem dX10_front_21 : decode cX10_front 21 = .ok (.ireturn, 1) := by decide +kernel
theorem dX10_front_22 : decode cX10_front 22 = .ok (.aload_n 0, 1) := by decide +kernel
theorem dX10_front_23 : decode cX10_front 23 = .ok (.getfield 62, 3) := by decide +kernel
theorem dX10_front_26 : decode cX10_front 26 = .ok (.iload_n 1, 1) := by decide +kernel
theorem dX10_front_27 : decode cX10_front 27 = .ok (.invokevirtual 235, 3) := by decide +kernel
theorem dX10_front_30 : decode cX10_front 30 = .ok (.istore_n 3, 1) := by decide +kernel
theorem dX10_front_31 : decode cX10_front 31 = .ok (.iload_n 2, 1) := by decide +kernel
theorem dX10_front_32 : decode cX10_front 32 = .ok (.iconst 1, 1) := by decide +kernel
theorem dX10_front_33 : decode cX10_front 33 = .ok (.if_icmp .eq 8, 3) := by decide +kernel
theorem dX10_front_36 : decode cX10_front 36 = .ok (.iload_n 3, 1) := by decide +kernel
theorem dX10_front_37 : decode cX10_front 37 = .ok (.iconst (-1), 1) := by decide +kernel
theorem dX10_front_38 : decode cX10_front 38 = .ok (.if_icmp .ne 7, 3) := by decide +kernel
theorem dX10_front_41 : decode cX10_front 41 = .ok (.iload_n 3, 1) := by decide +kernel
theorem dX10_front_42 : decode cX10_front 42 = .ok (.goto 7, 3) := by decide +kernel
theorem dX10_front_45 : decode cX10_front 45 = .ok (.iload_n 3, 1) := by decide +kernel
theorem dX10_front_46 : decode cX10_front 46 = .ok (.invokestatic 238, 3) := by decide +kernel
theorem dX10_front_49 : decode cX10_front 49 = .ok (.ireturn, 1) := by decide +kernel
theorem dX10_growths_0 : decode cX10_growths 0 = .ok (.aload_n 0, 1) := by decide +kernel
theorem dX10_growths_1 : decode cX10_growths 1 = .ok (.getfield 76, 3) := by decide +kernel
theorem dX10_growths_4 : decode cX10_growths 4 = .ok (.iload_n 1, 1) := by decide +kernel
theorem dX10_growths_5 : decode cX10_growths 5 = .ok (.invokevirtual 299, 3) := by decide +kernel
theorem dX10_growths_8 : decode cX10_growths 8 = .ok (.invokestatic 238, 3) := by decide +kernel
theorem dX10_growths_11 : decode cX10_growths 11 = .ok (.ireturn, 1) := by decide +kernel
theorem dX10_hem_0 : decode cX10_hem 0 = .ok (.aload_n 0, 1) := by decide +kernel
theorem dX10_hem_1 : decode cX10_hem 1 = .ok (.getfield 37, 3) := by decide +kernel
theorem dX10_hem_4 : decode cX10_hem 4 = .ok (.iconst 0, 1) := by decide +kernel
theorem dX10_hem_5 : decode cX10_hem 5 = .ok (.iload_n 1, 1) := by decide +kernel
theorem dX10_hem_6 : decode cX10_hem 6 = .ok (.invokevirtual 144, 3) := by decide +kernel
theorem dX10_hem_9 : decode cX10_hem 9 = .ok (.istore_n 3, 1) := by decide +kernel
theorem dX10_hem_10 : decode cX10_hem 10 = .ok (.iload_n 2, 1) := by decide +kernel
theorem dX10_hem_11 : decode cX10_hem 11 = .ok (.iconst 1, 1) := by decide +kernel
theorem dX10_hem_12 : decode cX10_hem 12 = .ok (.if_icmp .lt 8, 3) := by decide +kernel
theorem dX10_hem_15 : decode cX10_hem 15 = .ok (.iload_n 2, 1) := by decide +kernel
theorem dX10_hem_16 : decode cX10_hem 16 = .ok (.iload_n 3, 1) := by decide +kernel
theorem dX10_hem_17 : decode cX10_hem 17 = .ok (.if_icmp .le 5, 3) := by decide +kernel
theorem dX10_hem_20 : decode cX10_hem 20 = .ok (.iconst (-1), 1) := by decide +kernel
theorem dX10_hem_21 : decode cX10_hem 21 = .ok (.ireturn, 1) := by decide +kernel
theorem dX10_image_0 : decode cX10_image 0 = .ok (.aload_n 0, 1) := by decide +kernel
theorem dX10_image_1 : decode cX10_image 1 = .ok (.getfield 46, 3) := by decide +kernel
theorem dX10_image_4 : decode cX10_image 4 = .ok (.iload_n 1, 1) := by decide +kernel
theorem dX10_image_5 : decode cX10_image 5 = .ok (.invokevirtual 314, 3) := by decide +kernel
theorem dX10_image_8 : decode cX10_image 8 = .ok (.ifCond .eq 13, 3) := by decide +kernel
theorem dX10_image_11 : decode cX10_image 11 = .ok (.aload_n 0, 1) := by decide +kernel
theorem dX10_image_12 : decode cX10_image 12 = .ok (.getfield 37, 3) := by decide +kernel
theorem dX10_image_15 : decode cX10_image 15 = .ok (.invokevirtual 150, 3) := by decide +kernel
theorem dX10_image_18 : decode cX10_image 18 = .ok (.goto 4, 3) := by decide +kernel
theorem dX10_image_21 : decode cX10_image 21 = .ok (.iconst (-1), 1) := by decide +kernel
theorem dX10_image_22 : decode cX10_image 22 = .ok (.ireturn, 1) := by decide +kernel
theorem dX10_init_0 : decode cX10_init 0 = .ok (.aload_n 0, 1) := by decide +kernel
theorem dX10_init_1 : decode cX10_init 1 = .ok (.invokespecial 1, 3) := by decide +kernel
theorem dX10_init_4 : decode cX10_init 4 = .ok (.aload_n 0, 1) := by decide +kernel
theorem dX10_init_5 : decode cX10_init 5 = .ok (.new 7, 3) := by decide +kernel
theorem dX10_init_8 : decode cX10_init 8 = .ok (.dup, 1) := by decide +kernel
theorem dX10_init_9 : decode cX10_init 9 = .ok (.invokespecial 9, 3) := by decide +kernel
theorem dX10_init_12 : decode cX10_init 12 = .ok (.putfield 10, 3) := by decide +kernel
theorem dX10_init_15 : decode cX10_init 15 = .ok (.aload_n 0, 1) := by decide +kernel
theorem dX10_init_16 : decode cX10_init 16 = .ok (.new 16, 3) := by decide +kernel
theorem dX10_init_19 : decode cX10_init 19 = .ok (.dup, 1) := by decide +kernel
theorem dX10_init_20 : decode cX10_init 20 = .ok (.aload_n 0, 1) := by decide +kernel
theorem dX10_init_21 : decode cX10_init 21 = .ok (.getfield 10, 3) := by decide +kernel
theorem dX10_init_24 : decode cX10_init 24 = .ok (.invokespecial 18, 3) := by decide +kernel
theorem dX10_init_27 : decode cX10_init 27 = .ok (.putfield 21, 3) := by decide +kernel
theorem dX10_init_30 : decode cX10_init 30 = .ok (.aload_n 0, 1) := by decide +kernel
theorem dX10_init_31 : decode cX10_init 31 = .ok (.new 25, 3) := by decide +kernel
theorem dX10_init_34 : decode cX10_init 34 = .ok (.dup, 1) := by decide +kernel
theorem dX10_init_35 : decode cX10_init 35 = .ok (.invokespecial 27, 3) := by decide +kernel
theorem dX10_init_38 : decode cX10_init 38 = .ok (.putfield 28, 3) := by decide +kernel
theorem dX10_init_41 : decode cX10_init 41 = .ok (.aload_n 0, 1) := by decide +kernel
theorem dX10_init_42 : decode cX10_init 42 = .ok (.new 32, 3) := by decide +kernel
theorem dX10_init_45 : decode cX10_init 45 = .ok (.dup, 1) := by decide +kernel
theorem dX10_init_46 : decode cX10_init 46 = .ok (.aload_n 0, 1) := by decide +kernel
theorem dX10_init_47 : decode cX10_init 47 = .ok (.getfield 28, 3) := by decide +kernel
theorem dX10_init_50 : decode cX10_init 50 = .ok (.invokespecial 34, 3) := by decide +kernel
theorem dX10_init_53 : decode cX10_init 53 = .ok (.putfield 37, 3) := by decide +kernel
theorem dX10_init_56 : decode cX10_init 56 = .ok (.aload_n 0, 1) := by decide +kernel
theorem dX10_init_57 : decode cX10_init 57 = .ok (.new 41, 3) := by decide +kernel
theorem dX10_init_60 : decode cX10_init 60 = .ok (.dup, 1) := by decide +kernel
theorem dX10_init_61 : decode cX10_init 61 = .ok (.aload_n 0, 1) := by decide +kernel
theorem dX10_init_62 : decode cX10_init 62 = .ok (.getfield 37, 3) := by decide +kernel
theorem dX10_init_65 : decode cX10_init 65 = .ok (.invokespecial 43, 3) := by decide +kernel
theorem dX10_init_68 : decode cX10_init 68 = .ok (.putfield 46, 3) := by decide +kernel
theorem dX10_init_71 : decode cX10_init 71 = .ok (.aload_n 0, 1) := by decide +kernel
theorem dX10_init_72 : decode cX10_init 72 = .ok (.new 50, 3) := by decide +kernel
theorem dX10_init_75 : decode cX10_init 75 = .ok (.dup, 1) := by decide +kernel
theorem dX10_init_76 : decode cX10_init 76 = .ok (.aload_n 0, 1) := by decide +kernel
theorem dX10_init_77 : decode cX10_init 77 = .ok (.getfield 28, 3) := by decide +kernel
theorem dX10_init_80 : decode cX10_init 80 = .ok (.aload_n 0, 1) := by decide +kernel
theorem dX10_init_81 : decode cX10_init 81 = .ok (.getfield 37, 3) := by decide +kernel
theorem dX10_init_84 : decode cX10_init 84 = .ok (.invokespecial 52, 3) := by decide +kernel
theorem dX10_init_87 : decode cX10_init 87 = .ok (.putfield 55, 3) := by decide +kernel
theorem dX10_init_90 : decode cX10_init 90 = .ok (.aload_n 0, 1) := by decide +kernel
theorem dX10_init_91 : decode cX10_init 91 = .ok (.new 59, 3) := by decide +kernel
theorem dX10_init_94 : decode cX10_init 94 = .ok (.dup, 1) := by decide +kernel
theorem dX10_init_95 : decode cX10_init 95 = .ok (.aload_n 0, 1) := by decide +kernel
theorem dX10_init_96 : decode cX10_init 96 = .ok (.getfield 28, 3) := by decide +kernel
theorem dX10_init_99 : decode cX10_init 99 = .ok (.aload_n 0, 1) := by decide +kernel
theorem dX10_init_100 : decode cX10_init 100 = .ok (.getfield 37, 3) := by decide +kernel
theorem dX10_init_103 : decode cX10_init 103 = .ok (.invokespecial 61, 3) := by decide +kernel
theorem dX10_init_106 : decode cX10_init 106 = .ok (.putfield 62, 3) := by decide +kernel
theorem dX10_init_109 : decode cX10_init 109 = .ok (.aload_n 0, 1) := by decide +kernel
theorem dX10_init_110 : decode cX10_init 110 = .ok (.new 66, 3) := by decide +kernel
theorem dX10_init_113 : decode cX10_init 113 = .ok (.dup, 1) := by decide +kernel
theorem dX10_init_114 : decode cX10_init 114 = .ok (.aload_n 0, 1) := by decide +kernel
theorem dX10_init_115 : decode cX10_init 115 = .ok (.getfield 28, 3) := by decide +kernel
theorem dX10_init_118 : decode cX10_init 118 = .ok (.aload_n 0, 1) := by decide +kernel
theorem dX10_init_119 : decode cX10_init 119 = .ok (.getfield 37, 3) := by decide +kernel
theorem dX10_init_122 : decode cX10_init 122 = .ok (.invokespecial 68, 3) := by decide +kernel
theorem dX10_init_125 : decode cX10_init 125 = .ok (.putfield 69, 3) := by decide +kernel
theorem dX10_init_128 : decode cX10_init 128 = .ok (.aload_n 0, 1) := by decide +kernel
theorem dX10_init_129 : decode cX10_init 129 = .ok (.new 73, 3) := by decide +kernel
theorem dX10_init_132 : decode cX10_init 132 = .ok (.dup, 1) := by decide +kernel
theorem dX10_init_133 : decode cX10_init 133 = .ok (.aload_n 0, 1) := by decide +kernel
theorem dX10_init_134 : decode cX10_init 134 = .ok (.getfield 28, 3) := by decide +kernel
theorem dX10_init_137 : decode cX10_init 137 = .ok (.invokespecial 75, 3) := by decide +kernel
theorem dX10_init_140 : decode cX10_init 140 = .ok (.putfield 76, 3) := by decide +kernel
theorem dX10_init_143 : decode cX10_init 143 = .ok (.return_, 1) := by decide +kernel
theorem dX10_later_0 : decode cX10_later 0 = .ok (.iload_n 1, 1) := by decide +kernel
theorem dX10_later_1 : decode cX10_later 1 = .ok (.ifCond .lt 22, 3) := by decide +kernel
theorem dX10_later_4 : decode cX10_later 4 = .ok (.iload_n 1, 1) := by decide +kernel
theorem dX10_later_5 : decode cX10_later 5 = .ok (.sipush 1000, 3) := by decide +kernel
theorem dX10_later_8 : decode cX10_later 8 = .ok (.if_icmp .gt 15, 3) := by decide +kernel
theorem dX10_later_11 : decode cX10_later 11 = .ok (.aload_n 0, 1) := by decide +kernel
theorem dX10_later_12 : decode cX10_later 12 = .ok (.getfield 288, 3) := by decide +kernel
theorem dX10_later_15 : decode cX10_later 15 = .ok (.iload_n 1, 1) := by decide +kernel
theorem dX10_later_16 : decode cX10_later 16 = .ok (.iadd, 1) := by decide +kernel
theorem dX10_later_17 : decode cX10_later 17 = .ok (.ldc_w 298, 3) := by decide +kernel
theorem dX10_later_20 : decode cX10_later 20 = .ok (.if_icmp .le 5, 3) := by decide +kernel
theorem dX10_later_23 : decode cX10_later 23 = .ok (.iconst (-1), 1) := by decide +kernel
theorem dX10_later_24 : decode cX10_later 24 = .ok (.ireturn, 1) := by decide +kernel
theorem dX10_later_25 : decode cX10_later 25 = .ok (.aload_n 0, 1) := by decide +kernel
theorem dX10_later_26 : decode cX10_later 26 = .ok (.dup, 1) := by decide +kernel
theorem dX10_later_27 : decode cX10_later 27 = .ok (.getfield 288, 3) := by decide +kernel
theorem dX10_later_30 : decode cX10_later 30 = .ok (.iload_n 1, 1) := by decide +kernel
theorem dX10_later_31 : decode cX10_later 31 = .ok (.iadd, 1) := by decide +kernel
theorem dX10_later_32 : decode cX10_later 32 = .ok (.putfield 288, 3) := by decide +kernel
theorem dX10_later_35 : decode cX10_later 35 = .ok (.aload_n 0, 1) := by decide +kernel
theorem dX10_later_36 : decode cX10_later 36 = .ok (.getfield 288, 3) := by decide +kernel
theorem dX10_later_39 : decode cX10_later 39 = .ok (.ireturn, 1) := by decide +kernel
theorem dX10_law_0 : decode cX10_law 0 = .ok (.iload_n 1, 1) := by decide +kernel
theorem dX10_law_1 : decode cX10_law 1 = .ok (.ifCond .lt 10, 3) := by decide +kernel
theorem dX10_law_4 : decode cX10_law 4 = .ok (.iload_n 1, 1) := by decide +kernel
theorem dX10_law_5 : decode cX10_law 5 = .ok (.sipush 999, 3) := by decide +kernel
theorem dX10_law_8 : decode cX10_law 8 = .ok (.if_icmp .le 7, 3) := by decide +kernel
theorem dX10_law_11 : decode cX10_law 11 = .ok (.iconst (-1), 1) := by decide +kernel
theorem dX10_law_12 : decode cX10_law 12 = .ok (.goto 11, 3) := by decide +kernel
theorem dX10_law_15 : decode cX10_law 15 = .ok (.aload_n 0, 1) := by decide +kernel
theorem dX10_law_16 : decode cX10_law 16 = .ok (.getfield 55, 3) := by decide +kernel
theorem dX10_law_19 : decode cX10_law 19 = .ok (.iload_n 1, 1) := by decide +kernel
theorem dX10_law_20 : decode cX10_law 20 = .ok (.invokevirtual 267, 3) := by decide +kernel
theorem dX10_law_23 : decode cX10_law 23 = .ok (.ireturn, 1) := by decide +kernel
theorem dX10_letout_0 : decode cX10_letout 0 = .ok (.iload_n 2, 1) := by decide +kernel
theorem dX10_letout_1 : decode cX10_letout 1 = .ok (.iconst 1, 1) := by decide +kernel
theorem dX10_letout_2 : decode cX10_letout 2 = .ok (.if_icmp .lt 16, 3) := by decide +kernel
theorem dX10_letout_5 : decode cX10_letout 5 = .ok (.iload_n 2, 1) := by decide +kernel
theorem dX10_letout_6 : decode cX10_letout 6 = .ok (.aload_n 0, 1) := by decide +kernel
theorem dX10_letout_7 : decode cX10_letout 7 = .ok (.getfield 37, 3) := by decide +kernel
theorem dX10_letout_10 : decode cX10_letout 10 = .ok (.iconst 2, 1) := by decide +kernel
theorem dX10_letout_11 : decode cX10_letout 11 = .ok (.iload_n 1, 1) := by decide +kernel
theorem dX10_letout_12 : decode cX10_letout 12 = .ok (.invokevirtual 144, 3) := by decide +kernel
theorem dX10_letout_15 : decode cX10_letout 15 = .ok (.if_icmp .le 5, 3) := by decide +kernel
theorem dX10_letout_18 : decode cX10_letout 18 = .ok (.iconst (-1), 1) := by decide +kernel
theorem dX10_letout_19 : decode cX10_letout 19 = .ok (.ireturn, 1) := by decide +kernel
theorem dX10_lies_0 : decode cX10_lies 0 = .ok (.aload_n 0, 1) := by decide +kernel
theorem dX10_lies_1 : decode cX10_lies 1 = .ok (.getfield 69, 3) := by decide +kernel
theorem dX10_lies_4 : decode cX10_lies 4 = .ok (.iload_n 1, 1) := by decide +kernel
theorem dX10_lies_5 : decode cX10_lies 5 = .ok (.invokevirtual 285, 3) := by decide +kernel
theorem dX10_lies_8 : decode cX10_lies 8 = .ok (.ireturn, 1) := by decide +kernel
theorem dX10_man_0 : decode cX10_man 0 = .ok (.aload_n 0, 1) := by decide +kernel
theorem dX10_man_1 : decode cX10_man 1 = .ok (.getfield 28, 3) := by decide +kernel
theorem dX10_man_4 : decode cX10_man 4 = .ok (.iload_n 1, 1) := by decide +kernel
theorem dX10_man_5 : decode cX10_man 5 = .ok (.invokevirtual 120, 3) := by decide +kernel
theorem dX10_man_8 : decode cX10_man 8 = .ok (.ifCond .ne 6, 3) := by decide +kernel
theorem dX10_man_11 : decode cX10_man 11 = .ok (.bipush (-2), 2) := by decide +kernel
theorem dX10_man_13 : decode cX10_man 13 = .ok (.ireturn, 1) := by decide +kernel
theorem dX10_misfit_0 : decode cX10_misfit 0 = .ok (.aload_n 0, 1) := by decide +kernel
theorem dX10_misfit_1 : decode cX10_misfit 1 = .ok (.getfield 28, 3) := by decide +kernel
theorem dX10_misfit_4 : decode cX10_misfit 4 = .ok (.iload_n 1, 1) := by decide +kernel
theorem dX10_misfit_5 : decode cX10_misfit 5 = .ok (.invokevirtual 120, 3) := by decide +kernel
theorem dX10_misfit_8 : decode cX10_misfit 8 = .ok (.ifCond .eq 26, 3) := by decide +kernel
theorem dX10_misfit_34 : decode cX10_misfit 34 = .ok (.iconst (-1), 1) := by decide +kernel
theorem dX10_misfit_35 : decode cX10_misfit 35 = .ok (.ireturn, 1) := by decide +kernel
theorem dX10_naked_0 : decode cX10_naked 0 = .ok (.iconst 0, 1) := by decide +kernel
theorem dX10_naked_1 : decode cX10_naked 1 = .ok (.istore_n 1, 1) := by decide +kernel
theorem dX10_naked_2 : decode cX10_naked 2 = .ok (.iconst 0, 1) := by decide +kernel
theorem dX10_naked_3 : decode cX10_naked 3 = .ok (.istore_n 2, 1) := by decide +kernel
theorem dX10_naked_4 : decode cX10_naked 4 = .ok (.iload_n 2, 1) := by decide +kernel
theorem dX10_naked_5 : decode cX10_naked 5 = .ok (.aload_n 0, 1) := by decide +kernel
theorem dX10_naked_6 : decode cX10_naked 6 = .ok (.getfield 28, 3) := by decide +kernel
theorem dX10_naked_9 : decode cX10_naked 9 = .ok (.getfield 111, 3) := by decide +kernel
theorem dX10_naked_12 : decode cX10_naked 12 = .ok (.if_icmp .ge 26, 3) := by decide +kernel
theorem dX10_naked_38 : decode cX10_naked 38 = .ok (.iload_n 1, 1) := by decide +kernel
theorem dX10_naked_39 : decode cX10_naked 39 = .ok (.ireturn, 1) := by decide +kernel
theorem dX10_odds_0 : decode cX10_odds 0 = .ok (.iload_n 1, 1) := by decide +kernel
theorem dX10_odds_1 : decode cX10_odds 1 = .ok (.ifCond .lt 17, 3) := by decide +kernel
theorem dX10_odds_4 : decode cX10_odds 4 = .ok (.iload_n 1, 1) := by decide +kernel
theorem dX10_odds_5 : decode cX10_odds 5 = .ok (.iconst 4, 1) := by decide +kernel
theorem dX10_odds_6 : decode cX10_odds 6 = .ok (.if_icmp .gt 12, 3) := by decide +kernel
theorem dX10_odds_9 : decode cX10_odds 9 = .ok (.iload_n 2, 1) := by decide +kernel
theorem dX10_odds_10 : decode cX10_odds 10 = .ok (.ifCond .lt 8, 3) := by decide +kernel
theorem dX10_odds_13 : decode cX10_odds 13 = .ok (.iload_n 2, 1) := by decide +kernel
theorem dX10_odds_14 : decode cX10_odds 14 = .ok (.iconst 1, 1) := by decide +kernel
theorem dX10_odds_15 : decode cX10_odds 15 = .ok (.if_icmp .le 5, 3) := by decide +kernel
theorem dX10_odds_18 : decode cX10_odds 18 = .ok (.iconst (-1), 1) := by decide +kernel
theorem dX10_odds_19 : decode cX10_odds 19 = .ok (.ireturn, 1) := by decide +kernel
theorem dX10_odds_20 : decode cX10_odds 20 = .ok (.iconst 1, 1) := by decide +kernel
theorem dX10_odds_21 : decode cX10_odds 21 = .ok (.istore_n 3, 1) := by decide +kernel
theorem dX10_odds_22 : decode cX10_odds 22 = .ok (.iconst 1, 1) := by decide +kernel
theorem dX10_odds_23 : decode cX10_odds 23 = .ok (.istore 4, 2) := by decide +kernel
theorem dX10_odds_25 : decode cX10_odds 25 = .ok (.iconst 0, 1) := by decide +kernel
theorem dX10_odds_26 : decode cX10_odds 26 = .ok (.istore 5, 2) := by decide +kernel
theorem dX10_odds_28 : decode cX10_odds 28 = .ok (.iload 5, 2) := by decide +kernel
theorem dX10_odds_30 : decode cX10_odds 30 = .ok (.iload_n 1, 1) := by decide +kernel
theorem dX10_odds_31 : decode cX10_odds 31 = .ok (.if_icmp .ge 29, 3) := by decide +kernel
theorem dX10_odds_34 : decode cX10_odds 34 = .ok (.iload_n 3, 1) := by decide +kernel
theorem dX10_odds_35 : decode cX10_odds 35 = .ok (.bipush 100, 2) := by decide +kernel
theorem dX10_odds_37 : decode cX10_odds 37 = .ok (.aload_n 0, 1) := by decide +kernel
theorem dX10_odds_38 : decode cX10_odds 38 = .ok (.getfield 28, 3) := by decide +kernel
theorem dX10_odds_41 : decode cX10_odds 41 = .ok (.getfield 154, 3) := by decide +kernel
theorem dX10_odds_44 : decode cX10_odds 44 = .ok (.isub, 1) := by decide +kernel
theorem dX10_odds_45 : decode cX10_odds 45 = .ok (.imul, 1) := by decide +kernel
theorem dX10_odds_46 : decode cX10_odds 46 = .ok (.istore_n 3, 1) := by decide +kernel
theorem dX10_odds_47 : decode cX10_odds 47 = .ok (.iload 4, 2) := by decide +kernel
theorem dX10_odds_49 : decode cX10_odds 49 = .ok (.bipush 100, 2) := by decide +kernel
theorem dX10_odds_51 : decode cX10_odds 51 = .ok (.imul, 1) := by decide +kernel
theorem dX10_odds_52 : decode cX10_odds 52 = .ok (.istore 4, 2) := by decide +kernel
theorem dX10_odds_54 : decode cX10_odds 54 = .ok (.iinc 5 1, 3) := by decide +kernel
theorem dX10_odds_57 : decode cX10_odds 57 = .ok (.goto (-29), 3) := by decide +kernel
theorem dX10_odds_60 : decode cX10_odds 60 = .ok (.iload 4, 2) := by decide +kernel
theorem dX10_odds_62 : decode cX10_odds 62 = .ok (.iload_n 3, 1) := by decide +kernel
theorem dX10_odds_63 : decode cX10_odds 63 = .ok (.invokestatic 282, 3) := by decide +kernel
theorem dX10_odds_66 : decode cX10_odds 66 = .ok (.istore 5, 2) := by decide +kernel
theorem dX10_odds_68 : decode cX10_odds 68 = .ok (.iload 5, 2) := by decide +kernel
theorem dX10_odds_70 : decode cX10_odds 70 = .ok (.iconst 1, 1) := by decide +kernel
theorem dX10_odds_71 : decode cX10_odds 71 = .ok (.if_icmp .ge 5, 3) := by decide +kernel
theorem dX10_odds_76 : decode cX10_odds 76 = .ok (.iload_n 2, 1) := by decide +kernel
theorem dX10_odds_77 : decode cX10_odds 77 = .ok (.ifCond .ne 7, 3) := by decide +kernel
theorem dX10_odds_80 : decode cX10_odds 80 = .ok (.iload_n 3, 1) := by decide +kernel
theorem dX10_odds_81 : decode cX10_odds 81 = .ok (.goto 5, 3) := by decide +kernel
theorem dX10_odds_84 : decode cX10_odds 84 = .ok (.iload 4, 2) := by decide +kernel
theorem dX10_odds_86 : decode cX10_odds 86 = .ok (.iload 5, 2) := by decide +kernel
theorem dX10_odds_88 : decode cX10_odds 88 = .ok (.idiv, 1) := by decide +kernel
theorem dX10_odds_89 : decode cX10_odds 89 = .ok (.ireturn, 1) := by decide +kernel
theorem dX10_out_0 : decode cX10_out 0 = .ok (.aload_n 0, 1) := by decide +kernel
theorem dX10_out_1 : decode cX10_out 1 = .ok (.getfield 28, 3) := by decide +kernel
theorem dX10_out_4 : decode cX10_out 4 = .ok (.iload_n 1, 1) := by decide +kernel
theorem dX10_out_5 : decode cX10_out 5 = .ok (.invokevirtual 120, 3) := by decide +kernel
theorem dX10_out_8 : decode cX10_out 8 = .ok (.ifCond .eq 14, 3) := by decide +kernel
theorem dX10_out_22 : decode cX10_out 22 = .ok (.iconst (-1), 1) := by decide +kernel
theorem dX10_out_23 : decode cX10_out 23 = .ok (.ireturn, 1) := by decide +kernel
theorem dX10_popular_0 : decode cX10_popular 0 = .ok (.aload_n 0, 1) := by decide +kernel
theorem dX10_popular_1 : decode cX10_popular 1 = .ok (.getfield 28, 3) := by decide +kernel
theorem dX10_popular_4 : decode cX10_popular 4 = .ok (.iload_n 1, 1) := by decide +kernel
theorem dX10_popular_5 : decode cX10_popular 5 = .ok (.invokevirtual 138, 3) := by decide +kernel
theorem dX10_popular_8 : decode cX10_popular 8 = .ok (.ifCond .eq 14, 3) := by decide +kernel
theorem dX10_popular_22 : decode cX10_popular 22 = .ok (.iconst (-1), 1) := by decide +kernel
theorem dX10_popular_23 : decode cX10_popular 23 = .ok (.ireturn, 1) := by decide +kernel
theorem dX10_rags_0 : decode cX10_rags 0 = .ok (.iconst 0, 1) := by decide +kernel
theorem dX10_rags_1 : decode cX10_rags 1 = .ok (.istore_n 1, 1) := by decide +kernel
theorem dX10_rags_2 : decode cX10_rags 2 = .ok (.iconst 0, 1) := by decide +kernel
theorem dX10_rags_3 : decode cX10_rags 3 = .ok (.istore_n 2, 1) := by decide +kernel
theorem dX10_rags_4 : decode cX10_rags 4 = .ok (.iload_n 2, 1) := by decide +kernel
theorem dX10_rags_5 : decode cX10_rags 5 = .ok (.aload_n 0, 1) := by decide +kernel
theorem dX10_rags_6 : decode cX10_rags 6 = .ok (.getfield 28, 3) := by decide +kernel
theorem dX10_rags_9 : decode cX10_rags 9 = .ok (.getfield 261, 3) := by decide +kernel
theorem dX10_rags_12 : decode cX10_rags 12 = .ok (.if_icmp .ge 26, 3) := by decide +kernel
theorem dX10_rags_38 : decode cX10_rags 38 = .ok (.iload_n 1, 1) := by decide +kernel
theorem dX10_rags_39 : decode cX10_rags 39 = .ok (.ireturn, 1) := by decide +kernel
theorem dX10_reach_0 : decode cX10_reach 0 = .ok (.aload_n 0, 1) := by decide +kernel
theorem dX10_reach_1 : decode cX10_reach 1 = .ok (.getfield 69, 3) := by decide +kernel
theorem dX10_reach_4 : decode cX10_reach 4 = .ok (.invokevirtual 107, 3) := by decide +kernel
theorem dX10_reach_7 : decode cX10_reach 7 = .ok (.iload_n 1, 1) := by decide +kernel
theorem dX10_reach_8 : decode cX10_reach 8 = .ok (.iload_n 2, 1) := by decide +kernel
theorem dX10_reach_9 : decode cX10_reach 9 = .ok (.if_icmp .eq 25, 3) := by decide +kernel
theorem dX10_reach_12 : decode cX10_reach 12 = .ok (.aload_n 0, 1) := by decide +kernel
theorem dX10_reach_13 : decode cX10_reach 13 = .ok (.getfield 28, 3) := by decide +kernel
theorem dX10_reach_16 : decode cX10_reach 16 = .ok (.iload_n 1, 1) := by decide +kernel
theorem dX10_reach_17 : decode cX10_reach 17 = .ok (.invokevirtual 120, 3) := by decide +kernel
theorem dX10_reach_20 : decode cX10_reach 20 = .ok (.ifCond .eq 14, 3) := by decide +kernel
theorem dX10_reach_34 : decode cX10_reach 34 = .ok (.iconst (-1), 1) := by decide +kernel
theorem dX10_reach_35 : decode cX10_reach 35 = .ok (.ireturn, 1) := by decide +kernel
theorem dX10_redo_0 : decode cX10_redo 0 = .ok (.aload_n 0, 1) := by decide +kernel
theorem dX10_redo_1 : decode cX10_redo 1 = .ok (.getfield 46, 3) := by decide +kernel
theorem dX10_redo_4 : decode cX10_redo 4 = .ok (.invokevirtual 177, 3) := by decide +kernel
theorem dX10_redo_7 : decode cX10_redo 7 = .ok (.ireturn, 1) := by decide +kernel
theorem dX10_regiment_0 : decode cX10_regiment 0 = .ok (.aload_n 0, 1) := by decide +kernel
theorem dX10_regiment_1 : decode cX10_regiment 1 = .ok (.getfield 21, 3) := by decide +kernel
theorem dX10_regiment_4 : decode cX10_regiment 4 = .ok (.invokevirtual 92, 3) := by decide +kernel
theorem dX10_regiment_7 : decode cX10_regiment 7 = .ok (.istore_n 1, 1) := by decide +kernel
theorem dX10_regiment_8 : decode cX10_regiment 8 = .ok (.aload_n 0, 1) := by decide +kernel
theorem dX10_regiment_9 : decode cX10_regiment 9 = .ok (.getfield 10, 3) := by decide +kernel
theorem dX10_regiment_12 : decode cX10_regiment 12 = .ok (.iconst 0, 1) := by decide +kernel
theorem dX10_regiment_13 : decode cX10_regiment 13 = .ok (.putfield 88, 3) := by decide +kernel
theorem dX10_regiment_16 : decode cX10_regiment 16 = .ok (.iload_n 1, 1) := by decide +kernel
theorem dX10_regiment_17 : decode cX10_regiment 17 = .ok (.ifCond .ne 5, 3) := by decide +kernel
theorem dX10_regiment_22 : decode cX10_regiment 22 = .ok (.aload_n 0, 1) := by decide +kernel
theorem dX10_regiment_23 : decode cX10_regiment 23 = .ok (.getfield 28, 3) := by decide +kernel
theorem dX10_regiment_26 : decode cX10_regiment 26 = .ok (.aload_n 0, 1) := by decide +kernel
theorem dX10_regiment_27 : decode cX10_regiment 27 = .ok (.getfield 21, 3) := by decide +kernel
theorem dX10_regiment_30 : decode cX10_regiment 30 = .ok (.getfield 95, 3) := by decide +kernel
theorem dX10_regiment_33 : decode cX10_regiment 33 = .ok (.invokevirtual 98, 3) := by decide +kernel
theorem dX10_regiment_36 : decode cX10_regiment 36 = .ok (.aload_n 0, 1) := by decide +kernel
theorem dX10_regiment_37 : decode cX10_regiment 37 = .ok (.getfield 37, 3) := by decide +kernel
theorem dX10_regiment_40 : decode cX10_regiment 40 = .ok (.invokevirtual 101, 3) := by decide +kernel
theorem dX10_regiment_43 : decode cX10_regiment 43 = .ok (.aload_n 0, 1) := by decide +kernel
theorem dX10_regiment_44 : decode cX10_regiment 44 = .ok (.getfield 46, 3) := by decide +kernel
theorem dX10_regiment_47 : decode cX10_regiment 47 = .ok (.invokevirtual 104, 3) := by decide +kernel
theorem dX10_regiment_50 : decode cX10_regiment 50 = .ok (.aload_n 0, 1) := by decide +kernel
theorem dX10_regiment_51 : decode cX10_regiment 51 = .ok (.getfield 69, 3) := by decide +kernel
theorem dX10_regiment_54 : decode cX10_regiment 54 = .ok (.invokevirtual 107, 3) := by decide +kernel
theorem dX10_regiment_57 : decode cX10_regiment 57 = .ok (.aload_n 0, 1) := by decide +kernel
theorem dX10_regiment_58 : decode cX10_regiment 58 = .ok (.getfield 76, 3) := by decide +kernel
theorem dX10_regiment_61 : decode cX10_regiment 61 = .ok (.invokevirtual 110, 3) := by decide +kernel
theorem dX10_regiment_64 : decode cX10_regiment 64 = .ok (.aload_n 0, 1) := by decide +kernel
theorem dX10_regiment_65 : decode cX10_regiment 65 = .ok (.getfield 28, 3) := by decide +kernel
theorem dX10_regiment_68 : decode cX10_regiment 68 = .ok (.getfield 111, 3) := by decide +kernel
theorem dX10_regiment_71 : decode cX10_regiment 71 = .ok (.ireturn, 1) := by decide +kernel
theorem dX10_rota_0 : decode cX10_rota 0 = .ok (.aload_n 0, 1) := by decide +kernel
theorem dX10_rota_1 : decode cX10_rota 1 = .ok (.getfield 28, 3) := by decide +kernel
theorem dX10_rota_4 : decode cX10_rota 4 = .ok (.getfield 111, 3) := by decide +kernel
theorem dX10_rota_7 : decode cX10_rota 7 = .ok (.ifCond .eq 12, 3) := by decide +kernel
theorem dX10_rota_19 : decode cX10_rota 19 = .ok (.iconst (-1), 1) := by decide +kernel
theorem dX10_rota_20 : decode cX10_rota 20 = .ok (.ireturn, 1) := by decide +kernel
theorem dX10_rout_0 : decode cX10_rout 0 = .ok (.aload_n 0, 1) := by decide +kernel
theorem dX10_rout_1 : decode cX10_rout 1 = .ok (.getfield 55, 3) := by decide +kernel
theorem dX10_rout_4 : decode cX10_rout 4 = .ok (.invokevirtual 279, 3) := by decide +kernel
theorem dX10_rout_7 : decode cX10_rout 7 = .ok (.ireturn, 1) := by decide +kernel
theorem dX10_seen_0 : decode cX10_seen 0 = .ok (.aload_n 0, 1) := by decide +kernel
theorem dX10_seen_1 : decode cX10_seen 1 = .ok (.getfield 28, 3) := by decide +kernel
theorem dX10_seen_4 : decode cX10_seen 4 = .ok (.getfield 111, 3) := by decide +kernel
theorem dX10_seen_7 : decode cX10_seen 7 = .ok (.ifCond .eq 13, 3) := by decide +kernel
theorem dX10_seen_20 : decode cX10_seen 20 = .ok (.iconst (-1), 1) := by decide +kernel
theorem dX10_seen_21 : decode cX10_seen 21 = .ok (.ireturn, 1) := by decide +kernel
theorem dX10_sewing_0 : decode cX10_sewing 0 = .ok (.aload_n 0, 1) := by decide +kernel
theorem dX10_sewing_1 : decode cX10_sewing 1 = .ok (.getfield 28, 3) := by decide +kernel
theorem dX10_sewing_4 : decode cX10_sewing 4 = .ok (.iload_n 1, 1) := by decide +kernel
theorem dX10_sewing_5 : decode cX10_sewing 5 = .ok (.invokevirtual 138, 3) := by decide +kernel
theorem dX10_sewing_8 : decode cX10_sewing 8 = .ok (.ifCond .eq 23, 3) := by decide +kernel
theorem dX10_sewing_31 : decode cX10_sewing 31 = .ok (.bipush (-100), 2) := by decide +kernel
theorem dX10_sewing_33 : decode cX10_sewing 33 = .ok (.ireturn, 1) := by decide +kernel
theorem dX10_sure_0 : decode cX10_sure 0 = .ok (.aload_n 0, 1) := by decide +kernel
theorem dX10_sure_1 : decode cX10_sure 1 = .ok (.getfield 76, 3) := by decide +kernel
theorem dX10_sure_4 : decode cX10_sure 4 = .ok (.iload_n 2, 1) := by decide +kernel
theorem dX10_sure_5 : decode cX10_sure 5 = .ok (.invokevirtual 299, 3) := by decide +kernel
theorem dX10_sure_8 : decode cX10_sure 8 = .ok (.istore_n 3, 1) := by decide +kernel
theorem dX10_sure_9 : decode cX10_sure 9 = .ok (.iload_n 3, 1) := by decide +kernel
theorem dX10_sure_10 : decode cX10_sure 10 = .ok (.ifCond .eq 12, 3) := by decide +kernel
theorem dX10_sure_22 : decode cX10_sure 22 = .ok (.iconst (-1), 1) := by decide +kernel
theorem dX10_sure_23 : decode cX10_sure 23 = .ok (.ireturn, 1) := by decide +kernel
theorem dX10_takein_0 : decode cX10_takein 0 = .ok (.iload_n 2, 1) := by decide +kernel
theorem dX10_takein_1 : decode cX10_takein 1 = .ok (.iconst 1, 1) := by decide +kernel
theorem dX10_takein_2 : decode cX10_takein 2 = .ok (.if_icmp .lt 16, 3) := by decide +kernel
theorem dX10_takein_5 : decode cX10_takein 5 = .ok (.iload_n 2, 1) := by decide +kernel
theorem dX10_takein_6 : decode cX10_takein 6 = .ok (.aload_n 0, 1) := by decide +kernel
theorem dX10_takein_7 : decode cX10_takein 7 = .ok (.getfield 37, 3) := by decide +kernel
theorem dX10_takein_10 : decode cX10_takein 10 = .ok (.iconst 1, 1) := by decide +kernel
theorem dX10_takein_11 : decode cX10_takein 11 = .ok (.iload_n 1, 1) := by decide +kernel
theorem dX10_takein_12 : decode cX10_takein 12 = .ok (.invokevirtual 144, 3) := by decide +kernel
theorem dX10_takein_15 : decode cX10_takein 15 = .ok (.if_icmp .le 5, 3) := by decide +kernel
theorem dX10_takein_18 : decode cX10_takein 18 = .ok (.iconst (-1), 1) := by decide +kernel
theorem dX10_takein_19 : decode cX10_takein 19 = .ok (.ireturn, 1) := by decide +kernel
theorem dX10_turn_0 : decode cX10_turn 0 = .ok (.aload_n 0, 1) := by decide +kernel
theorem dX10_turn_1 : decode cX10_turn 1 = .ok (.getfield 28, 3) := by decide +kernel
theorem dX10_turn_4 : decode cX10_turn 4 = .ok (.iload_n 1, 1) := by decide +kernel
theorem dX10_turn_5 : decode cX10_turn 5 = .ok (.invokevirtual 138, 3) := by decide +kernel
theorem dX10_turn_8 : decode cX10_turn 8 = .ok (.ifCond .eq 15, 3) := by decide +kernel
theorem dX10_turn_23 : decode cX10_turn 23 = .ok (.iconst (-1), 1) := by decide +kernel
theorem dX10_turn_24 : decode cX10_turn 24 = .ok (.ireturn, 1) := by decide +kernel
theorem dX10_turning_0 : decode cX10_turning 0 = .ok (.aload_n 0, 1) := by decide +kernel
theorem dX10_turning_1 : decode cX10_turning 1 = .ok (.getfield 55, 3) := by decide +kernel
theorem dX10_turning_4 : decode cX10_turning 4 = .ok (.invokevirtual 258, 3) := by decide +kernel
theorem dX10_turning_7 : decode cX10_turning 7 = .ok (.ireturn, 1) := by decide +kernel
theorem dX10_undo_0 : decode cX10_undo 0 = .ok (.aload_n 0, 1) := by decide +kernel
theorem dX10_undo_1 : decode cX10_undo 1 = .ok (.getfield 46, 3) := by decide +kernel
theorem dX10_undo_4 : decode cX10_undo 4 = .ok (.invokevirtual 174, 3) := by decide +kernel
theorem dX10_undo_7 : decode cX10_undo 7 = .ok (.ireturn, 1) := by decide +kernel
theorem dX10_untell_0 : decode cX10_untell 0 = .ok (.aload_n 0, 1) := by decide +kernel
theorem dX10_untell_1 : decode cX10_untell 1 = .ok (.getfield 76, 3) := by decide +kernel
theorem dX10_untell_4 : decode cX10_untell 4 = .ok (.iload_n 1, 1) := by decide +kernel
theorem dX10_untell_5 : decode cX10_untell 5 = .ok (.aload_n 0, 1) := by decide +kernel
theorem dX10_untell_6 : decode cX10_untell 6 = .ok (.getfield 288, 3) := by decide +kernel
theorem dX10_untell_9 : decode cX10_untell 9 = .ok (.invokevirtual 295, 3) := by decide +kernel
theorem dX10_untell_12 : decode cX10_untell 12 = .ok (.ireturn, 1) := by decide +kernel
theorem dX10_will_0 : decode cX10_will 0 = .ok (.aload_n 0, 1) := by decide +kernel
theorem dX10_will_1 : decode cX10_will 1 = .ok (.getfield 28, 3) := by decide +kernel
theorem dX10_will_4 : decode cX10_will 4 = .ok (.iload_n 1, 1) := by decide +kernel
theorem dX10_will_5 : decode cX10_will 5 = .ok (.invokevirtual 120, 3) := by decide +kernel
theorem dX10_will_8 : decode cX10_will 8 = .ok (.ifCond .eq 22, 3) := by decide +kernel
theorem dX10_will_30 : decode cX10_will 30 = .ok (.bipush (-2), 2) := by decide +kernel
theorem dX10_will_32 : decode cX10_will 32 = .ok (.ireturn, 1) := by decide +kernel
theorem dX10_wings_0 : decode cX10_wings 0 = .ok (.iload_n 1, 1) := by decide +kernel
theorem dX10_wings_1 : decode cX10_wings 1 = .ok (.ifCond .lt 8, 3) := by decide +kernel
theorem dX10_wings_4 : decode cX10_wings 4 = .ok (.iload_n 1, 1) := by decide +kernel
theorem dX10_wings_5 : decode cX10_wings 5 = .ok (.iconst 1, 1) := by decide +kernel
theorem dX10_wings_6 : decode cX10_wings 6 = .ok (.if_icmp .le 5, 3) := by decide +kernel
theorem dX10_wings_9 : decode cX10_wings 9 = .ok (.iconst (-1), 1) := by decide +kernel
theorem dX10_wings_10 : decode cX10_wings 10 = .ok (.ireturn, 1) := by decide +kernel
theorem dX10_wings_11 : decode cX10_wings 11 = .ok (.aload_n 0, 1) := by decide +kernel
theorem dX10_wings_12 : decode cX10_wings 12 = .ok (.getfield 62, 3) := by decide +kernel
theorem dX10_wings_15 : decode cX10_wings 15 = .ok (.invokevirtual 243, 3) := by decide +kernel
theorem dX10_wings_18 : decode cX10_wings 18 = .ok (.istore_n 2, 1) := by decide +kernel
theorem dX10_wings_19 : decode cX10_wings 19 = .ok (.iload_n 1, 1) := by decide +kernel
theorem dX10_wings_20 : decode cX10_wings 20 = .ok (.iconst 1, 1) := by decide +kernel
theorem dX10_wings_21 : decode cX10_wings 21 = .ok (.if_icmp .ne 7, 3) := by decide +kernel
theorem dX10_wings_24 : decode cX10_wings 24 = .ok (.iload_n 2, 1) := by decide +kernel
theorem dX10_wings_25 : decode cX10_wings 25 = .ok (.goto 11, 3) := by decide +kernel
theorem dX10_wings_28 : decode cX10_wings 28 = .ok (.aload_n 0, 1) := by decide +kernel
theorem dX10_wings_29 : decode cX10_wings 29 = .ok (.getfield 62, 3) := by decide +kernel
theorem dX10_wings_32 : decode cX10_wings 32 = .ok (.iload_n 2, 1) := by decide +kernel
theorem dX10_wings_33 : decode cX10_wings 33 = .ok (.invokevirtual 246, 3) := by decide +kernel
theorem dX10_wings_36 : decode cX10_wings 36 = .ok (.ireturn, 1) := by decide +kernel
theorem dX11_about_0 : decode cX11_about 0 = .ok (.iload_n 1, 1) := by decide +kernel
theorem dX11_about_1 : decode cX11_about 1 = .ok (.tableswitch 147 0 13 #[71, 76, 81, 86, 91, 96, 104, 112, 117, 122, 127, 132, 137, 142], 71) := by decide +kernel
theorem dX11_about_72 : decode cX11_about 72 = .ok (.aload_n 0, 1) := by decide +kernel
theorem dX11_about_73 : decode cX11_about 73 = .ok (.getfield 387, 3) := by decide +kernel
theorem dX11_about_76 : decode cX11_about 76 = .ok (.ireturn, 1) := by decide +kernel
theorem dX11_about_77 : decode cX11_about 77 = .ok (.aload_n 0, 1) := by decide +kernel
theorem dX11_about_78 : decode cX11_about 78 = .ok (.getfield 390, 3) := by decide +kernel
theorem dX11_about_81 : decode cX11_about 81 = .ok (.ireturn, 1) := by decide +kernel
theorem dX11_about_82 : decode cX11_about 82 = .ok (.aload_n 0, 1) := by decide +kernel
theorem dX11_about_83 : decode cX11_about 83 = .ok (.getfield 84, 3) := by decide +kernel
theorem dX11_about_86 : decode cX11_about 86 = .ok (.ireturn, 1) := by decide +kernel
theorem dX11_about_87 : decode cX11_about 87 = .ok (.aload_n 0, 1) := by decide +kernel
theorem dX11_about_88 : decode cX11_about 88 = .ok (.getfield 87, 3) := by decide +kernel
theorem dX11_about_91 : decode cX11_about 91 = .ok (.ireturn, 1) := by decide +kernel
theorem dX11_about_92 : decode cX11_about 92 = .ok (.aload_n 0, 1) := by decide +kernel
theorem dX11_about_93 : decode cX11_about 93 = .ok (.getfield 90, 3) := by decide +kernel
theorem dX11_about_96 : decode cX11_about 96 = .ok (.ireturn, 1) := by decide +kernel
theorem dX11_about_97 : decode cX11_about 97 = .ok (.aload_n 0, 1) := by decide +kernel
theorem dX11_about_98 : decode cX11_about 98 = .ok (.getfield 93, 3) := by decide +kernel
theorem dX11_about_101 : decode cX11_about 101 = .ok (.bipush 37, 2) := by decide +kernel
theorem dX11_about_103 : decode cX11_about 103 = .ok (.iaload, 1) := by decide +kernel
theorem dX11_about_104 : decode cX11_about 104 = .ok (.ireturn, 1) := by decide +kernel
theorem dX11_about_105 : decode cX11_about 105 = .ok (.aload_n 0, 1) := by decide +kernel
theorem dX11_about_106 : decode cX11_about 106 = .ok (.getfield 93, 3) := by decide +kernel
theorem dX11_about_109 : decode cX11_about 109 = .ok (.bipush 38, 2) := by decide +kernel
theorem dX11_about_111 : decode cX11_about 111 = .ok (.iaload, 1) := by decide +kernel
theorem dX11_about_112 : decode cX11_about 112 = .ok (.ireturn, 1) := by decide +kernel
theorem dX11_about_113 : decode cX11_about 113 = .ok (.aload_n 0, 1) := by decide +kernel
theorem dX11_about_114 : decode cX11_about 114 = .ok (.getfield 405, 3) := by decide +kernel
theorem dX11_about_117 : decode cX11_about 117 = .ok (.ireturn, 1) := by decide +kernel
theorem dX11_about_118 : decode cX11_about 118 = .ok (.aload_n 0, 1) := by decide +kernel
theorem dX11_about_119 : decode cX11_about 119 = .ok (.getfield 408, 3) := by decide +kernel
theorem dX11_about_122 : decode cX11_about 122 = .ok (.ireturn, 1) := by decide +kernel
theorem dX11_about_123 : decode cX11_about 123 = .ok (.aload_n 0, 1) := by decide +kernel
theorem dX11_about_124 : decode cX11_about 124 = .ok (.getfield 411, 3) := by decide +kernel
theorem dX11_about_127 : decode cX11_about 127 = .ok (.ireturn, 1) := by decide +kernel
theorem dX11_about_128 : decode cX11_about 128 = .ok (.aload_n 0, 1) := by decide +kernel
theorem dX11_about_129 : decode cX11_about 129 = .ok (.getfield 527, 3) := by decide +kernel
theorem dX11_about_132 : decode cX11_about 132 = .ok (.ireturn, 1) := by decide +kernel
theorem dX11_about_133 : decode cX11_about 133 = .ok (.aload_n 0, 1) := by decide +kernel
theorem dX11_about_134 : decode cX11_about 134 = .ok (.getfield 139, 3) := by decide +kernel
theorem dX11_about_137 : decode cX11_about 137 = .ok (.ireturn, 1) := by decide +kernel
theorem dX11_about_138 : decode cX11_about 138 = .ok (.aload_n 0, 1) := by decide +kernel
theorem dX11_about_139 : decode cX11_about 139 = .ok (.getfield 396, 3) := by decide +kernel
theorem dX11_about_142 : decode cX11_about 142 = .ok (.ireturn, 1) := by decide +kernel
theorem dX11_about_143 : decode cX11_about 143 = .ok (.aload_n 0, 1) := by decide +kernel
theorem dX11_about_144 : decode cX11_about 144 = .ok (.getfield 414, 3) := by decide +kernel
theorem dX11_about_147 : decode cX11_about 147 = .ok (.ireturn, 1) := by decide +kernel
theorem dX11_about_148 : decode cX11_about 148 = .ok (.iconst (-1), 1) := by decide +kernel
theorem dX11_about_149 : decode cX11_about 149 = .ok (.ireturn, 1) := by decide +kernel
theorem dX11_act_0 : decode cX11_act 0 = .ok (.aload_n 0, 1) := by decide +kernel
theorem dX11_act_1 : decode cX11_act 1 = .ok (.getfield 405, 3) := by decide +kernel
theorem dX11_act_4 : decode cX11_act 4 = .ok (.bipush 40, 2) := by decide +kernel
theorem dX11_act_6 : decode cX11_act 6 = .ok (.if_icmp .ne 43, 3) := by decide +kernel
theorem dX11_act_49 : decode cX11_act 49 = .ok (.iconst 0, 1) := by decide +kernel
theorem dX11_act_50 : decode cX11_act 50 = .ok (.istore_n 1, 1) := by decide +kernel
theorem dX11_act_51 : decode cX11_act 51 = .ok (.iload_n 1, 1) := by decide +kernel
theorem dX11_act_52 : decode cX11_act 52 = .ok (.bipush 39, 2) := by decide +kernel
theorem dX11_act_54 : decode cX11_act 54 = .ok (.if_icmp .ge 29, 3) := by decide +kernel
theorem dX11_act_57 : decode cX11_act 57 = .ok (.aload_n 0, 1) := by decide +kernel
theorem dX11_act_58 : decode cX11_act 58 = .ok (.getfield 99, 3) := by decide +kernel
theorem dX11_act_61 : decode cX11_act 61 = .ok (.bipush 39, 2) := by decide +kernel
theorem dX11_act_63 : decode cX11_act 63 = .ok (.aload_n 0, 1) := by decide +kernel
theorem dX11_act_64 : decode cX11_act 64 = .ok (.getfield 405, 3) := by decide +kernel
theorem dX11_act_67 : decode cX11_act 67 = .ok (.imul, 1) := by decide +kernel
theorem dX11_act_68 : decode cX11_act 68 = .ok (.iload_n 1, 1) := by decide +kernel
theorem dX11_act_69 : decode cX11_act 69 = .ok (.iadd, 1) := by decide +kernel
theorem dX11_act_70 : decode cX11_act 70 = .ok (.aload_n 0, 1) := by decide +kernel
theorem dX11_act_71 : decode cX11_act 71 = .ok (.getfield 93, 3) := by decide +kernel
theorem dX11_act_74 : decode cX11_act 74 = .ok (.iload_n 1, 1) := by decide +kernel
theorem dX11_act_75 : decode cX11_act 75 = .ok (.iaload, 1) := by decide +kernel
theorem dX11_act_76 : decode cX11_act 76 = .ok (.iastore, 1) := by decide +kernel
theorem dX11_act_77 : decode cX11_act 77 = .ok (.iinc 1 1, 3) := by decide +kernel
theorem dX11_act_80 : decode cX11_act 80 = .ok (.goto (-29), 3) := by decide +kernel
theorem dX11_act_83 : decode cX11_act 83 = .ok (.aload_n 0, 1) := by decide +kernel
theorem dX11_act_84 : decode cX11_act 84 = .ok (.dup, 1) := by decide +kernel
theorem dX11_act_85 : decode cX11_act 85 = .ok (.getfield 405, 3) := by decide +kernel
theorem dX11_act_88 : decode cX11_act 88 = .ok (.iconst 1, 1) := by decide +kernel
theorem dX11_act_89 : decode cX11_act 89 = .ok (.iadd, 1) := by decide +kernel
theorem dX11_act_90 : decode cX11_act 90 = .ok (.putfield 405, 3) := by decide +kernel
theorem dX11_act_93 : decode cX11_act 93 = .ok (.aload_n 0, 1) := by decide +kernel
theorem dX11_act_94 : decode cX11_act 94 = .ok (.iconst 0, 1) := by decide +kernel
theorem dX11_act_95 : decode cX11_act 95 = .ok (.putfield 408, 3) := by decide +kernel
theorem dX11_act_98 : decode cX11_act 98 = .ok (.aload_n 0, 1) := by decide +kernel
theorem dX11_act_99 : decode cX11_act 99 = .ok (.invokevirtual 449, 3) := by decide +kernel
theorem dX11_act_102 : decode cX11_act 102 = .ok (.return_, 1) := by decide +kernel
theorem dX11_ask_0 : decode cX11_ask 0 = .ok (.iload_n 1, 1) := by decide +kernel
theorem dX11_ask_1 : decode cX11_ask 1 = .ok (.iconst 0, 1) := by decide +kernel
theorem dX11_ask_2 : decode cX11_ask 2 = .ok (.iconst 1, 1) := by decide +kernel
theorem dX11_ask_3 : decode cX11_ask 3 = .ok (.invokestatic 417, 3) := by decide +kernel
theorem dX11_ask_6 : decode cX11_ask 6 = .ok (.ifCond .ne 5, 3) := by decide +kernel
theorem dX11_ask_9 : decode cX11_ask 9 = .ok (.iconst (-1), 1) := by decide +kernel
theorem dX11_ask_10 : decode cX11_ask 10 = .ok (.ireturn, 1) := by decide +kernel
theorem dX11_ask_11 : decode cX11_ask 11 = .ok (.aload_n 0, 1) := by decide +kernel
theorem dX11_ask_12 : decode cX11_ask 12 = .ok (.iload_n 2, 1) := by decide +kernel
theorem dX11_ask_13 : decode cX11_ask 13 = .ok (.invokevirtual 534, 3) := by decide +kernel
theorem dX11_ask_16 : decode cX11_ask 16 = .ok (.istore_n 3, 1) := by decide +kernel
theorem dX11_ask_17 : decode cX11_ask 17 = .ok (.iload_n 3, 1) := by decide +kernel
theorem dX11_ask_18 : decode cX11_ask 18 = .ok (.ifCond .ne 5, 3) := by decide +kernel
theorem dX11_ask_21 : decode cX11_ask 21 = .ok (.iconst (-1), 1) := by decide +kernel
theorem dX11_ask_22 : decode cX11_ask 22 = .ok (.ireturn, 1) := by decide +kernel
theorem dX11_back_0 : decode cX11_back 0 = .ok (.iload_n 1, 1) := by decide +kernel
theorem dX11_back_1 : decode cX11_back 1 = .ok (.invokestatic 540, 3) := by decide +kernel
theorem dX11_back_4 : decode cX11_back 4 = .ok (.ifCond .eq 12, 3) := by decide +kernel
theorem dX11_back_7 : decode cX11_back 7 = .ok (.aload_n 0, 1) := by decide +kernel
theorem dX11_back_8 : decode cX11_back 8 = .ok (.getfield 133, 3) := by decide +kernel
theorem dX11_back_11 : decode cX11_back 11 = .ok (.iload_n 1, 1) := by decide +kernel
theorem dX11_back_12 : decode cX11_back 12 = .ok (.baload, 1) := by decide +kernel
theorem dX11_back_13 : decode cX11_back 13 = .ok (.ifCond .ne 5, 3) := by decide +kernel
theorem dX11_back_16 : decode cX11_back 16 = .ok (.iconst (-1), 1) := by decide +kernel
theorem dX11_back_17 : decode cX11_back 17 = .ok (.ireturn, 1) := by decide +kernel
theorem dX11_begin_0 : decode cX11_begin 0 = .ok (.iconst 0, 1) := by decide +kernel
theorem dX11_begin_1 : decode cX11_begin 1 = .ok (.istore_n 1, 1) := by decide +kernel
theorem dX11_begin_2 : decode cX11_begin 2 = .ok (.iload_n 1, 1) := by decide +kernel
theorem dX11_begin_3 : decode cX11_begin 3 = .ok (.bipush 39, 2) := by decide +kernel
theorem dX11_begin_5 : decode cX11_begin 5 = .ok (.if_icmp .ge 16, 3) := by decide +kernel
theorem dX11_begin_8 : decode cX11_begin 8 = .ok (.aload_n 0, 1) := by decide +kernel
theorem dX11_begin_9 : decode cX11_begin 9 = .ok (.getfield 96, 3) := by decide +kernel
theorem dX11_begin_12 : decode cX11_begin 12 = .ok (.iload_n 1, 1) := by decide +kernel
theorem dX11_begin_13 : decode cX11_begin 13 = .ok (.iconst 0, 1) := by decide +kernel
theorem dX11_begin_14 : decode cX11_begin 14 = .ok (.iastore, 1) := by decide +kernel
theorem dX11_begin_15 : decode cX11_begin 15 = .ok (.iinc 1 1, 3) := by decide +kernel
theorem dX11_begin_18 : decode cX11_begin 18 = .ok (.goto (-16), 3) := by decide +kernel
theorem dX11_begin_21 : decode cX11_begin 21 = .ok (.iconst 0, 1) := by decide +kernel
theorem dX11_begin_22 : decode cX11_begin 22 = .ok (.istore_n 1, 1) := by decide +kernel
theorem dX11_begin_23 : decode cX11_begin 23 = .ok (.iload_n 1, 1) := by decide +kernel
theorem dX11_begin_24 : decode cX11_begin 24 = .ok (.aload_n 0, 1) := by decide +kernel
theorem dX11_begin_25 : decode cX11_begin 25 = .ok (.getfield 387, 3) := by decide +kernel
theorem dX11_begin_28 : decode cX11_begin 28 = .ok (.if_icmp .ge 31, 3) := by decide +kernel
theorem dX11_begin_59 : decode cX11_begin 59 = .ok (.iconst 0, 1) := by decide +kernel
theorem dX11_begin_60 : decode cX11_begin 60 = .ok (.istore_n 1, 1) := by decide +kernel
theorem dX11_begin_61 : decode cX11_begin 61 = .ok (.iload_n 1, 1) := by decide +kernel
theorem dX11_begin_62 : decode cX11_begin 62 = .ok (.aload_n 0, 1) := by decide +kernel
theorem dX11_begin_63 : decode cX11_begin 63 = .ok (.getfield 390, 3) := by decide +kernel
theorem dX11_begin_66 : decode cX11_begin 66 = .ok (.if_icmp .ge 69, 3) := by decide +kernel
theorem dX11_begin_135 : decode cX11_begin 135 = .ok (.return_, 1) := by decide +kernel
theorem dX11_breadth_0 : decode cX11_breadth 0 = .ok (.aload_n 0, 1) := by decide +kernel
theorem dX11_breadth_1 : decode cX11_breadth 1 = .ok (.invokevirtual 449, 3) := by decide +kernel
theorem dX11_breadth_4 : decode cX11_breadth 4 = .ok (.aload_n 0, 1) := by decide +kernel
theorem dX11_breadth_5 : decode cX11_breadth 5 = .ok (.aload_n 0, 1) := by decide +kernel
theorem dX11_breadth_6 : decode cX11_breadth 6 = .ok (.invokevirtual 440, 3) := by decide +kernel
theorem dX11_breadth_9 : decode cX11_breadth 9 = .ok (.invokevirtual 492, 3) := by decide +kernel
theorem dX11_breadth_12 : decode cX11_breadth 12 = .ok (.ireturn, 1) := by decide +kernel
theorem dX11_buttons_0 : decode cX11_buttons 0 = .ok (.aload_n 0, 1) := by decide +kernel
theorem dX11_buttons_1 : decode cX11_buttons 1 = .ok (.aload_n 0, 1) := by decide +kernel
theorem dX11_buttons_2 : decode cX11_buttons 2 = .ok (.getfield 387, 3) := by decide +kernel
theorem dX11_buttons_5 : decode cX11_buttons 5 = .ok (.putfield 414, 3) := by decide +kernel
theorem dX11_buttons_8 : decode cX11_buttons 8 = .ok (.iconst 1, 1) := by decide +kernel
theorem dX11_buttons_9 : decode cX11_buttons 9 = .ok (.istore_n 1, 1) := by decide +kernel
end
section
theorem dX11_buttons_10 : decode cX11_buttons 10 = .ok (.iload_n 1, 1) := by decide +kernel
theorem dX11_buttons_11 : decode cX11_buttons 11 = .ok (.aload_n 0, 1) := by decide +kernel
theorem dX11_buttons_12 : decode cX11_buttons 12 = .ok (.getfield 387, 3) := by decide +kernel
theorem dX11_buttons_15 : decode cX11_buttons 15 = .ok (.if_icmp .gt 71, 3) := by decide +kernel
theorem dX11_buttons_86 : decode cX11_buttons 86 = .ok (.iconst 0, 1) := by decide +kernel
theorem dX11_buttons_87 : decode cX11_buttons 87 = .ok (.ireturn, 1) := by decide +kernel
theorem dX11_change_0 : decode cX11_change 0 = .ok (.iload_n 1, 1) := by decide +kernel
theorem dX11_change_1 : decode cX11_change 1 = .ok (.iconst 0, 1) := by decide +kernel
theorem dX11_change_2 : decode cX11_change 2 = .ok (.iconst 2, 1) := by decide +kernel
theorem dX11_change_3 : decode cX11_change 3 = .ok (.invokestatic 417, 3) := by decide +kernel
theorem dX11_change_6 : decode cX11_change 6 = .ok (.ifCond .ne 5, 3) := by decide +kernel
theorem dX11_change_9 : decode cX11_change 9 = .ok (.iconst (-1), 1) := by decide +kernel
theorem dX11_change_10 : decode cX11_change 10 = .ok (.ireturn, 1) := by decide +kernel
theorem dX11_change_11 : decode cX11_change 11 = .ok (.aload_n 0, 1) := by decide +kernel
theorem dX11_change_12 : decode cX11_change 12 = .ok (.invokevirtual 489, 3) := by decide +kernel
theorem dX11_change_15 : decode cX11_change 15 = .ok (.invokestatic 486, 3) := by decide +kernel
theorem dX11_change_18 : decode cX11_change 18 = .ok (.istore_n 2, 1) := by decide +kernel
theorem dX11_change_19 : decode cX11_change 19 = .ok (.iconst (-1), 1) := by decide +kernel
theorem dX11_change_20 : decode cX11_change 20 = .ok (.istore_n 3, 1) := by decide +kernel
theorem dX11_change_21 : decode cX11_change 21 = .ok (.iconst 0, 1) := by decide +kernel
theorem dX11_change_22 : decode cX11_change 22 = .ok (.istore 4, 2) := by decide +kernel
theorem dX11_change_24 : decode cX11_change 24 = .ok (.iload 4, 2) := by decide +kernel
theorem dX11_change_26 : decode cX11_change 26 = .ok (.aload_n 0, 1) := by decide +kernel
theorem dX11_change_27 : decode cX11_change 27 = .ok (.getfield 387, 3) := by decide +kernel
theorem dX11_change_30 : decode cX11_change 30 = .ok (.if_icmp .ge 104, 3) := by decide +kernel
theorem dX11_change_134 : decode cX11_change 134 = .ok (.iload_n 3, 1) := by decide +kernel
theorem dX11_change_135 : decode cX11_change 135 = .ok (.ifCond .ge 7, 3) := by decide +kernel
theorem dX11_change_138 : decode cX11_change 138 = .ok (.iconst (-1), 1) := by decide +kernel
theorem dX11_change_139 : decode cX11_change 139 = .ok (.goto 27, 3) := by decide +kernel
theorem dX11_change_166 : decode cX11_change 166 = .ok (.ireturn, 1) := by decide +kernel
theorem dX11_cloth_0 : decode cX11_cloth 0 = .ok (.aload_n 0, 1) := by decide +kernel
theorem dX11_cloth_1 : decode cX11_cloth 1 = .ok (.getfield 111, 3) := by decide +kernel
theorem dX11_cloth_4 : decode cX11_cloth 4 = .ok (.iconst 0, 1) := by decide +kernel
theorem dX11_cloth_5 : decode cX11_cloth 5 = .ok (.iconst 0, 1) := by decide +kernel
theorem dX11_cloth_6 : decode cX11_cloth 6 = .ok (.iastore, 1) := by decide +kernel
theorem dX11_cloth_7 : decode cX11_cloth 7 = .ok (.iconst 1, 1) := by decide +kernel
theorem dX11_cloth_8 : decode cX11_cloth 8 = .ok (.istore_n 1, 1) := by decide +kernel
theorem dX11_cloth_9 : decode cX11_cloth 9 = .ok (.iload_n 1, 1) := by decide +kernel
theorem dX11_cloth_10 : decode cX11_cloth 10 = .ok (.iconst 1, 1) := by decide +kernel
theorem dX11_cloth_11 : decode cX11_cloth 11 = .ok (.aload_n 0, 1) := by decide +kernel
theorem dX11_cloth_12 : decode cX11_cloth 12 = .ok (.getfield 390, 3) := by decide +kernel
theorem dX11_cloth_15 : decode cX11_cloth 15 = .ok (.ishl, 1) := by decide +kernel
theorem dX11_cloth_16 : decode cX11_cloth 16 = .ok (.if_icmp .ge 70, 3) := by decide +kernel
theorem dX11_cloth_86 : decode cX11_cloth 86 = .ok (.aload_n 0, 1) := by decide +kernel
theorem dX11_cloth_87 : decode cX11_cloth 87 = .ok (.getfield 111, 3) := by decide +kernel
theorem dX11_cloth_90 : decode cX11_cloth 90 = .ok (.iconst 1, 1) := by decide +kernel
theorem dX11_cloth_91 : decode cX11_cloth 91 = .ok (.aload_n 0, 1) := by decide +kernel
theorem dX11_cloth_92 : decode cX11_cloth 92 = .ok (.getfield 390, 3) := by decide +kernel
theorem dX11_cloth_95 : decode cX11_cloth 95 = .ok (.ishl, 1) := by decide +kernel
theorem dX11_cloth_96 : decode cX11_cloth 96 = .ok (.iconst 1, 1) := by decide +kernel
theorem dX11_cloth_97 : decode cX11_cloth 97 = .ok (.isub, 1) := by decide +kernel
theorem dX11_cloth_98 : decode cX11_cloth 98 = .ok (.iaload, 1) := by decide +kernel
theorem dX11_cloth_99 : decode cX11_cloth 99 = .ok (.istore_n 1, 1) := by decide +kernel
theorem dX11_cloth_100 : decode cX11_cloth 100 = .ok (.iload_n 1, 1) := by decide +kernel
theorem dX11_cloth_101 : decode cX11_cloth 101 = .ok (.ldc_w 498, 3) := by decide +kernel
theorem dX11_cloth_104 : decode cX11_cloth 104 = .ok (.if_icmp .lt 7, 3) := by decide +kernel
theorem dX11_cloth_111 : decode cX11_cloth 111 = .ok (.iload_n 1, 1) := by decide +kernel
theorem dX11_cloth_112 : decode cX11_cloth 112 = .ok (.ireturn, 1) := by decide +kernel
theorem dX11_coat_0 : decode cX11_coat 0 = .ok (.aload_n 0, 1) := by decide +kernel
theorem dX11_coat_1 : decode cX11_coat 1 = .ok (.iload_n 1, 1) := by decide +kernel
theorem dX11_coat_2 : decode cX11_coat 2 = .ok (.invokevirtual 455, 3) := by decide +kernel
theorem dX11_coat_5 : decode cX11_coat 5 = .ok (.ifCond .ne 6, 3) := by decide +kernel
theorem dX11_coat_8 : decode cX11_coat 8 = .ok (.bipush (-2), 2) := by decide +kernel
theorem dX11_coat_10 : decode cX11_coat 10 = .ok (.ireturn, 1) := by decide +kernel
theorem dX11_day_0 : decode cX11_day 0 = .ok (.aload_n 0, 1) := by decide +kernel
theorem dX11_day_1 : decode cX11_day 1 = .ok (.getfield 93, 3) := by decide +kernel
theorem dX11_day_4 : decode cX11_day 4 = .ok (.bipush 37, 2) := by decide +kernel
theorem dX11_day_6 : decode cX11_day 6 = .ok (.iaload, 1) := by decide +kernel
theorem dX11_day_7 : decode cX11_day 7 = .ok (.sipush 999, 3) := by decide +kernel
theorem dX11_day_10 : decode cX11_day 10 = .ok (.if_icmp .ne 5, 3) := by decide +kernel
theorem dX11_day_15 : decode cX11_day 15 = .ok (.aload_n 0, 1) := by decide +kernel
theorem dX11_day_16 : decode cX11_day 16 = .ok (.invokevirtual 458, 3) := by decide +kernel
theorem dX11_day_19 : decode cX11_day 19 = .ok (.aload_n 0, 1) := by decide +kernel
theorem dX11_day_20 : decode cX11_day 20 = .ok (.invokevirtual 461, 3) := by decide +kernel
theorem dX11_day_23 : decode cX11_day 23 = .ok (.istore_n 1, 1) := by decide +kernel
theorem dX11_day_24 : decode cX11_day 24 = .ok (.aload_n 0, 1) := by decide +kernel
theorem dX11_day_25 : decode cX11_day 25 = .ok (.iload_n 1, 1) := by decide +kernel
theorem dX11_day_26 : decode cX11_day 26 = .ok (.invokevirtual 464, 3) := by decide +kernel
theorem dX11_day_29 : decode cX11_day 29 = .ok (.istore_n 2, 1) := by decide +kernel
theorem dX11_day_30 : decode cX11_day 30 = .ok (.aload_n 0, 1) := by decide +kernel
theorem dX11_day_31 : decode cX11_day 31 = .ok (.invokevirtual 402, 3) := by decide +kernel
theorem dX11_day_34 : decode cX11_day 34 = .ok (.iload_n 2, 1) := by decide +kernel
theorem dX11_day_35 : decode cX11_day 35 = .ok (.ireturn, 1) := by decide +kernel
theorem dX11_divisor_0 : decode cX11_divisor 0 = .ok (.iload_n 0, 1) := by decide +kernel
theorem dX11_divisor_1 : decode cX11_divisor 1 = .ok (.istore_n 2, 1) := by decide +kernel
theorem dX11_divisor_2 : decode cX11_divisor 2 = .ok (.iload_n 1, 1) := by decide +kernel
theorem dX11_divisor_3 : decode cX11_divisor 3 = .ok (.istore_n 3, 1) := by decide +kernel
theorem dX11_divisor_4 : decode cX11_divisor 4 = .ok (.iload_n 3, 1) := by decide +kernel
theorem dX11_divisor_5 : decode cX11_divisor 5 = .ok (.ifCond .le 16, 3) := by decide +kernel
theorem dX11_divisor_8 : decode cX11_divisor 8 = .ok (.iload_n 2, 1) := by decide +kernel
theorem dX11_divisor_9 : decode cX11_divisor 9 = .ok (.iload_n 3, 1) := by decide +kernel
theorem dX11_divisor_10 : decode cX11_divisor 10 = .ok (.irem, 1) := by decide +kernel
theorem dX11_divisor_11 : decode cX11_divisor 11 = .ok (.istore 4, 2) := by decide +kernel
theorem dX11_divisor_13 : decode cX11_divisor 13 = .ok (.iload_n 3, 1) := by decide +kernel
theorem dX11_divisor_14 : decode cX11_divisor 14 = .ok (.istore_n 2, 1) := by decide +kernel
theorem dX11_divisor_15 : decode cX11_divisor 15 = .ok (.iload 4, 2) := by decide +kernel
theorem dX11_divisor_17 : decode cX11_divisor 17 = .ok (.istore_n 3, 1) := by decide +kernel
theorem dX11_divisor_18 : decode cX11_divisor 18 = .ok (.goto (-14), 3) := by decide +kernel
theorem dX11_divisor_21 : decode cX11_divisor 21 = .ok (.iload_n 2, 1) := by decide +kernel
theorem dX11_divisor_22 : decode cX11_divisor 22 = .ok (.ireturn, 1) := by decide +kernel
theorem dX11_doff_0 : decode cX11_doff 0 = .ok (.aload_n 0, 1) := by decide +kernel
theorem dX11_doff_1 : decode cX11_doff 1 = .ok (.iload_n 1, 1) := by decide +kernel
theorem dX11_doff_2 : decode cX11_doff 2 = .ok (.invokevirtual 446, 3) := by decide +kernel
theorem dX11_doff_5 : decode cX11_doff 5 = .ok (.ifCond .eq 15, 3) := by decide +kernel
theorem dX11_doff_20 : decode cX11_doff 20 = .ok (.iconst (-1), 1) := by decide +kernel
theorem dX11_doff_21 : decode cX11_doff 21 = .ok (.ireturn, 1) := by decide +kernel
theorem dX11_don_0 : decode cX11_don 0 = .ok (.aload_n 0, 1) := by decide +kernel
theorem dX11_don_1 : decode cX11_don 1 = .ok (.invokevirtual 449, 3) := by decide +kernel
theorem dX11_don_4 : decode cX11_don 4 = .ok (.aload_n 0, 1) := by decide +kernel
theorem dX11_don_5 : decode cX11_don 5 = .ok (.iload_n 1, 1) := by decide +kernel
theorem dX11_don_6 : decode cX11_don 6 = .ok (.invokevirtual 446, 3) := by decide +kernel
theorem dX11_don_9 : decode cX11_don 9 = .ok (.ifCond .eq 19, 3) := by decide +kernel
theorem dX11_don_28 : decode cX11_don 28 = .ok (.bipush (-2), 2) := by decide +kernel
theorem dX11_don_30 : decode cX11_don 30 = .ok (.ireturn, 1) := by decide +kernel
theorem dX11_drawRain_0 : decode cX11_drawRain 0 = .ok (.aload_n 0, 1) := by decide +kernel
theorem dX11_drawRain_1 : decode cX11_drawRain 1 = .ok (.getfield 96, 3) := by decide +kernel
theorem dX11_drawRain_4 : decode cX11_drawRain 4 = .ok (.bipush 38, 2) := by decide +kernel
theorem dX11_drawRain_6 : decode cX11_drawRain 6 = .ok (.aload_n 0, 1) := by decide +kernel
theorem dX11_drawRain_7 : decode cX11_drawRain 7 = .ok (.getfield 96, 3) := by decide +kernel
theorem dX11_drawRain_10 : decode cX11_drawRain 10 = .ok (.bipush 38, 2) := by decide +kernel
theorem dX11_drawRain_12 : decode cX11_drawRain 12 = .ok (.iaload, 1) := by decide +kernel
theorem dX11_drawRain_13 : decode cX11_drawRain 13 = .ok (.sipush 137, 3) := by decide +kernel
theorem dX11_drawRain_16 : decode cX11_drawRain 16 = .ok (.imul, 1) := by decide +kernel
theorem dX11_drawRain_17 : decode cX11_drawRain 17 = .ok (.bipush 71, 2) := by decide +kernel
theorem dX11_drawRain_19 : decode cX11_drawRain 19 = .ok (.iadd, 1) := by decide +kernel
theorem dX11_drawRain_20 : decode cX11_drawRain 20 = .ok (.sipush 1000, 3) := by decide +kernel
theorem dX11_drawRain_23 : decode cX11_drawRain 23 = .ok (.irem, 1) := by decide +kernel
theorem dX11_drawRain_24 : decode cX11_drawRain 24 = .ok (.iastore, 1) := by decide +kernel
theorem dX11_drawRain_25 : decode cX11_drawRain 25 = .ok (.aload_n 0, 1) := by decide +kernel
theorem dX11_drawRain_26 : decode cX11_drawRain 26 = .ok (.getfield 96, 3) := by decide +kernel
theorem dX11_drawRain_29 : decode cX11_drawRain 29 = .ok (.bipush 38, 2) := by decide +kernel
theorem dX11_drawRain_31 : decode cX11_drawRain 31 = .ok (.iaload, 1) := by decide +kernel
theorem dX11_drawRain_32 : decode cX11_drawRain 32 = .ok (.bipush 100, 2) := by decide +kernel
theorem dX11_drawRain_34 : decode cX11_drawRain 34 = .ok (.irem, 1) := by decide +kernel
theorem dX11_drawRain_35 : decode cX11_drawRain 35 = .ok (.aload_n 0, 1) := by decide +kernel
theorem dX11_drawRain_36 : decode cX11_drawRain 36 = .ok (.getfield 393, 3) := by decide +kernel
theorem dX11_drawRain_39 : decode cX11_drawRain 39 = .ok (.if_icmp .ge 7, 3) := by decide +kernel
theorem dX11_drawRain_46 : decode cX11_drawRain 46 = .ok (.iconst 0, 1) := by decide +kernel
theorem dX11_drawRain_47 : decode cX11_drawRain 47 = .ok (.ireturn, 1) := by decide +kernel
theorem dX11_dress_0 : decode cX11_dress 0 = .ok (.iload_n 1, 1) := by decide +kernel
theorem dX11_dress_1 : decode cX11_dress 1 = .ok (.iconst 0, 1) := by decide +kernel
theorem dX11_dress_2 : decode cX11_dress 2 = .ok (.iconst 1, 1) := by decide +kernel
theorem dX11_dress_3 : decode cX11_dress 3 = .ok (.invokestatic 417, 3) := by decide +kernel
theorem dX11_dress_6 : decode cX11_dress 6 = .ok (.ifCond .ne 5, 3) := by decide +kernel
theorem dX11_dress_9 : decode cX11_dress 9 = .ok (.iconst (-1), 1) := by decide +kernel
theorem dX11_dress_10 : decode cX11_dress 10 = .ok (.ireturn, 1) := by decide +kernel
theorem dX11_dress_11 : decode cX11_dress 11 = .ok (.aload_n 0, 1) := by decide +kernel
theorem dX11_dress_12 : decode cX11_dress 12 = .ok (.invokevirtual 470, 3) := by decide +kernel
theorem dX11_dress_15 : decode cX11_dress 15 = .ok (.iconst (-1), 1) := by decide +kernel
theorem dX11_dress_16 : decode cX11_dress 16 = .ok (.istore_n 2, 1) := by decide +kernel
theorem dX11_dress_17 : decode cX11_dress 17 = .ok (.iconst 0, 1) := by decide +kernel
theorem dX11_dress_18 : decode cX11_dress 18 = .ok (.istore_n 3, 1) := by decide +kernel
theorem dX11_dress_19 : decode cX11_dress 19 = .ok (.iconst 0, 1) := by decide +kernel
theorem dX11_dress_20 : decode cX11_dress 20 = .ok (.istore 4, 2) := by decide +kernel
theorem dX11_dress_22 : decode cX11_dress 22 = .ok (.iload 4, 2) := by decide +kernel
theorem dX11_dress_24 : decode cX11_dress 24 = .ok (.aload_n 0, 1) := by decide +kernel
theorem dX11_dress_25 : decode cX11_dress 25 = .ok (.getfield 390, 3) := by decide +kernel
theorem dX11_dress_28 : decode cX11_dress 28 = .ok (.iconst 1, 1) := by decide +kernel
theorem dX11_dress_29 : decode cX11_dress 29 = .ok (.iadd, 1) := by decide +kernel
theorem dX11_dress_30 : decode cX11_dress 30 = .ok (.aload_n 0, 1) := by decide +kernel
theorem dX11_dress_31 : decode cX11_dress 31 = .ok (.getfield 387, 3) := by decide +kernel
theorem dX11_dress_34 : decode cX11_dress 34 = .ok (.invokestatic 473, 3) := by decide +kernel
theorem dX11_dress_37 : decode cX11_dress 37 = .ok (.if_icmp .ge 85, 3) := by decide +kernel
theorem dX11_dress_40 : decode cX11_dress 40 = .ok (.aload_n 0, 1) := by decide +kernel
theorem dX11_dress_41 : decode cX11_dress 41 = .ok (.iload 4, 2) := by decide +kernel
theorem dX11_dress_43 : decode cX11_dress 43 = .ok (.invokevirtual 476, 3) := by decide +kernel
theorem dX11_dress_46 : decode cX11_dress 46 = .ok (.istore 5, 2) := by decide +kernel
theorem dX11_dress_48 : decode cX11_dress 48 = .ok (.iload 5, 2) := by decide +kernel
theorem dX11_dress_50 : decode cX11_dress 50 = .ok (.ifCond .lt 66, 3) := by decide +kernel
theorem dX11_dress_53 : decode cX11_dress 53 = .ok (.iload 5, 2) := by decide +kernel
theorem dX11_dress_55 : decode cX11_dress 55 = .ok (.iload_n 2, 1) := by decide +kernel
theorem dX11_dress_56 : decode cX11_dress 56 = .ok (.if_icmp .lt 60, 3) := by decide +kernel
theorem dX11_dress_59 : decode cX11_dress 59 = .ok (.iload 5, 2) := by decide +kernel
theorem dX11_dress_61 : decode cX11_dress 61 = .ok (.iload_n 2, 1) := by decide +kernel
theorem dX11_dress_62 : decode cX11_dress 62 = .ok (.if_icmp .ne 14, 3) := by decide +kernel
theorem dX11_dress_76 : decode cX11_dress 76 = .ok (.iload 5, 2) := by decide +kernel
theorem dX11_dress_78 : decode cX11_dress 78 = .ok (.istore_n 2, 1) := by decide +kernel
theorem dX11_dress_79 : decode cX11_dress 79 = .ok (.aload_n 0, 1) := by decide +kernel
theorem dX11_dress_80 : decode cX11_dress 80 = .ok (.invokevirtual 479, 3) := by decide +kernel
theorem dX11_dress_83 : decode cX11_dress 83 = .ok (.istore_n 3, 1) := by decide +kernel
theorem dX11_dress_84 : decode cX11_dress 84 = .ok (.iconst 0, 1) := by decide +kernel
theorem dX11_dress_85 : decode cX11_dress 85 = .ok (.istore 6, 2) := by decide +kernel
theorem dX11_dress_87 : decode cX11_dress 87 = .ok (.iload 6, 2) := by decide +kernel
theorem dX11_dress_89 : decode cX11_dress 89 = .ok (.aload_n 0, 1) := by decide +kernel
theorem dX11_dress_90 : decode cX11_dress 90 = .ok (.getfield 387, 3) := by decide +kernel
theorem dX11_dress_93 : decode cX11_dress 93 = .ok (.if_icmp .ge 23, 3) := by decide +kernel
theorem dX11_dress_116 : decode cX11_dress 116 = .ok (.iinc 4 1, 3) := by decide +kernel
theorem dX11_dress_119 : decode cX11_dress 119 = .ok (.goto (-97), 3) := by decide +kernel
theorem dX11_dress_122 : decode cX11_dress 122 = .ok (.aload_n 0, 1) := by decide +kernel
theorem dX11_dress_123 : decode cX11_dress 123 = .ok (.aload_n 0, 1) := by decide +kernel
theorem dX11_dress_124 : decode cX11_dress 124 = .ok (.getfield 387, 3) := by decide +kernel
theorem dX11_dress_127 : decode cX11_dress 127 = .ok (.putfield 414, 3) := by decide +kernel
theorem dX11_dress_130 : decode cX11_dress 130 = .ok (.iload_n 1, 1) := by decide +kernel
theorem dX11_dress_131 : decode cX11_dress 131 = .ok (.ifCond .ne 7, 3) := by decide +kernel
theorem dX11_dress_134 : decode cX11_dress 134 = .ok (.iload_n 2, 1) := by decide +kernel
theorem dX11_dress_135 : decode cX11_dress 135 = .ok (.goto 4, 3) := by decide +kernel
theorem dX11_dress_138 : decode cX11_dress 138 = .ok (.iload_n 3, 1) := by decide +kernel
theorem dX11_dress_139 : decode cX11_dress 139 = .ok (.ireturn, 1) := by decide +kernel
theorem dX11_ease_0 : decode cX11_ease 0 = .ok (.aload_n 0, 1) := by decide +kernel
theorem dX11_ease_1 : decode cX11_ease 1 = .ok (.invokevirtual 449, 3) := by decide +kernel
theorem dX11_ease_4 : decode cX11_ease 4 = .ok (.iconst 0, 1) := by decide +kernel
theorem dX11_ease_5 : decode cX11_ease 5 = .ok (.istore_n 1, 1) := by decide +kernel
theorem dX11_ease_6 : decode cX11_ease 6 = .ok (.iconst 0, 1) := by decide +kernel
theorem dX11_ease_7 : decode cX11_ease 7 = .ok (.istore_n 2, 1) := by decide +kernel
theorem dX11_ease_8 : decode cX11_ease 8 = .ok (.iload_n 2, 1) := by decide +kernel
theorem dX11_ease_9 : decode cX11_ease 9 = .ok (.aload_n 0, 1) := by decide +kernel
theorem dX11_ease_10 : decode cX11_ease 10 = .ok (.getfield 387, 3) := by decide +kernel
theorem dX11_ease_13 : decode cX11_ease 13 = .ok (.if_icmp .ge 19, 3) := by decide +kernel
theorem dX11_ease_32 : decode cX11_ease 32 = .ok (.iload_n 1, 1) := by decide +kernel
theorem dX11_ease_33 : decode cX11_ease 33 = .ok (.ireturn, 1) := by decide +kernel
theorem dX11_end_0 : decode cX11_end 0 = .ok (.iload_n 1, 1) := by decide +kernel
theorem dX11_end_1 : decode cX11_end 1 = .ok (.ifCond .lt 11, 3) := by decide +kernel
theorem dX11_end_4 : decode cX11_end 4 = .ok (.iload_n 1, 1) := by decide +kernel
theorem dX11_end_5 : decode cX11_end 5 = .ok (.aload_n 0, 1) := by decide +kernel
theorem dX11_end_6 : decode cX11_end 6 = .ok (.getfield 139, 3) := by decide +kernel
theorem dX11_end_9 : decode cX11_end 9 = .ok (.if_icmp .le 5, 3) := by decide +kernel
theorem dX11_end_12 : decode cX11_end 12 = .ok (.iconst (-1), 1) := by decide +kernel
theorem dX11_end_13 : decode cX11_end 13 = .ok (.ireturn, 1) := by decide +kernel
theorem dX11_end_14 : decode cX11_end 14 = .ok (.aload_n 0, 1) := by decide +kernel
theorem dX11_end_15 : decode cX11_end 15 = .ok (.iload_n 1, 1) := by decide +kernel
theorem dX11_end_16 : decode cX11_end 16 = .ok (.putfield 139, 3) := by decide +kernel
theorem dX11_end_19 : decode cX11_end 19 = .ok (.iload_n 1, 1) := by decide +kernel
theorem dX11_end_20 : decode cX11_end 20 = .ok (.ireturn, 1) := by decide +kernel
theorem dX11_fault_0 : decode cX11_fault 0 = .ok (.iload_n 1, 1) := by decide +kernel
theorem dX11_fault_1 : decode cX11_fault 1 = .ok (.ifCond .ne 10, 3) := by decide +kernel
theorem dX11_fault_4 : decode cX11_fault 4 = .ok (.aload_n 0, 1) := by decide +kernel
theorem dX11_fault_5 : decode cX11_fault 5 = .ok (.getfield 179, 3) := by decide +kernel
theorem dX11_fault_8 : decode cX11_fault 8 = .ok (.goto 16, 3) := by decide +kernel
theorem dX11_fault_11 : decode cX11_fault 11 = .ok (.iload_n 1, 1) := by decide +kernel
theorem dX11_fault_12 : decode cX11_fault 12 = .ok (.iconst 1, 1) := by decide +kernel
theorem dX11_fault_13 : decode cX11_fault 13 = .ok (.if_icmp .ne 10, 3) := by decide +kernel
theorem dX11_fault_16 : decode cX11_fault 16 = .ok (.aload_n 0, 1) := by decide +kernel
theorem dX11_fault_17 : decode cX11_fault 17 = .ok (.getfield 13, 3) := by decide +kernel
theorem dX11_fault_20 : decode cX11_fault 20 = .ok (.goto 4, 3) := by decide +kernel
theorem dX11_fault_23 : decode cX11_fault 23 = .ok (.iconst (-1), 1) := by decide +kernel
theorem dX11_fault_24 : decode cX11_fault 24 = .ok (.ireturn, 1) := by decide +kernel
theorem dX11_feed_0 : decode cX11_feed 0 = .ok (.aload_n 0, 1) := by decide +kernel
theorem dX11_feed_1 : decode cX11_feed 1 = .ok (.getfield 139, 3) := by decide +kernel
theorem dX11_feed_4 : decode cX11_feed 4 = .ok (.bipush 20, 2) := by decide +kernel
theorem dX11_feed_6 : decode cX11_feed 6 = .ok (.iadd, 1) := by decide +kernel
theorem dX11_feed_7 : decode cX11_feed 7 = .ok (.sipush 1600, 3) := by decide +kernel
theorem dX11_feed_10 : decode cX11_feed 10 = .ok (.if_icmp .le 5, 3) := by decide +kernel
theorem dX11_feed_15 : decode cX11_feed 15 = .ok (.aload_n 0, 1) := by decide +kernel
theorem dX11_feed_16 : decode cX11_feed 16 = .ok (.iload_n 1, 1) := by decide +kernel
theorem dX11_feed_17 : decode cX11_feed 17 = .ok (.invokevirtual 142, 3) := by decide +kernel
theorem dX11_feed_20 : decode cX11_feed 20 = .ok (.aload_n 0, 1) := by decide +kernel
theorem dX11_feed_21 : decode cX11_feed 21 = .ok (.iload_n 2, 1) := by decide +kernel
theorem dX11_feed_22 : decode cX11_feed 22 = .ok (.invokevirtual 142, 3) := by decide +kernel
theorem dX11_feed_25 : decode cX11_feed 25 = .ok (.aload_n 0, 1) := by decide +kernel
theorem dX11_feed_26 : decode cX11_feed 26 = .ok (.iload_n 3, 1) := by decide +kernel
theorem dX11_feed_27 : decode cX11_feed 27 = .ok (.invokevirtual 142, 3) := by decide +kernel
theorem dX11_feed_30 : decode cX11_feed 30 = .ok (.aload_n 0, 1) := by decide +kernel
theorem dX11_feed_31 : decode cX11_feed 31 = .ok (.iload 4, 2) := by decide +kernel
theorem dX11_feed_33 : decode cX11_feed 33 = .ok (.invokevirtual 142, 3) := by decide +kernel
theorem dX11_feed_36 : decode cX11_feed 36 = .ok (.aload_n 0, 1) := by decide +kernel
theorem dX11_feed_37 : decode cX11_feed 37 = .ok (.iload 5, 2) := by decide +kernel
theorem dX11_feed_39 : decode cX11_feed 39 = .ok (.invokevirtual 142, 3) := by decide +kernel
theorem dX11_feed_42 : decode cX11_feed 42 = .ok (.aload_n 0, 1) := by decide +kernel
theorem dX11_feed_43 : decode cX11_feed 43 = .ok (.getfield 139, 3) := by decide +kernel
theorem dX11_feed_46 : decode cX11_feed 46 = .ok (.ireturn, 1) := by decide +kernel
theorem dX11_fill_0 : decode cX11_fill 0 = .ok (.iconst 0, 1) := by decide +kernel
theorem dX11_fill_1 : decode cX11_fill 1 = .ok (.istore_n 1, 1) := by decide +kernel
theorem dX11_fill_2 : decode cX11_fill 2 = .ok (.iload_n 1, 1) := by decide +kernel
theorem dX11_fill_3 : decode cX11_fill 3 = .ok (.bipush 39, 2) := by decide +kernel
theorem dX11_fill_5 : decode cX11_fill 5 = .ok (.if_icmp .ge 21, 3) := by decide +kernel
theorem dX11_fill_8 : decode cX11_fill 8 = .ok (.aload_n 0, 1) := by decide +kernel
theorem dX11_fill_9 : decode cX11_fill 9 = .ok (.getfield 96, 3) := by decide +kernel
theorem dX11_fill_12 : decode cX11_fill 12 = .ok (.iload_n 1, 1) := by decide +kernel
theorem dX11_fill_13 : decode cX11_fill 13 = .ok (.aload_n 0, 1) := by decide +kernel
theorem dX11_fill_14 : decode cX11_fill 14 = .ok (.getfield 93, 3) := by decide +kernel
theorem dX11_fill_17 : decode cX11_fill 17 = .ok (.iload_n 1, 1) := by decide +kernel
theorem dX11_fill_18 : decode cX11_fill 18 = .ok (.iaload, 1) := by decide +kernel
theorem dX11_fill_19 : decode cX11_fill 19 = .ok (.iastore, 1) := by decide +kernel
theorem dX11_fill_20 : decode cX11_fill 20 = .ok (.iinc 1 1, 3) := by decide +kernel
theorem dX11_fill_23 : decode cX11_fill 23 = .ok (.goto (-21), 3) := by decide +kernel
theorem dX11_fill_26 : decode cX11_fill 26 = .ok (.return_, 1) := by decide +kernel
theorem dX11_fitted_0 : decode cX11_fitted 0 = .ok (.aload_n 0, 1) := by decide +kernel
theorem dX11_fitted_1 : decode cX11_fitted 1 = .ok (.invokevirtual 449, 3) := by decide +kernel
theorem dX11_fitted_4 : decode cX11_fitted 4 = .ok (.aload_n 0, 1) := by decide +kernel
theorem dX11_fitted_5 : decode cX11_fitted 5 = .ok (.invokevirtual 443, 3) := by decide +kernel
theorem dX11_fitted_8 : decode cX11_fitted 8 = .ok (.ireturn, 1) := by decide +kernel
theorem dX11_fittedOnes_0 : decode cX11_fittedOnes 0 = .ok (.iconst 0, 1) := by decide +kernel
theorem dX11_fittedOnes_1 : decode cX11_fittedOnes 1 = .ok (.istore_n 1, 1) := by decide +kernel
theorem dX11_fittedOnes_2 : decode cX11_fittedOnes 2 = .ok (.iconst 0, 1) := by decide +kernel
theorem dX11_fittedOnes_3 : decode cX11_fittedOnes 3 = .ok (.istore_n 2, 1) := by decide +kernel
theorem dX11_fittedOnes_4 : decode cX11_fittedOnes 4 = .ok (.iload_n 2, 1) := by decide +kernel
theorem dX11_fittedOnes_5 : decode cX11_fittedOnes 5 = .ok (.aload_n 0, 1) := by decide +kernel
theorem dX11_fittedOnes_6 : decode cX11_fittedOnes 6 = .ok (.getfield 387, 3) := by decide +kernel
theorem dX11_fittedOnes_9 : decode cX11_fittedOnes 9 = .ok (.if_icmp .ge 22, 3) := by decide +kernel
theorem dX11_fittedOnes_31 : decode cX11_fittedOnes 31 = .ok (.iload_n 1, 1) := by decide +kernel
theorem dX11_fittedOnes_32 : decode cX11_fittedOnes 32 = .ok (.ireturn, 1) := by decide +kernel
theorem dX11_four_0 : decode cX11_four 0 = .ok (.bipush 24, 2) := by decide +kernel
theorem dX11_four_2 : decode cX11_four 2 = .ok (.istore_n 2, 1) := by decide +kernel
theorem dX11_four_3 : decode cX11_four 3 = .ok (.iload_n 2, 1) := by decide +kernel
theorem dX11_four_4 : decode cX11_four 4 = .ok (.ifCond .lt 35, 3) := by decide +kernel
theorem dX11_four_7 : decode cX11_four 7 = .ok (.aload_n 0, 1) := by decide +kernel
theorem dX11_four_8 : decode cX11_four 8 = .ok (.getfield 7, 3) := by decide +kernel
theorem dX11_four_11 : decode cX11_four 11 = .ok (.aload_n 0, 1) := by decide +kernel
theorem dX11_four_12 : decode cX11_four 12 = .ok (.getfield 139, 3) := by decide +kernel
theorem dX11_four_15 : decode cX11_four 15 = .ok (.iload_n 1, 1) := by decide +kernel
theorem dX11_four_16 : decode cX11_four 16 = .ok (.iload_n 2, 1) := by decide +kernel
theorem dX11_four_17 : decode cX11_four 17 = .ok (.ishr, 1) := by decide +kernel
theorem dX11_four_18 : decode cX11_four 18 = .ok (.sipush 255, 3) := by decide +kernel
theorem dX11_four_21 : decode cX11_four 21 = .ok (.iand, 1) := by decide +kernel
theorem dX11_four_22 : decode cX11_four 22 = .ok (.iastore, 1) := by decide +kernel
theorem dX11_four_23 : decode cX11_four 23 = .ok (.aload_n 0, 1) := by decide +kernel
theorem dX11_four_24 : decode cX11_four 24 = .ok (.dup, 1) := by decide +kernel
theorem dX11_four_25 : decode cX11_four 25 = .ok (.getfield 139, 3) := by decide +kernel
theorem dX11_four_28 : decode cX11_four 28 = .ok (.iconst 1, 1) := by decide +kernel
theorem dX11_four_29 : decode cX11_four 29 = .ok (.iadd, 1) := by decide +kernel
theorem dX11_four_30 : decode cX11_four 30 = .ok (.putfield 139, 3) := by decide +kernel
theorem dX11_four_33 : decode cX11_four 33 = .ok (.iinc 2 (-8), 3) := by decide +kernel
theorem dX11_four_36 : decode cX11_four 36 = .ok (.goto (-33), 3) := by decide +kernel
theorem dX11_four_39 : decode cX11_four 39 = .ok (.return_, 1) := by decide +kernel
theorem dX11_freeCoats_0 : decode cX11_freeCoats 0 = .ok (.iconst 0, 1) := by decide +kernel
theorem dX11_freeCoats_1 : decode cX11_freeCoats 1 = .ok (.istore_n 1, 1) := by decide +kernel
theorem dX11_freeCoats_2 : decode cX11_freeCoats 2 = .ok (.iconst 0, 1) := by decide +kernel
theorem dX11_freeCoats_3 : decode cX11_freeCoats 3 = .ok (.istore_n 2, 1) := by decide +kernel
theorem dX11_freeCoats_4 : decode cX11_freeCoats 4 = .ok (.iload_n 2, 1) := by decide +kernel
theorem dX11_freeCoats_5 : decode cX11_freeCoats 5 = .ok (.aload_n 0, 1) := by decide +kernel
theorem dX11_freeCoats_6 : decode cX11_freeCoats 6 = .ok (.getfield 390, 3) := by decide +kernel
theorem dX11_freeCoats_9 : decode cX11_freeCoats 9 = .ok (.if_icmp .ge 30, 3) := by decide +kernel
theorem dX11_freeCoats_39 : decode cX11_freeCoats 39 = .ok (.iload_n 1, 1) := by decide +kernel
theorem dX11_freeCoats_40 : decode cX11_freeCoats 40 = .ok (.ireturn, 1) := by decide +kernel
theorem dX11_front_0 : decode cX11_front 0 = .ok (.iload_n 1, 1) := by decide +kernel
theorem dX11_front_1 : decode cX11_front 1 = .ok (.iconst 0, 1) := by decide +kernel
theorem dX11_front_2 : decode cX11_front 2 = .ok (.sipush 999, 3) := by decide +kernel
theorem dX11_front_5 : decode cX11_front 5 = .ok (.invokestatic 417, 3) := by decide +kernel
theorem dX11_front_8 : decode cX11_front 8 = .ok (.ifCond .eq 12, 3) := by decide +kernel
theorem dX11_front_11 : decode cX11_front 11 = .ok (.iload_n 2, 1) := by decide +kernel
theorem dX11_front_12 : decode cX11_front 12 = .ok (.iconst 0, 1) := by decide +kernel
theorem dX11_front_13 : decode cX11_front 13 = .ok (.iconst 1, 1) := by decide +kernel
theorem dX11_front_14 : decode cX11_front 14 = .ok (.invokestatic 417, 3) := by decide +kernel
theorem dX11_front_17 : decode cX11_front 17 = .ok (.ifCond .ne 5, 3) := by decide +kernel
theorem dX11_front_20 : decode cX11_front 20 = .ok (.iconst (-1), 1) := by decide +kernel
theorem dX11_front_21 : decode cX11_front 21 = .ok (.ireturn, 1) := by decide +kernel
theorem dX11_front_22 : decode cX11_front 22 = .ok (.aload_n 0, 1) := by decide +kernel
theorem dX11_front_23 : decode cX11_front 23 = .ok (.invokevirtual 449, 3) := by decide +kernel
theorem dX11_front_26 : decode cX11_front 26 = .ok (.aload_n 0, 1) := by decide +kernel
theorem dX11_front_27 : decode cX11_front 27 = .ok (.invokevirtual 440, 3) := by decide +kernel
theorem dX11_front_30 : decode cX11_front 30 = .ok (.istore_n 3, 1) := by decide +kernel
theorem dX11_front_31 : decode cX11_front 31 = .ok (.iconst (-1), 1) := by decide +kernel
theorem dX11_front_32 : decode cX11_front 32 = .ok (.istore 4, 2) := by decide +kernel
theorem dX11_front_34 : decode cX11_front 34 = .ok (.iconst 0, 1) := by decide +kernel
theorem dX11_front_35 : decode cX11_front 35 = .ok (.istore 5, 2) := by decide +kernel
theorem dX11_front_37 : decode cX11_front 37 = .ok (.iload 5, 2) := by decide +kernel
theorem dX11_front_39 : decode cX11_front 39 = .ok (.iload_n 3, 1) := by decide +kernel
theorem dX11_front_40 : decode cX11_front 40 = .ok (.if_icmp .gt 50, 3) := by decide +kernel
theorem dX11_front_43 : decode cX11_front 43 = .ok (.iload 5, 2) := by decide +kernel
theorem dX11_front_45 : decode cX11_front 45 = .ok (.iload_n 3, 1) := by decide +kernel
theorem dX11_front_46 : decode cX11_front 46 = .ok (.iconst (-1), 1) := by decide +kernel
theorem dX11_front_47 : decode cX11_front 47 = .ok (.ixor, 1) := by decide +kernel
theorem dX11_front_48 : decode cX11_front 48 = .ok (.iand, 1) := by decide +kernel
theorem dX11_front_49 : decode cX11_front 49 = .ok (.ifCond .ne 35, 3) := by decide +kernel
theorem dX11_front_52 : decode cX11_front 52 = .ok (.aload_n 0, 1) := by decide +kernel
theorem dX11_front_53 : decode cX11_front 53 = .ok (.iload 5, 2) := by decide +kernel
theorem dX11_front_55 : decode cX11_front 55 = .ok (.invokevirtual 492, 3) := by decide +kernel
theorem dX11_front_58 : decode cX11_front 58 = .ok (.iload_n 1, 1) := by decide +kernel
theorem dX11_front_59 : decode cX11_front 59 = .ok (.if_icmp .lt 25, 3) := by decide +kernel
theorem dX11_front_62 : decode cX11_front 62 = .ok (.iload 4, 2) := by decide +kernel
theorem dX11_front_64 : decode cX11_front 64 = .ok (.ifCond .lt 16, 3) := by decide +kernel
theorem dX11_front_80 : decode cX11_front 80 = .ok (.iload 5, 2) := by decide +kernel
theorem dX11_front_82 : decode cX11_front 82 = .ok (.istore 4, 2) := by decide +kernel
theorem dX11_front_84 : decode cX11_front 84 = .ok (.iinc 5 1, 3) := by decide +kernel
theorem dX11_front_87 : decode cX11_front 87 = .ok (.goto (-50), 3) := by decide +kernel
theorem dX11_front_90 : decode cX11_front 90 = .ok (.iload 4, 2) := by decide +kernel
theorem dX11_front_92 : decode cX11_front 92 = .ok (.ifCond .ge 7, 3) := by decide +kernel
theorem dX11_front_95 : decode cX11_front 95 = .ok (.iconst (-1), 1) := by decide +kernel
theorem dX11_front_96 : decode cX11_front 96 = .ok (.goto 17, 3) := by decide +kernel
theorem dX11_front_99 : decode cX11_front 99 = .ok (.iload_n 2, 1) := by decide +kernel
theorem dX11_front_100 : decode cX11_front 100 = .ok (.ifCond .ne 11, 3) := by decide +kernel
theorem dX11_front_103 : decode cX11_front 103 = .ok (.iload 4, 2) := by decide +kernel
theorem dX11_front_105 : decode cX11_front 105 = .ok (.invokestatic 486, 3) := by decide +kernel
theorem dX11_front_108 : decode cX11_front 108 = .ok (.goto 5, 3) := by decide +kernel
theorem dX11_front_111 : decode cX11_front 111 = .ok (.iload 4, 2) := by decide +kernel
theorem dX11_front_113 : decode cX11_front 113 = .ok (.ireturn, 1) := by decide +kernel
theorem dX11_goDay_0 : decode cX11_goDay 0 = .ok (.iconst 0, 1) := by decide +kernel
theorem dX11_goDay_1 : decode cX11_goDay 1 = .ok (.istore_n 2, 1) := by decide +kernel
theorem dX11_goDay_2 : decode cX11_goDay 2 = .ok (.iload_n 2, 1) := by decide +kernel
theorem dX11_goDay_3 : decode cX11_goDay 3 = .ok (.aload_n 0, 1) := by decide +kernel
theorem dX11_goDay_4 : decode cX11_goDay 4 = .ok (.getfield 387, 3) := by decide +kernel
theorem dX11_goDay_7 : decode cX11_goDay 7 = .ok (.if_icmp .ge 33, 3) := by decide +kernel
theorem dX11_goDay_40 : decode cX11_goDay 40 = .ok (.iconst 0, 1) := by decide +kernel
theorem dX11_goDay_41 : decode cX11_goDay 41 = .ok (.istore_n 2, 1) := by decide +kernel
theorem dX11_goDay_42 : decode cX11_goDay 42 = .ok (.iload_n 2, 1) := by decide +kernel
theorem dX11_goDay_43 : decode cX11_goDay 43 = .ok (.aload_n 0, 1) := by decide +kernel
theorem dX11_goDay_44 : decode cX11_goDay 44 = .ok (.getfield 390, 3) := by decide +kernel
theorem dX11_goDay_47 : decode cX11_goDay 47 = .ok (.if_icmp .ge 99, 3) := by decide +kernel
theorem dX11_goDay_146 : decode cX11_goDay 146 = .ok (.aload_n 0, 1) := by decide +kernel
theorem dX11_goDay_147 : decode cX11_goDay 147 = .ok (.getfield 96, 3) := by decide +kernel
theorem dX11_goDay_150 : decode cX11_goDay 150 = .ok (.bipush 37, 2) := by decide +kernel
theorem dX11_goDay_152 : decode cX11_goDay 152 = .ok (.dup2, 1) := by decide +kernel
theorem dX11_goDay_153 : decode cX11_goDay 153 = .ok (.iaload, 1) := by decide +kernel
theorem dX11_goDay_154 : decode cX11_goDay 154 = .ok (.iconst 1, 1) := by decide +kernel
theorem dX11_goDay_155 : decode cX11_goDay 155 = .ok (.iadd, 1) := by decide +kernel
theorem dX11_goDay_156 : decode cX11_goDay 156 = .ok (.iastore, 1) := by decide +kernel
theorem dX11_goDay_157 : decode cX11_goDay 157 = .ok (.aload_n 0, 1) := by decide +kernel
theorem dX11_goDay_158 : decode cX11_goDay 158 = .ok (.invokevirtual 440, 3) := by decide +kernel
theorem dX11_goDay_161 : decode cX11_goDay 161 = .ok (.aload_n 0, 1) := by decide +kernel
theorem dX11_goDay_162 : decode cX11_goDay 162 = .ok (.invokevirtual 443, 3) := by decide +kernel
theorem dX11_goDay_165 : decode cX11_goDay 165 = .ok (.iconst (-1), 1) := by decide +kernel
theorem dX11_goDay_166 : decode cX11_goDay 166 = .ok (.ixor, 1) := by decide +kernel
theorem dX11_goDay_167 : decode cX11_goDay 167 = .ok (.iand, 1) := by decide +kernel
theorem dX11_goDay_168 : decode cX11_goDay 168 = .ok (.istore_n 2, 1) := by decide +kernel
theorem dX11_goDay_169 : decode cX11_goDay 169 = .ok (.iconst 0, 1) := by decide +kernel
theorem dX11_goDay_170 : decode cX11_goDay 170 = .ok (.istore_n 3, 1) := by decide +kernel
theorem dX11_goDay_171 : decode cX11_goDay 171 = .ok (.iload_n 3, 1) := by decide +kernel
theorem dX11_goDay_172 : decode cX11_goDay 172 = .ok (.aload_n 0, 1) := by decide +kernel
theorem dX11_goDay_173 : decode cX11_goDay 173 = .ok (.getfield 387, 3) := by decide +kernel
theorem dX11_goDay_176 : decode cX11_goDay 176 = .ok (.if_icmp .ge 28, 3) := by decide +kernel
theorem dX11_goDay_204 : decode cX11_goDay 204 = .ok (.iload_n 2, 1) := by decide +kernel
theorem dX11_goDay_205 : decode cX11_goDay 205 = .ok (.ireturn, 1) := by decide +kernel
theorem dX11_growths_0 : decode cX11_growths 0 = .ok (.aload_n 0, 1) := by decide +kernel
theorem dX11_growths_1 : decode cX11_growths 1 = .ok (.iload_n 1, 1) := by decide +kernel
theorem dX11_growths_2 : decode cX11_growths 2 = .ok (.invokevirtual 534, 3) := by decide +kernel
theorem dX11_growths_5 : decode cX11_growths 5 = .ok (.ireturn, 1) := by decide +kernel
theorem dX11_hem_0 : decode cX11_hem 0 = .ok (.aload_n 0, 1) := by decide +kernel
theorem dX11_hem_1 : decode cX11_hem 1 = .ok (.iload_n 1, 1) := by decide +kernel
theorem dX11_hem_2 : decode cX11_hem 2 = .ok (.invokevirtual 455, 3) := by decide +kernel
theorem dX11_hem_5 : decode cX11_hem 5 = .ok (.ifCond .eq 20, 3) := by decide +kernel
theorem dX11_hem_25 : decode cX11_hem 25 = .ok (.iconst (-1), 1) := by decide +kernel
theorem dX11_hem_26 : decode cX11_hem 26 = .ok (.ireturn, 1) := by decide +kernel
theorem dX11_here_0 : decode cX11_here 0 = .ok (.aload_n 0, 1) := by decide +kernel
theorem dX11_here_1 : decode cX11_here 1 = .ok (.getfield 146, 3) := by decide +kernel
theorem dX11_here_4 : decode cX11_here 4 = .ok (.iload_n 1, 1) := by decide +kernel
theorem dX11_here_5 : decode cX11_here 5 = .ok (.iadd, 1) := by decide +kernel
theorem dX11_here_6 : decode cX11_here 6 = .ok (.aload_n 0, 1) := by decide +kernel
theorem dX11_here_7 : decode cX11_here 7 = .ok (.getfield 149, 3) := by decide +kernel
theorem dX11_here_10 : decode cX11_here 10 = .ok (.if_icmp .ge 17, 3) := by decide +kernel
theorem dX11_here_27 : decode cX11_here 27 = .ok (.iconst (-1), 1) := by decide +kernel
theorem dX11_here_28 : decode cX11_here 28 = .ok (.ireturn, 1) := by decide +kernel
theorem dX11_illOfRow_0 : decode cX11_illOfRow 0 = .ok (.iconst 0, 1) := by decide +kernel
theorem dX11_illOfRow_1 : decode cX11_illOfRow 1 = .ok (.istore_n 1, 1) := by decide +kernel
theorem dX11_illOfRow_2 : decode cX11_illOfRow 2 = .ok (.iconst 0, 1) := by decide +kernel
theorem dX11_illOfRow_3 : decode cX11_illOfRow 3 = .ok (.istore_n 2, 1) := by decide +kernel
theorem dX11_illOfRow_4 : decode cX11_illOfRow 4 = .ok (.iload_n 2, 1) := by decide +kernel
theorem dX11_illOfRow_5 : decode cX11_illOfRow 5 = .ok (.aload_n 0, 1) := by decide +kernel
theorem dX11_illOfRow_6 : decode cX11_illOfRow 6 = .ok (.getfield 387, 3) := by decide +kernel
theorem dX11_illOfRow_9 : decode cX11_illOfRow 9 = .ok (.if_icmp .ge 41, 3) := by decide +kernel
theorem dX11_illOfRow_50 : decode cX11_illOfRow 50 = .ok (.iload_n 1, 1) := by decide +kernel
theorem dX11_illOfRow_51 : decode cX11_illOfRow 51 = .ok (.ireturn, 1) := by decide +kernel
theorem dX11_image_0 : decode cX11_image 0 = .ok (.iload_n 1, 1) := by decide +kernel
theorem dX11_image_1 : decode cX11_image 1 = .ok (.invokestatic 540, 3) := by decide +kernel
theorem dX11_image_4 : decode cX11_image 4 = .ok (.ifCond .ne 5, 3) := by decide +kernel
theorem dX11_image_7 : decode cX11_image 7 = .ok (.iconst (-1), 1) := by decide +kernel
theorem dX11_image_8 : decode cX11_image 8 = .ok (.ireturn, 1) := by decide +kernel
theorem dX11_image_9 : decode cX11_image 9 = .ok (.aload_n 0, 1) := by decide +kernel
theorem dX11_image_10 : decode cX11_image 10 = .ok (.getfield 133, 3) := by decide +kernel
theorem dX11_image_13 : decode cX11_image 13 = .ok (.iload_n 1, 1) := by decide +kernel
theorem dX11_image_14 : decode cX11_image 14 = .ok (.iconst 1, 1) := by decide +kernel
theorem dX11_image_15 : decode cX11_image 15 = .ok (.bastore, 1) := by decide +kernel
theorem dX11_image_16 : decode cX11_image 16 = .ok (.iconst 0, 1) := by decide +kernel
theorem dX11_image_17 : decode cX11_image 17 = .ok (.istore_n 2, 1) := by decide +kernel
theorem dX11_image_18 : decode cX11_image 18 = .ok (.iload_n 2, 1) := by decide +kernel
theorem dX11_image_19 : decode cX11_image 19 = .ok (.bipush 39, 2) := by decide +kernel
theorem dX11_image_21 : decode cX11_image 21 = .ok (.if_icmp .ge 26, 3) := by decide +kernel
theorem dX11_image_24 : decode cX11_image 24 = .ok (.aload_n 0, 1) := by decide +kernel
theorem dX11_image_25 : decode cX11_image 25 = .ok (.getfield 136, 3) := by decide +kernel
theorem dX11_image_28 : decode cX11_image 28 = .ok (.bipush 39, 2) := by decide +kernel
theorem dX11_image_30 : decode cX11_image 30 = .ok (.iload_n 1, 1) := by decide +kernel
theorem dX11_image_31 : decode cX11_image 31 = .ok (.imul, 1) := by decide +kernel
theorem dX11_image_32 : decode cX11_image 32 = .ok (.iload_n 2, 1) := by decide +kernel
theorem dX11_image_33 : decode cX11_image 33 = .ok (.iadd, 1) := by decide +kernel
theorem dX11_image_34 : decode cX11_image 34 = .ok (.aload_n 0, 1) := by decide +kernel
theorem dX11_image_35 : decode cX11_image 35 = .ok (.getfield 93, 3) := by decide +kernel
theorem dX11_image_38 : decode cX11_image 38 = .ok (.iload_n 2, 1) := by decide +kernel
theorem dX11_image_39 : decode cX11_image 39 = .ok (.iaload, 1) := by decide +kernel
theorem dX11_image_40 : decode cX11_image 40 = .ok (.iastore, 1) := by decide +kernel
theorem dX11_image_41 : decode cX11_image 41 = .ok (.iinc 2 1, 3) := by decide +kernel
theorem dX11_image_44 : decode cX11_image 44 = .ok (.goto (-26), 3) := by decide +kernel
theorem dX11_image_47 : decode cX11_image 47 = .ok (.aload_n 0, 1) := by decide +kernel
theorem dX11_image_48 : decode cX11_image 48 = .ok (.getfield 93, 3) := by decide +kernel
theorem dX11_image_51 : decode cX11_image 51 = .ok (.bipush 37, 2) := by decide +kernel
theorem dX11_image_53 : decode cX11_image 53 = .ok (.iaload, 1) := by decide +kernel
theorem dX11_image_54 : decode cX11_image 54 = .ok (.ireturn, 1) := by decide +kernel
theorem dX11_init_0 : decode cX11_init 0 = .ok (.aload_n 0, 1) := by decide +kernel
theorem dX11_init_1 : decode cX11_init 1 = .ok (.invokespecial 1, 3) := by decide +kernel
theorem dX11_init_4 : decode cX11_init 4 = .ok (.aload_n 0, 1) := by decide +kernel
theorem dX11_init_5 : decode cX11_init 5 = .ok (.sipush 1600, 3) := by decide +kernel
theorem dX11_init_8 : decode cX11_init 8 = .ok (.newarray .int, 2) := by decide +kernel
theorem dX11_init_10 : decode cX11_init 10 = .ok (.putfield 7, 3) := by decide +kernel
theorem dX11_init_13 : decode cX11_init 13 = .ok (.aload_n 0, 1) := by decide +kernel
theorem dX11_init_14 : decode cX11_init 14 = .ok (.iconst (-1), 1) := by decide +kernel
theorem dX11_init_15 : decode cX11_init 15 = .ok (.putfield 13, 3) := by decide +kernel
theorem dX11_init_18 : decode cX11_init 18 = .ok (.aload_n 0, 1) := by decide +kernel
theorem dX11_init_19 : decode cX11_init 19 = .ok (.bipush 12, 2) := by decide +kernel
theorem dX11_init_21 : decode cX11_init 21 = .ok (.newarray .long, 2) := by decide +kernel
theorem dX11_init_23 : decode cX11_init 23 = .ok (.putfield 17, 3) := by decide +kernel
theorem dX11_init_26 : decode cX11_init 26 = .ok (.aload_n 0, 1) := by decide +kernel
theorem dX11_init_27 : decode cX11_init 27 = .ok (.sipush 320, 3) := by decide +kernel
theorem dX11_init_30 : decode cX11_init 30 = .ok (.newarray .int, 2) := by decide +kernel
theorem dX11_init_32 : decode cX11_init 32 = .ok (.putfield 21, 3) := by decide +kernel
theorem dX11_init_35 : decode cX11_init 35 = .ok (.aload_n 0, 1) := by decide +kernel
theorem dX11_init_36 : decode cX11_init 36 = .ok (.sipush 320, 3) := by decide +kernel
theorem dX11_init_39 : decode cX11_init 39 = .ok (.newarray .int, 2) := by decide +kernel
theorem dX11_init_41 : decode cX11_init 41 = .ok (.putfield 24, 3) := by decide +kernel
theorem dX11_init_44 : decode cX11_init 44 = .ok (.aload_n 0, 1) := by decide +kernel
theorem dX11_init_45 : decode cX11_init 45 = .ok (.sipush 320, 3) := by decide +kernel
theorem dX11_init_48 : decode cX11_init 48 = .ok (.newarray .int, 2) := by decide +kernel
theorem dX11_init_50 : decode cX11_init 50 = .ok (.putfield 27, 3) := by decide +kernel
theorem dX11_init_53 : decode cX11_init 53 = .ok (.aload_n 0, 1) := by decide +kernel
theorem dX11_init_54 : decode cX11_init 54 = .ok (.sipush 320, 3) := by decide +kernel
theorem dX11_init_57 : decode cX11_init 57 = .ok (.newarray .int, 2) := by decide +kernel
theorem dX11_init_59 : decode cX11_init 59 = .ok (.putfield 30, 3) := by decide +kernel
theorem dX11_init_62 : decode cX11_init 62 = .ok (.aload_n 0, 1) := by decide +kernel
theorem dX11_init_63 : decode cX11_init 63 = .ok (.sipush 160, 3) := by decide +kernel
theorem dX11_init_66 : decode cX11_init 66 = .ok (.newarray .int, 2) := by decide +kernel
theorem dX11_init_68 : decode cX11_init 68 = .ok (.putfield 33, 3) := by decide +kernel
theorem dX11_init_71 : decode cX11_init 71 = .ok (.aload_n 0, 1) := by decide +kernel
theorem dX11_init_72 : decode cX11_init 72 = .ok (.bipush 64, 2) := by decide +kernel
theorem dX11_init_74 : decode cX11_init 74 = .ok (.newarray .int, 2) := by decide +kernel
theorem dX11_init_76 : decode cX11_init 76 = .ok (.putfield 36, 3) := by decide +kernel
theorem dX11_init_79 : decode cX11_init 79 = .ok (.aload_n 0, 1) := by decide +kernel
theorem dX11_init_80 : decode cX11_init 80 = .ok (.bipush 6, 2) := by decide +kernel
theorem dX11_init_82 : decode cX11_init 82 = .ok (.newarray .int, 2) := by decide +kernel
theorem dX11_init_84 : decode cX11_init 84 = .ok (.putfield 39, 3) := by decide +kernel
theorem dX11_init_87 : decode cX11_init 87 = .ok (.aload_n 0, 1) := by decide +kernel
theorem dX11_init_88 : decode cX11_init 88 = .ok (.bipush 6, 2) := by decide +kernel
theorem dX11_init_90 : decode cX11_init 90 = .ok (.newarray .int, 2) := by decide +kernel
theorem dX11_init_92 : decode cX11_init 92 = .ok (.putfield 42, 3) := by decide +kernel
theorem dX11_init_95 : decode cX11_init 95 = .ok (.aload_n 0, 1) := by decide +kernel
theorem dX11_init_96 : decode cX11_init 96 = .ok (.bipush 6, 2) := by decide +kernel
theorem dX11_init_98 : decode cX11_init 98 = .ok (.newarray .int, 2) := by decide +kernel
theorem dX11_init_100 : decode cX11_init 100 = .ok (.putfield 45, 3) := by decide +kernel
theorem dX11_init_103 : decode cX11_init 103 = .ok (.aload_n 0, 1) := by decide +kernel
theorem dX11_init_104 : decode cX11_init 104 = .ok (.bipush 6, 2) := by decide +kernel
theorem dX11_init_106 : decode cX11_init 106 = .ok (.newarray .int, 2) := by decide +kernel
theorem dX11_init_108 : decode cX11_init 108 = .ok (.putfield 48, 3) := by decide +kernel
theorem dX11_init_111 : decode cX11_init 111 = .ok (.aload_n 0, 1) := by decide +kernel
theorem dX11_init_112 : decode cX11_init 112 = .ok (.bipush 6, 2) := by decide +kernel
theorem dX11_init_114 : decode cX11_init 114 = .ok (.newarray .int, 2) := by decide +kernel
theorem dX11_init_116 : decode cX11_init 116 = .ok (.putfield 51, 3) := by decide +kernel
theorem dX11_init_119 : decode cX11_init 119 = .ok (.aload_n 0, 1) := by decide +kernel
theorem dX11_init_120 : decode cX11_init 120 = .ok (.bipush 6, 2) := by decide +kernel
theorem dX11_init_122 : decode cX11_init 122 = .ok (.newarray .int, 2) := by decide +kernel
theorem dX11_init_124 : decode cX11_init 124 = .ok (.putfield 54, 3) := by decide +kernel
theorem dX11_init_127 : decode cX11_init 127 = .ok (.aload_n 0, 1) := by decide +kernel
theorem dX11_init_128 : decode cX11_init 128 = .ok (.bipush 6, 2) := by decide +kernel
theorem dX11_init_130 : decode cX11_init 130 = .ok (.newarray .int, 2) := by decide +kernel
theorem dX11_init_132 : decode cX11_init 132 = .ok (.putfield 57, 3) := by decide +kernel
theorem dX11_init_135 : decode cX11_init 135 = .ok (.aload_n 0, 1) := by decide +kernel
theorem dX11_init_136 : decode cX11_init 136 = .ok (.bipush 6, 2) := by decide +kernel
theorem dX11_init_138 : decode cX11_init 138 = .ok (.newarray .int, 2) := by decide +kernel
theorem dX11_init_140 : decode cX11_init 140 = .ok (.putfield 60, 3) := by decide +kernel
theorem dX11_init_143 : decode cX11_init 143 = .ok (.aload_n 0, 1) := by decide +kernel
theorem dX11_init_144 : decode cX11_init 144 = .ok (.bipush 6, 2) := by decide +kernel
theorem dX11_init_146 : decode cX11_init 146 = .ok (.newarray .int, 2) := by decide +kernel
theorem dX11_init_148 : decode cX11_init 148 = .ok (.putfield 63, 3) := by decide +kernel
theorem dX11_init_151 : decode cX11_init 151 = .ok (.aload_n 0, 1) := by decide +kernel
theorem dX11_init_152 : decode cX11_init 152 = .ok (.bipush 6, 2) := by decide +kernel
theorem dX11_init_154 : decode cX11_init 154 = .ok (.newarray .int, 2) := by decide +kernel
theorem dX11_init_156 : decode cX11_init 156 = .ok (.putfield 66, 3) := by decide +kernel
theorem dX11_init_159 : decode cX11_init 159 = .ok (.aload_n 0, 1) := by decide +kernel
theorem dX11_init_160 : decode cX11_init 160 = .ok (.bipush 6, 2) := by decide +kernel
theorem dX11_init_162 : decode cX11_init 162 = .ok (.newarray .int, 2) := by decide +kernel
theorem dX11_init_164 : decode cX11_init 164 = .ok (.putfield 69, 3) := by decide +kernel
theorem dX11_init_167 : decode cX11_init 167 = .ok (.aload_n 0, 1) := by decide +kernel
theorem dX11_init_168 : decode cX11_init 168 = .ok (.bipush 6, 2) := by decide +kernel
theorem dX11_init_170 : decode cX11_init 170 = .ok (.newarray .int, 2) := by decide +kernel
theorem dX11_init_172 : decode cX11_init 172 = .ok (.putfield 72, 3) := by decide +kernel
theorem dX11_init_175 : decode cX11_init 175 = .ok (.aload_n 0, 1) := by decide +kernel
theorem dX11_init_176 : decode cX11_init 176 = .ok (.bipush 6, 2) := by decide +kernel
theorem dX11_init_178 : decode cX11_init 178 = .ok (.newarray .int, 2) := by decide +kernel
theorem dX11_init_180 : decode cX11_init 180 = .ok (.putfield 75, 3) := by decide +kernel
theorem dX11_init_183 : decode cX11_init 183 = .ok (.aload_n 0, 1) := by decide +kernel
theorem dX11_init_184 : decode cX11_init 184 = .ok (.bipush 6, 2) := by decide +kernel
theorem dX11_init_186 : decode cX11_init 186 = .ok (.newarray .int, 2) := by decide +kernel
theorem dX11_init_188 : decode cX11_init 188 = .ok (.putfield 78, 3) := by decide +kernel
theorem dX11_init_191 : decode cX11_init 191 = .ok (.aload_n 0, 1) := by decide +kernel
theorem dX11_init_192 : decode cX11_init 192 = .ok (.bipush 6, 2) := by decide +kernel
theorem dX11_init_194 : decode cX11_init 194 = .ok (.newarray .int, 2) := by decide +kernel
theorem dX11_init_196 : decode cX11_init 196 = .ok (.putfield 81, 3) := by decide +kernel
theorem dX11_init_199 : decode cX11_init 199 = .ok (.aload_n 0, 1) := by decide +kernel
theorem dX11_init_200 : decode cX11_init 200 = .ok (.bipush 10, 2) := by decide +kernel
theorem dX11_init_202 : decode cX11_init 202 = .ok (.putfield 84, 3) := by decide +kernel
theorem dX11_init_205 : decode cX11_init 205 = .ok (.aload_n 0, 1) := by decide +kernel
theorem dX11_init_206 : decode cX11_init 206 = .ok (.sipush 150, 3) := by decide +kernel
theorem dX11_init_209 : decode cX11_init 209 = .ok (.putfield 87, 3) := by decide +kernel
theorem dX11_init_212 : decode cX11_init 212 = .ok (.aload_n 0, 1) := by decide +kernel
theorem dX11_init_213 : decode cX11_init 213 = .ok (.iconst 2, 1) := by decide +kernel
theorem dX11_init_214 : decode cX11_init 214 = .ok (.putfield 90, 3) := by decide +kernel
theorem dX11_init_217 : decode cX11_init 217 = .ok (.aload_n 0, 1) := by decide +kernel
theorem dX11_init_218 : decode cX11_init 218 = .ok (.bipush 39, 2) := by decide +kernel
theorem dX11_init_220 : decode cX11_init 220 = .ok (.newarray .int, 2) := by decide +kernel
theorem dX11_init_222 : decode cX11_init 222 = .ok (.putfield 93, 3) := by decide +kernel
theorem dX11_init_225 : decode cX11_init 225 = .ok (.aload_n 0, 1) := by decide +kernel
theorem dX11_init_226 : decode cX11_init 226 = .ok (.bipush 39, 2) := by decide +kernel
theorem dX11_init_228 : decode cX11_init 228 = .ok (.newarray .int, 2) := by decide +kernel
theorem dX11_init_230 : decode cX11_init 230 = .ok (.putfield 96, 3) := by decide +kernel
theorem dX11_init_233 : decode cX11_init 233 = .ok (.aload_n 0, 1) := by decide +kernel
theorem dX11_init_234 : decode cX11_init 234 = .ok (.sipush 1560, 3) := by decide +kernel
theorem dX11_init_237 : decode cX11_init 237 = .ok (.newarray .int, 2) := by decide +kernel
theorem dX11_init_239 : decode cX11_init 239 = .ok (.putfield 99, 3) := by decide +kernel
theorem dX11_init_242 : decode cX11_init 242 = .ok (.aload_n 0, 1) := by decide +kernel
theorem dX11_init_243 : decode cX11_init 243 = .ok (.bipush 6, 2) := by decide +kernel
theorem dX11_init_245 : decode cX11_init 245 = .ok (.newarray .int, 2) := by decide +kernel
theorem dX11_init_247 : decode cX11_init 247 = .ok (.putfield 102, 3) := by decide +kernel
theorem dX11_init_250 : decode cX11_init 250 = .ok (.aload_n 0, 1) := by decide +kernel
theorem dX11_init_251 : decode cX11_init 251 = .ok (.bipush 6, 2) := by decide +kernel
theorem dX11_init_253 : decode cX11_init 253 = .ok (.newarray .int, 2) := by decide +kernel
theorem dX11_init_255 : decode cX11_init 255 = .ok (.putfield 105, 3) := by decide +kernel
theorem dX11_init_258 : decode cX11_init 258 = .ok (.aload_n 0, 1) := by decide +kernel
theorem dX11_init_259 : decode cX11_init 259 = .ok (.bipush 36, 2) := by decide +kernel
theorem dX11_init_261 : decode cX11_init 261 = .ok (.newarray .int, 2) := by decide +kernel
theorem dX11_init_263 : decode cX11_init 263 = .ok (.putfield 108, 3) := by decide +kernel
theorem dX11_init_266 : decode cX11_init 266 = .ok (.aload_n 0, 1) := by decide +kernel
theorem dX11_init_267 : decode cX11_init 267 = .ok (.bipush 64, 2) := by decide +kernel
theorem dX11_init_269 : decode cX11_init 269 = .ok (.newarray .int, 2) := by decide +kernel
theorem dX11_init_271 : decode cX11_init 271 = .ok (.putfield 111, 3) := by decide +kernel
theorem dX11_init_274 : decode cX11_init 274 = .ok (.aload_n 0, 1) := by decide +kernel
theorem dX11_init_275 : decode cX11_init 275 = .ok (.bipush 30, 2) := by decide +kernel
theorem dX11_init_277 : decode cX11_init 277 = .ok (.newarray .int, 2) := by decide +kernel
theorem dX11_init_279 : decode cX11_init 279 = .ok (.putfield 114, 3) := by decide +kernel
theorem dX11_init_282 : decode cX11_init 282 = .ok (.aload_n 0, 1) := by decide +kernel
theorem dX11_init_283 : decode cX11_init 283 = .ok (.bipush 30, 2) := by decide +kernel
theorem dX11_init_285 : decode cX11_init 285 = .ok (.newarray .int, 2) := by decide +kernel
theorem dX11_init_287 : decode cX11_init 287 = .ok (.putfield 117, 3) := by decide +kernel
theorem dX11_init_290 : decode cX11_init 290 = .ok (.aload_n 0, 1) := by decide +kernel
theorem dX11_init_291 : decode cX11_init 291 = .ok (.bipush 30, 2) := by decide +kernel
theorem dX11_init_293 : decode cX11_init 293 = .ok (.newarray .int, 2) := by decide +kernel
theorem dX11_init_295 : decode cX11_init 295 = .ok (.putfield 120, 3) := by decide +kernel
theorem dX11_init_298 : decode cX11_init 298 = .ok (.aload_n 0, 1) := by decide +kernel
theorem dX11_init_299 : decode cX11_init 299 = .ok (.bipush 30, 2) := by decide +kernel
theorem dX11_init_301 : decode cX11_init 301 = .ok (.newarray .boolean, 2) := by decide +kernel
theorem dX11_init_303 : decode cX11_init 303 = .ok (.putfield 123, 3) := by decide +kernel
theorem dX11_init_306 : decode cX11_init 306 = .ok (.aload_n 0, 1) := by decide +kernel
theorem dX11_init_307 : decode cX11_init 307 = .ok (.sipush 651, 3) := by decide +kernel
theorem dX11_init_310 : decode cX11_init 310 = .ok (.newarray .boolean, 2) := by decide +kernel
theorem dX11_init_312 : decode cX11_init 312 = .ok (.putfield 127, 3) := by decide +kernel
theorem dX11_init_315 : decode cX11_init 315 = .ok (.aload_n 0, 1) := by decide +kernel
theorem dX11_init_316 : decode cX11_init 316 = .ok (.bipush 31, 2) := by decide +kernel
theorem dX11_init_318 : decode cX11_init 318 = .ok (.newarray .boolean, 2) := by decide +kernel
theorem dX11_init_320 : decode cX11_init 320 = .ok (.putfield 130, 3) := by decide +kernel
theorem dX11_init_323 : decode cX11_init 323 = .ok (.aload_n 0, 1) := by decide +kernel
theorem dX11_init_324 : decode cX11_init 324 = .ok (.iconst 3, 1) := by decide +kernel
theorem dX11_init_325 : decode cX11_init 325 = .ok (.newarray .boolean, 2) := by decide +kernel
theorem dX11_init_327 : decode cX11_init 327 = .ok (.putfield 133, 3) := by decide +kernel
theorem dX11_init_330 : decode cX11_init 330 = .ok (.aload_n 0, 1) := by decide +kernel
theorem dX11_init_331 : decode cX11_init 331 = .ok (.bipush 117, 2) := by decide +kernel
theorem dX11_init_333 : decode cX11_init 333 = .ok (.newarray .int, 2) := by decide +kernel
theorem dX11_init_335 : decode cX11_init 335 = .ok (.putfield 136, 3) := by decide +kernel
theorem dX11_init_338 : decode cX11_init 338 = .ok (.return_, 1) := by decide +kernel
theorem dX11_isBox_0 : decode cX11_isBox 0 = .ok (.iload_n 0, 1) := by decide +kernel
theorem dX11_isBox_1 : decode cX11_isBox 1 = .ok (.ifCond .lt 12, 3) := by decide +kernel
theorem dX11_isBox_4 : decode cX11_isBox 4 = .ok (.iload_n 0, 1) := by decide +kernel
theorem dX11_isBox_5 : decode cX11_isBox 5 = .ok (.iconst 3, 1) := by decide +kernel
theorem dX11_isBox_6 : decode cX11_isBox 6 = .ok (.if_icmp .ge 7, 3) := by decide +kernel
theorem dX11_isBox_9 : decode cX11_isBox 9 = .ok (.iconst 1, 1) := by decide +kernel
theorem dX11_isBox_10 : decode cX11_isBox 10 = .ok (.goto 4, 3) := by decide +kernel
theorem dX11_isBox_13 : decode cX11_isBox 13 = .ok (.iconst 0, 1) := by decide +kernel
theorem dX11_isBox_14 : decode cX11_isBox 14 = .ok (.ireturn, 1) := by decide +kernel
theorem dX11_isCoat_0 : decode cX11_isCoat 0 = .ok (.iload_n 1, 1) := by decide +kernel
theorem dX11_isCoat_1 : decode cX11_isCoat 1 = .ok (.iconst 0, 1) := by decide +kernel
theorem dX11_isCoat_2 : decode cX11_isCoat 2 = .ok (.aload_n 0, 1) := by decide +kernel
theorem dX11_isCoat_3 : decode cX11_isCoat 3 = .ok (.getfield 390, 3) := by decide +kernel
theorem dX11_isCoat_6 : decode cX11_isCoat 6 = .ok (.iconst 1, 1) := by decide +kernel
theorem dX11_isCoat_7 : decode cX11_isCoat 7 = .ok (.isub, 1) := by decide +kernel
theorem dX11_isCoat_8 : decode cX11_isCoat 8 = .ok (.invokestatic 417, 3) := by decide +kernel
theorem dX11_isCoat_11 : decode cX11_isCoat 11 = .ok (.ireturn, 1) := by decide +kernel
theorem dX11_isIn_0 : decode cX11_isIn 0 = .ok (.iload_n 0, 1) := by decide +kernel
theorem dX11_isIn_1 : decode cX11_isIn 1 = .ok (.iload_n 1, 1) := by decide +kernel
theorem dX11_isIn_2 : decode cX11_isIn 2 = .ok (.if_icmp .lt 12, 3) := by decide +kernel
theorem dX11_isIn_5 : decode cX11_isIn 5 = .ok (.iload_n 0, 1) := by decide +kernel
theorem dX11_isIn_6 : decode cX11_isIn 6 = .ok (.iload_n 2, 1) := by decide +kernel
theorem dX11_isIn_7 : decode cX11_isIn 7 = .ok (.if_icmp .gt 7, 3) := by decide +kernel
theorem dX11_isIn_10 : decode cX11_isIn 10 = .ok (.iconst 1, 1) := by decide +kernel
theorem dX11_isIn_11 : decode cX11_isIn 11 = .ok (.goto 4, 3) := by decide +kernel
theorem dX11_isIn_14 : decode cX11_isIn 14 = .ok (.iconst 0, 1) := by decide +kernel
theorem dX11_isIn_15 : decode cX11_isIn 15 = .ok (.ireturn, 1) := by decide +kernel
theorem dX11_isMan_0 : decode cX11_isMan 0 = .ok (.iload_n 1, 1) := by decide +kernel
theorem dX11_isMan_1 : decode cX11_isMan 1 = .ok (.iconst 0, 1) := by decide +kernel
theorem dX11_isMan_2 : decode cX11_isMan 2 = .ok (.aload_n 0, 1) := by decide +kernel
theorem dX11_isMan_3 : decode cX11_isMan 3 = .ok (.getfield 387, 3) := by decide +kernel
theorem dX11_isMan_6 : decode cX11_isMan 6 = .ok (.iconst 1, 1) := by decide +kernel
theorem dX11_isMan_7 : decode cX11_isMan 7 = .ok (.isub, 1) := by decide +kernel
theorem dX11_isMan_8 : decode cX11_isMan 8 = .ok (.invokestatic 417, 3) := by decide +kernel
theorem dX11_isMan_11 : decode cX11_isMan 11 = .ok (.ireturn, 1) := by decide +kernel
theorem dX11_keepAir_0 : decode cX11_keepAir 0 = .ok (.iconst 0, 1) := by decide +kernel
theorem dX11_keepAir_1 : decode cX11_keepAir 1 = .ok (.istore_n 1, 1) := by decide +kernel
theorem dX11_keepAir_2 : decode cX11_keepAir 2 = .ok (.iload_n 1, 1) := by decide +kernel
theorem dX11_keepAir_3 : decode cX11_keepAir 3 = .ok (.bipush 39, 2) := by decide +kernel
theorem dX11_keepAir_5 : decode cX11_keepAir 5 = .ok (.if_icmp .ge 21, 3) := by decide +kernel
theorem dX11_keepAir_8 : decode cX11_keepAir 8 = .ok (.aload_n 0, 1) := by decide +kernel
theorem dX11_keepAir_9 : decode cX11_keepAir 9 = .ok (.getfield 93, 3) := by decide +kernel
theorem dX11_keepAir_12 : decode cX11_keepAir 12 = .ok (.iload_n 1, 1) := by decide +kernel
theorem dX11_keepAir_13 : decode cX11_keepAir 13 = .ok (.aload_n 0, 1) := by decide +kernel
theorem dX11_keepAir_14 : decode cX11_keepAir 14 = .ok (.getfield 96, 3) := by decide +kernel
theorem dX11_keepAir_17 : decode cX11_keepAir 17 = .ok (.iload_n 1, 1) := by decide +kernel
theorem dX11_keepAir_18 : decode cX11_keepAir 18 = .ok (.iaload, 1) := by decide +kernel
theorem dX11_keepAir_19 : decode cX11_keepAir 19 = .ok (.iastore, 1) := by decide +kernel
theorem dX11_keepAir_20 : decode cX11_keepAir 20 = .ok (.iinc 1 1, 3) := by decide +kernel
theorem dX11_keepAir_23 : decode cX11_keepAir 23 = .ok (.goto (-21), 3) := by decide +kernel
theorem dX11_keepAir_26 : decode cX11_keepAir 26 = .ok (.return_, 1) := by decide +kernel
theorem dX11_later_0 : decode cX11_later 0 = .ok (.iload_n 1, 1) := by decide +kernel
theorem dX11_later_1 : decode cX11_later 1 = .ok (.ifCond .lt 22, 3) := by decide +kernel
theorem dX11_later_4 : decode cX11_later 4 = .ok (.iload_n 1, 1) := by decide +kernel
theorem dX11_later_5 : decode cX11_later 5 = .ok (.sipush 1000, 3) := by decide +kernel
theorem dX11_later_8 : decode cX11_later 8 = .ok (.if_icmp .gt 15, 3) := by decide +kernel
theorem dX11_later_11 : decode cX11_later 11 = .ok (.aload_n 0, 1) := by decide +kernel
theorem dX11_later_12 : decode cX11_later 12 = .ok (.getfield 527, 3) := by decide +kernel
theorem dX11_later_15 : decode cX11_later 15 = .ok (.iload_n 1, 1) := by decide +kernel
theorem dX11_later_16 : decode cX11_later 16 = .ok (.iadd, 1) := by decide +kernel
theorem dX11_later_17 : decode cX11_later 17 = .ok (.ldc_w 530, 3) := by decide +kernel
theorem dX11_later_20 : decode cX11_later 20 = .ok (.if_icmp .le 5, 3) := by decide +kernel
theorem dX11_later_23 : decode cX11_later 23 = .ok (.iconst (-1), 1) := by decide +kernel
theorem dX11_later_24 : decode cX11_later 24 = .ok (.ireturn, 1) := by decide +kernel
theorem dX11_later_25 : decode cX11_later 25 = .ok (.aload_n 0, 1) := by decide +kernel
theorem dX11_later_26 : decode cX11_later 26 = .ok (.dup, 1) := by decide +kernel
theorem dX11_later_27 : decode cX11_later 27 = .ok (.getfield 527, 3) := by decide +kernel
theorem dX11_later_30 : decode cX11_later 30 = .ok (.iload_n 1, 1) := by decide +kernel
theorem dX11_later_31 : decode cX11_later 31 = .ok (.iadd, 1) := by decide +kernel
theorem dX11_later_32 : decode cX11_later 32 = .ok (.putfield 527, 3) := by decide +kernel
theorem dX11_later_35 : decode cX11_later 35 = .ok (.aload_n 0, 1) := by decide +kernel
theorem dX11_later_36 : decode cX11_later 36 = .ok (.getfield 527, 3) := by decide +kernel
theorem dX11_later_39 : decode cX11_later 39 = .ok (.ireturn, 1) := by decide +kernel
theorem dX11_law_0 : decode cX11_law 0 = .ok (.iload_n 1, 1) := by decide +kernel
theorem dX11_law_1 : decode cX11_law 1 = .ok (.iconst 0, 1) := by decide +kernel
theorem dX11_law_2 : decode cX11_law 2 = .ok (.sipush 999, 3) := by decide +kernel
theorem dX11_law_5 : decode cX11_law 5 = .ok (.invokestatic 417, 3) := by decide +kernel
theorem dX11_law_8 : decode cX11_law 8 = .ok (.ifCond .ne 5, 3) := by decide +kernel
theorem dX11_law_11 : decode cX11_law 11 = .ok (.iconst (-1), 1) := by decide +kernel
theorem dX11_law_12 : decode cX11_law 12 = .ok (.ireturn, 1) := by decide +kernel
theorem dX11_law_13 : decode cX11_law 13 = .ok (.aload_n 0, 1) := by decide +kernel
theorem dX11_law_14 : decode cX11_law 14 = .ok (.invokevirtual 449, 3) := by decide +kernel
theorem dX11_law_17 : decode cX11_law 17 = .ok (.iconst 0, 1) := by decide +kernel
theorem dX11_law_18 : decode cX11_law 18 = .ok (.istore_n 2, 1) := by decide +kernel
theorem dX11_law_19 : decode cX11_law 19 = .ok (.iconst 0, 1) := by decide +kernel
theorem dX11_law_20 : decode cX11_law 20 = .ok (.istore_n 3, 1) := by decide +kernel
theorem dX11_law_21 : decode cX11_law 21 = .ok (.iload_n 3, 1) := by decide +kernel
theorem dX11_law_22 : decode cX11_law 22 = .ok (.aload_n 0, 1) := by decide +kernel
theorem dX11_law_23 : decode cX11_law 23 = .ok (.getfield 387, 3) := by decide +kernel
theorem dX11_law_26 : decode cX11_law 26 = .ok (.if_icmp .ge 37, 3) := by decide +kernel
theorem dX11_law_63 : decode cX11_law 63 = .ok (.iload_n 2, 1) := by decide +kernel
theorem dX11_law_64 : decode cX11_law 64 = .ok (.ireturn, 1) := by decide +kernel
theorem dX11_layDress_0 : decode cX11_layDress 0 = .ok (.iload_n 1, 1) := by decide +kernel
theorem dX11_layDress_1 : decode cX11_layDress 1 = .ok (.istore_n 2, 1) := by decide +kernel
theorem dX11_layDress_2 : decode cX11_layDress 2 = .ok (.iconst 0, 1) := by decide +kernel
theorem dX11_layDress_3 : decode cX11_layDress 3 = .ok (.istore_n 3, 1) := by decide +kernel
theorem dX11_layDress_4 : decode cX11_layDress 4 = .ok (.iconst 0, 1) := by decide +kernel
theorem dX11_layDress_5 : decode cX11_layDress 5 = .ok (.istore 4, 2) := by decide +kernel
theorem dX11_layDress_7 : decode cX11_layDress 7 = .ok (.aload_n 0, 1) := by decide +kernel
theorem dX11_layDress_8 : decode cX11_layDress 8 = .ok (.getfield 387, 3) := by decide +kernel
theorem dX11_layDress_11 : decode cX11_layDress 11 = .ok (.iconst 1, 1) := by decide +kernel
theorem dX11_layDress_12 : decode cX11_layDress 12 = .ok (.isub, 1) := by decide +kernel
theorem dX11_layDress_13 : decode cX11_layDress 13 = .ok (.istore 5, 2) := by decide +kernel
theorem dX11_layDress_15 : decode cX11_layDress 15 = .ok (.iload 5, 2) := by decide +kernel
theorem dX11_layDress_17 : decode cX11_layDress 17 = .ok (.ifCond .lt 104, 3) := by decide +kernel
theorem dX11_layDress_121 : decode cX11_layDress 121 = .ok (.iload 4, 2) := by decide +kernel
theorem dX11_layDress_123 : decode cX11_layDress 123 = .ok (.ireturn, 1) := by decide +kernel
theorem dX11_layGrowths_0 : decode cX11_layGrowths 0 = .ok (.iconst 0, 1) := by decide +kernel
theorem dX11_layGrowths_1 : decode cX11_layGrowths 1 = .ok (.istore_n 2, 1) := by decide +kernel
theorem dX11_layGrowths_2 : decode cX11_layGrowths 2 = .ok (.iconst 0, 1) := by decide +kernel
theorem dX11_layGrowths_3 : decode cX11_layGrowths 3 = .ok (.istore_n 3, 1) := by decide +kernel
theorem dX11_layGrowths_4 : decode cX11_layGrowths 4 = .ok (.iload_n 3, 1) := by decide +kernel
theorem dX11_layGrowths_5 : decode cX11_layGrowths 5 = .ok (.bipush 30, 2) := by decide +kernel
theorem dX11_layGrowths_7 : decode cX11_layGrowths 7 = .ok (.if_icmp .gt 136, 3) := by decide +kernel
theorem dX11_layGrowths_10 : decode cX11_layGrowths 10 = .ok (.aload_n 0, 1) := by decide +kernel
theorem dX11_layGrowths_11 : decode cX11_layGrowths 11 = .ok (.getfield 387, 3) := by decide +kernel
theorem dX11_layGrowths_14 : decode cX11_layGrowths 14 = .ok (.ifCond .le 129, 3) := by decide +kernel
theorem dX11_layGrowths_143 : decode cX11_layGrowths 143 = .ok (.iload_n 2, 1) := by decide +kernel
theorem dX11_layGrowths_144 : decode cX11_layGrowths 144 = .ok (.ireturn, 1) := by decide +kernel
theorem dX11_layIlls_0 : decode cX11_layIlls 0 = .ok (.aload_n 0, 1) := by decide +kernel
theorem dX11_layIlls_1 : decode cX11_layIlls 1 = .ok (.invokevirtual 449, 3) := by decide +kernel
theorem dX11_layIlls_4 : decode cX11_layIlls 4 = .ok (.iconst 0, 1) := by decide +kernel
theorem dX11_layIlls_5 : decode cX11_layIlls 5 = .ok (.istore_n 1, 1) := by decide +kernel
theorem dX11_layIlls_6 : decode cX11_layIlls 6 = .ok (.iload_n 1, 1) := by decide +kernel
theorem dX11_layIlls_7 : decode cX11_layIlls 7 = .ok (.aload_n 0, 1) := by decide +kernel
theorem dX11_layIlls_8 : decode cX11_layIlls 8 = .ok (.getfield 387, 3) := by decide +kernel
theorem dX11_layIlls_11 : decode cX11_layIlls 11 = .ok (.if_icmp .ge 42, 3) := by decide +kernel
theorem dX11_layIlls_53 : decode cX11_layIlls 53 = .ok (.return_, 1) := by decide +kernel
theorem dX11_letout_0 : decode cX11_letout 0 = .ok (.aload_n 0, 1) := by decide +kernel
theorem dX11_letout_1 : decode cX11_letout 1 = .ok (.iload_n 1, 1) := by decide +kernel
theorem dX11_letout_2 : decode cX11_letout 2 = .ok (.invokevirtual 455, 3) := by decide +kernel
theorem dX11_letout_5 : decode cX11_letout 5 = .ok (.ifCond .eq 36, 3) := by decide +kernel
theorem dX11_letout_41 : decode cX11_letout 41 = .ok (.iconst (-1), 1) := by decide +kernel
theorem dX11_letout_42 : decode cX11_letout 42 = .ok (.ireturn, 1) := by decide +kernel
theorem dX11_lies_0 : decode cX11_lies 0 = .ok (.iload_n 1, 1) := by decide +kernel
theorem dX11_lies_1 : decode cX11_lies 1 = .ok (.iconst 0, 1) := by decide +kernel
theorem dX11_lies_2 : decode cX11_lies 2 = .ok (.aload_n 0, 1) := by decide +kernel
theorem dX11_lies_3 : decode cX11_lies 3 = .ok (.getfield 414, 3) := by decide +kernel
theorem dX11_lies_6 : decode cX11_lies 6 = .ok (.iconst 1, 1) := by decide +kernel
theorem dX11_lies_7 : decode cX11_lies 7 = .ok (.isub, 1) := by decide +kernel
theorem dX11_lies_8 : decode cX11_lies 8 = .ok (.invokestatic 417, 3) := by decide +kernel
theorem dX11_lies_11 : decode cX11_lies 11 = .ok (.ifCond .eq 12, 3) := by decide +kernel
theorem dX11_lies_23 : decode cX11_lies 23 = .ok (.bipush (-2), 2) := by decide +kernel
theorem dX11_lies_25 : decode cX11_lies 25 = .ok (.ireturn, 1) := by decide +kernel
theorem dX11_man_0 : decode cX11_man 0 = .ok (.aload_n 0, 1) := by decide +kernel
theorem dX11_man_1 : decode cX11_man 1 = .ok (.iload_n 1, 1) := by decide +kernel
theorem dX11_man_2 : decode cX11_man 2 = .ok (.invokevirtual 446, 3) := by decide +kernel
theorem dX11_man_5 : decode cX11_man 5 = .ok (.ifCond .ne 6, 3) := by decide +kernel
theorem dX11_man_8 : decode cX11_man 8 = .ok (.bipush (-2), 2) := by decide +kernel
theorem dX11_man_10 : decode cX11_man 10 = .ok (.ireturn, 1) := by decide +kernel
theorem dX11_members_0 : decode cX11_members 0 = .ok (.iconst 0, 1) := by decide +kernel
theorem dX11_members_1 : decode cX11_members 1 = .ok (.istore_n 1, 1) := by decide +kernel
theorem dX11_members_2 : decode cX11_members 2 = .ok (.iconst 0, 1) := by decide +kernel
theorem dX11_members_3 : decode cX11_members 3 = .ok (.istore_n 2, 1) := by decide +kernel
theorem dX11_members_4 : decode cX11_members 4 = .ok (.iload_n 2, 1) := by decide +kernel
theorem dX11_members_5 : decode cX11_members 5 = .ok (.bipush 6, 2) := by decide +kernel
theorem dX11_members_7 : decode cX11_members 7 = .ok (.if_icmp .ge 17, 3) := by decide +kernel
theorem dX11_members_10 : decode cX11_members 10 = .ok (.iload_n 1, 1) := by decide +kernel
theorem dX11_members_11 : decode cX11_members 11 = .ok (.iload_n 0, 1) := by decide +kernel
theorem dX11_members_12 : decode cX11_members 12 = .ok (.iload_n 2, 1) := by decide +kernel
theorem dX11_members_13 : decode cX11_members 13 = .ok (.ishr, 1) := by decide +kernel
theorem dX11_members_14 : decode cX11_members 14 = .ok (.iconst 1, 1) := by decide +kernel
theorem dX11_members_15 : decode cX11_members 15 = .ok (.iand, 1) := by decide +kernel
theorem dX11_members_16 : decode cX11_members 16 = .ok (.iadd, 1) := by decide +kernel
theorem dX11_members_17 : decode cX11_members 17 = .ok (.istore_n 1, 1) := by decide +kernel
theorem dX11_members_18 : decode cX11_members 18 = .ok (.iinc 2 1, 3) := by decide +kernel
theorem dX11_members_21 : decode cX11_members 21 = .ok (.goto (-17), 3) := by decide +kernel
theorem dX11_members_24 : decode cX11_members 24 = .ok (.iload_n 1, 1) := by decide +kernel
theorem dX11_members_25 : decode cX11_members 25 = .ok (.ireturn, 1) := by decide +kernel
theorem dX11_misfit_0 : decode cX11_misfit 0 = .ok (.aload_n 0, 1) := by decide +kernel
theorem dX11_misfit_1 : decode cX11_misfit 1 = .ok (.invokevirtual 449, 3) := by decide +kernel
theorem dX11_misfit_4 : decode cX11_misfit 4 = .ok (.aload_n 0, 1) := by decide +kernel
theorem dX11_misfit_5 : decode cX11_misfit 5 = .ok (.iload_n 1, 1) := by decide +kernel
theorem dX11_misfit_6 : decode cX11_misfit 6 = .ok (.invokevirtual 446, 3) := by decide +kernel
theorem dX11_misfit_9 : decode cX11_misfit 9 = .ok (.ifCond .eq 20, 3) := by decide +kernel
theorem dX11_misfit_29 : decode cX11_misfit 29 = .ok (.iconst (-1), 1) := by decide +kernel
theorem dX11_misfit_30 : decode cX11_misfit 30 = .ok (.ireturn, 1) := by decide +kernel
theorem dX11_naked_0 : decode cX11_naked 0 = .ok (.aload_n 0, 1) := by decide +kernel
theorem dX11_naked_1 : decode cX11_naked 1 = .ok (.invokevirtual 449, 3) := by decide +kernel
theorem dX11_naked_4 : decode cX11_naked 4 = .ok (.iconst 0, 1) := by decide +kernel
theorem dX11_naked_5 : decode cX11_naked 5 = .ok (.istore_n 1, 1) := by decide +kernel
theorem dX11_naked_6 : decode cX11_naked 6 = .ok (.iconst 0, 1) := by decide +kernel
theorem dX11_naked_7 : decode cX11_naked 7 = .ok (.istore_n 2, 1) := by decide +kernel
theorem dX11_naked_8 : decode cX11_naked 8 = .ok (.iload_n 2, 1) := by decide +kernel
theorem dX11_naked_9 : decode cX11_naked 9 = .ok (.aload_n 0, 1) := by decide +kernel
theorem dX11_naked_10 : decode cX11_naked 10 = .ok (.getfield 387, 3) := by decide +kernel
theorem dX11_naked_13 : decode cX11_naked 13 = .ok (.if_icmp .ge 30, 3) := by decide +kernel
theorem dX11_naked_43 : decode cX11_naked 43 = .ok (.iload_n 1, 1) := by decide +kernel
theorem dX11_naked_44 : decode cX11_naked 44 = .ok (.ireturn, 1) := by decide +kernel
theorem dX11_odds_0 : decode cX11_odds 0 = .ok (.iload_n 1, 1) := by decide +kernel
theorem dX11_odds_1 : decode cX11_odds 1 = .ok (.iconst 0, 1) := by decide +kernel
theorem dX11_odds_2 : decode cX11_odds 2 = .ok (.iconst 4, 1) := by decide +kernel
theorem dX11_odds_3 : decode cX11_odds 3 = .ok (.invokestatic 417, 3) := by decide +kernel
theorem dX11_odds_6 : decode cX11_odds 6 = .ok (.ifCond .eq 12, 3) := by decide +kernel
theorem dX11_odds_9 : decode cX11_odds 9 = .ok (.iload_n 2, 1) := by decide +kernel
theorem dX11_odds_10 : decode cX11_odds 10 = .ok (.iconst 0, 1) := by decide +kernel
theorem dX11_odds_11 : decode cX11_odds 11 = .ok (.iconst 1, 1) := by decide +kernel
theorem dX11_odds_12 : decode cX11_odds 12 = .ok (.invokestatic 417, 3) := by decide +kernel
theorem dX11_odds_15 : decode cX11_odds 15 = .ok (.ifCond .ne 5, 3) := by decide +kernel
theorem dX11_odds_18 : decode cX11_odds 18 = .ok (.iconst (-1), 1) := by decide +kernel
theorem dX11_odds_19 : decode cX11_odds 19 = .ok (.ireturn, 1) := by decide +kernel
theorem dX11_odds_20 : decode cX11_odds 20 = .ok (.bipush 100, 2) := by decide +kernel
theorem dX11_odds_22 : decode cX11_odds 22 = .ok (.aload_n 0, 1) := by decide +kernel
theorem dX11_odds_23 : decode cX11_odds 23 = .ok (.getfield 393, 3) := by decide +kernel
theorem dX11_odds_26 : decode cX11_odds 26 = .ok (.isub, 1) := by decide +kernel
theorem dX11_odds_27 : decode cX11_odds 27 = .ok (.iload_n 1, 1) := by decide +kernel
theorem dX11_odds_28 : decode cX11_odds 28 = .ok (.invokestatic 473, 3) := by decide +kernel
theorem dX11_odds_31 : decode cX11_odds 31 = .ok (.istore_n 3, 1) := by decide +kernel
theorem dX11_odds_32 : decode cX11_odds 32 = .ok (.bipush 100, 2) := by decide +kernel
theorem dX11_odds_34 : decode cX11_odds 34 = .ok (.iload_n 1, 1) := by decide +kernel
theorem dX11_odds_35 : decode cX11_odds 35 = .ok (.invokestatic 473, 3) := by decide +kernel
theorem dX11_odds_38 : decode cX11_odds 38 = .ok (.istore 4, 2) := by decide +kernel
theorem dX11_odds_40 : decode cX11_odds 40 = .ok (.iload 4, 2) := by decide +kernel
theorem dX11_odds_42 : decode cX11_odds 42 = .ok (.iload_n 3, 1) := by decide +kernel
theorem dX11_odds_43 : decode cX11_odds 43 = .ok (.invokestatic 524, 3) := by decide +kernel
theorem dX11_odds_46 : decode cX11_odds 46 = .ok (.istore 5, 2) := by decide +kernel
theorem dX11_odds_48 : decode cX11_odds 48 = .ok (.iload_n 2, 1) := by decide +kernel
theorem dX11_odds_49 : decode cX11_odds 49 = .ok (.ifCond .ne 10, 3) := by decide +kernel
theorem dX11_odds_52 : decode cX11_odds 52 = .ok (.iload_n 3, 1) := by decide +kernel
theorem dX11_odds_53 : decode cX11_odds 53 = .ok (.iload 5, 2) := by decide +kernel
theorem dX11_odds_55 : decode cX11_odds 55 = .ok (.idiv, 1) := by decide +kernel
theorem dX11_odds_56 : decode cX11_odds 56 = .ok (.goto 8, 3) := by decide +kernel
theorem dX11_odds_59 : decode cX11_odds 59 = .ok (.iload 4, 2) := by decide +kernel
theorem dX11_odds_61 : decode cX11_odds 61 = .ok (.iload 5, 2) := by decide +kernel
theorem dX11_odds_63 : decode cX11_odds 63 = .ok (.idiv, 1) := by decide +kernel
theorem dX11_odds_64 : decode cX11_odds 64 = .ok (.ireturn, 1) := by decide +kernel
theorem dX11_out_0 : decode cX11_out 0 = .ok (.aload_n 0, 1) := by decide +kernel
theorem dX11_out_1 : decode cX11_out 1 = .ok (.iload_n 1, 1) := by decide +kernel
theorem dX11_out_2 : decode cX11_out 2 = .ok (.invokevirtual 446, 3) := by decide +kernel
theorem dX11_out_5 : decode cX11_out 5 = .ok (.ifCond .ne 5, 3) := by decide +kernel
theorem dX11_out_8 : decode cX11_out 8 = .ok (.iconst (-1), 1) := by decide +kernel
theorem dX11_out_9 : decode cX11_out 9 = .ok (.ireturn, 1) := by decide +kernel
theorem dX11_plain_0 : decode cX11_plain 0 = .ok (.iload_n 0, 1) := by decide +kernel
theorem dX11_plain_1 : decode cX11_plain 1 = .ok (.ifCond .ge 8, 3) := by decide +kernel
theorem dX11_plain_9 : decode cX11_plain 9 = .ok (.iload_n 0, 1) := by decide +kernel
theorem dX11_plain_10 : decode cX11_plain 10 = .ok (.ireturn, 1) := by decide +kernel
theorem dX11_popular_0 : decode cX11_popular 0 = .ok (.aload_n 0, 1) := by decide +kernel
theorem dX11_popular_1 : decode cX11_popular 1 = .ok (.invokevirtual 449, 3) := by decide +kernel
theorem dX11_popular_4 : decode cX11_popular 4 = .ok (.aload_n 0, 1) := by decide +kernel
theorem dX11_popular_5 : decode cX11_popular 5 = .ok (.iload_n 1, 1) := by decide +kernel
theorem dX11_popular_6 : decode cX11_popular 6 = .ok (.invokevirtual 455, 3) := by decide +kernel
theorem dX11_popular_9 : decode cX11_popular 9 = .ok (.ifCond .eq 11, 3) := by decide +kernel
theorem dX11_popular_20 : decode cX11_popular 20 = .ok (.iconst (-1), 1) := by decide +kernel
theorem dX11_popular_21 : decode cX11_popular 21 = .ok (.ireturn, 1) := by decide +kernel
theorem dX11_power_0 : decode cX11_power 0 = .ok (.iconst 1, 1) := by decide +kernel
theorem dX11_power_1 : decode cX11_power 1 = .ok (.istore_n 2, 1) := by decide +kernel
theorem dX11_power_2 : decode cX11_power 2 = .ok (.iconst 0, 1) := by decide +kernel
theorem dX11_power_3 : decode cX11_power 3 = .ok (.istore_n 3, 1) := by decide +kernel
theorem dX11_power_4 : decode cX11_power 4 = .ok (.iload_n 3, 1) := by decide +kernel
theorem dX11_power_5 : decode cX11_power 5 = .ok (.iload_n 1, 1) := by decide +kernel
theorem dX11_power_6 : decode cX11_power 6 = .ok (.if_icmp .ge 13, 3) := by decide +kernel
theorem dX11_power_9 : decode cX11_power 9 = .ok (.iload_n 2, 1) := by decide +kernel
theorem dX11_power_10 : decode cX11_power 10 = .ok (.iload_n 0, 1) := by decide +kernel
theorem dX11_power_11 : decode cX11_power 11 = .ok (.imul, 1) := by decide +kernel
theorem dX11_power_12 : decode cX11_power 12 = .ok (.istore_n 2, 1) := by decide +kernel
theorem dX11_power_13 : decode cX11_power 13 = .ok (.iinc 3 1, 3) := by decide +kernel
theorem dX11_power_16 : decode cX11_power 16 = .ok (.goto (-12), 3) := by decide +kernel
theorem dX11_power_19 : decode cX11_power 19 = .ok (.iload_n 2, 1) := by decide +kernel
end
section
theorem dX11_power_20 : decode cX11_power 20 = .ok (.ireturn, 1) := by decide +kernel
theorem dX11_rags_0 : decode cX11_rags 0 = .ok (.aload_n 0, 1) := by decide +kernel
theorem dX11_rags_1 : decode cX11_rags 1 = .ok (.invokevirtual 449, 3) := by decide +kernel
theorem dX11_rags_4 : decode cX11_rags 4 = .ok (.iconst 0, 1) := by decide +kernel
theorem dX11_rags_5 : decode cX11_rags 5 = .ok (.istore_n 1, 1) := by decide +kernel
theorem dX11_rags_6 : decode cX11_rags 6 = .ok (.iconst 0, 1) := by decide +kernel
theorem dX11_rags_7 : decode cX11_rags 7 = .ok (.istore_n 2, 1) := by decide +kernel
theorem dX11_rags_8 : decode cX11_rags 8 = .ok (.iload_n 2, 1) := by decide +kernel
theorem dX11_rags_9 : decode cX11_rags 9 = .ok (.aload_n 0, 1) := by decide +kernel
theorem dX11_rags_10 : decode cX11_rags 10 = .ok (.getfield 390, 3) := by decide +kernel
theorem dX11_rags_13 : decode cX11_rags 13 = .ok (.if_icmp .ge 30, 3) := by decide +kernel
theorem dX11_rags_43 : decode cX11_rags 43 = .ok (.iload_n 1, 1) := by decide +kernel
theorem dX11_rags_44 : decode cX11_rags 44 = .ok (.ireturn, 1) := by decide +kernel
theorem dX11_reach_0 : decode cX11_reach 0 = .ok (.aload_n 0, 1) := by decide +kernel
theorem dX11_reach_1 : decode cX11_reach 1 = .ok (.iconst 0, 1) := by decide +kernel
theorem dX11_reach_2 : decode cX11_reach 2 = .ok (.putfield 414, 3) := by decide +kernel
theorem dX11_reach_5 : decode cX11_reach 5 = .ok (.aload_n 0, 1) := by decide +kernel
theorem dX11_reach_6 : decode cX11_reach 6 = .ok (.invokevirtual 470, 3) := by decide +kernel
theorem dX11_reach_9 : decode cX11_reach 9 = .ok (.aload_n 0, 1) := by decide +kernel
theorem dX11_reach_10 : decode cX11_reach 10 = .ok (.invokevirtual 511, 3) := by decide +kernel
theorem dX11_reach_13 : decode cX11_reach 13 = .ok (.istore_n 3, 1) := by decide +kernel
theorem dX11_reach_14 : decode cX11_reach 14 = .ok (.aload_n 0, 1) := by decide +kernel
theorem dX11_reach_15 : decode cX11_reach 15 = .ok (.iload_n 1, 1) := by decide +kernel
theorem dX11_reach_16 : decode cX11_reach 16 = .ok (.invokevirtual 446, 3) := by decide +kernel
theorem dX11_reach_19 : decode cX11_reach 19 = .ok (.ifCond .eq 20, 3) := by decide +kernel
theorem dX11_reach_39 : decode cX11_reach 39 = .ok (.iconst (-1), 1) := by decide +kernel
theorem dX11_reach_40 : decode cX11_reach 40 = .ok (.ireturn, 1) := by decide +kernel
theorem dX11_readAll_0 : decode cX11_readAll 0 = .ok (.aload_n 0, 1) := by decide +kernel
theorem dX11_readAll_1 : decode cX11_readAll 1 = .ok (.aload_n 0, 1) := by decide +kernel
theorem dX11_readAll_2 : decode cX11_readAll 2 = .ok (.getfield 139, 3) := by decide +kernel
theorem dX11_readAll_5 : decode cX11_readAll 5 = .ok (.putfield 149, 3) := by decide +kernel
theorem dX11_readAll_8 : decode cX11_readAll 8 = .ok (.aload_n 0, 1) := by decide +kernel
theorem dX11_readAll_9 : decode cX11_readAll 9 = .ok (.iconst 0, 1) := by decide +kernel
theorem dX11_readAll_10 : decode cX11_readAll 10 = .ok (.putfield 139, 3) := by decide +kernel
theorem dX11_readAll_13 : decode cX11_readAll 13 = .ok (.aload_n 0, 1) := by decide +kernel
theorem dX11_readAll_14 : decode cX11_readAll 14 = .ok (.iconst 0, 1) := by decide +kernel
theorem dX11_readAll_15 : decode cX11_readAll 15 = .ok (.putfield 146, 3) := by decide +kernel
theorem dX11_readAll_18 : decode cX11_readAll 18 = .ok (.aload_n 0, 1) := by decide +kernel
theorem dX11_readAll_19 : decode cX11_readAll 19 = .ok (.iconst 0, 1) := by decide +kernel
theorem dX11_readAll_20 : decode cX11_readAll 20 = .ok (.putfield 179, 3) := by decide +kernel
theorem dX11_readAll_23 : decode cX11_readAll 23 = .ok (.aload_n 0, 1) := by decide +kernel
theorem dX11_readAll_24 : decode cX11_readAll 24 = .ok (.iconst (-1), 1) := by decide +kernel
theorem dX11_readAll_25 : decode cX11_readAll 25 = .ok (.putfield 13, 3) := by decide +kernel
theorem dX11_readAll_28 : decode cX11_readAll 28 = .ok (.aload_n 0, 1) := by decide +kernel
theorem dX11_readAll_29 : decode cX11_readAll 29 = .ok (.iconst 0, 1) := by decide +kernel
theorem dX11_readAll_30 : decode cX11_readAll 30 = .ok (.putfield 330, 3) := by decide +kernel
theorem dX11_readAll_33 : decode cX11_readAll 33 = .ok (.aload_n 0, 1) := by decide +kernel
theorem dX11_readAll_34 : decode cX11_readAll 34 = .ok (.iconst 0, 1) := by decide +kernel
theorem dX11_readAll_35 : decode cX11_readAll 35 = .ok (.putfield 339, 3) := by decide +kernel
theorem dX11_readAll_38 : decode cX11_readAll 38 = .ok (.aload_n 0, 1) := by decide +kernel
theorem dX11_readAll_39 : decode cX11_readAll 39 = .ok (.bipush 10, 2) := by decide +kernel
theorem dX11_readAll_41 : decode cX11_readAll 41 = .ok (.putfield 354, 3) := by decide +kernel
theorem dX11_readAll_44 : decode cX11_readAll 44 = .ok (.aload_n 0, 1) := by decide +kernel
theorem dX11_readAll_45 : decode cX11_readAll 45 = .ok (.sipush 150, 3) := by decide +kernel
theorem dX11_readAll_48 : decode cX11_readAll 48 = .ok (.putfield 360, 3) := by decide +kernel
theorem dX11_readAll_51 : decode cX11_readAll 51 = .ok (.aload_n 0, 1) := by decide +kernel
theorem dX11_readAll_52 : decode cX11_readAll 52 = .ok (.iconst 2, 1) := by decide +kernel
theorem dX11_readAll_53 : decode cX11_readAll 53 = .ok (.putfield 366, 3) := by decide +kernel
theorem dX11_readAll_56 : decode cX11_readAll 56 = .ok (.aload_n 0, 1) := by decide +kernel
theorem dX11_readAll_57 : decode cX11_readAll 57 = .ok (.iconst 0, 1) := by decide +kernel
theorem dX11_readAll_58 : decode cX11_readAll 58 = .ok (.putfield 372, 3) := by decide +kernel
theorem dX11_readAll_61 : decode cX11_readAll 61 = .ok (.aload_n 0, 1) := by decide +kernel
theorem dX11_readAll_62 : decode cX11_readAll 62 = .ok (.iconst 0, 1) := by decide +kernel
theorem dX11_readAll_63 : decode cX11_readAll 63 = .ok (.putfield 378, 3) := by decide +kernel
theorem dX11_readAll_66 : decode cX11_readAll 66 = .ok (.aload_n 0, 1) := by decide +kernel
theorem dX11_readAll_67 : decode cX11_readAll 67 = .ok (.iconst 0, 1) := by decide +kernel
theorem dX11_readAll_68 : decode cX11_readAll 68 = .ok (.putfield 351, 3) := by decide +kernel
theorem dX11_readAll_71 : decode cX11_readAll 71 = .ok (.aload_n 0, 1) := by decide +kernel
theorem dX11_readAll_72 : decode cX11_readAll 72 = .ok (.iconst 0, 1) := by decide +kernel
theorem dX11_readAll_73 : decode cX11_readAll 73 = .ok (.putfield 357, 3) := by decide +kernel
theorem dX11_readAll_76 : decode cX11_readAll 76 = .ok (.aload_n 0, 1) := by decide +kernel
theorem dX11_readAll_77 : decode cX11_readAll 77 = .ok (.iconst 0, 1) := by decide +kernel
theorem dX11_readAll_78 : decode cX11_readAll 78 = .ok (.putfield 363, 3) := by decide +kernel
theorem dX11_readAll_81 : decode cX11_readAll 81 = .ok (.aload_n 0, 1) := by decide +kernel
theorem dX11_readAll_82 : decode cX11_readAll 82 = .ok (.iconst 0, 1) := by decide +kernel
theorem dX11_readAll_83 : decode cX11_readAll 83 = .ok (.putfield 369, 3) := by decide +kernel
theorem dX11_readAll_86 : decode cX11_readAll 86 = .ok (.aload_n 0, 1) := by decide +kernel
theorem dX11_readAll_87 : decode cX11_readAll 87 = .ok (.iconst 0, 1) := by decide +kernel
theorem dX11_readAll_88 : decode cX11_readAll 88 = .ok (.putfield 375, 3) := by decide +kernel
theorem dX11_readAll_91 : decode cX11_readAll 91 = .ok (.aload_n 0, 1) := by decide +kernel
theorem dX11_readAll_92 : decode cX11_readAll 92 = .ok (.iconst 0, 1) := by decide +kernel
theorem dX11_readAll_93 : decode cX11_readAll 93 = .ok (.putfield 291, 3) := by decide +kernel
theorem dX11_readAll_96 : decode cX11_readAll 96 = .ok (.aload_n 0, 1) := by decide +kernel
theorem dX11_readAll_97 : decode cX11_readAll 97 = .ok (.iconst 0, 1) := by decide +kernel
theorem dX11_readAll_98 : decode cX11_readAll 98 = .ok (.putfield 269, 3) := by decide +kernel
theorem dX11_readAll_101 : decode cX11_readAll 101 = .ok (.aload_n 0, 1) := by decide +kernel
theorem dX11_readAll_102 : decode cX11_readAll 102 = .ok (.invokevirtual 235, 3) := by decide +kernel
theorem dX11_readAll_105 : decode cX11_readAll 105 = .ok (.aload_n 0, 1) := by decide +kernel
theorem dX11_readAll_106 : decode cX11_readAll 106 = .ok (.getfield 179, 3) := by decide +kernel
theorem dX11_readAll_109 : decode cX11_readAll 109 = .ok (.ifCond .ne 17, 3) := by decide +kernel
theorem dX11_readAll_112 : decode cX11_readAll 112 = .ok (.aload_n 0, 1) := by decide +kernel
theorem dX11_readAll_113 : decode cX11_readAll 113 = .ok (.getfield 166, 3) := by decide +kernel
theorem dX11_readAll_116 : decode cX11_readAll 116 = .ok (.ifCond .eq 10, 3) := by decide +kernel
theorem dX11_readAll_126 : decode cX11_readAll 126 = .ok (.return_, 1) := by decide +kernel
theorem dX11_redo_0 : decode cX11_redo 0 = .ok (.aload_n 0, 1) := by decide +kernel
theorem dX11_redo_1 : decode cX11_redo 1 = .ok (.getfield 408, 3) := by decide +kernel
theorem dX11_redo_4 : decode cX11_redo 4 = .ok (.ifCond .ne 5, 3) := by decide +kernel
theorem dX11_redo_7 : decode cX11_redo 7 = .ok (.iconst 0, 1) := by decide +kernel
theorem dX11_redo_8 : decode cX11_redo 8 = .ok (.ireturn, 1) := by decide +kernel
theorem dX11_regiment_0 : decode cX11_regiment 0 = .ok (.aload_n 0, 1) := by decide +kernel
theorem dX11_regiment_1 : decode cX11_regiment 1 = .ok (.invokevirtual 384, 3) := by decide +kernel
theorem dX11_regiment_4 : decode cX11_regiment 4 = .ok (.aload_n 0, 1) := by decide +kernel
theorem dX11_regiment_5 : decode cX11_regiment 5 = .ok (.getfield 179, 3) := by decide +kernel
theorem dX11_regiment_8 : decode cX11_regiment 8 = .ok (.ifCond .le 5, 3) := by decide +kernel
theorem dX11_regiment_13 : decode cX11_regiment 13 = .ok (.aload_n 0, 1) := by decide +kernel
theorem dX11_regiment_14 : decode cX11_regiment 14 = .ok (.aload_n 0, 1) := by decide +kernel
theorem dX11_regiment_15 : decode cX11_regiment 15 = .ok (.getfield 330, 3) := by decide +kernel
theorem dX11_regiment_18 : decode cX11_regiment 18 = .ok (.putfield 387, 3) := by decide +kernel
theorem dX11_regiment_21 : decode cX11_regiment 21 = .ok (.aload_n 0, 1) := by decide +kernel
theorem dX11_regiment_22 : decode cX11_regiment 22 = .ok (.aload_n 0, 1) := by decide +kernel
theorem dX11_regiment_23 : decode cX11_regiment 23 = .ok (.getfield 339, 3) := by decide +kernel
theorem dX11_regiment_26 : decode cX11_regiment 26 = .ok (.putfield 390, 3) := by decide +kernel
theorem dX11_regiment_29 : decode cX11_regiment 29 = .ok (.aload_n 0, 1) := by decide +kernel
theorem dX11_regiment_30 : decode cX11_regiment 30 = .ok (.aload_n 0, 1) := by decide +kernel
theorem dX11_regiment_31 : decode cX11_regiment 31 = .ok (.getfield 354, 3) := by decide +kernel
theorem dX11_regiment_34 : decode cX11_regiment 34 = .ok (.putfield 84, 3) := by decide +kernel
theorem dX11_regiment_37 : decode cX11_regiment 37 = .ok (.aload_n 0, 1) := by decide +kernel
theorem dX11_regiment_38 : decode cX11_regiment 38 = .ok (.aload_n 0, 1) := by decide +kernel
theorem dX11_regiment_39 : decode cX11_regiment 39 = .ok (.getfield 360, 3) := by decide +kernel
theorem dX11_regiment_42 : decode cX11_regiment 42 = .ok (.putfield 87, 3) := by decide +kernel
theorem dX11_regiment_45 : decode cX11_regiment 45 = .ok (.aload_n 0, 1) := by decide +kernel
theorem dX11_regiment_46 : decode cX11_regiment 46 = .ok (.aload_n 0, 1) := by decide +kernel
theorem dX11_regiment_47 : decode cX11_regiment 47 = .ok (.getfield 366, 3) := by decide +kernel
theorem dX11_regiment_50 : decode cX11_regiment 50 = .ok (.putfield 90, 3) := by decide +kernel
theorem dX11_regiment_53 : decode cX11_regiment 53 = .ok (.aload_n 0, 1) := by decide +kernel
theorem dX11_regiment_54 : decode cX11_regiment 54 = .ok (.aload_n 0, 1) := by decide +kernel
theorem dX11_regiment_55 : decode cX11_regiment 55 = .ok (.getfield 372, 3) := by decide +kernel
theorem dX11_regiment_58 : decode cX11_regiment 58 = .ok (.putfield 393, 3) := by decide +kernel
theorem dX11_regiment_61 : decode cX11_regiment 61 = .ok (.aload_n 0, 1) := by decide +kernel
theorem dX11_regiment_62 : decode cX11_regiment 62 = .ok (.aload_n 0, 1) := by decide +kernel
theorem dX11_regiment_63 : decode cX11_regiment 63 = .ok (.getfield 269, 3) := by decide +kernel
theorem dX11_regiment_66 : decode cX11_regiment 66 = .ok (.putfield 396, 3) := by decide +kernel
theorem dX11_regiment_69 : decode cX11_regiment 69 = .ok (.aload_n 0, 1) := by decide +kernel
theorem dX11_regiment_70 : decode cX11_regiment 70 = .ok (.aload_n 0, 1) := by decide +kernel
theorem dX11_regiment_71 : decode cX11_regiment 71 = .ok (.getfield 291, 3) := by decide +kernel
theorem dX11_regiment_74 : decode cX11_regiment 74 = .ok (.putfield 317, 3) := by decide +kernel
theorem dX11_regiment_77 : decode cX11_regiment 77 = .ok (.aload_n 0, 1) := by decide +kernel
theorem dX11_regiment_78 : decode cX11_regiment 78 = .ok (.aload_n 0, 1) := by decide +kernel
theorem dX11_regiment_79 : decode cX11_regiment 79 = .ok (.getfield 291, 3) := by decide +kernel
theorem dX11_regiment_82 : decode cX11_regiment 82 = .ok (.ifCond .eq 10, 3) := by decide +kernel
theorem dX11_regiment_92 : decode cX11_regiment 92 = .ok (.iconst 0, 1) := by decide +kernel
theorem dX11_regiment_93 : decode cX11_regiment 93 = .ok (.putfield 323, 3) := by decide +kernel
theorem dX11_regiment_96 : decode cX11_regiment 96 = .ok (.iconst 0, 1) := by decide +kernel
theorem dX11_regiment_97 : decode cX11_regiment 97 = .ok (.istore_n 1, 1) := by decide +kernel
theorem dX11_regiment_98 : decode cX11_regiment 98 = .ok (.iload_n 1, 1) := by decide +kernel
theorem dX11_regiment_99 : decode cX11_regiment 99 = .ok (.aload_n 0, 1) := by decide +kernel
theorem dX11_regiment_100 : decode cX11_regiment 100 = .ok (.getfield 323, 3) := by decide +kernel
theorem dX11_regiment_103 : decode cX11_regiment 103 = .ok (.if_icmp .ge 33, 3) := by decide +kernel
theorem dX11_regiment_136 : decode cX11_regiment 136 = .ok (.iconst 0, 1) := by decide +kernel
theorem dX11_regiment_137 : decode cX11_regiment 137 = .ok (.istore_n 1, 1) := by decide +kernel
theorem dX11_regiment_138 : decode cX11_regiment 138 = .ok (.iload_n 1, 1) := by decide +kernel
theorem dX11_regiment_139 : decode cX11_regiment 139 = .ok (.aload_n 0, 1) := by decide +kernel
theorem dX11_regiment_140 : decode cX11_regiment 140 = .ok (.getfield 387, 3) := by decide +kernel
theorem dX11_regiment_143 : decode cX11_regiment 143 = .ok (.if_icmp .ge 45, 3) := by decide +kernel
theorem dX11_regiment_188 : decode cX11_regiment 188 = .ok (.iconst 0, 1) := by decide +kernel
theorem dX11_regiment_189 : decode cX11_regiment 189 = .ok (.istore_n 1, 1) := by decide +kernel
theorem dX11_regiment_190 : decode cX11_regiment 190 = .ok (.iload_n 1, 1) := by decide +kernel
theorem dX11_regiment_191 : decode cX11_regiment 191 = .ok (.aload_n 0, 1) := by decide +kernel
theorem dX11_regiment_192 : decode cX11_regiment 192 = .ok (.getfield 390, 3) := by decide +kernel
theorem dX11_regiment_195 : decode cX11_regiment 195 = .ok (.if_icmp .ge 57, 3) := by decide +kernel
theorem dX11_regiment_252 : decode cX11_regiment 252 = .ok (.aload_n 0, 1) := by decide +kernel
theorem dX11_regiment_253 : decode cX11_regiment 253 = .ok (.invokevirtual 399, 3) := by decide +kernel
theorem dX11_regiment_256 : decode cX11_regiment 256 = .ok (.aload_n 0, 1) := by decide +kernel
theorem dX11_regiment_257 : decode cX11_regiment 257 = .ok (.getfield 96, 3) := by decide +kernel
theorem dX11_regiment_260 : decode cX11_regiment 260 = .ok (.bipush 38, 2) := by decide +kernel
theorem dX11_regiment_262 : decode cX11_regiment 262 = .ok (.aload_n 0, 1) := by decide +kernel
theorem dX11_regiment_263 : decode cX11_regiment 263 = .ok (.getfield 378, 3) := by decide +kernel
theorem dX11_regiment_266 : decode cX11_regiment 266 = .ok (.iastore, 1) := by decide +kernel
theorem dX11_regiment_267 : decode cX11_regiment 267 = .ok (.aload_n 0, 1) := by decide +kernel
theorem dX11_regiment_268 : decode cX11_regiment 268 = .ok (.invokevirtual 402, 3) := by decide +kernel
theorem dX11_regiment_271 : decode cX11_regiment 271 = .ok (.aload_n 0, 1) := by decide +kernel
theorem dX11_regiment_272 : decode cX11_regiment 272 = .ok (.iconst 0, 1) := by decide +kernel
theorem dX11_regiment_273 : decode cX11_regiment 273 = .ok (.putfield 405, 3) := by decide +kernel
theorem dX11_regiment_276 : decode cX11_regiment 276 = .ok (.aload_n 0, 1) := by decide +kernel
theorem dX11_regiment_277 : decode cX11_regiment 277 = .ok (.iconst 0, 1) := by decide +kernel
theorem dX11_regiment_278 : decode cX11_regiment 278 = .ok (.putfield 408, 3) := by decide +kernel
theorem dX11_regiment_281 : decode cX11_regiment 281 = .ok (.aload_n 0, 1) := by decide +kernel
theorem dX11_regiment_282 : decode cX11_regiment 282 = .ok (.iconst 0, 1) := by decide +kernel
theorem dX11_regiment_283 : decode cX11_regiment 283 = .ok (.putfield 411, 3) := by decide +kernel
theorem dX11_regiment_286 : decode cX11_regiment 286 = .ok (.aload_n 0, 1) := by decide +kernel
theorem dX11_regiment_287 : decode cX11_regiment 287 = .ok (.iconst 0, 1) := by decide +kernel
theorem dX11_regiment_288 : decode cX11_regiment 288 = .ok (.putfield 414, 3) := by decide +kernel
theorem dX11_regiment_291 : decode cX11_regiment 291 = .ok (.iconst 0, 1) := by decide +kernel
theorem dX11_regiment_292 : decode cX11_regiment 292 = .ok (.istore_n 1, 1) := by decide +kernel
theorem dX11_regiment_293 : decode cX11_regiment 293 = .ok (.iload_n 1, 1) := by decide +kernel
theorem dX11_regiment_294 : decode cX11_regiment 294 = .ok (.iconst 3, 1) := by decide +kernel
theorem dX11_regiment_295 : decode cX11_regiment 295 = .ok (.if_icmp .ge 16, 3) := by decide +kernel
theorem dX11_regiment_298 : decode cX11_regiment 298 = .ok (.aload_n 0, 1) := by decide +kernel
theorem dX11_regiment_299 : decode cX11_regiment 299 = .ok (.getfield 133, 3) := by decide +kernel
theorem dX11_regiment_302 : decode cX11_regiment 302 = .ok (.iload_n 1, 1) := by decide +kernel
theorem dX11_regiment_303 : decode cX11_regiment 303 = .ok (.iconst 0, 1) := by decide +kernel
theorem dX11_regiment_304 : decode cX11_regiment 304 = .ok (.bastore, 1) := by decide +kernel
theorem dX11_regiment_305 : decode cX11_regiment 305 = .ok (.iinc 1 1, 3) := by decide +kernel
theorem dX11_regiment_308 : decode cX11_regiment 308 = .ok (.goto (-15), 3) := by decide +kernel
theorem dX11_regiment_311 : decode cX11_regiment 311 = .ok (.aload_n 0, 1) := by decide +kernel
theorem dX11_regiment_312 : decode cX11_regiment 312 = .ok (.getfield 387, 3) := by decide +kernel
theorem dX11_regiment_315 : decode cX11_regiment 315 = .ok (.ireturn, 1) := by decide +kernel
theorem dX11_rota_0 : decode cX11_rota 0 = .ok (.iload_n 1, 1) := by decide +kernel
theorem dX11_rota_1 : decode cX11_rota 1 = .ok (.iconst 0, 1) := by decide +kernel
theorem dX11_rota_2 : decode cX11_rota 2 = .ok (.iconst 1, 1) := by decide +kernel
theorem dX11_rota_3 : decode cX11_rota 3 = .ok (.invokestatic 417, 3) := by decide +kernel
theorem dX11_rota_6 : decode cX11_rota 6 = .ok (.ifCond .eq 10, 3) := by decide +kernel
theorem dX11_rota_9 : decode cX11_rota 9 = .ok (.aload_n 0, 1) := by decide +kernel
theorem dX11_rota_10 : decode cX11_rota 10 = .ok (.getfield 387, 3) := by decide +kernel
theorem dX11_rota_13 : decode cX11_rota 13 = .ok (.ifCond .ne 5, 3) := by decide +kernel
theorem dX11_rota_16 : decode cX11_rota 16 = .ok (.iconst (-1), 1) := by decide +kernel
theorem dX11_rota_17 : decode cX11_rota 17 = .ok (.ireturn, 1) := by decide +kernel
theorem dX11_rout_0 : decode cX11_rout 0 = .ok (.aload_n 0, 1) := by decide +kernel
theorem dX11_rout_1 : decode cX11_rout 1 = .ok (.invokevirtual 449, 3) := by decide +kernel
theorem dX11_rout_4 : decode cX11_rout 4 = .ok (.iconst 0, 1) := by decide +kernel
theorem dX11_rout_5 : decode cX11_rout 5 = .ok (.istore_n 1, 1) := by decide +kernel
theorem dX11_rout_6 : decode cX11_rout 6 = .ok (.iload_n 1, 1) := by decide +kernel
theorem dX11_rout_7 : decode cX11_rout 7 = .ok (.bipush 60, 2) := by decide +kernel
theorem dX11_rout_9 : decode cX11_rout 9 = .ok (.if_icmp .gt 24, 3) := by decide +kernel
theorem dX11_rout_12 : decode cX11_rout 12 = .ok (.aload_n 0, 1) := by decide +kernel
theorem dX11_rout_13 : decode cX11_rout 13 = .ok (.invokevirtual 440, 3) := by decide +kernel
theorem dX11_rout_16 : decode cX11_rout 16 = .ok (.ifCond .ne 5, 3) := by decide +kernel
theorem dX11_rout_19 : decode cX11_rout 19 = .ok (.iload_n 1, 1) := by decide +kernel
theorem dX11_rout_20 : decode cX11_rout 20 = .ok (.ireturn, 1) := by decide +kernel
theorem dX11_seen_0 : decode cX11_seen 0 = .ok (.iload_n 1, 1) := by decide +kernel
theorem dX11_seen_1 : decode cX11_seen 1 = .ok (.iconst 0, 1) := by decide +kernel
theorem dX11_seen_2 : decode cX11_seen 2 = .ok (.bipush 20, 2) := by decide +kernel
theorem dX11_seen_4 : decode cX11_seen 4 = .ok (.invokestatic 417, 3) := by decide +kernel
theorem dX11_seen_7 : decode cX11_seen 7 = .ok (.ifCond .eq 26, 3) := by decide +kernel
theorem dX11_seen_10 : decode cX11_seen 10 = .ok (.aload_n 0, 1) := by decide +kernel
theorem dX11_seen_11 : decode cX11_seen 11 = .ok (.getfield 387, 3) := by decide +kernel
theorem dX11_seen_14 : decode cX11_seen 14 = .ok (.ifCond .eq 19, 3) := by decide +kernel
theorem dX11_seen_33 : decode cX11_seen 33 = .ok (.iconst (-1), 1) := by decide +kernel
theorem dX11_seen_34 : decode cX11_seen 34 = .ok (.ireturn, 1) := by decide +kernel
theorem dX11_sewing_0 : decode cX11_sewing 0 = .ok (.aload_n 0, 1) := by decide +kernel
theorem dX11_sewing_1 : decode cX11_sewing 1 = .ok (.iload_n 1, 1) := by decide +kernel
theorem dX11_sewing_2 : decode cX11_sewing 2 = .ok (.invokevirtual 455, 3) := by decide +kernel
theorem dX11_sewing_5 : decode cX11_sewing 5 = .ok (.ifCond .eq 20, 3) := by decide +kernel
theorem dX11_sewing_25 : decode cX11_sewing 25 = .ok (.bipush (-100), 2) := by decide +kernel
theorem dX11_sewing_27 : decode cX11_sewing 27 = .ok (.ireturn, 1) := by decide +kernel
theorem dX11_sure_0 : decode cX11_sure 0 = .ok (.iload_n 1, 1) := by decide +kernel
theorem dX11_sure_1 : decode cX11_sure 1 = .ok (.iconst 0, 1) := by decide +kernel
theorem dX11_sure_2 : decode cX11_sure 2 = .ok (.iconst 1, 1) := by decide +kernel
theorem dX11_sure_3 : decode cX11_sure 3 = .ok (.invokestatic 417, 3) := by decide +kernel
theorem dX11_sure_6 : decode cX11_sure 6 = .ok (.ifCond .eq 11, 3) := by decide +kernel
theorem dX11_sure_9 : decode cX11_sure 9 = .ok (.aload_n 0, 1) := by decide +kernel
theorem dX11_sure_10 : decode cX11_sure 10 = .ok (.iload_n 2, 1) := by decide +kernel
theorem dX11_sure_11 : decode cX11_sure 11 = .ok (.invokevirtual 534, 3) := by decide +kernel
theorem dX11_sure_14 : decode cX11_sure 14 = .ok (.ifCond .ne 5, 3) := by decide +kernel
theorem dX11_sure_17 : decode cX11_sure 17 = .ok (.iconst (-1), 1) := by decide +kernel
theorem dX11_sure_18 : decode cX11_sure 18 = .ok (.ireturn, 1) := by decide +kernel
theorem dX11_takein_0 : decode cX11_takein 0 = .ok (.aload_n 0, 1) := by decide +kernel
theorem dX11_takein_1 : decode cX11_takein 1 = .ok (.iload_n 1, 1) := by decide +kernel
theorem dX11_takein_2 : decode cX11_takein 2 = .ok (.invokevirtual 455, 3) := by decide +kernel
theorem dX11_takein_5 : decode cX11_takein 5 = .ok (.ifCond .eq 36, 3) := by decide +kernel
theorem dX11_takein_41 : decode cX11_takein 41 = .ok (.iconst (-1), 1) := by decide +kernel
theorem dX11_takein_42 : decode cX11_takein 42 = .ok (.ireturn, 1) := by decide +kernel
theorem dX11_token_0 : decode cX11_token 0 = .ok (.aload_n 0, 1) := by decide +kernel
theorem dX11_token_1 : decode cX11_token 1 = .ok (.iconst 0, 1) := by decide +kernel
theorem dX11_token_2 : decode cX11_token 2 = .ok (.invokevirtual 152, 3) := by decide +kernel
theorem dX11_token_5 : decode cX11_token 5 = .ok (.bipush 32, 2) := by decide +kernel
theorem dX11_token_7 : decode cX11_token 7 = .ok (.if_icmp .eq 13, 3) := by decide +kernel
theorem dX11_token_10 : decode cX11_token 10 = .ok (.aload_n 0, 1) := by decide +kernel
theorem dX11_token_11 : decode cX11_token 11 = .ok (.iconst 0, 1) := by decide +kernel
theorem dX11_token_12 : decode cX11_token 12 = .ok (.invokevirtual 152, 3) := by decide +kernel
theorem dX11_token_15 : decode cX11_token 15 = .ok (.bipush 10, 2) := by decide +kernel
theorem dX11_token_17 : decode cX11_token 17 = .ok (.if_icmp .ne 16, 3) := by decide +kernel
theorem dX11_token_33 : decode cX11_token 33 = .ok (.aload_n 0, 1) := by decide +kernel
theorem dX11_token_34 : decode cX11_token 34 = .ok (.aload_n 0, 1) := by decide +kernel
theorem dX11_token_35 : decode cX11_token 35 = .ok (.getfield 146, 3) := by decide +kernel
theorem dX11_token_38 : decode cX11_token 38 = .ok (.putfield 156, 3) := by decide +kernel
theorem dX11_token_41 : decode cX11_token 41 = .ok (.aload_n 0, 1) := by decide +kernel
theorem dX11_token_42 : decode cX11_token 42 = .ok (.iconst 0, 1) := by decide +kernel
theorem dX11_token_43 : decode cX11_token 43 = .ok (.invokevirtual 152, 3) := by decide +kernel
theorem dX11_token_46 : decode cX11_token 46 = .ok (.istore_n 1, 1) := by decide +kernel
theorem dX11_token_47 : decode cX11_token 47 = .ok (.iconst 0, 1) := by decide +kernel
theorem dX11_token_48 : decode cX11_token 48 = .ok (.istore_n 2, 1) := by decide +kernel
theorem dX11_token_49 : decode cX11_token 49 = .ok (.aload_n 0, 1) := by decide +kernel
theorem dX11_token_50 : decode cX11_token 50 = .ok (.lconst 0, 1) := by decide +kernel
theorem dX11_token_51 : decode cX11_token 51 = .ok (.putfield 159, 3) := by decide +kernel
theorem dX11_token_54 : decode cX11_token 54 = .ok (.aload_n 0, 1) := by decide +kernel
theorem dX11_token_55 : decode cX11_token 55 = .ok (.iconst 0, 1) := by decide +kernel
theorem dX11_token_56 : decode cX11_token 56 = .ok (.putfield 163, 3) := by decide +kernel
theorem dX11_token_59 : decode cX11_token 59 = .ok (.iload_n 1, 1) := by decide +kernel
theorem dX11_token_60 : decode cX11_token 60 = .ok (.ifCond .ge 11, 3) := by decide +kernel
theorem dX11_token_63 : decode cX11_token 63 = .ok (.aload_n 0, 1) := by decide +kernel
theorem dX11_token_64 : decode cX11_token 64 = .ok (.iconst 0, 1) := by decide +kernel
theorem dX11_token_65 : decode cX11_token 65 = .ok (.putfield 166, 3) := by decide +kernel
theorem dX11_token_68 : decode cX11_token 68 = .ok (.goto 164, 3) := by decide +kernel
theorem dX11_token_232 : decode cX11_token 232 = .ok (.aload_n 0, 1) := by decide +kernel
theorem dX11_token_233 : decode cX11_token 233 = .ok (.getfield 166, 3) := by decide +kernel
theorem dX11_token_236 : decode cX11_token 236 = .ok (.iconst 3, 1) := by decide +kernel
theorem dX11_token_237 : decode cX11_token 237 = .ok (.if_icmp .eq 13, 3) := by decide +kernel
theorem dX11_token_240 : decode cX11_token 240 = .ok (.aload_n 0, 1) := by decide +kernel
theorem dX11_token_241 : decode cX11_token 241 = .ok (.dup, 1) := by decide +kernel
theorem dX11_token_242 : decode cX11_token 242 = .ok (.getfield 146, 3) := by decide +kernel
theorem dX11_token_245 : decode cX11_token 245 = .ok (.iload_n 2, 1) := by decide +kernel
theorem dX11_token_246 : decode cX11_token 246 = .ok (.iadd, 1) := by decide +kernel
theorem dX11_token_247 : decode cX11_token 247 = .ok (.putfield 146, 3) := by decide +kernel
theorem dX11_token_250 : decode cX11_token 250 = .ok (.return_, 1) := by decide +kernel
theorem dX11_turn_0 : decode cX11_turn 0 = .ok (.aload_n 0, 1) := by decide +kernel
theorem dX11_turn_1 : decode cX11_turn 1 = .ok (.iload_n 1, 1) := by decide +kernel
theorem dX11_turn_2 : decode cX11_turn 2 = .ok (.invokevirtual 455, 3) := by decide +kernel
theorem dX11_turn_5 : decode cX11_turn 5 = .ok (.ifCond .eq 18, 3) := by decide +kernel
theorem dX11_turn_23 : decode cX11_turn 23 = .ok (.iconst (-1), 1) := by decide +kernel
theorem dX11_turn_24 : decode cX11_turn 24 = .ok (.ireturn, 1) := by decide +kernel
theorem dX11_turning_0 : decode cX11_turning 0 = .ok (.iconst (-1), 1) := by decide +kernel
theorem dX11_turning_1 : decode cX11_turning 1 = .ok (.istore_n 1, 1) := by decide +kernel
theorem dX11_turning_2 : decode cX11_turning 2 = .ok (.iconst (-1), 1) := by decide +kernel
theorem dX11_turning_3 : decode cX11_turning 3 = .ok (.istore_n 2, 1) := by decide +kernel
theorem dX11_turning_4 : decode cX11_turning 4 = .ok (.iconst 0, 1) := by decide +kernel
theorem dX11_turning_5 : decode cX11_turning 5 = .ok (.istore_n 3, 1) := by decide +kernel
theorem dX11_turning_6 : decode cX11_turning 6 = .ok (.iload_n 3, 1) := by decide +kernel
theorem dX11_turning_7 : decode cX11_turning 7 = .ok (.aload_n 0, 1) := by decide +kernel
theorem dX11_turning_8 : decode cX11_turning 8 = .ok (.getfield 390, 3) := by decide +kernel
theorem dX11_turning_11 : decode cX11_turning 11 = .ok (.if_icmp .ge 64, 3) := by decide +kernel
theorem dX11_turning_75 : decode cX11_turning 75 = .ok (.iload_n 1, 1) := by decide +kernel
theorem dX11_turning_76 : decode cX11_turning 76 = .ok (.ireturn, 1) := by decide +kernel
theorem dX11_undo_0 : decode cX11_undo 0 = .ok (.aload_n 0, 1) := by decide +kernel
theorem dX11_undo_1 : decode cX11_undo 1 = .ok (.getfield 405, 3) := by decide +kernel
theorem dX11_undo_4 : decode cX11_undo 4 = .ok (.ifCond .ne 5, 3) := by decide +kernel
theorem dX11_undo_7 : decode cX11_undo 7 = .ok (.iconst 0, 1) := by decide +kernel
theorem dX11_undo_8 : decode cX11_undo 8 = .ok (.ireturn, 1) := by decide +kernel
theorem dX11_untell_0 : decode cX11_untell 0 = .ok (.iload_n 1, 1) := by decide +kernel
theorem dX11_untell_1 : decode cX11_untell 1 = .ok (.iconst 0, 1) := by decide +kernel
theorem dX11_untell_2 : decode cX11_untell 2 = .ok (.aload_n 0, 1) := by decide +kernel
theorem dX11_untell_3 : decode cX11_untell 3 = .ok (.getfield 411, 3) := by decide +kernel
theorem dX11_untell_6 : decode cX11_untell 6 = .ok (.iconst 1, 1) := by decide +kernel
theorem dX11_untell_7 : decode cX11_untell 7 = .ok (.isub, 1) := by decide +kernel
theorem dX11_untell_8 : decode cX11_untell 8 = .ok (.invokestatic 417, 3) := by decide +kernel
theorem dX11_untell_11 : decode cX11_untell 11 = .ok (.ifCond .eq 12, 3) := by decide +kernel
theorem dX11_untell_23 : decode cX11_untell 23 = .ok (.iconst 0, 1) := by decide +kernel
theorem dX11_untell_24 : decode cX11_untell 24 = .ok (.ireturn, 1) := by decide +kernel
theorem dX11_wearers_0 : decode cX11_wearers 0 = .ok (.iconst 0, 1) := by decide +kernel
theorem dX11_wearers_1 : decode cX11_wearers 1 = .ok (.istore_n 1, 1) := by decide +kernel
theorem dX11_wearers_2 : decode cX11_wearers 2 = .ok (.iconst 0, 1) := by decide +kernel
theorem dX11_wearers_3 : decode cX11_wearers 3 = .ok (.istore_n 2, 1) := by decide +kernel
theorem dX11_wearers_4 : decode cX11_wearers 4 = .ok (.iload_n 2, 1) := by decide +kernel
theorem dX11_wearers_5 : decode cX11_wearers 5 = .ok (.aload_n 0, 1) := by decide +kernel
theorem dX11_wearers_6 : decode cX11_wearers 6 = .ok (.getfield 387, 3) := by decide +kernel
theorem dX11_wearers_9 : decode cX11_wearers 9 = .ok (.if_icmp .ge 34, 3) := by decide +kernel
theorem dX11_wearers_43 : decode cX11_wearers 43 = .ok (.iload_n 1, 1) := by decide +kernel
theorem dX11_wearers_44 : decode cX11_wearers 44 = .ok (.ireturn, 1) := by decide +kernel
theorem dX11_wideOf_0 : decode cX11_wideOf 0 = .ok (.iconst 0, 1) := by decide +kernel
theorem dX11_wideOf_1 : decode cX11_wideOf 1 = .ok (.istore_n 2, 1) := by decide +kernel
theorem dX11_wideOf_2 : decode cX11_wideOf 2 = .ok (.iconst 0, 1) := by decide +kernel
theorem dX11_wideOf_3 : decode cX11_wideOf 3 = .ok (.istore_n 3, 1) := by decide +kernel
theorem dX11_wideOf_4 : decode cX11_wideOf 4 = .ok (.iload_n 3, 1) := by decide +kernel
theorem dX11_wideOf_5 : decode cX11_wideOf 5 = .ok (.aload_n 0, 1) := by decide +kernel
theorem dX11_wideOf_6 : decode cX11_wideOf 6 = .ok (.getfield 387, 3) := by decide +kernel
theorem dX11_wideOf_9 : decode cX11_wideOf 9 = .ok (.if_icmp .ge 42, 3) := by decide +kernel
theorem dX11_wideOf_51 : decode cX11_wideOf 51 = .ok (.iload_n 2, 1) := by decide +kernel
theorem dX11_wideOf_52 : decode cX11_wideOf 52 = .ok (.ireturn, 1) := by decide +kernel
theorem dX11_will_0 : decode cX11_will 0 = .ok (.aload_n 0, 1) := by decide +kernel
theorem dX11_will_1 : decode cX11_will 1 = .ok (.iload_n 1, 1) := by decide +kernel
theorem dX11_will_2 : decode cX11_will 2 = .ok (.invokevirtual 446, 3) := by decide +kernel
theorem dX11_will_5 : decode cX11_will 5 = .ok (.ifCond .eq 22, 3) := by decide +kernel
theorem dX11_will_27 : decode cX11_will 27 = .ok (.bipush (-2), 2) := by decide +kernel
theorem dX11_will_29 : decode cX11_will 29 = .ok (.ireturn, 1) := by decide +kernel
theorem dX11_wings_0 : decode cX11_wings 0 = .ok (.iload_n 1, 1) := by decide +kernel
theorem dX11_wings_1 : decode cX11_wings 1 = .ok (.iconst 0, 1) := by decide +kernel
theorem dX11_wings_2 : decode cX11_wings 2 = .ok (.iconst 1, 1) := by decide +kernel
theorem dX11_wings_3 : decode cX11_wings 3 = .ok (.invokestatic 417, 3) := by decide +kernel
theorem dX11_wings_6 : decode cX11_wings 6 = .ok (.ifCond .ne 5, 3) := by decide +kernel
theorem dX11_wings_9 : decode cX11_wings 9 = .ok (.iconst (-1), 1) := by decide +kernel
theorem dX11_wings_10 : decode cX11_wings 10 = .ok (.ireturn, 1) := by decide +kernel
theorem dX11_wings_11 : decode cX11_wings 11 = .ok (.aload_n 0, 1) := by decide +kernel
theorem dX11_wings_12 : decode cX11_wings 12 = .ok (.invokevirtual 449, 3) := by decide +kernel
theorem dX11_wings_15 : decode cX11_wings 15 = .ok (.aload_n 0, 1) := by decide +kernel
theorem dX11_wings_16 : decode cX11_wings 16 = .ok (.invokevirtual 440, 3) := by decide +kernel
theorem dX11_wings_19 : decode cX11_wings 19 = .ok (.istore_n 2, 1) := by decide +kernel
theorem dX11_wings_20 : decode cX11_wings 20 = .ok (.iconst 0, 1) := by decide +kernel
theorem dX11_wings_21 : decode cX11_wings 21 = .ok (.istore_n 3, 1) := by decide +kernel
theorem dX11_wings_22 : decode cX11_wings 22 = .ok (.iconst 5, 1) := by decide +kernel
theorem dX11_wings_23 : decode cX11_wings 23 = .ok (.istore 4, 2) := by decide +kernel
theorem dX11_wings_25 : decode cX11_wings 25 = .ok (.iload 4, 2) := by decide +kernel
theorem dX11_wings_27 : decode cX11_wings 27 = .ok (.ifCond .lt 28, 3) := by decide +kernel
theorem dX11_wings_30 : decode cX11_wings 30 = .ok (.iload_n 2, 1) := by decide +kernel
theorem dX11_wings_31 : decode cX11_wings 31 = .ok (.iload 4, 2) := by decide +kernel
theorem dX11_wings_33 : decode cX11_wings 33 = .ok (.ishr, 1) := by decide +kernel
theorem dX11_wings_34 : decode cX11_wings 34 = .ok (.iconst 1, 1) := by decide +kernel
theorem dX11_wings_35 : decode cX11_wings 35 = .ok (.iand, 1) := by decide +kernel
theorem dX11_wings_36 : decode cX11_wings 36 = .ok (.iconst 1, 1) := by decide +kernel
theorem dX11_wings_37 : decode cX11_wings 37 = .ok (.if_icmp .ne 10, 3) := by decide +kernel
theorem dX11_wings_47 : decode cX11_wings 47 = .ok (.iload_n 3, 1) := by decide +kernel
theorem dX11_wings_48 : decode cX11_wings 48 = .ok (.istore_n 3, 1) := by decide +kernel
theorem dX11_wings_49 : decode cX11_wings 49 = .ok (.iinc 4 (-1), 3) := by decide +kernel
theorem dX11_wings_52 : decode cX11_wings 52 = .ok (.goto (-27), 3) := by decide +kernel
theorem dX11_wings_55 : decode cX11_wings 55 = .ok (.iload_n 2, 1) := by decide +kernel
theorem dX11_wings_56 : decode cX11_wings 56 = .ok (.istore 4, 2) := by decide +kernel
theorem dX11_wings_58 : decode cX11_wings 58 = .ok (.aload_n 0, 1) := by decide +kernel
theorem dX11_wings_59 : decode cX11_wings 59 = .ok (.iload_n 2, 1) := by decide +kernel
theorem dX11_wings_60 : decode cX11_wings 60 = .ok (.invokevirtual 492, 3) := by decide +kernel
theorem dX11_wings_63 : decode cX11_wings 63 = .ok (.istore 5, 2) := by decide +kernel
theorem dX11_wings_65 : decode cX11_wings 65 = .ok (.iconst 0, 1) := by decide +kernel
theorem dX11_wings_66 : decode cX11_wings 66 = .ok (.istore 6, 2) := by decide +kernel
theorem dX11_wings_68 : decode cX11_wings 68 = .ok (.iload 6, 2) := by decide +kernel
theorem dX11_wings_70 : decode cX11_wings 70 = .ok (.iload_n 2, 1) := by decide +kernel
theorem dX11_wings_71 : decode cX11_wings 71 = .ok (.if_icmp .gt 83, 3) := by decide +kernel
theorem dX11_wings_74 : decode cX11_wings 74 = .ok (.iload 6, 2) := by decide +kernel
theorem dX11_wings_76 : decode cX11_wings 76 = .ok (.iload_n 2, 1) := by decide +kernel
theorem dX11_wings_77 : decode cX11_wings 77 = .ok (.iconst (-1), 1) := by decide +kernel
theorem dX11_wings_78 : decode cX11_wings 78 = .ok (.ixor, 1) := by decide +kernel
theorem dX11_wings_79 : decode cX11_wings 79 = .ok (.iand, 1) := by decide +kernel
theorem dX11_wings_80 : decode cX11_wings 80 = .ok (.ifCond .ne 68, 3) := by decide +kernel
theorem dX11_wings_83 : decode cX11_wings 83 = .ok (.iload 6, 2) := by decide +kernel
theorem dX11_wings_85 : decode cX11_wings 85 = .ok (.iload_n 3, 1) := by decide +kernel
theorem dX11_wings_86 : decode cX11_wings 86 = .ok (.iand, 1) := by decide +kernel
theorem dX11_wings_87 : decode cX11_wings 87 = .ok (.iload_n 3, 1) := by decide +kernel
theorem dX11_wings_88 : decode cX11_wings 88 = .ok (.if_icmp .eq 6, 3) := by decide +kernel
theorem dX11_wings_94 : decode cX11_wings 94 = .ok (.aload_n 0, 1) := by decide +kernel
theorem dX11_wings_95 : decode cX11_wings 95 = .ok (.iload 6, 2) := by decide +kernel
theorem dX11_wings_97 : decode cX11_wings 97 = .ok (.invokevirtual 492, 3) := by decide +kernel
theorem dX11_wings_100 : decode cX11_wings 100 = .ok (.aload_n 0, 1) := by decide +kernel
theorem dX11_wings_101 : decode cX11_wings 101 = .ok (.iload_n 2, 1) := by decide +kernel
theorem dX11_wings_102 : decode cX11_wings 102 = .ok (.iload 6, 2) := by decide +kernel
theorem dX11_wings_104 : decode cX11_wings 104 = .ok (.iconst (-1), 1) := by decide +kernel
theorem dX11_wings_105 : decode cX11_wings 105 = .ok (.ixor, 1) := by decide +kernel
theorem dX11_wings_106 : decode cX11_wings 106 = .ok (.iand, 1) := by decide +kernel
theorem dX11_wings_107 : decode cX11_wings 107 = .ok (.invokevirtual 492, 3) := by decide +kernel
theorem dX11_wings_110 : decode cX11_wings 110 = .ok (.isub, 1) := by decide +kernel
theorem dX11_wings_111 : decode cX11_wings 111 = .ok (.invokestatic 495, 3) := by decide +kernel
theorem dX11_wings_114 : decode cX11_wings 114 = .ok (.istore 7, 2) := by decide +kernel
theorem dX11_wings_116 : decode cX11_wings 116 = .ok (.iload 7, 2) := by decide +kernel
theorem dX11_wings_118 : decode cX11_wings 118 = .ok (.iload 5, 2) := by decide +kernel
theorem dX11_wings_120 : decode cX11_wings 120 = .ok (.if_icmp .gt 28, 3) := by decide +kernel
theorem dX11_wings_123 : decode cX11_wings 123 = .ok (.iload 7, 2) := by decide +kernel
theorem dX11_wings_125 : decode cX11_wings 125 = .ok (.iload 5, 2) := by decide +kernel
theorem dX11_wings_127 : decode cX11_wings 127 = .ok (.if_icmp .ne 13, 3) := by decide +kernel
theorem dX11_wings_130 : decode cX11_wings 130 = .ok (.iload 6, 2) := by decide +kernel
theorem dX11_wings_132 : decode cX11_wings 132 = .ok (.iload 4, 2) := by decide +kernel
theorem dX11_wings_134 : decode cX11_wings 134 = .ok (.if_icmp .lt 6, 3) := by decide +kernel
theorem dX11_wings_137 : decode cX11_wings 137 = .ok (.goto 11, 3) := by decide +kernel
theorem dX11_wings_148 : decode cX11_wings 148 = .ok (.iinc 6 1, 3) := by decide +kernel
theorem dX11_wings_151 : decode cX11_wings 151 = .ok (.goto (-83), 3) := by decide +kernel
theorem dX11_wings_154 : decode cX11_wings 154 = .ok (.iload_n 1, 1) := by decide +kernel
theorem dX11_wings_155 : decode cX11_wings 155 = .ok (.ifCond .ne 8, 3) := by decide +kernel
theorem dX11_wings_158 : decode cX11_wings 158 = .ok (.iload 5, 2) := by decide +kernel
theorem dX11_wings_160 : decode cX11_wings 160 = .ok (.goto 5, 3) := by decide +kernel
theorem dX11_wings_163 : decode cX11_wings 163 = .ok (.iload 4, 2) := by decide +kernel
theorem dX11_wings_165 : decode cX11_wings 165 = .ok (.ireturn, 1) := by decide +kernel
theorem dX1_copy_0 : decode cX1_copy 0 = .ok (.aload_n 1, 1) := by decide +kernel
theorem dX1_copy_1 : decode cX1_copy 1 = .ok (.getfield 11, 3) := by decide +kernel
theorem dX1_copy_4 : decode cX1_copy 4 = .ok (.iconst 0, 1) := by decide +kernel
theorem dX1_copy_5 : decode cX1_copy 5 = .ok (.aload_n 0, 1) := by decide +kernel
theorem dX1_copy_6 : decode cX1_copy 6 = .ok (.getfield 11, 3) := by decide +kernel
theorem dX1_copy_9 : decode cX1_copy 9 = .ok (.iconst 0, 1) := by decide +kernel
theorem dX1_copy_10 : decode cX1_copy 10 = .ok (.bipush 44, 2) := by decide +kernel
theorem dX1_copy_12 : decode cX1_copy 12 = .ok (.invokestatic 35, 3) := by decide +kernel
theorem dX1_copy_15 : decode cX1_copy 15 = .ok (.return_, 1) := by decide +kernel
theorem dX1_fittedMen_0 : decode cX1_fittedMen 0 = .ok (.iconst 0, 1) := by decide +kernel
theorem dX1_fittedMen_1 : decode cX1_fittedMen 1 = .ok (.istore_n 1, 1) := by decide +kernel
theorem dX1_fittedMen_2 : decode cX1_fittedMen 2 = .ok (.iconst 0, 1) := by decide +kernel
theorem dX1_fittedMen_3 : decode cX1_fittedMen 3 = .ok (.istore_n 2, 1) := by decide +kernel
theorem dX1_fittedMen_4 : decode cX1_fittedMen 4 = .ok (.iload_n 2, 1) := by decide +kernel
theorem dX1_fittedMen_5 : decode cX1_fittedMen 5 = .ok (.aload_n 0, 1) := by decide +kernel
theorem dX1_fittedMen_6 : decode cX1_fittedMen 6 = .ok (.getfield 15, 3) := by decide +kernel
theorem dX1_fittedMen_9 : decode cX1_fittedMen 9 = .ok (.getfield 48, 3) := by decide +kernel
theorem dX1_fittedMen_12 : decode cX1_fittedMen 12 = .ok (.if_icmp .ge 28, 3) := by decide +kernel
theorem dX1_fittedMen_40 : decode cX1_fittedMen 40 = .ok (.iload_n 1, 1) := by decide +kernel
theorem dX1_fittedMen_41 : decode cX1_fittedMen 41 = .ok (.ireturn, 1) := by decide +kernel
theorem dX1_init_0 : decode cX1_init 0 = .ok (.aload_n 0, 1) := by decide +kernel
theorem dX1_init_1 : decode cX1_init 1 = .ok (.invokespecial 5, 3) := by decide +kernel
theorem dX1_init_4 : decode cX1_init 4 = .ok (.aload_n 0, 1) := by decide +kernel
theorem dX1_init_5 : decode cX1_init 5 = .ok (.bipush 44, 2) := by decide +kernel
theorem dX1_init_7 : decode cX1_init 7 = .ok (.newarray .int, 2) := by decide +kernel
theorem dX1_init_9 : decode cX1_init 9 = .ok (.putfield 11, 3) := by decide +kernel
theorem dX1_init_12 : decode cX1_init 12 = .ok (.aload_n 0, 1) := by decide +kernel
theorem dX1_init_13 : decode cX1_init 13 = .ok (.aload_n 1, 1) := by decide +kernel
theorem dX1_init_14 : decode cX1_init 14 = .ok (.putfield 15, 3) := by decide +kernel
theorem dX1_init_17 : decode cX1_init 17 = .ok (.aload_n 0, 1) := by decide +kernel
theorem dX1_init_18 : decode cX1_init 18 = .ok (.invokevirtual 19, 3) := by decide +kernel
theorem dX1_init_21 : decode cX1_init 21 = .ok (.return_, 1) := by decide +kernel
theorem dX1_muster_0 : decode cX1_muster 0 = .ok (.iconst 0, 1) := by decide +kernel
theorem dX1_muster_1 : decode cX1_muster 1 = .ok (.istore_n 1, 1) := by decide +kernel
theorem dX1_muster_2 : decode cX1_muster 2 = .ok (.iload_n 1, 1) := by decide +kernel
theorem dX1_muster_3 : decode cX1_muster 3 = .ok (.bipush 6, 2) := by decide +kernel
theorem dX1_muster_5 : decode cX1_muster 5 = .ok (.if_icmp .ge 34, 3) := by decide +kernel
theorem dX1_muster_8 : decode cX1_muster 8 = .ok (.aload_n 0, 1) := by decide +kernel
theorem dX1_muster_9 : decode cX1_muster 9 = .ok (.getfield 11, 3) := by decide +kernel
theorem dX1_muster_12 : decode cX1_muster 12 = .ok (.iload_n 1, 1) := by decide +kernel
theorem dX1_muster_13 : decode cX1_muster 13 = .ok (.aload_n 0, 1) := by decide +kernel
theorem dX1_muster_14 : decode cX1_muster 14 = .ok (.getfield 15, 3) := by decide +kernel
theorem dX1_muster_17 : decode cX1_muster 17 = .ok (.iconst 1, 1) := by decide +kernel
theorem dX1_muster_18 : decode cX1_muster 18 = .ok (.iload_n 1, 1) := by decide +kernel
theorem dX1_muster_19 : decode cX1_muster 19 = .ok (.invokevirtual 22, 3) := by decide +kernel
theorem dX1_muster_22 : decode cX1_muster 22 = .ok (.iastore, 1) := by decide +kernel
theorem dX1_muster_23 : decode cX1_muster 23 = .ok (.aload_n 0, 1) := by decide +kernel
theorem dX1_muster_24 : decode cX1_muster 24 = .ok (.getfield 11, 3) := by decide +kernel
theorem dX1_muster_27 : decode cX1_muster 27 = .ok (.bipush 6, 2) := by decide +kernel
theorem dX1_muster_29 : decode cX1_muster 29 = .ok (.iload_n 1, 1) := by decide +kernel
theorem dX1_muster_30 : decode cX1_muster 30 = .ok (.iadd, 1) := by decide +kernel
theorem dX1_muster_31 : decode cX1_muster 31 = .ok (.iconst (-1), 1) := by decide +kernel
theorem dX1_muster_32 : decode cX1_muster 32 = .ok (.iastore, 1) := by decide +kernel
theorem dX1_muster_33 : decode cX1_muster 33 = .ok (.iinc 1 1, 3) := by decide +kernel
theorem dX1_muster_36 : decode cX1_muster 36 = .ok (.goto (-34), 3) := by decide +kernel
theorem dX1_muster_39 : decode cX1_muster 39 = .ok (.iconst 0, 1) := by decide +kernel
theorem dX1_muster_40 : decode cX1_muster 40 = .ok (.istore_n 1, 1) := by decide +kernel
theorem dX1_muster_41 : decode cX1_muster 41 = .ok (.iload_n 1, 1) := by decide +kernel
theorem dX1_muster_42 : decode cX1_muster 42 = .ok (.bipush 6, 2) := by decide +kernel
theorem dX1_muster_44 : decode cX1_muster 44 = .ok (.if_icmp .ge 45, 3) := by decide +kernel
theorem dX1_muster_47 : decode cX1_muster 47 = .ok (.iconst 0, 1) := by decide +kernel
theorem dX1_muster_48 : decode cX1_muster 48 = .ok (.istore_n 2, 1) := by decide +kernel
theorem dX1_muster_49 : decode cX1_muster 49 = .ok (.iload_n 2, 1) := by decide +kernel
theorem dX1_muster_50 : decode cX1_muster 50 = .ok (.iconst 5, 1) := by decide +kernel
theorem dX1_muster_51 : decode cX1_muster 51 = .ok (.if_icmp .ge 32, 3) := by decide +kernel
theorem dX1_muster_54 : decode cX1_muster 54 = .ok (.aload_n 0, 1) := by decide +kernel
theorem dX1_muster_55 : decode cX1_muster 55 = .ok (.getfield 11, 3) := by decide +kernel
theorem dX1_muster_58 : decode cX1_muster 58 = .ok (.bipush 12, 2) := by decide +kernel
theorem dX1_muster_60 : decode cX1_muster 60 = .ok (.iload_n 2, 1) := by decide +kernel
theorem dX1_muster_61 : decode cX1_muster 61 = .ok (.bipush 6, 2) := by decide +kernel
theorem dX1_muster_63 : decode cX1_muster 63 = .ok (.imul, 1) := by decide +kernel
theorem dX1_muster_64 : decode cX1_muster 64 = .ok (.iadd, 1) := by decide +kernel
theorem dX1_muster_65 : decode cX1_muster 65 = .ok (.iload_n 1, 1) := by decide +kernel
theorem dX1_muster_66 : decode cX1_muster 66 = .ok (.iadd, 1) := by decide +kernel
theorem dX1_muster_67 : decode cX1_muster 67 = .ok (.aload_n 0, 1) := by decide +kernel
theorem dX1_muster_68 : decode cX1_muster 68 = .ok (.getfield 15, 3) := by decide +kernel
theorem dX1_muster_71 : decode cX1_muster 71 = .ok (.iload_n 2, 1) := by decide +kernel
theorem dX1_muster_72 : decode cX1_muster 72 = .ok (.iload_n 1, 1) := by decide +kernel
theorem dX1_muster_73 : decode cX1_muster 73 = .ok (.invokevirtual 28, 3) := by decide +kernel
theorem dX1_muster_76 : decode cX1_muster 76 = .ok (.iastore, 1) := by decide +kernel
theorem dX1_muster_77 : decode cX1_muster 77 = .ok (.iinc 2 1, 3) := by decide +kernel
theorem dX1_muster_80 : decode cX1_muster 80 = .ok (.goto (-31), 3) := by decide +kernel
theorem dX1_muster_83 : decode cX1_muster 83 = .ok (.iinc 1 1, 3) := by decide +kernel
theorem dX1_muster_86 : decode cX1_muster 86 = .ok (.goto (-45), 3) := by decide +kernel
theorem dX1_muster_89 : decode cX1_muster 89 = .ok (.aload_n 0, 1) := by decide +kernel
theorem dX1_muster_90 : decode cX1_muster 90 = .ok (.getfield 11, 3) := by decide +kernel
theorem dX1_muster_93 : decode cX1_muster 93 = .ok (.bipush 42, 2) := by decide +kernel
theorem dX1_muster_95 : decode cX1_muster 95 = .ok (.iconst 0, 1) := by decide +kernel
theorem dX1_muster_96 : decode cX1_muster 96 = .ok (.iastore, 1) := by decide +kernel
theorem dX1_muster_97 : decode cX1_muster 97 = .ok (.aload_n 0, 1) := by decide +kernel
theorem dX1_muster_98 : decode cX1_muster 98 = .ok (.getfield 11, 3) := by decide +kernel
theorem dX1_muster_101 : decode cX1_muster 101 = .ok (.bipush 43, 2) := by decide +kernel
theorem dX1_muster_103 : decode cX1_muster 103 = .ok (.aload_n 0, 1) := by decide +kernel
theorem dX1_muster_104 : decode cX1_muster 104 = .ok (.getfield 15, 3) := by decide +kernel
theorem dX1_muster_107 : decode cX1_muster 107 = .ok (.getfield 31, 3) := by decide +kernel
theorem dX1_muster_110 : decode cX1_muster 110 = .ok (.iastore, 1) := by decide +kernel
theorem dX1_muster_111 : decode cX1_muster 111 = .ok (.return_, 1) := by decide +kernel
theorem dX1_part_0 : decode cX1_part 0 = .ok (.aload_n 0, 1) := by decide +kernel
theorem dX1_part_1 : decode cX1_part 1 = .ok (.getfield 15, 3) := by decide +kernel
theorem dX1_part_4 : decode cX1_part 4 = .ok (.iload_n 2, 1) := by decide +kernel
theorem dX1_part_5 : decode cX1_part 5 = .ok (.invokevirtual 45, 3) := by decide +kernel
theorem dX1_part_8 : decode cX1_part 8 = .ok (.ifCond .eq 16, 3) := by decide +kernel
theorem dX1_part_24 : decode cX1_part 24 = .ok (.iconst 0, 1) := by decide +kernel
theorem dX1_part_25 : decode cX1_part 25 = .ok (.istore_n 3, 1) := by decide +kernel
theorem dX1_part_26 : decode cX1_part 26 = .ok (.iload_n 3, 1) := by decide +kernel
theorem dX1_part_27 : decode cX1_part 27 = .ok (.ifCond .eq 20, 3) := by decide +kernel
theorem dX1_part_47 : decode cX1_part 47 = .ok (.iconst 0, 1) := by decide +kernel
theorem dX1_part_48 : decode cX1_part 48 = .ok (.ireturn, 1) := by decide +kernel
theorem dX1_passDay_0 : decode cX1_passDay 0 = .ok (.iconst 0, 1) := by decide +kernel
theorem dX1_passDay_1 : decode cX1_passDay 1 = .ok (.istore_n 2, 1) := by decide +kernel
theorem dX1_passDay_2 : decode cX1_passDay 2 = .ok (.iload_n 2, 1) := by decide +kernel
theorem dX1_passDay_3 : decode cX1_passDay 3 = .ok (.aload_n 0, 1) := by decide +kernel
theorem dX1_passDay_4 : decode cX1_passDay 4 = .ok (.getfield 15, 3) := by decide +kernel
theorem dX1_passDay_7 : decode cX1_passDay 7 = .ok (.getfield 48, 3) := by decide +kernel
theorem dX1_passDay_10 : decode cX1_passDay 10 = .ok (.if_icmp .ge 36, 3) := by decide +kernel
theorem dX1_passDay_46 : decode cX1_passDay 46 = .ok (.aload_n 0, 1) := by decide +kernel
theorem dX1_passDay_47 : decode cX1_passDay 47 = .ok (.getfield 11, 3) := by decide +kernel
theorem dX1_passDay_50 : decode cX1_passDay 50 = .ok (.bipush 43, 2) := by decide +kernel
theorem dX1_passDay_52 : decode cX1_passDay 52 = .ok (.aload_n 0, 1) := by decide +kernel
theorem dX1_passDay_53 : decode cX1_passDay 53 = .ok (.getfield 11, 3) := by decide +kernel
theorem dX1_passDay_56 : decode cX1_passDay 56 = .ok (.bipush 43, 2) := by decide +kernel
theorem dX1_passDay_58 : decode cX1_passDay 58 = .ok (.iaload, 1) := by decide +kernel
theorem dX1_passDay_59 : decode cX1_passDay 59 = .ok (.sipush 137, 3) := by decide +kernel
theorem dX1_passDay_62 : decode cX1_passDay 62 = .ok (.imul, 1) := by decide +kernel
theorem dX1_passDay_63 : decode cX1_passDay 63 = .ok (.bipush 71, 2) := by decide +kernel
theorem dX1_passDay_65 : decode cX1_passDay 65 = .ok (.iadd, 1) := by decide +kernel
theorem dX1_passDay_66 : decode cX1_passDay 66 = .ok (.sipush 1000, 3) := by decide +kernel
theorem dX1_passDay_69 : decode cX1_passDay 69 = .ok (.irem, 1) := by decide +kernel
theorem dX1_passDay_70 : decode cX1_passDay 70 = .ok (.iastore, 1) := by decide +kernel
theorem dX1_passDay_71 : decode cX1_passDay 71 = .ok (.aload_n 0, 1) := by decide +kernel
theorem dX1_passDay_72 : decode cX1_passDay 72 = .ok (.getfield 11, 3) := by decide +kernel
theorem dX1_passDay_75 : decode cX1_passDay 75 = .ok (.bipush 43, 2) := by decide +kernel
theorem dX1_passDay_77 : decode cX1_passDay 77 = .ok (.iaload, 1) := by decide +kernel
theorem dX1_passDay_78 : decode cX1_passDay 78 = .ok (.bipush 100, 2) := by decide +kernel
theorem dX1_passDay_80 : decode cX1_passDay 80 = .ok (.irem, 1) := by decide +kernel
theorem dX1_passDay_81 : decode cX1_passDay 81 = .ok (.iload_n 1, 1) := by decide +kernel
theorem dX1_passDay_82 : decode cX1_passDay 82 = .ok (.if_icmp .ge 7, 3) := by decide +kernel
theorem dX1_passDay_89 : decode cX1_passDay 89 = .ok (.iconst 0, 1) := by decide +kernel
theorem dX1_passDay_90 : decode cX1_passDay 90 = .ok (.istore_n 2, 1) := by decide +kernel
theorem dX1_passDay_91 : decode cX1_passDay 91 = .ok (.iconst 0, 1) := by decide +kernel
theorem dX1_passDay_92 : decode cX1_passDay 92 = .ok (.istore_n 3, 1) := by decide +kernel
theorem dX1_passDay_93 : decode cX1_passDay 93 = .ok (.iload_n 3, 1) := by decide +kernel
theorem dX1_passDay_94 : decode cX1_passDay 94 = .ok (.aload_n 0, 1) := by decide +kernel
theorem dX1_passDay_95 : decode cX1_passDay 95 = .ok (.getfield 15, 3) := by decide +kernel
theorem dX1_passDay_98 : decode cX1_passDay 98 = .ok (.getfield 48, 3) := by decide +kernel
theorem dX1_passDay_101 : decode cX1_passDay 101 = .ok (.if_icmp .ge 19, 3) := by decide +kernel
theorem dX1_passDay_120 : decode cX1_passDay 120 = .ok (.aload_n 0, 1) := by decide +kernel
theorem dX1_passDay_121 : decode cX1_passDay 121 = .ok (.getfield 11, 3) := by decide +kernel
theorem dX1_passDay_124 : decode cX1_passDay 124 = .ok (.bipush 42, 2) := by decide +kernel
theorem dX1_passDay_126 : decode cX1_passDay 126 = .ok (.dup2, 1) := by decide +kernel
theorem dX1_passDay_127 : decode cX1_passDay 127 = .ok (.iaload, 1) := by decide +kernel
theorem dX1_passDay_128 : decode cX1_passDay 128 = .ok (.iconst 1, 1) := by decide +kernel
theorem dX1_passDay_129 : decode cX1_passDay 129 = .ok (.iadd, 1) := by decide +kernel
theorem dX1_passDay_130 : decode cX1_passDay 130 = .ok (.iastore, 1) := by decide +kernel
theorem dX1_passDay_131 : decode cX1_passDay 131 = .ok (.iconst 0, 1) := by decide +kernel
theorem dX1_passDay_132 : decode cX1_passDay 132 = .ok (.istore_n 3, 1) := by decide +kernel
theorem dX1_passDay_133 : decode cX1_passDay 133 = .ok (.iconst 0, 1) := by decide +kernel
theorem dX1_passDay_134 : decode cX1_passDay 134 = .ok (.istore 4, 2) := by decide +kernel
theorem dX1_passDay_136 : decode cX1_passDay 136 = .ok (.iload 4, 2) := by decide +kernel
theorem dX1_passDay_138 : decode cX1_passDay 138 = .ok (.aload_n 0, 1) := by decide +kernel
theorem dX1_passDay_139 : decode cX1_passDay 139 = .ok (.getfield 15, 3) := by decide +kernel
theorem dX1_passDay_142 : decode cX1_passDay 142 = .ok (.getfield 48, 3) := by decide +kernel
theorem dX1_passDay_145 : decode cX1_passDay 145 = .ok (.if_icmp .ge 48, 3) := by decide +kernel
theorem dX1_passDay_193 : decode cX1_passDay 193 = .ok (.iload_n 3, 1) := by decide +kernel
theorem dX1_passDay_194 : decode cX1_passDay 194 = .ok (.ireturn, 1) := by decide +kernel
theorem dX1_saveTo_0 : decode cX1_saveTo 0 = .ok (.iload_n 2, 1) := by decide +kernel
theorem dX1_saveTo_1 : decode cX1_saveTo 1 = .ok (.ifCond .lt 27, 3) := by decide +kernel
theorem dX1_saveTo_4 : decode cX1_saveTo 4 = .ok (.iload_n 2, 1) := by decide +kernel
theorem dX1_saveTo_5 : decode cX1_saveTo 5 = .ok (.aload_n 1, 1) := by decide +kernel
theorem dX1_saveTo_6 : decode cX1_saveTo 6 = .ok (.arraylength, 1) := by decide +kernel
theorem dX1_saveTo_7 : decode cX1_saveTo 7 = .ok (.bipush 44, 2) := by decide +kernel
theorem dX1_saveTo_9 : decode cX1_saveTo 9 = .ok (.idiv, 1) := by decide +kernel
theorem dX1_saveTo_10 : decode cX1_saveTo 10 = .ok (.if_icmp .ge 18, 3) := by decide +kernel
theorem dX1_saveTo_13 : decode cX1_saveTo 13 = .ok (.aload_n 0, 1) := by decide +kernel
theorem dX1_saveTo_14 : decode cX1_saveTo 14 = .ok (.getfield 11, 3) := by decide +kernel
theorem dX1_saveTo_17 : decode cX1_saveTo 17 = .ok (.iconst 0, 1) := by decide +kernel
theorem dX1_saveTo_18 : decode cX1_saveTo 18 = .ok (.aload_n 1, 1) := by decide +kernel
theorem dX1_saveTo_19 : decode cX1_saveTo 19 = .ok (.iload_n 2, 1) := by decide +kernel
theorem dX1_saveTo_20 : decode cX1_saveTo 20 = .ok (.bipush 44, 2) := by decide +kernel
theorem dX1_saveTo_22 : decode cX1_saveTo 22 = .ok (.imul, 1) := by decide +kernel
theorem dX1_saveTo_23 : decode cX1_saveTo 23 = .ok (.bipush 44, 2) := by decide +kernel
theorem dX1_saveTo_25 : decode cX1_saveTo 25 = .ok (.invokestatic 35, 3) := by decide +kernel
theorem dX1_saveTo_28 : decode cX1_saveTo 28 = .ok (.return_, 1) := by decide +kernel
theorem dX1_seed_0 : decode cX1_seed 0 = .ok (.aload_n 0, 1) := by decide +kernel
theorem dX1_seed_1 : decode cX1_seed 1 = .ok (.getfield 11, 3) := by decide +kernel
theorem dX1_seed_4 : decode cX1_seed 4 = .ok (.bipush 43, 2) := by decide +kernel
theorem dX1_seed_6 : decode cX1_seed 6 = .ok (.iaload, 1) := by decide +kernel
theorem dX1_seed_7 : decode cX1_seed 7 = .ok (.ireturn, 1) := by decide +kernel
theorem dX1_today_0 : decode cX1_today 0 = .ok (.aload_n 0, 1) := by decide +kernel
theorem dX1_today_1 : decode cX1_today 1 = .ok (.getfield 11, 3) := by decide +kernel
theorem dX1_today_4 : decode cX1_today 4 = .ok (.bipush 42, 2) := by decide +kernel
theorem dX1_today_6 : decode cX1_today 6 = .ok (.iaload, 1) := by decide +kernel
theorem dX1_today_7 : decode cX1_today 7 = .ok (.ireturn, 1) := by decide +kernel
theorem dX1_wearers_0 : decode cX1_wearers 0 = .ok (.iconst 0, 1) := by decide +kernel
theorem dX1_wearers_1 : decode cX1_wearers 1 = .ok (.istore_n 1, 1) := by decide +kernel
theorem dX1_wearers_2 : decode cX1_wearers 2 = .ok (.iconst 0, 1) := by decide +kernel
theorem dX1_wearers_3 : decode cX1_wearers 3 = .ok (.istore_n 2, 1) := by decide +kernel
theorem dX1_wearers_4 : decode cX1_wearers 4 = .ok (.iload_n 2, 1) := by decide +kernel
theorem dX1_wearers_5 : decode cX1_wearers 5 = .ok (.aload_n 0, 1) := by decide +kernel
theorem dX1_wearers_6 : decode cX1_wearers 6 = .ok (.getfield 15, 3) := by decide +kernel
theorem dX1_wearers_9 : decode cX1_wearers 9 = .ok (.getfield 48, 3) := by decide +kernel
theorem dX1_wearers_12 : decode cX1_wearers 12 = .ok (.if_icmp .ge 24, 3) := by decide +kernel
theorem dX1_wearers_36 : decode cX1_wearers 36 = .ok (.iload_n 1, 1) := by decide +kernel
theorem dX1_wearers_37 : decode cX1_wearers 37 = .ok (.ireturn, 1) := by decide +kernel
theorem dX1_wears_0 : decode cX1_wears 0 = .ok (.aload_n 0, 1) := by decide +kernel
theorem dX1_wears_1 : decode cX1_wears 1 = .ok (.getfield 15, 3) := by decide +kernel
theorem dX1_wears_4 : decode cX1_wears 4 = .ok (.iload_n 1, 1) := by decide +kernel
theorem dX1_wears_5 : decode cX1_wears 5 = .ok (.invokevirtual 41, 3) := by decide +kernel
theorem dX1_wears_8 : decode cX1_wears 8 = .ok (.ifCond .eq 15, 3) := by decide +kernel
theorem dX1_wears_23 : decode cX1_wears 23 = .ok (.iconst (-1), 1) := by decide +kernel
theorem dX1_wears_24 : decode cX1_wears 24 = .ok (.ireturn, 1) := by decide +kernel
theorem dX2_difference_0 : decode cX2_difference 0 = .ok (.aload_n 0, 1) := by decide +kernel
theorem dX2_difference_1 : decode cX2_difference 1 = .ok (.aload_n 0, 1) := by decide +kernel
theorem dX2_difference_2 : decode cX2_difference 2 = .ok (.getfield 19, 3) := by decide +kernel
theorem dX2_difference_5 : decode cX2_difference 5 = .ok (.invokevirtual 39, 3) := by decide +kernel
theorem dX2_difference_8 : decode cX2_difference 8 = .ok (.invokevirtual 48, 3) := by decide +kernel
theorem dX2_difference_11 : decode cX2_difference 11 = .ok (.iconst 2, 1) := by decide +kernel
theorem dX2_difference_12 : decode cX2_difference 12 = .ok (.aload_n 0, 1) := by decide +kernel
theorem dX2_difference_13 : decode cX2_difference 13 = .ok (.iload_n 1, 1) := by decide +kernel
theorem dX2_difference_14 : decode cX2_difference 14 = .ok (.invokevirtual 48, 3) := by decide +kernel
theorem dX2_difference_17 : decode cX2_difference 17 = .ok (.imul, 1) := by decide +kernel
theorem dX2_difference_18 : decode cX2_difference 18 = .ok (.isub, 1) := by decide +kernel
theorem dX2_difference_19 : decode cX2_difference 19 = .ok (.invokestatic 61, 3) := by decide +kernel
theorem dX2_difference_22 : decode cX2_difference 22 = .ok (.ireturn, 1) := by decide +kernel
theorem dX2_frontOf_0 : decode cX2_frontOf 0 = .ok (.iconst (-1), 1) := by decide +kernel
theorem dX2_frontOf_1 : decode cX2_frontOf 1 = .ok (.istore_n 2, 1) := by decide +kernel
theorem dX2_frontOf_2 : decode cX2_frontOf 2 = .ok (.aload_n 0, 1) := by decide +kernel
theorem dX2_frontOf_3 : decode cX2_frontOf 3 = .ok (.getfield 19, 3) := by decide +kernel
theorem dX2_frontOf_6 : decode cX2_frontOf 6 = .ok (.invokevirtual 39, 3) := by decide +kernel
theorem dX2_frontOf_9 : decode cX2_frontOf 9 = .ok (.iconst (-1), 1) := by decide +kernel
theorem dX2_frontOf_10 : decode cX2_frontOf 10 = .ok (.ixor, 1) := by decide +kernel
theorem dX2_frontOf_11 : decode cX2_frontOf 11 = .ok (.istore_n 3, 1) := by decide +kernel
theorem dX2_frontOf_12 : decode cX2_frontOf 12 = .ok (.iconst 0, 1) := by decide +kernel
theorem dX2_frontOf_13 : decode cX2_frontOf 13 = .ok (.istore 4, 2) := by decide +kernel
theorem dX2_frontOf_15 : decode cX2_frontOf 15 = .ok (.iload 4, 2) := by decide +kernel
theorem dX2_frontOf_17 : decode cX2_frontOf 17 = .ok (.bipush 64, 2) := by decide +kernel
theorem dX2_frontOf_19 : decode cX2_frontOf 19 = .ok (.if_icmp .ge 58, 3) := by decide +kernel
theorem dX2_frontOf_22 : decode cX2_frontOf 22 = .ok (.iload_n 2, 1) := by decide +kernel
theorem dX2_frontOf_23 : decode cX2_frontOf 23 = .ok (.iconst (-1), 1) := by decide +kernel
theorem dX2_frontOf_24 : decode cX2_frontOf 24 = .ok (.if_icmp .eq 15, 3) := by decide +kernel
theorem dX2_frontOf_27 : decode cX2_frontOf 27 = .ok (.iload 4, 2) := by decide +kernel
theorem dX2_frontOf_29 : decode cX2_frontOf 29 = .ok (.invokestatic 43, 3) := by decide +kernel
theorem dX2_frontOf_32 : decode cX2_frontOf 32 = .ok (.iload_n 2, 1) := by decide +kernel
theorem dX2_frontOf_33 : decode cX2_frontOf 33 = .ok (.invokestatic 43, 3) := by decide +kernel
theorem dX2_frontOf_36 : decode cX2_frontOf 36 = .ok (.if_icmp .ge 7, 3) := by decide +kernel
theorem dX2_frontOf_39 : decode cX2_frontOf 39 = .ok (.iconst 1, 1) := by decide +kernel
theorem dX2_frontOf_40 : decode cX2_frontOf 40 = .ok (.goto 4, 3) := by decide +kernel
theorem dX2_frontOf_43 : decode cX2_frontOf 43 = .ok (.iconst 0, 1) := by decide +kernel
theorem dX2_frontOf_44 : decode cX2_frontOf 44 = .ok (.istore 5, 2) := by decide +kernel
theorem dX2_frontOf_46 : decode cX2_frontOf 46 = .ok (.iload 4, 2) := by decide +kernel
theorem dX2_frontOf_48 : decode cX2_frontOf 48 = .ok (.iload_n 3, 1) := by decide +kernel
theorem dX2_frontOf_49 : decode cX2_frontOf 49 = .ok (.iand, 1) := by decide +kernel
theorem dX2_frontOf_50 : decode cX2_frontOf 50 = .ok (.ifCond .ne 21, 3) := by decide +kernel
theorem dX2_frontOf_53 : decode cX2_frontOf 53 = .ok (.iload 5, 2) := by decide +kernel
theorem dX2_frontOf_55 : decode cX2_frontOf 55 = .ok (.ifCond .eq 16, 3) := by decide +kernel
theorem dX2_frontOf_58 : decode cX2_frontOf 58 = .ok (.aload_n 0, 1) := by decide +kernel
theorem dX2_frontOf_59 : decode cX2_frontOf 59 = .ok (.iload 4, 2) := by decide +kernel
theorem dX2_frontOf_61 : decode cX2_frontOf 61 = .ok (.invokevirtual 48, 3) := by decide +kernel
theorem dX2_frontOf_64 : decode cX2_frontOf 64 = .ok (.iload_n 1, 1) := by decide +kernel
theorem dX2_frontOf_65 : decode cX2_frontOf 65 = .ok (.if_icmp .lt 6, 3) := by decide +kernel
theorem dX2_frontOf_68 : decode cX2_frontOf 68 = .ok (.iload 4, 2) := by decide +kernel
theorem dX2_frontOf_70 : decode cX2_frontOf 70 = .ok (.istore_n 2, 1) := by decide +kernel
theorem dX2_frontOf_71 : decode cX2_frontOf 71 = .ok (.iinc 4 1, 3) := by decide +kernel
theorem dX2_frontOf_74 : decode cX2_frontOf 74 = .ok (.goto (-59), 3) := by decide +kernel
theorem dX2_frontOf_77 : decode cX2_frontOf 77 = .ok (.iload_n 2, 1) := by decide +kernel
theorem dX2_frontOf_78 : decode cX2_frontOf 78 = .ok (.ireturn, 1) := by decide +kernel
theorem dX2_init_0 : decode cX2_init 0 = .ok (.aload_n 0, 1) := by decide +kernel
theorem dX2_init_1 : decode cX2_init 1 = .ok (.invokespecial 3, 3) := by decide +kernel
theorem dX2_init_4 : decode cX2_init 4 = .ok (.aload_n 0, 1) := by decide +kernel
theorem dX2_init_5 : decode cX2_init 5 = .ok (.bipush 64, 2) := by decide +kernel
theorem dX2_init_7 : decode cX2_init 7 = .ok (.newarray .int, 2) := by decide +kernel
theorem dX2_init_9 : decode cX2_init 9 = .ok (.putfield 9, 3) := by decide +kernel
theorem dX2_init_12 : decode cX2_init 12 = .ok (.aload_n 0, 1) := by decide +kernel
theorem dX2_init_13 : decode cX2_init 13 = .ok (.aload_n 1, 1) := by decide +kernel
theorem dX2_init_14 : decode cX2_init 14 = .ok (.putfield 15, 3) := by decide +kernel
theorem dX2_init_17 : decode cX2_init 17 = .ok (.aload_n 0, 1) := by decide +kernel
theorem dX2_init_18 : decode cX2_init 18 = .ok (.aload_n 2, 1) := by decide +kernel
theorem dX2_init_19 : decode cX2_init 19 = .ok (.putfield 19, 3) := by decide +kernel
theorem dX2_init_22 : decode cX2_init 22 = .ok (.return_, 1) := by decide +kernel
theorem dX2_isEvener_0 : decode cX2_isEvener 0 = .ok (.aload_n 0, 1) := by decide +kernel
theorem dX2_isEvener_1 : decode cX2_isEvener 1 = .ok (.iload_n 1, 1) := by decide +kernel
theorem dX2_isEvener_2 : decode cX2_isEvener 2 = .ok (.invokevirtual 58, 3) := by decide +kernel
theorem dX2_isEvener_5 : decode cX2_isEvener 5 = .ok (.aload_n 0, 1) := by decide +kernel
theorem dX2_isEvener_6 : decode cX2_isEvener 6 = .ok (.iload_n 2, 1) := by decide +kernel
theorem dX2_isEvener_7 : decode cX2_isEvener 7 = .ok (.invokevirtual 58, 3) := by decide +kernel
theorem dX2_isEvener_10 : decode cX2_isEvener 10 = .ok (.isub, 1) := by decide +kernel
theorem dX2_isEvener_11 : decode cX2_isEvener 11 = .ok (.istore_n 3, 1) := by decide +kernel
theorem dX2_isEvener_12 : decode cX2_isEvener 12 = .ok (.iload_n 3, 1) := by decide +kernel
theorem dX2_isEvener_13 : decode cX2_isEvener 13 = .ok (.ifCond .lt 12, 3) := by decide +kernel
theorem dX2_isEvener_16 : decode cX2_isEvener 16 = .ok (.iload_n 3, 1) := by decide +kernel
theorem dX2_isEvener_17 : decode cX2_isEvener 17 = .ok (.ifCond .ne 12, 3) := by decide +kernel
theorem dX2_isEvener_20 : decode cX2_isEvener 20 = .ok (.iload_n 1, 1) := by decide +kernel
theorem dX2_isEvener_21 : decode cX2_isEvener 21 = .ok (.iload_n 2, 1) := by decide +kernel
theorem dX2_isEvener_22 : decode cX2_isEvener 22 = .ok (.if_icmp .ge 7, 3) := by decide +kernel
theorem dX2_isEvener_29 : decode cX2_isEvener 29 = .ok (.iconst 0, 1) := by decide +kernel
theorem dX2_isEvener_30 : decode cX2_isEvener 30 = .ok (.ireturn, 1) := by decide +kernel
theorem dX2_leastCloth_0 : decode cX2_leastCloth 0 = .ok (.iconst 1, 1) := by decide +kernel
theorem dX2_leastCloth_1 : decode cX2_leastCloth 1 = .ok (.aload_n 0, 1) := by decide +kernel
theorem dX2_leastCloth_2 : decode cX2_leastCloth 2 = .ok (.getfield 15, 3) := by decide +kernel
theorem dX2_leastCloth_5 : decode cX2_leastCloth 5 = .ok (.getfield 66, 3) := by decide +kernel
theorem dX2_leastCloth_8 : decode cX2_leastCloth 8 = .ok (.ishl, 1) := by decide +kernel
theorem dX2_leastCloth_9 : decode cX2_leastCloth 9 = .ok (.iconst 1, 1) := by decide +kernel
theorem dX2_leastCloth_10 : decode cX2_leastCloth 10 = .ok (.isub, 1) := by decide +kernel
theorem dX2_leastCloth_11 : decode cX2_leastCloth 11 = .ok (.istore_n 1, 1) := by decide +kernel
theorem dX2_leastCloth_12 : decode cX2_leastCloth 12 = .ok (.iconst 0, 1) := by decide +kernel
theorem dX2_leastCloth_13 : decode cX2_leastCloth 13 = .ok (.istore_n 2, 1) := by decide +kernel
theorem dX2_leastCloth_14 : decode cX2_leastCloth 14 = .ok (.iload_n 2, 1) := by decide +kernel
theorem dX2_leastCloth_15 : decode cX2_leastCloth 15 = .ok (.aload_n 0, 1) := by decide +kernel
theorem dX2_leastCloth_16 : decode cX2_leastCloth 16 = .ok (.getfield 15, 3) := by decide +kernel
theorem dX2_leastCloth_19 : decode cX2_leastCloth 19 = .ok (.getfield 66, 3) := by decide +kernel
theorem dX2_leastCloth_22 : decode cX2_leastCloth 22 = .ok (.if_icmp .ge 30, 3) := by decide +kernel
theorem dX2_leastCloth_52 : decode cX2_leastCloth 52 = .ok (.aload_n 0, 1) := by decide +kernel
theorem dX2_leastCloth_53 : decode cX2_leastCloth 53 = .ok (.getfield 9, 3) := by decide +kernel
theorem dX2_leastCloth_56 : decode cX2_leastCloth 56 = .ok (.iconst 0, 1) := by decide +kernel
theorem dX2_leastCloth_57 : decode cX2_leastCloth 57 = .ok (.iconst 0, 1) := by decide +kernel
theorem dX2_leastCloth_58 : decode cX2_leastCloth 58 = .ok (.iastore, 1) := by decide +kernel
theorem dX2_leastCloth_59 : decode cX2_leastCloth 59 = .ok (.iconst 1, 1) := by decide +kernel
theorem dX2_leastCloth_60 : decode cX2_leastCloth 60 = .ok (.istore_n 2, 1) := by decide +kernel
theorem dX2_leastCloth_61 : decode cX2_leastCloth 61 = .ok (.iload_n 2, 1) := by decide +kernel
theorem dX2_leastCloth_62 : decode cX2_leastCloth 62 = .ok (.iload_n 1, 1) := by decide +kernel
theorem dX2_leastCloth_63 : decode cX2_leastCloth 63 = .ok (.if_icmp .gt 26, 3) := by decide +kernel
theorem dX2_leastCloth_89 : decode cX2_leastCloth 89 = .ok (.iload_n 1, 1) := by decide +kernel
theorem dX2_leastCloth_90 : decode cX2_leastCloth 90 = .ok (.ifCond .lt 18, 3) := by decide +kernel
theorem dX2_leastCloth_93 : decode cX2_leastCloth 93 = .ok (.iload_n 1, 1) := by decide +kernel
theorem dX2_leastCloth_94 : decode cX2_leastCloth 94 = .ok (.bipush 64, 2) := by decide +kernel
theorem dX2_leastCloth_96 : decode cX2_leastCloth 96 = .ok (.if_icmp .ge 12, 3) := by decide +kernel
theorem dX2_leastCloth_99 : decode cX2_leastCloth 99 = .ok (.aload_n 0, 1) := by decide +kernel
theorem dX2_leastCloth_100 : decode cX2_leastCloth 100 = .ok (.getfield 9, 3) := by decide +kernel
theorem dX2_leastCloth_103 : decode cX2_leastCloth 103 = .ok (.iload_n 1, 1) := by decide +kernel
theorem dX2_leastCloth_104 : decode cX2_leastCloth 104 = .ok (.iaload, 1) := by decide +kernel
theorem dX2_leastCloth_105 : decode cX2_leastCloth 105 = .ok (.goto 4, 3) := by decide +kernel
theorem dX2_leastCloth_109 : decode cX2_leastCloth 109 = .ok (.ireturn, 1) := by decide +kernel
theorem dX2_leftWing_0 : decode cX2_leftWing 0 = .ok (.aload_n 0, 1) := by decide +kernel
theorem dX2_leftWing_1 : decode cX2_leftWing 1 = .ok (.getfield 19, 3) := by decide +kernel
theorem dX2_leftWing_4 : decode cX2_leftWing 4 = .ok (.invokevirtual 39, 3) := by decide +kernel
theorem dX2_leftWing_7 : decode cX2_leftWing 7 = .ok (.istore_n 1, 1) := by decide +kernel
theorem dX2_leftWing_8 : decode cX2_leftWing 8 = .ok (.iload_n 1, 1) := by decide +kernel
theorem dX2_leftWing_9 : decode cX2_leftWing 9 = .ok (.invokestatic 51, 3) := by decide +kernel
theorem dX2_leftWing_12 : decode cX2_leftWing 12 = .ok (.istore_n 2, 1) := by decide +kernel
theorem dX2_leftWing_13 : decode cX2_leftWing 13 = .ok (.iload_n 1, 1) := by decide +kernel
theorem dX2_leftWing_14 : decode cX2_leftWing 14 = .ok (.istore_n 3, 1) := by decide +kernel
theorem dX2_leftWing_15 : decode cX2_leftWing 15 = .ok (.iconst 0, 1) := by decide +kernel
theorem dX2_leftWing_16 : decode cX2_leftWing 16 = .ok (.istore 4, 2) := by decide +kernel
theorem dX2_leftWing_18 : decode cX2_leftWing 18 = .ok (.iload 4, 2) := by decide +kernel
theorem dX2_leftWing_20 : decode cX2_leftWing 20 = .ok (.bipush 64, 2) := by decide +kernel
theorem dX2_leftWing_22 : decode cX2_leftWing 22 = .ok (.if_icmp .ge 51, 3) := by decide +kernel
theorem dX2_leftWing_25 : decode cX2_leftWing 25 = .ok (.iload 4, 2) := by decide +kernel
theorem dX2_leftWing_27 : decode cX2_leftWing 27 = .ok (.iload_n 1, 1) := by decide +kernel
theorem dX2_leftWing_28 : decode cX2_leftWing 28 = .ok (.iconst (-1), 1) := by decide +kernel
theorem dX2_leftWing_29 : decode cX2_leftWing 29 = .ok (.ixor, 1) := by decide +kernel
theorem dX2_leftWing_30 : decode cX2_leftWing 30 = .ok (.iand, 1) := by decide +kernel
theorem dX2_leftWing_31 : decode cX2_leftWing 31 = .ok (.ifCond .ne 15, 3) := by decide +kernel
theorem dX2_leftWing_34 : decode cX2_leftWing 34 = .ok (.iload 4, 2) := by decide +kernel
theorem dX2_leftWing_36 : decode cX2_leftWing 36 = .ok (.iload_n 2, 1) := by decide +kernel
theorem dX2_leftWing_37 : decode cX2_leftWing 37 = .ok (.iand, 1) := by decide +kernel
theorem dX2_leftWing_38 : decode cX2_leftWing 38 = .ok (.iload_n 2, 1) := by decide +kernel
theorem dX2_leftWing_39 : decode cX2_leftWing 39 = .ok (.if_icmp .ne 7, 3) := by decide +kernel
theorem dX2_leftWing_42 : decode cX2_leftWing 42 = .ok (.iconst 1, 1) := by decide +kernel
theorem dX2_leftWing_43 : decode cX2_leftWing 43 = .ok (.goto 4, 3) := by decide +kernel
theorem dX2_leftWing_46 : decode cX2_leftWing 46 = .ok (.iconst 0, 1) := by decide +kernel
theorem dX2_leftWing_47 : decode cX2_leftWing 47 = .ok (.istore 5, 2) := by decide +kernel
theorem dX2_leftWing_49 : decode cX2_leftWing 49 = .ok (.iload 5, 2) := by decide +kernel
theorem dX2_leftWing_51 : decode cX2_leftWing 51 = .ok (.ifCond .eq 16, 3) := by decide +kernel
theorem dX2_leftWing_54 : decode cX2_leftWing 54 = .ok (.aload_n 0, 1) := by decide +kernel
theorem dX2_leftWing_55 : decode cX2_leftWing 55 = .ok (.iload 4, 2) := by decide +kernel
theorem dX2_leftWing_57 : decode cX2_leftWing 57 = .ok (.iload_n 3, 1) := by decide +kernel
theorem dX2_leftWing_58 : decode cX2_leftWing 58 = .ok (.invokevirtual 54, 3) := by decide +kernel
theorem dX2_leftWing_61 : decode cX2_leftWing 61 = .ok (.ifCond .eq 6, 3) := by decide +kernel
theorem dX2_leftWing_67 : decode cX2_leftWing 67 = .ok (.iinc 4 1, 3) := by decide +kernel
theorem dX2_leftWing_70 : decode cX2_leftWing 70 = .ok (.goto (-52), 3) := by decide +kernel
theorem dX2_leftWing_73 : decode cX2_leftWing 73 = .ok (.iload_n 3, 1) := by decide +kernel
theorem dX2_leftWing_74 : decode cX2_leftWing 74 = .ok (.ireturn, 1) := by decide +kernel
theorem dX2_wideTogether_0 : decode cX2_wideTogether 0 = .ok (.iconst 0, 1) := by decide +kernel
theorem dX2_wideTogether_1 : decode cX2_wideTogether 1 = .ok (.istore_n 2, 1) := by decide +kernel
theorem dX2_wideTogether_2 : decode cX2_wideTogether 2 = .ok (.iconst 0, 1) := by decide +kernel
theorem dX2_wideTogether_3 : decode cX2_wideTogether 3 = .ok (.istore_n 3, 1) := by decide +kernel
theorem dX2_wideTogether_4 : decode cX2_wideTogether 4 = .ok (.iload_n 3, 1) := by decide +kernel
theorem dX2_wideTogether_5 : decode cX2_wideTogether 5 = .ok (.aload_n 0, 1) := by decide +kernel
theorem dX2_wideTogether_6 : decode cX2_wideTogether 6 = .ok (.getfield 15, 3) := by decide +kernel
theorem dX2_wideTogether_9 : decode cX2_wideTogether 9 = .ok (.getfield 23, 3) := by decide +kernel
theorem dX2_wideTogether_12 : decode cX2_wideTogether 12 = .ok (.if_icmp .ge 36, 3) := by decide +kernel
theorem dX2_wideTogether_48 : decode cX2_wideTogether 48 = .ok (.iload_n 2, 1) := by decide +kernel
theorem dX2_wideTogether_49 : decode cX2_wideTogether 49 = .ok (.ireturn, 1) := by decide +kernel
theorem dX3_bestTurning_0 : decode cX3_bestTurning 0 = .ok (.iconst (-1), 1) := by decide +kernel
theorem dX3_bestTurning_1 : decode cX3_bestTurning 1 = .ok (.istore_n 1, 1) := by decide +kernel
theorem dX3_bestTurning_2 : decode cX3_bestTurning 2 = .ok (.iconst (-1), 1) := by decide +kernel
theorem dX3_bestTurning_3 : decode cX3_bestTurning 3 = .ok (.istore_n 2, 1) := by decide +kernel
theorem dX3_bestTurning_4 : decode cX3_bestTurning 4 = .ok (.iconst 0, 1) := by decide +kernel
theorem dX3_bestTurning_5 : decode cX3_bestTurning 5 = .ok (.istore_n 3, 1) := by decide +kernel
theorem dX3_bestTurning_6 : decode cX3_bestTurning 6 = .ok (.iload_n 3, 1) := by decide +kernel
theorem dX3_bestTurning_7 : decode cX3_bestTurning 7 = .ok (.aload_n 0, 1) := by decide +kernel
theorem dX3_bestTurning_8 : decode cX3_bestTurning 8 = .ok (.getfield 9, 3) := by decide +kernel
theorem dX3_bestTurning_11 : decode cX3_bestTurning 11 = .ok (.getfield 122, 3) := by decide +kernel
theorem dX3_bestTurning_14 : decode cX3_bestTurning 14 = .ok (.if_icmp .ge 65, 3) := by decide +kernel
theorem dX3_bestTurning_79 : decode cX3_bestTurning 79 = .ok (.iload_n 1, 1) := by decide +kernel
theorem dX3_bestTurning_80 : decode cX3_bestTurning 80 = .ok (.ireturn, 1) := by decide +kernel
theorem dX3_daysTillRout_0 : decode cX3_daysTillRout 0 = .ok (.aload_n 0, 1) := by decide +kernel
theorem dX3_daysTillRout_1 : decode cX3_daysTillRout 1 = .ok (.getfield 24, 3) := by decide +kernel
theorem dX3_daysTillRout_4 : decode cX3_daysTillRout 4 = .ok (.aload_n 0, 1) := by decide +kernel
theorem dX3_daysTillRout_5 : decode cX3_daysTillRout 5 = .ok (.getfield 15, 3) := by decide +kernel
theorem dX3_daysTillRout_8 : decode cX3_daysTillRout 8 = .ok (.invokevirtual 27, 3) := by decide +kernel
theorem dX3_daysTillRout_11 : decode cX3_daysTillRout 11 = .ok (.iconst 0, 1) := by decide +kernel
theorem dX3_daysTillRout_12 : decode cX3_daysTillRout 12 = .ok (.istore_n 1, 1) := by decide +kernel
theorem dX3_daysTillRout_13 : decode cX3_daysTillRout 13 = .ok (.iload_n 1, 1) := by decide +kernel
theorem dX3_daysTillRout_14 : decode cX3_daysTillRout 14 = .ok (.bipush 60, 2) := by decide +kernel
theorem dX3_daysTillRout_16 : decode cX3_daysTillRout 16 = .ok (.if_icmp .gt 30, 3) := by decide +kernel
theorem dX3_daysTillRout_19 : decode cX3_daysTillRout 19 = .ok (.aload_n 0, 1) := by decide +kernel
theorem dX3_daysTillRout_20 : decode cX3_daysTillRout 20 = .ok (.getfield 24, 3) := by decide +kernel
theorem dX3_daysTillRout_23 : decode cX3_daysTillRout 23 = .ok (.invokevirtual 38, 3) := by decide +kernel
theorem dX3_daysTillRout_26 : decode cX3_daysTillRout 26 = .ok (.ifCond .ne 5, 3) := by decide +kernel
theorem dX3_daysTillRout_29 : decode cX3_daysTillRout 29 = .ok (.iload_n 1, 1) := by decide +kernel
theorem dX3_daysTillRout_30 : decode cX3_daysTillRout 30 = .ok (.ireturn, 1) := by decide +kernel
theorem dX3_findChange_0 : decode cX3_findChange 0 = .ok (.aload_n 0, 1) := by decide +kernel
theorem dX3_findChange_1 : decode cX3_findChange 1 = .ok (.getfield 15, 3) := by decide +kernel
theorem dX3_findChange_4 : decode cX3_findChange 4 = .ok (.invokevirtual 102, 3) := by decide +kernel
theorem dX3_findChange_7 : decode cX3_findChange 7 = .ok (.invokestatic 105, 3) := by decide +kernel
theorem dX3_findChange_10 : decode cX3_findChange 10 = .ok (.istore_n 1, 1) := by decide +kernel
theorem dX3_findChange_11 : decode cX3_findChange 11 = .ok (.aload_n 0, 1) := by decide +kernel
theorem dX3_findChange_12 : decode cX3_findChange 12 = .ok (.iload_n 1, 1) := by decide +kernel
theorem dX3_findChange_13 : decode cX3_findChange 13 = .ok (.putfield 110, 3) := by decide +kernel
theorem dX3_findChange_16 : decode cX3_findChange 16 = .ok (.iconst 0, 1) := by decide +kernel
theorem dX3_findChange_17 : decode cX3_findChange 17 = .ok (.istore_n 2, 1) := by decide +kernel
theorem dX3_findChange_18 : decode cX3_findChange 18 = .ok (.iload_n 2, 1) := by decide +kernel
theorem dX3_findChange_19 : decode cX3_findChange 19 = .ok (.aload_n 0, 1) := by decide +kernel
theorem dX3_findChange_20 : decode cX3_findChange 20 = .ok (.getfield 9, 3) := by decide +kernel
theorem dX3_findChange_23 : decode cX3_findChange 23 = .ok (.getfield 92, 3) := by decide +kernel
theorem dX3_findChange_26 : decode cX3_findChange 26 = .ok (.if_icmp .ge 63, 3) := by decide +kernel
theorem dX3_findChange_89 : decode cX3_findChange 89 = .ok (.aload_n 0, 1) := by decide +kernel
theorem dX3_findChange_90 : decode cX3_findChange 90 = .ok (.getfield 110, 3) := by decide +kernel
theorem dX3_findChange_93 : decode cX3_findChange 93 = .ok (.iload_n 1, 1) := by decide +kernel
theorem dX3_findChange_94 : decode cX3_findChange 94 = .ok (.if_icmp .le 7, 3) := by decide +kernel
theorem dX3_findChange_101 : decode cX3_findChange 101 = .ok (.iconst 0, 1) := by decide +kernel
theorem dX3_findChange_102 : decode cX3_findChange 102 = .ok (.ireturn, 1) := by decide +kernel
theorem dX3_fittingBy_0 : decode cX3_fittingBy 0 = .ok (.iconst 0, 1) := by decide +kernel
theorem dX3_fittingBy_1 : decode cX3_fittingBy 1 = .ok (.istore_n 2, 1) := by decide +kernel
theorem dX3_fittingBy_2 : decode cX3_fittingBy 2 = .ok (.iconst 0, 1) := by decide +kernel
theorem dX3_fittingBy_3 : decode cX3_fittingBy 3 = .ok (.istore_n 3, 1) := by decide +kernel
theorem dX3_fittingBy_4 : decode cX3_fittingBy 4 = .ok (.iload_n 3, 1) := by decide +kernel
theorem dX3_fittingBy_5 : decode cX3_fittingBy 5 = .ok (.aload_n 0, 1) := by decide +kernel
theorem dX3_fittingBy_6 : decode cX3_fittingBy 6 = .ok (.getfield 9, 3) := by decide +kernel
theorem dX3_fittingBy_9 : decode cX3_fittingBy 9 = .ok (.getfield 92, 3) := by decide +kernel
theorem dX3_fittingBy_12 : decode cX3_fittingBy 12 = .ok (.if_icmp .ge 42, 3) := by decide +kernel
theorem dX3_fittingBy_54 : decode cX3_fittingBy 54 = .ok (.iload_n 2, 1) := by decide +kernel
theorem dX3_fittingBy_55 : decode cX3_fittingBy 55 = .ok (.ireturn, 1) := by decide +kernel
theorem dX3_init_0 : decode cX3_init 0 = .ok (.aload_n 0, 1) := by decide +kernel
theorem dX3_init_1 : decode cX3_init 1 = .ok (.invokespecial 3, 3) := by decide +kernel
theorem dX3_init_4 : decode cX3_init 4 = .ok (.aload_n 0, 1) := by decide +kernel
theorem dX3_init_5 : decode cX3_init 5 = .ok (.aload_n 1, 1) := by decide +kernel
theorem dX3_init_6 : decode cX3_init 6 = .ok (.putfield 9, 3) := by decide +kernel
theorem dX3_init_9 : decode cX3_init 9 = .ok (.aload_n 0, 1) := by decide +kernel
theorem dX3_init_10 : decode cX3_init 10 = .ok (.aload_n 2, 1) := by decide +kernel
theorem dX3_init_11 : decode cX3_init 11 = .ok (.putfield 15, 3) := by decide +kernel
theorem dX3_init_14 : decode cX3_init 14 = .ok (.aload_n 0, 1) := by decide +kernel
theorem dX3_init_15 : decode cX3_init 15 = .ok (.new 19, 3) := by decide +kernel
theorem dX3_init_18 : decode cX3_init 18 = .ok (.dup, 1) := by decide +kernel
theorem dX3_init_19 : decode cX3_init 19 = .ok (.aload_n 1, 1) := by decide +kernel
theorem dX3_init_20 : decode cX3_init 20 = .ok (.invokespecial 21, 3) := by decide +kernel
theorem dX3_init_23 : decode cX3_init 23 = .ok (.putfield 24, 3) := by decide +kernel
theorem dX3_init_26 : decode cX3_init 26 = .ok (.return_, 1) := by decide +kernel
theorem dX3_worstIllness_0 : decode cX3_worstIllness 0 = .ok (.iconst 0, 1) := by decide +kernel
theorem dX3_worstIllness_1 : decode cX3_worstIllness 1 = .ok (.istore_n 1, 1) := by decide +kernel
theorem dX3_worstIllness_2 : decode cX3_worstIllness 2 = .ok (.iconst 0, 1) := by decide +kernel
theorem dX3_worstIllness_3 : decode cX3_worstIllness 3 = .ok (.istore_n 2, 1) := by decide +kernel
theorem dX3_worstIllness_4 : decode cX3_worstIllness 4 = .ok (.iload_n 2, 1) := by decide +kernel
end
section
theorem dX3_worstIllness_5 : decode cX3_worstIllness 5 = .ok (.aload_n 0, 1) := by decide +kernel
theorem dX3_worstIllness_6 : decode cX3_worstIllness 6 = .ok (.getfield 9, 3) := by decide +kernel
theorem dX3_worstIllness_9 : decode cX3_worstIllness 9 = .ok (.getfield 92, 3) := by decide +kernel
theorem dX3_worstIllness_12 : decode cX3_worstIllness 12 = .ok (.if_icmp .ge 37, 3) := by decide +kernel
theorem dX3_worstIllness_49 : decode cX3_worstIllness 49 = .ok (.iload_n 1, 1) := by decide +kernel
theorem dX3_worstIllness_50 : decode cX3_worstIllness 50 = .ok (.ireturn, 1) := by decide +kernel
theorem dX4_clear_0 : decode cX4_clear 0 = .ok (.aload_n 0, 1) := by decide +kernel
theorem dX4_clear_1 : decode cX4_clear 1 = .ok (.iconst 0, 1) := by decide +kernel
theorem dX4_clear_2 : decode cX4_clear 2 = .ok (.putfield 24, 3) := by decide +kernel
theorem dX4_clear_5 : decode cX4_clear 5 = .ok (.aload_n 0, 1) := by decide +kernel
theorem dX4_clear_6 : decode cX4_clear 6 = .ok (.iconst 0, 1) := by decide +kernel
theorem dX4_clear_7 : decode cX4_clear 7 = .ok (.putfield 28, 3) := by decide +kernel
theorem dX4_clear_10 : decode cX4_clear 10 = .ok (.return_, 1) := by decide +kernel
theorem dX4_copy_0 : decode cX4_copy 0 = .ok (.aload_n 1, 1) := by decide +kernel
theorem dX4_copy_1 : decode cX4_copy 1 = .ok (.getfield 11, 3) := by decide +kernel
theorem dX4_copy_4 : decode cX4_copy 4 = .ok (.iconst 0, 1) := by decide +kernel
theorem dX4_copy_5 : decode cX4_copy 5 = .ok (.aload_n 0, 1) := by decide +kernel
theorem dX4_copy_6 : decode cX4_copy 6 = .ok (.getfield 11, 3) := by decide +kernel
theorem dX4_copy_9 : decode cX4_copy 9 = .ok (.iconst 0, 1) := by decide +kernel
theorem dX4_copy_10 : decode cX4_copy 10 = .ok (.sipush 300, 3) := by decide +kernel
theorem dX4_copy_13 : decode cX4_copy 13 = .ok (.invokestatic 31, 3) := by decide +kernel
theorem dX4_copy_16 : decode cX4_copy 16 = .ok (.aload_n 1, 1) := by decide +kernel
theorem dX4_copy_17 : decode cX4_copy 17 = .ok (.getfield 15, 3) := by decide +kernel
theorem dX4_copy_20 : decode cX4_copy 20 = .ok (.iconst 0, 1) := by decide +kernel
theorem dX4_copy_21 : decode cX4_copy 21 = .ok (.aload_n 0, 1) := by decide +kernel
theorem dX4_copy_22 : decode cX4_copy 22 = .ok (.getfield 15, 3) := by decide +kernel
theorem dX4_copy_25 : decode cX4_copy 25 = .ok (.iconst 0, 1) := by decide +kernel
theorem dX4_copy_26 : decode cX4_copy 26 = .ok (.sipush 300, 3) := by decide +kernel
theorem dX4_copy_29 : decode cX4_copy 29 = .ok (.invokestatic 31, 3) := by decide +kernel
theorem dX4_copy_32 : decode cX4_copy 32 = .ok (.aload_n 0, 1) := by decide +kernel
theorem dX4_copy_33 : decode cX4_copy 33 = .ok (.aload_n 1, 1) := by decide +kernel
theorem dX4_copy_34 : decode cX4_copy 34 = .ok (.getfield 24, 3) := by decide +kernel
theorem dX4_copy_37 : decode cX4_copy 37 = .ok (.putfield 24, 3) := by decide +kernel
theorem dX4_copy_40 : decode cX4_copy 40 = .ok (.aload_n 0, 1) := by decide +kernel
theorem dX4_copy_41 : decode cX4_copy 41 = .ok (.aload_n 1, 1) := by decide +kernel
theorem dX4_copy_42 : decode cX4_copy 42 = .ok (.getfield 28, 3) := by decide +kernel
theorem dX4_copy_45 : decode cX4_copy 45 = .ok (.putfield 28, 3) := by decide +kernel
theorem dX4_copy_48 : decode cX4_copy 48 = .ok (.return_, 1) := by decide +kernel
theorem dX4_init_0 : decode cX4_init 0 = .ok (.aload_n 0, 1) := by decide +kernel
theorem dX4_init_1 : decode cX4_init 1 = .ok (.invokespecial 3, 3) := by decide +kernel
theorem dX4_init_4 : decode cX4_init 4 = .ok (.aload_n 0, 1) := by decide +kernel
theorem dX4_init_5 : decode cX4_init 5 = .ok (.sipush 300, 3) := by decide +kernel
theorem dX4_init_8 : decode cX4_init 8 = .ok (.newarray .int, 2) := by decide +kernel
theorem dX4_init_10 : decode cX4_init 10 = .ok (.putfield 11, 3) := by decide +kernel
theorem dX4_init_13 : decode cX4_init 13 = .ok (.aload_n 0, 1) := by decide +kernel
theorem dX4_init_14 : decode cX4_init 14 = .ok (.sipush 300, 3) := by decide +kernel
theorem dX4_init_17 : decode cX4_init 17 = .ok (.newarray .int, 2) := by decide +kernel
theorem dX4_init_19 : decode cX4_init 19 = .ok (.putfield 15, 3) := by decide +kernel
theorem dX4_init_22 : decode cX4_init 22 = .ok (.aload_n 0, 1) := by decide +kernel
theorem dX4_init_23 : decode cX4_init 23 = .ok (.bipush 30, 2) := by decide +kernel
theorem dX4_init_25 : decode cX4_init 25 = .ok (.newarray .int, 2) := by decide +kernel
theorem dX4_init_27 : decode cX4_init 27 = .ok (.putfield 18, 3) := by decide +kernel
theorem dX4_init_30 : decode cX4_init 30 = .ok (.aload_n 0, 1) := by decide +kernel
theorem dX4_init_31 : decode cX4_init 31 = .ok (.bipush 6, 2) := by decide +kernel
theorem dX4_init_33 : decode cX4_init 33 = .ok (.newarray .int, 2) := by decide +kernel
theorem dX4_init_35 : decode cX4_init 35 = .ok (.putfield 21, 3) := by decide +kernel
theorem dX4_init_38 : decode cX4_init 38 = .ok (.return_, 1) := by decide +kernel
theorem dX5_fillBox_0 : decode cX5_fillBox 0 = .ok (.iload_n 1, 1) := by decide +kernel
theorem dX5_fillBox_1 : decode cX5_fillBox 1 = .ok (.ifCond .lt 8, 3) := by decide +kernel
theorem dX5_fillBox_4 : decode cX5_fillBox 4 = .ok (.iload_n 1, 1) := by decide +kernel
theorem dX5_fillBox_5 : decode cX5_fillBox 5 = .ok (.iconst 3, 1) := by decide +kernel
theorem dX5_fillBox_6 : decode cX5_fillBox 6 = .ok (.if_icmp .lt 5, 3) := by decide +kernel
theorem dX5_fillBox_9 : decode cX5_fillBox 9 = .ok (.iconst 0, 1) := by decide +kernel
theorem dX5_fillBox_10 : decode cX5_fillBox 10 = .ok (.ireturn, 1) := by decide +kernel
theorem dX5_fillBox_11 : decode cX5_fillBox 11 = .ok (.aload_n 0, 1) := by decide +kernel
theorem dX5_fillBox_12 : decode cX5_fillBox 12 = .ok (.getfield 20, 3) := by decide +kernel
theorem dX5_fillBox_15 : decode cX5_fillBox 15 = .ok (.aload_n 0, 1) := by decide +kernel
theorem dX5_fillBox_16 : decode cX5_fillBox 16 = .ok (.getfield 17, 3) := by decide +kernel
theorem dX5_fillBox_19 : decode cX5_fillBox 19 = .ok (.iload_n 1, 1) := by decide +kernel
theorem dX5_fillBox_20 : decode cX5_fillBox 20 = .ok (.invokevirtual 24, 3) := by decide +kernel
theorem dX5_fillBox_23 : decode cX5_fillBox 23 = .ok (.aload_n 0, 1) := by decide +kernel
theorem dX5_fillBox_24 : decode cX5_fillBox 24 = .ok (.dup, 1) := by decide +kernel
theorem dX5_fillBox_25 : decode cX5_fillBox 25 = .ok (.getfield 28, 3) := by decide +kernel
theorem dX5_fillBox_28 : decode cX5_fillBox 28 = .ok (.iconst 1, 1) := by decide +kernel
theorem dX5_fillBox_29 : decode cX5_fillBox 29 = .ok (.iload_n 1, 1) := by decide +kernel
theorem dX5_fillBox_30 : decode cX5_fillBox 30 = .ok (.ishl, 1) := by decide +kernel
theorem dX5_fillBox_31 : decode cX5_fillBox 31 = .ok (.ior, 1) := by decide +kernel
theorem dX5_fillBox_32 : decode cX5_fillBox 32 = .ok (.putfield 28, 3) := by decide +kernel
theorem dX5_fillBox_35 : decode cX5_fillBox 35 = .ok (.iconst 1, 1) := by decide +kernel
theorem dX5_fillBox_36 : decode cX5_fillBox 36 = .ok (.ireturn, 1) := by decide +kernel
theorem dX5_forgetActs_0 : decode cX5_forgetActs 0 = .ok (.aload_n 0, 1) := by decide +kernel
theorem dX5_forgetActs_1 : decode cX5_forgetActs 1 = .ok (.iconst 0, 1) := by decide +kernel
theorem dX5_forgetActs_2 : decode cX5_forgetActs 2 = .ok (.putfield 35, 3) := by decide +kernel
theorem dX5_forgetActs_5 : decode cX5_forgetActs 5 = .ok (.aload_n 0, 1) := by decide +kernel
theorem dX5_forgetActs_6 : decode cX5_forgetActs 6 = .ok (.iconst 0, 1) := by decide +kernel
theorem dX5_forgetActs_7 : decode cX5_forgetActs 7 = .ok (.putfield 38, 3) := by decide +kernel
theorem dX5_forgetActs_10 : decode cX5_forgetActs 10 = .ok (.aload_n 0, 1) := by decide +kernel
theorem dX5_forgetActs_11 : decode cX5_forgetActs 11 = .ok (.iconst 0, 1) := by decide +kernel
theorem dX5_forgetActs_12 : decode cX5_forgetActs 12 = .ok (.putfield 41, 3) := by decide +kernel
theorem dX5_forgetActs_15 : decode cX5_forgetActs 15 = .ok (.aload_n 0, 1) := by decide +kernel
theorem dX5_forgetActs_16 : decode cX5_forgetActs 16 = .ok (.getfield 20, 3) := by decide +kernel
theorem dX5_forgetActs_19 : decode cX5_forgetActs 19 = .ok (.aload_n 0, 1) := by decide +kernel
theorem dX5_forgetActs_20 : decode cX5_forgetActs 20 = .ok (.getfield 13, 3) := by decide +kernel
theorem dX5_forgetActs_23 : decode cX5_forgetActs 23 = .ok (.iconst 0, 1) := by decide +kernel
theorem dX5_forgetActs_24 : decode cX5_forgetActs 24 = .ok (.invokevirtual 24, 3) := by decide +kernel
theorem dX5_forgetActs_27 : decode cX5_forgetActs 27 = .ok (.return_, 1) := by decide +kernel
theorem dX5_forgetAll_0 : decode cX5_forgetAll 0 = .ok (.aload_n 0, 1) := by decide +kernel
theorem dX5_forgetAll_1 : decode cX5_forgetAll 1 = .ok (.iconst 0, 1) := by decide +kernel
theorem dX5_forgetAll_2 : decode cX5_forgetAll 2 = .ok (.putfield 28, 3) := by decide +kernel
theorem dX5_forgetAll_5 : decode cX5_forgetAll 5 = .ok (.aload_n 0, 1) := by decide +kernel
theorem dX5_forgetAll_6 : decode cX5_forgetAll 6 = .ok (.invokevirtual 32, 3) := by decide +kernel
theorem dX5_forgetAll_9 : decode cX5_forgetAll 9 = .ok (.return_, 1) := by decide +kernel
theorem dX5_init_0 : decode cX5_init 0 = .ok (.aload_n 0, 1) := by decide +kernel
theorem dX5_init_1 : decode cX5_init 1 = .ok (.invokespecial 3, 3) := by decide +kernel
theorem dX5_init_4 : decode cX5_init 4 = .ok (.aload_n 0, 1) := by decide +kernel
theorem dX5_init_5 : decode cX5_init 5 = .ok (.sipush 1804, 3) := by decide +kernel
theorem dX5_init_8 : decode cX5_init 8 = .ok (.newarray .int, 2) := by decide +kernel
theorem dX5_init_10 : decode cX5_init 10 = .ok (.putfield 13, 3) := by decide +kernel
theorem dX5_init_13 : decode cX5_init 13 = .ok (.aload_n 0, 1) := by decide +kernel
theorem dX5_init_14 : decode cX5_init 14 = .ok (.sipush 132, 3) := by decide +kernel
theorem dX5_init_17 : decode cX5_init 17 = .ok (.newarray .int, 2) := by decide +kernel
theorem dX5_init_19 : decode cX5_init 19 = .ok (.putfield 17, 3) := by decide +kernel
theorem dX5_init_22 : decode cX5_init 22 = .ok (.aload_n 0, 1) := by decide +kernel
theorem dX5_init_23 : decode cX5_init 23 = .ok (.aload_n 1, 1) := by decide +kernel
theorem dX5_init_24 : decode cX5_init 24 = .ok (.putfield 20, 3) := by decide +kernel
theorem dX5_init_27 : decode cX5_init 27 = .ok (.aload_n 1, 1) := by decide +kernel
theorem dX5_init_28 : decode cX5_init 28 = .ok (.aload_n 0, 1) := by decide +kernel
theorem dX5_init_29 : decode cX5_init 29 = .ok (.getfield 13, 3) := by decide +kernel
theorem dX5_init_32 : decode cX5_init 32 = .ok (.iconst 0, 1) := by decide +kernel
theorem dX5_init_33 : decode cX5_init 33 = .ok (.invokevirtual 24, 3) := by decide +kernel
theorem dX5_init_36 : decode cX5_init 36 = .ok (.return_, 1) := by decide +kernel
theorem dX5_keepAct_0 : decode cX5_keepAct 0 = .ok (.aload_n 0, 1) := by decide +kernel
theorem dX5_keepAct_1 : decode cX5_keepAct 1 = .ok (.iconst 0, 1) := by decide +kernel
theorem dX5_keepAct_2 : decode cX5_keepAct 2 = .ok (.putfield 41, 3) := by decide +kernel
theorem dX5_keepAct_5 : decode cX5_keepAct 5 = .ok (.aload_n 0, 1) := by decide +kernel
theorem dX5_keepAct_6 : decode cX5_keepAct 6 = .ok (.getfield 38, 3) := by decide +kernel
theorem dX5_keepAct_9 : decode cX5_keepAct 9 = .ok (.bipush 40, 2) := by decide +kernel
theorem dX5_keepAct_11 : decode cX5_keepAct 11 = .ok (.if_icmp .ge 16, 3) := by decide +kernel
theorem dX5_keepAct_14 : decode cX5_keepAct 14 = .ok (.aload_n 0, 1) := by decide +kernel
theorem dX5_keepAct_15 : decode cX5_keepAct 15 = .ok (.dup, 1) := by decide +kernel
theorem dX5_keepAct_16 : decode cX5_keepAct 16 = .ok (.getfield 38, 3) := by decide +kernel
theorem dX5_keepAct_19 : decode cX5_keepAct 19 = .ok (.iconst 1, 1) := by decide +kernel
theorem dX5_keepAct_20 : decode cX5_keepAct 20 = .ok (.iadd, 1) := by decide +kernel
theorem dX5_keepAct_21 : decode cX5_keepAct 21 = .ok (.putfield 38, 3) := by decide +kernel
theorem dX5_keepAct_24 : decode cX5_keepAct 24 = .ok (.goto 16, 3) := by decide +kernel
theorem dX5_keepAct_40 : decode cX5_keepAct 40 = .ok (.aload_n 0, 1) := by decide +kernel
theorem dX5_keepAct_41 : decode cX5_keepAct 41 = .ok (.getfield 20, 3) := by decide +kernel
theorem dX5_keepAct_44 : decode cX5_keepAct 44 = .ok (.aload_n 0, 1) := by decide +kernel
theorem dX5_keepAct_45 : decode cX5_keepAct 45 = .ok (.getfield 13, 3) := by decide +kernel
theorem dX5_keepAct_48 : decode cX5_keepAct 48 = .ok (.aload_n 0, 1) := by decide +kernel
theorem dX5_keepAct_49 : decode cX5_keepAct 49 = .ok (.getfield 35, 3) := by decide +kernel
theorem dX5_keepAct_52 : decode cX5_keepAct 52 = .ok (.aload_n 0, 1) := by decide +kernel
theorem dX5_keepAct_53 : decode cX5_keepAct 53 = .ok (.getfield 38, 3) := by decide +kernel
theorem dX5_keepAct_56 : decode cX5_keepAct 56 = .ok (.iadd, 1) := by decide +kernel
theorem dX5_keepAct_57 : decode cX5_keepAct 57 = .ok (.bipush 41, 2) := by decide +kernel
theorem dX5_keepAct_59 : decode cX5_keepAct 59 = .ok (.irem, 1) := by decide +kernel
theorem dX5_keepAct_60 : decode cX5_keepAct 60 = .ok (.invokevirtual 24, 3) := by decide +kernel
theorem dX5_keepAct_63 : decode cX5_keepAct 63 = .ok (.return_, 1) := by decide +kernel
theorem dX5_stepBack_0 : decode cX5_stepBack 0 = .ok (.aload_n 0, 1) := by decide +kernel
theorem dX5_stepBack_1 : decode cX5_stepBack 1 = .ok (.getfield 38, 3) := by decide +kernel
theorem dX5_stepBack_4 : decode cX5_stepBack 4 = .ok (.ifCond .ne 5, 3) := by decide +kernel
theorem dX5_stepBack_7 : decode cX5_stepBack 7 = .ok (.iconst 0, 1) := by decide +kernel
theorem dX5_stepBack_8 : decode cX5_stepBack 8 = .ok (.ireturn, 1) := by decide +kernel
theorem dX5_stepOn_0 : decode cX5_stepOn 0 = .ok (.aload_n 0, 1) := by decide +kernel
theorem dX5_stepOn_1 : decode cX5_stepOn 1 = .ok (.getfield 41, 3) := by decide +kernel
theorem dX5_stepOn_4 : decode cX5_stepOn 4 = .ok (.ifCond .ne 5, 3) := by decide +kernel
theorem dX5_stepOn_7 : decode cX5_stepOn 7 = .ok (.iconst 0, 1) := by decide +kernel
theorem dX5_stepOn_8 : decode cX5_stepOn 8 = .ok (.ireturn, 1) := by decide +kernel
theorem dX5_takeBox_0 : decode cX5_takeBox 0 = .ok (.iload_n 1, 1) := by decide +kernel
theorem dX5_takeBox_1 : decode cX5_takeBox 1 = .ok (.ifCond .lt 19, 3) := by decide +kernel
theorem dX5_takeBox_4 : decode cX5_takeBox 4 = .ok (.iload_n 1, 1) := by decide +kernel
theorem dX5_takeBox_5 : decode cX5_takeBox 5 = .ok (.iconst 3, 1) := by decide +kernel
theorem dX5_takeBox_6 : decode cX5_takeBox 6 = .ok (.if_icmp .ge 14, 3) := by decide +kernel
theorem dX5_takeBox_9 : decode cX5_takeBox 9 = .ok (.aload_n 0, 1) := by decide +kernel
theorem dX5_takeBox_10 : decode cX5_takeBox 10 = .ok (.getfield 28, 3) := by decide +kernel
theorem dX5_takeBox_13 : decode cX5_takeBox 13 = .ok (.iload_n 1, 1) := by decide +kernel
theorem dX5_takeBox_14 : decode cX5_takeBox 14 = .ok (.ishr, 1) := by decide +kernel
theorem dX5_takeBox_15 : decode cX5_takeBox 15 = .ok (.iconst 1, 1) := by decide +kernel
theorem dX5_takeBox_16 : decode cX5_takeBox 16 = .ok (.iand, 1) := by decide +kernel
theorem dX5_takeBox_17 : decode cX5_takeBox 17 = .ok (.ifCond .ne 5, 3) := by decide +kernel
theorem dX5_takeBox_20 : decode cX5_takeBox 20 = .ok (.iconst 0, 1) := by decide +kernel
theorem dX5_takeBox_21 : decode cX5_takeBox 21 = .ok (.ireturn, 1) := by decide +kernel
theorem dX6_init_0 : decode cX6_init 0 = .ok (.aload_n 0, 1) := by decide +kernel
theorem dX6_init_1 : decode cX6_init 1 = .ok (.invokespecial 3, 3) := by decide +kernel
theorem dX6_init_4 : decode cX6_init 4 = .ok (.aload_n 0, 1) := by decide +kernel
theorem dX6_init_5 : decode cX6_init 5 = .ok (.new 9, 3) := by decide +kernel
theorem dX6_init_8 : decode cX6_init 8 = .ok (.dup, 1) := by decide +kernel
theorem dX6_init_9 : decode cX6_init 9 = .ok (.invokespecial 11, 3) := by decide +kernel
theorem dX6_init_12 : decode cX6_init 12 = .ok (.putfield 12, 3) := by decide +kernel
theorem dX6_init_15 : decode cX6_init 15 = .ok (.aload_n 0, 1) := by decide +kernel
theorem dX6_init_16 : decode cX6_init 16 = .ok (.bipush 6, 2) := by decide +kernel
theorem dX6_init_18 : decode cX6_init 18 = .ok (.newarray .int, 2) := by decide +kernel
theorem dX6_init_20 : decode cX6_init 20 = .ok (.putfield 18, 3) := by decide +kernel
theorem dX6_init_23 : decode cX6_init 23 = .ok (.aload_n 0, 1) := by decide +kernel
theorem dX6_init_24 : decode cX6_init 24 = .ok (.bipush 6, 2) := by decide +kernel
theorem dX6_init_26 : decode cX6_init 26 = .ok (.newarray .int, 2) := by decide +kernel
theorem dX6_init_28 : decode cX6_init 28 = .ok (.putfield 22, 3) := by decide +kernel
theorem dX6_init_31 : decode cX6_init 31 = .ok (.aload_n 0, 1) := by decide +kernel
theorem dX6_init_32 : decode cX6_init 32 = .ok (.iconst (-1), 1) := by decide +kernel
theorem dX6_init_33 : decode cX6_init 33 = .ok (.putfield 25, 3) := by decide +kernel
theorem dX6_init_36 : decode cX6_init 36 = .ok (.aload_n 0, 1) := by decide +kernel
theorem dX6_init_37 : decode cX6_init 37 = .ok (.aload_n 1, 1) := by decide +kernel
theorem dX6_init_38 : decode cX6_init 38 = .ok (.putfield 29, 3) := by decide +kernel
theorem dX6_init_41 : decode cX6_init 41 = .ok (.return_, 1) := by decide +kernel
theorem dX6_read_0 : decode cX6_read 0 = .ok (.aload_n 0, 1) := by decide +kernel
theorem dX6_read_1 : decode cX6_read 1 = .ok (.getfield 12, 3) := by decide +kernel
theorem dX6_read_4 : decode cX6_read 4 = .ok (.invokevirtual 33, 3) := by decide +kernel
theorem dX6_read_7 : decode cX6_read 7 = .ok (.aload_n 0, 1) := by decide +kernel
theorem dX6_read_8 : decode cX6_read 8 = .ok (.iconst 0, 1) := by decide +kernel
theorem dX6_read_9 : decode cX6_read 9 = .ok (.putfield 36, 3) := by decide +kernel
theorem dX6_read_12 : decode cX6_read 12 = .ok (.aload_n 0, 1) := by decide +kernel
theorem dX6_read_13 : decode cX6_read 13 = .ok (.iconst 0, 1) := by decide +kernel
theorem dX6_read_14 : decode cX6_read 14 = .ok (.putfield 39, 3) := by decide +kernel
theorem dX6_read_17 : decode cX6_read 17 = .ok (.aload_n 0, 1) := by decide +kernel
theorem dX6_read_18 : decode cX6_read 18 = .ok (.iconst (-1), 1) := by decide +kernel
theorem dX6_read_19 : decode cX6_read 19 = .ok (.putfield 25, 3) := by decide +kernel
theorem dX6_read_22 : decode cX6_read 22 = .ok (.aload_n 0, 1) := by decide +kernel
theorem dX6_read_23 : decode cX6_read 23 = .ok (.getfield 29, 3) := by decide +kernel
theorem dX6_read_26 : decode cX6_read 26 = .ok (.invokevirtual 42, 3) := by decide +kernel
theorem dX6_read_29 : decode cX6_read 29 = .ok (.iconst 0, 1) := by decide +kernel
theorem dX6_read_30 : decode cX6_read 30 = .ok (.istore_n 1, 1) := by decide +kernel
theorem dX6_read_31 : decode cX6_read 31 = .ok (.iload_n 1, 1) := by decide +kernel
theorem dX6_read_32 : decode cX6_read 32 = .ok (.sipush 1600, 3) := by decide +kernel
theorem dX6_read_35 : decode cX6_read 35 = .ok (.if_icmp .ge 28, 3) := by decide +kernel
theorem dX6_read_38 : decode cX6_read 38 = .ok (.aload_n 0, 1) := by decide +kernel
theorem dX6_read_39 : decode cX6_read 39 = .ok (.getfield 29, 3) := by decide +kernel
theorem dX6_read_42 : decode cX6_read 42 = .ok (.getfield 47, 3) := by decide +kernel
theorem dX6_read_45 : decode cX6_read 45 = .ok (.ifCond .eq 18, 3) := by decide +kernel
theorem dX6_read_63 : decode cX6_read 63 = .ok (.iconst 1, 1) := by decide +kernel
theorem dX6_read_64 : decode cX6_read 64 = .ok (.ireturn, 1) := by decide +kernel
theorem dX7_clear_0 : decode cX7_clear 0 = .ok (.aload_n 0, 1) := by decide +kernel
theorem dX7_clear_1 : decode cX7_clear 1 = .ok (.iconst 0, 1) := by decide +kernel
theorem dX7_clear_2 : decode cX7_clear 2 = .ok (.putfield 28, 3) := by decide +kernel
theorem dX7_clear_5 : decode cX7_clear 5 = .ok (.aload_n 0, 1) := by decide +kernel
theorem dX7_clear_6 : decode cX7_clear 6 = .ok (.iconst 0, 1) := by decide +kernel
theorem dX7_clear_7 : decode cX7_clear 7 = .ok (.putfield 32, 3) := by decide +kernel
theorem dX7_clear_10 : decode cX7_clear 10 = .ok (.aload_n 0, 1) := by decide +kernel
theorem dX7_clear_11 : decode cX7_clear 11 = .ok (.getfield 21, 3) := by decide +kernel
theorem dX7_clear_14 : decode cX7_clear 14 = .ok (.invokevirtual 35, 3) := by decide +kernel
theorem dX7_clear_17 : decode cX7_clear 17 = .ok (.aload_n 0, 1) := by decide +kernel
theorem dX7_clear_18 : decode cX7_clear 18 = .ok (.invokevirtual 25, 3) := by decide +kernel
theorem dX7_clear_21 : decode cX7_clear 21 = .ok (.return_, 1) := by decide +kernel
theorem dX7_coatPart_0 : decode cX7_coatPart 0 = .ok (.aload_n 0, 1) := by decide +kernel
theorem dX7_coatPart_1 : decode cX7_coatPart 1 = .ok (.iload_n 2, 1) := by decide +kernel
theorem dX7_coatPart_2 : decode cX7_coatPart 2 = .ok (.invokevirtual 67, 3) := by decide +kernel
theorem dX7_coatPart_5 : decode cX7_coatPart 5 = .ok (.ifCond .eq 26, 3) := by decide +kernel
theorem dX7_coatPart_31 : decode cX7_coatPart 31 = .ok (.iconst 0, 1) := by decide +kernel
theorem dX7_coatPart_32 : decode cX7_coatPart 32 = .ok (.ireturn, 1) := by decide +kernel
theorem dX7_copy_0 : decode cX7_copy 0 = .ok (.aload_n 1, 1) := by decide +kernel
theorem dX7_copy_1 : decode cX7_copy 1 = .ok (.getfield 9, 3) := by decide +kernel
theorem dX7_copy_4 : decode cX7_copy 4 = .ok (.iconst 0, 1) := by decide +kernel
theorem dX7_copy_5 : decode cX7_copy 5 = .ok (.aload_n 0, 1) := by decide +kernel
theorem dX7_copy_6 : decode cX7_copy 6 = .ok (.getfield 9, 3) := by decide +kernel
theorem dX7_copy_9 : decode cX7_copy 9 = .ok (.iconst 0, 1) := by decide +kernel
theorem dX7_copy_10 : decode cX7_copy 10 = .ok (.aload_n 0, 1) := by decide +kernel
theorem dX7_copy_11 : decode cX7_copy 11 = .ok (.getfield 9, 3) := by decide +kernel
theorem dX7_copy_14 : decode cX7_copy 14 = .ok (.arraylength, 1) := by decide +kernel
theorem dX7_copy_15 : decode cX7_copy 15 = .ok (.invokestatic 53, 3) := by decide +kernel
theorem dX7_copy_18 : decode cX7_copy 18 = .ok (.aload_n 1, 1) := by decide +kernel
theorem dX7_copy_19 : decode cX7_copy 19 = .ok (.getfield 15, 3) := by decide +kernel
theorem dX7_copy_22 : decode cX7_copy 22 = .ok (.iconst 0, 1) := by decide +kernel
theorem dX7_copy_23 : decode cX7_copy 23 = .ok (.aload_n 0, 1) := by decide +kernel
theorem dX7_copy_24 : decode cX7_copy 24 = .ok (.getfield 15, 3) := by decide +kernel
theorem dX7_copy_27 : decode cX7_copy 27 = .ok (.iconst 0, 1) := by decide +kernel
theorem dX7_copy_28 : decode cX7_copy 28 = .ok (.aload_n 0, 1) := by decide +kernel
theorem dX7_copy_29 : decode cX7_copy 29 = .ok (.getfield 15, 3) := by decide +kernel
theorem dX7_copy_32 : decode cX7_copy 32 = .ok (.arraylength, 1) := by decide +kernel
theorem dX7_copy_33 : decode cX7_copy 33 = .ok (.invokestatic 53, 3) := by decide +kernel
theorem dX7_copy_36 : decode cX7_copy 36 = .ok (.aload_n 0, 1) := by decide +kernel
theorem dX7_copy_37 : decode cX7_copy 37 = .ok (.getfield 21, 3) := by decide +kernel
theorem dX7_copy_40 : decode cX7_copy 40 = .ok (.aload_n 1, 1) := by decide +kernel
theorem dX7_copy_41 : decode cX7_copy 41 = .ok (.getfield 21, 3) := by decide +kernel
theorem dX7_copy_44 : decode cX7_copy 44 = .ok (.invokevirtual 59, 3) := by decide +kernel
theorem dX7_copy_47 : decode cX7_copy 47 = .ok (.aload_n 0, 1) := by decide +kernel
theorem dX7_copy_48 : decode cX7_copy 48 = .ok (.aload_n 1, 1) := by decide +kernel
theorem dX7_copy_49 : decode cX7_copy 49 = .ok (.getfield 28, 3) := by decide +kernel
theorem dX7_copy_52 : decode cX7_copy 52 = .ok (.putfield 28, 3) := by decide +kernel
theorem dX7_copy_55 : decode cX7_copy 55 = .ok (.aload_n 0, 1) := by decide +kernel
theorem dX7_copy_56 : decode cX7_copy 56 = .ok (.aload_n 1, 1) := by decide +kernel
theorem dX7_copy_57 : decode cX7_copy 57 = .ok (.getfield 32, 3) := by decide +kernel
theorem dX7_copy_60 : decode cX7_copy 60 = .ok (.putfield 32, 3) := by decide +kernel
theorem dX7_copy_63 : decode cX7_copy 63 = .ok (.aload_n 0, 1) := by decide +kernel
theorem dX7_copy_64 : decode cX7_copy 64 = .ok (.aload_n 1, 1) := by decide +kernel
theorem dX7_copy_65 : decode cX7_copy 65 = .ok (.getfield 38, 3) := by decide +kernel
theorem dX7_copy_68 : decode cX7_copy 68 = .ok (.putfield 38, 3) := by decide +kernel
theorem dX7_copy_71 : decode cX7_copy 71 = .ok (.aload_n 0, 1) := by decide +kernel
theorem dX7_copy_72 : decode cX7_copy 72 = .ok (.aload_n 1, 1) := by decide +kernel
theorem dX7_copy_73 : decode cX7_copy 73 = .ok (.getfield 41, 3) := by decide +kernel
theorem dX7_copy_76 : decode cX7_copy 76 = .ok (.putfield 41, 3) := by decide +kernel
theorem dX7_copy_79 : decode cX7_copy 79 = .ok (.aload_n 0, 1) := by decide +kernel
theorem dX7_copy_80 : decode cX7_copy 80 = .ok (.aload_n 1, 1) := by decide +kernel
theorem dX7_copy_81 : decode cX7_copy 81 = .ok (.getfield 44, 3) := by decide +kernel
theorem dX7_copy_84 : decode cX7_copy 84 = .ok (.putfield 44, 3) := by decide +kernel
theorem dX7_copy_87 : decode cX7_copy 87 = .ok (.aload_n 0, 1) := by decide +kernel
theorem dX7_copy_88 : decode cX7_copy 88 = .ok (.aload_n 1, 1) := by decide +kernel
theorem dX7_copy_89 : decode cX7_copy 89 = .ok (.getfield 47, 3) := by decide +kernel
theorem dX7_copy_92 : decode cX7_copy 92 = .ok (.putfield 47, 3) := by decide +kernel
theorem dX7_copy_95 : decode cX7_copy 95 = .ok (.aload_n 0, 1) := by decide +kernel
theorem dX7_copy_96 : decode cX7_copy 96 = .ok (.aload_n 1, 1) := by decide +kernel
theorem dX7_copy_97 : decode cX7_copy 97 = .ok (.getfield 50, 3) := by decide +kernel
theorem dX7_copy_100 : decode cX7_copy 100 = .ok (.putfield 50, 3) := by decide +kernel
theorem dX7_copy_103 : decode cX7_copy 103 = .ok (.return_, 1) := by decide +kernel
theorem dX7_hasCoat_0 : decode cX7_hasCoat 0 = .ok (.iload_n 1, 1) := by decide +kernel
theorem dX7_hasCoat_1 : decode cX7_hasCoat 1 = .ok (.ifCond .lt 15, 3) := by decide +kernel
theorem dX7_hasCoat_4 : decode cX7_hasCoat 4 = .ok (.iload_n 1, 1) := by decide +kernel
theorem dX7_hasCoat_5 : decode cX7_hasCoat 5 = .ok (.aload_n 0, 1) := by decide +kernel
theorem dX7_hasCoat_6 : decode cX7_hasCoat 6 = .ok (.getfield 32, 3) := by decide +kernel
theorem dX7_hasCoat_9 : decode cX7_hasCoat 9 = .ok (.if_icmp .ge 7, 3) := by decide +kernel
theorem dX7_hasCoat_16 : decode cX7_hasCoat 16 = .ok (.iconst 0, 1) := by decide +kernel
theorem dX7_hasCoat_17 : decode cX7_hasCoat 17 = .ok (.ireturn, 1) := by decide +kernel
theorem dX7_hasMan_0 : decode cX7_hasMan 0 = .ok (.iload_n 1, 1) := by decide +kernel
theorem dX7_hasMan_1 : decode cX7_hasMan 1 = .ok (.ifCond .lt 15, 3) := by decide +kernel
theorem dX7_hasMan_4 : decode cX7_hasMan 4 = .ok (.iload_n 1, 1) := by decide +kernel
theorem dX7_hasMan_5 : decode cX7_hasMan 5 = .ok (.aload_n 0, 1) := by decide +kernel
theorem dX7_hasMan_6 : decode cX7_hasMan 6 = .ok (.getfield 28, 3) := by decide +kernel
theorem dX7_hasMan_9 : decode cX7_hasMan 9 = .ok (.if_icmp .ge 7, 3) := by decide +kernel
theorem dX7_hasMan_16 : decode cX7_hasMan 16 = .ok (.iconst 0, 1) := by decide +kernel
theorem dX7_hasMan_17 : decode cX7_hasMan 17 = .ok (.ireturn, 1) := by decide +kernel
theorem dX7_init_0 : decode cX7_init 0 = .ok (.aload_n 0, 1) := by decide +kernel
theorem dX7_init_1 : decode cX7_init 1 = .ok (.invokespecial 3, 3) := by decide +kernel
theorem dX7_init_4 : decode cX7_init 4 = .ok (.aload_n 0, 1) := by decide +kernel
theorem dX7_init_5 : decode cX7_init 5 = .ok (.bipush 18, 2) := by decide +kernel
theorem dX7_init_7 : decode cX7_init 7 = .ok (.newarray .int, 2) := by decide +kernel
theorem dX7_init_9 : decode cX7_init 9 = .ok (.putfield 9, 3) := by decide +kernel
theorem dX7_init_12 : decode cX7_init 12 = .ok (.aload_n 0, 1) := by decide +kernel
theorem dX7_init_13 : decode cX7_init 13 = .ok (.bipush 24, 2) := by decide +kernel
theorem dX7_init_15 : decode cX7_init 15 = .ok (.newarray .int, 2) := by decide +kernel
theorem dX7_init_17 : decode cX7_init 17 = .ok (.putfield 15, 3) := by decide +kernel
theorem dX7_init_20 : decode cX7_init 20 = .ok (.aload_n 0, 1) := by decide +kernel
theorem dX7_init_21 : decode cX7_init 21 = .ok (.new 18, 3) := by decide +kernel
theorem dX7_init_24 : decode cX7_init 24 = .ok (.dup, 1) := by decide +kernel
theorem dX7_init_25 : decode cX7_init 25 = .ok (.invokespecial 20, 3) := by decide +kernel
theorem dX7_init_28 : decode cX7_init 28 = .ok (.putfield 21, 3) := by decide +kernel
theorem dX7_init_31 : decode cX7_init 31 = .ok (.aload_n 0, 1) := by decide +kernel
theorem dX7_init_32 : decode cX7_init 32 = .ok (.invokevirtual 25, 3) := by decide +kernel
theorem dX7_init_35 : decode cX7_init 35 = .ok (.return_, 1) := by decide +kernel
theorem dX7_manPart_0 : decode cX7_manPart 0 = .ok (.aload_n 0, 1) := by decide +kernel
theorem dX7_manPart_1 : decode cX7_manPart 1 = .ok (.iload_n 2, 1) := by decide +kernel
theorem dX7_manPart_2 : decode cX7_manPart 2 = .ok (.invokevirtual 63, 3) := by decide +kernel
theorem dX7_manPart_5 : decode cX7_manPart 5 = .ok (.ifCond .eq 26, 3) := by decide +kernel
theorem dX7_manPart_31 : decode cX7_manPart 31 = .ok (.iconst 0, 1) := by decide +kernel
theorem dX7_manPart_32 : decode cX7_manPart 32 = .ok (.ireturn, 1) := by decide +kernel
theorem dX7_setDefaults_0 : decode cX7_setDefaults 0 = .ok (.aload_n 0, 1) := by decide +kernel
theorem dX7_setDefaults_1 : decode cX7_setDefaults 1 = .ok (.bipush 10, 2) := by decide +kernel
theorem dX7_setDefaults_3 : decode cX7_setDefaults 3 = .ok (.putfield 38, 3) := by decide +kernel
theorem dX7_setDefaults_6 : decode cX7_setDefaults 6 = .ok (.aload_n 0, 1) := by decide +kernel
theorem dX7_setDefaults_7 : decode cX7_setDefaults 7 = .ok (.sipush 150, 3) := by decide +kernel
theorem dX7_setDefaults_10 : decode cX7_setDefaults 10 = .ok (.putfield 41, 3) := by decide +kernel
theorem dX7_setDefaults_13 : decode cX7_setDefaults 13 = .ok (.aload_n 0, 1) := by decide +kernel
theorem dX7_setDefaults_14 : decode cX7_setDefaults 14 = .ok (.iconst 2, 1) := by decide +kernel
theorem dX7_setDefaults_15 : decode cX7_setDefaults 15 = .ok (.putfield 44, 3) := by decide +kernel
theorem dX7_setDefaults_18 : decode cX7_setDefaults 18 = .ok (.aload_n 0, 1) := by decide +kernel
theorem dX7_setDefaults_19 : decode cX7_setDefaults 19 = .ok (.iconst 0, 1) := by decide +kernel
theorem dX7_setDefaults_20 : decode cX7_setDefaults 20 = .ok (.putfield 47, 3) := by decide +kernel
theorem dX7_setDefaults_23 : decode cX7_setDefaults 23 = .ok (.aload_n 0, 1) := by decide +kernel
theorem dX7_setDefaults_24 : decode cX7_setDefaults 24 = .ok (.iconst 0, 1) := by decide +kernel
theorem dX7_setDefaults_25 : decode cX7_setDefaults 25 = .ok (.putfield 50, 3) := by decide +kernel
theorem dX7_setDefaults_28 : decode cX7_setDefaults 28 = .ok (.return_, 1) := by decide +kernel
theorem dX8_clear_0 : decode cX8_clear 0 = .ok (.aload_n 0, 1) := by decide +kernel
theorem dX8_clear_1 : decode cX8_clear 1 = .ok (.iconst 0, 1) := by decide +kernel
theorem dX8_clear_2 : decode cX8_clear 2 = .ok (.putfield 38, 3) := by decide +kernel
theorem dX8_clear_5 : decode cX8_clear 5 = .ok (.aload_n 0, 1) := by decide +kernel
theorem dX8_clear_6 : decode cX8_clear 6 = .ok (.getfield 25, 3) := by decide +kernel
theorem dX8_clear_9 : decode cX8_clear 9 = .ok (.iconst (-1), 1) := by decide +kernel
theorem dX8_clear_10 : decode cX8_clear 10 = .ok (.invokestatic 32, 3) := by decide +kernel
theorem dX8_clear_13 : decode cX8_clear 13 = .ok (.return_, 1) := by decide +kernel
theorem dX8_growthsAt_0 : decode cX8_growthsAt 0 = .ok (.aload_n 0, 1) := by decide +kernel
theorem dX8_growthsAt_1 : decode cX8_growthsAt 1 = .ok (.getfield 28, 3) := by decide +kernel
theorem dX8_growthsAt_4 : decode cX8_growthsAt 4 = .ok (.getfield 42, 3) := by decide +kernel
theorem dX8_growthsAt_7 : decode cX8_growthsAt 7 = .ok (.ifCond .eq 13, 3) := by decide +kernel
theorem dX8_growthsAt_20 : decode cX8_growthsAt 20 = .ok (.iconst 0, 1) := by decide +kernel
theorem dX8_growthsAt_21 : decode cX8_growthsAt 21 = .ok (.ireturn, 1) := by decide +kernel
theorem dX8_init_0 : decode cX8_init 0 = .ok (.aload_n 0, 1) := by decide +kernel
theorem dX8_init_1 : decode cX8_init 1 = .ok (.invokespecial 3, 3) := by decide +kernel
theorem dX8_init_4 : decode cX8_init 4 = .ok (.aload_n 0, 1) := by decide +kernel
theorem dX8_init_5 : decode cX8_init 5 = .ok (.bipush 30, 2) := by decide +kernel
theorem dX8_init_7 : decode cX8_init 7 = .ok (.newarray .int, 2) := by decide +kernel
theorem dX8_init_9 : decode cX8_init 9 = .ok (.putfield 11, 3) := by decide +kernel
theorem dX8_init_12 : decode cX8_init 12 = .ok (.aload_n 0, 1) := by decide +kernel
theorem dX8_init_13 : decode cX8_init 13 = .ok (.bipush 30, 2) := by decide +kernel
theorem dX8_init_15 : decode cX8_init 15 = .ok (.newarray .boolean, 2) := by decide +kernel
theorem dX8_init_17 : decode cX8_init 17 = .ok (.putfield 15, 3) := by decide +kernel
theorem dX8_init_20 : decode cX8_init 20 = .ok (.aload_n 0, 1) := by decide +kernel
theorem dX8_init_21 : decode cX8_init 21 = .ok (.bipush 30, 2) := by decide +kernel
theorem dX8_init_23 : decode cX8_init 23 = .ok (.newarray .int, 2) := by decide +kernel
theorem dX8_init_25 : decode cX8_init 25 = .ok (.putfield 19, 3) := by decide +kernel
theorem dX8_init_28 : decode cX8_init 28 = .ok (.aload_n 0, 1) := by decide +kernel
theorem dX8_init_29 : decode cX8_init 29 = .ok (.bipush 30, 2) := by decide +kernel
theorem dX8_init_31 : decode cX8_init 31 = .ok (.newarray .int, 2) := by decide +kernel
theorem dX8_init_33 : decode cX8_init 33 = .ok (.putfield 22, 3) := by decide +kernel
theorem dX8_init_36 : decode cX8_init 36 = .ok (.aload_n 0, 1) := by decide +kernel
theorem dX8_init_37 : decode cX8_init 37 = .ok (.bipush 21, 2) := by decide +kernel
theorem dX8_init_39 : decode cX8_init 39 = .ok (.newarray .int, 2) := by decide +kernel
theorem dX8_init_41 : decode cX8_init 41 = .ok (.putfield 25, 3) := by decide +kernel
theorem dX8_init_44 : decode cX8_init 44 = .ok (.aload_n 0, 1) := by decide +kernel
theorem dX8_init_45 : decode cX8_init 45 = .ok (.aload_n 1, 1) := by decide +kernel
theorem dX8_init_46 : decode cX8_init 46 = .ok (.putfield 28, 3) := by decide +kernel
theorem dX8_init_49 : decode cX8_init 49 = .ok (.aload_n 0, 1) := by decide +kernel
theorem dX8_init_50 : decode cX8_init 50 = .ok (.getfield 25, 3) := by decide +kernel
theorem dX8_init_53 : decode cX8_init 53 = .ok (.iconst (-1), 1) := by decide +kernel
theorem dX8_init_54 : decode cX8_init 54 = .ok (.invokestatic 32, 3) := by decide +kernel
theorem dX8_init_57 : decode cX8_init 57 = .ok (.return_, 1) := by decide +kernel
theorem dX8_takeBack_0 : decode cX8_takeBack 0 = .ok (.iload_n 1, 1) := by decide +kernel
theorem dX8_takeBack_1 : decode cX8_takeBack 1 = .ok (.ifCond .lt 27, 3) := by decide +kernel
theorem dX8_takeBack_4 : decode cX8_takeBack 4 = .ok (.iload_n 1, 1) := by decide +kernel
theorem dX8_takeBack_5 : decode cX8_takeBack 5 = .ok (.aload_n 0, 1) := by decide +kernel
theorem dX8_takeBack_6 : decode cX8_takeBack 6 = .ok (.getfield 38, 3) := by decide +kernel
theorem dX8_takeBack_9 : decode cX8_takeBack 9 = .ok (.if_icmp .ge 19, 3) := by decide +kernel
theorem dX8_takeBack_28 : decode cX8_takeBack 28 = .ok (.iconst 0, 1) := by decide +kernel
theorem dX8_takeBack_29 : decode cX8_takeBack 29 = .ok (.ireturn, 1) := by decide +kernel
theorem dX9_advance_0 : decode cX9_advance 0 = .ok (.aload_n 0, 1) := by decide +kernel
theorem dX9_advance_1 : decode cX9_advance 1 = .ok (.aload_n 0, 1) := by decide +kernel
theorem dX9_advance_2 : decode cX9_advance 2 = .ok (.getfield 19, 3) := by decide +kernel
theorem dX9_advance_5 : decode cX9_advance 5 = .ok (.putfield 25, 3) := by decide +kernel
theorem dX9_advance_8 : decode cX9_advance 8 = .ok (.aload_n 0, 1) := by decide +kernel
theorem dX9_advance_9 : decode cX9_advance 9 = .ok (.getfield 25, 3) := by decide +kernel
theorem dX9_advance_12 : decode cX9_advance 12 = .ok (.aload_n 0, 1) := by decide +kernel
theorem dX9_advance_13 : decode cX9_advance 13 = .ok (.getfield 15, 3) := by decide +kernel
theorem dX9_advance_16 : decode cX9_advance 16 = .ok (.if_icmp .ge 44, 3) := by decide +kernel
theorem dX9_advance_60 : decode cX9_advance 60 = .ok (.aload_n 0, 1) := by decide +kernel
theorem dX9_advance_61 : decode cX9_advance 61 = .ok (.aload_n 0, 1) := by decide +kernel
theorem dX9_advance_62 : decode cX9_advance 62 = .ok (.getfield 25, 3) := by decide +kernel
theorem dX9_advance_65 : decode cX9_advance 65 = .ok (.putfield 19, 3) := by decide +kernel
theorem dX9_advance_68 : decode cX9_advance 68 = .ok (.aload_n 0, 1) := by decide +kernel
theorem dX9_advance_69 : decode cX9_advance 69 = .ok (.getfield 25, 3) := by decide +kernel
theorem dX9_advance_72 : decode cX9_advance 72 = .ok (.aload_n 0, 1) := by decide +kernel
theorem dX9_advance_73 : decode cX9_advance 73 = .ok (.getfield 15, 3) := by decide +kernel
theorem dX9_advance_76 : decode cX9_advance 76 = .ok (.if_icmp .lt 11, 3) := by decide +kernel
theorem dX9_advance_79 : decode cX9_advance 79 = .ok (.aload_n 0, 1) := by decide +kernel
theorem dX9_advance_80 : decode cX9_advance 80 = .ok (.iconst 0, 1) := by decide +kernel
theorem dX9_advance_81 : decode cX9_advance 81 = .ok (.putfield 28, 3) := by decide +kernel
theorem dX9_advance_84 : decode cX9_advance 84 = .ok (.goto 238, 3) := by decide +kernel
theorem dX9_advance_322 : decode cX9_advance 322 = .ok (.return_, 1) := by decide +kernel
theorem dX9_append_0 : decode cX9_append 0 = .ok (.bipush 24, 2) := by decide +kernel
theorem dX9_append_2 : decode cX9_append 2 = .ok (.istore_n 2, 1) := by decide +kernel
theorem dX9_append_3 : decode cX9_append 3 = .ok (.iload_n 2, 1) := by decide +kernel
theorem dX9_append_4 : decode cX9_append 4 = .ok (.ifCond .lt 42, 3) := by decide +kernel
theorem dX9_append_7 : decode cX9_append 7 = .ok (.aload_n 0, 1) := by decide +kernel
theorem dX9_append_8 : decode cX9_append 8 = .ok (.getfield 15, 3) := by decide +kernel
theorem dX9_append_11 : decode cX9_append 11 = .ok (.sipush 1600, 3) := by decide +kernel
theorem dX9_append_14 : decode cX9_append 14 = .ok (.if_icmp .ge 32, 3) := by decide +kernel
theorem dX9_append_17 : decode cX9_append 17 = .ok (.aload_n 0, 1) := by decide +kernel
theorem dX9_append_18 : decode cX9_append 18 = .ok (.getfield 9, 3) := by decide +kernel
theorem dX9_append_21 : decode cX9_append 21 = .ok (.aload_n 0, 1) := by decide +kernel
theorem dX9_append_22 : decode cX9_append 22 = .ok (.getfield 15, 3) := by decide +kernel
theorem dX9_append_25 : decode cX9_append 25 = .ok (.iload_n 1, 1) := by decide +kernel
theorem dX9_append_26 : decode cX9_append 26 = .ok (.iload_n 2, 1) := by decide +kernel
theorem dX9_append_27 : decode cX9_append 27 = .ok (.ishr, 1) := by decide +kernel
theorem dX9_append_28 : decode cX9_append 28 = .ok (.i2b, 1) := by decide +kernel
theorem dX9_append_29 : decode cX9_append 29 = .ok (.bastore, 1) := by decide +kernel
theorem dX9_append_30 : decode cX9_append 30 = .ok (.aload_n 0, 1) := by decide +kernel
theorem dX9_append_31 : decode cX9_append 31 = .ok (.dup, 1) := by decide +kernel
theorem dX9_append_32 : decode cX9_append 32 = .ok (.getfield 15, 3) := by decide +kernel
theorem dX9_append_35 : decode cX9_append 35 = .ok (.iconst 1, 1) := by decide +kernel
theorem dX9_append_36 : decode cX9_append 36 = .ok (.iadd, 1) := by decide +kernel
theorem dX9_append_37 : decode cX9_append 37 = .ok (.putfield 15, 3) := by decide +kernel
theorem dX9_append_40 : decode cX9_append 40 = .ok (.iinc 2 (-8), 3) := by decide +kernel
theorem dX9_append_43 : decode cX9_append 43 = .ok (.goto (-40), 3) := by decide +kernel
theorem dX9_append_46 : decode cX9_append 46 = .ok (.return_, 1) := by decide +kernel
theorem dX9_hasRoom_0 : decode cX9_hasRoom 0 = .ok (.aload_n 0, 1) := by decide +kernel
theorem dX9_hasRoom_1 : decode cX9_hasRoom 1 = .ok (.getfield 15, 3) := by decide +kernel
theorem dX9_hasRoom_4 : decode cX9_hasRoom 4 = .ok (.bipush 20, 2) := by decide +kernel
theorem dX9_hasRoom_6 : decode cX9_hasRoom 6 = .ok (.iadd, 1) := by decide +kernel
theorem dX9_hasRoom_7 : decode cX9_hasRoom 7 = .ok (.sipush 1600, 3) := by decide +kernel
theorem dX9_hasRoom_10 : decode cX9_hasRoom 10 = .ok (.if_icmp .gt 7, 3) := by decide +kernel
theorem dX9_hasRoom_13 : decode cX9_hasRoom 13 = .ok (.iconst 1, 1) := by decide +kernel
theorem dX9_hasRoom_14 : decode cX9_hasRoom 14 = .ok (.goto 4, 3) := by decide +kernel
theorem dX9_hasRoom_18 : decode cX9_hasRoom 18 = .ok (.ireturn, 1) := by decide +kernel
theorem dX9_init_0 : decode cX9_init 0 = .ok (.aload_n 0, 1) := by decide +kernel
theorem dX9_init_1 : decode cX9_init 1 = .ok (.invokespecial 3, 3) := by decide +kernel
theorem dX9_init_4 : decode cX9_init 4 = .ok (.aload_n 0, 1) := by decide +kernel
theorem dX9_init_5 : decode cX9_init 5 = .ok (.sipush 1600, 3) := by decide +kernel
theorem dX9_init_8 : decode cX9_init 8 = .ok (.newarray .byte, 2) := by decide +kernel
theorem dX9_init_10 : decode cX9_init 10 = .ok (.putfield 9, 3) := by decide +kernel
theorem dX9_init_13 : decode cX9_init 13 = .ok (.return_, 1) := by decide +kernel
theorem dX9_rewind_0 : decode cX9_rewind 0 = .ok (.aload_n 0, 1) := by decide +kernel
theorem dX9_rewind_1 : decode cX9_rewind 1 = .ok (.iconst 0, 1) := by decide +kernel
theorem dX9_rewind_2 : decode cX9_rewind 2 = .ok (.putfield 19, 3) := by decide +kernel
theorem dX9_rewind_5 : decode cX9_rewind 5 = .ok (.aload_n 0, 1) := by decide +kernel
theorem dX9_rewind_6 : decode cX9_rewind 6 = .ok (.invokevirtual 22, 3) := by decide +kernel
theorem dX9_rewind_9 : decode cX9_rewind 9 = .ok (.return_, 1) := by decide +kernel
end
section
def BIG : List Cond := lw_tbl.filter goodWord
theorem mB {w : Cond} (h : w ∈ lw_tbl) (g : goodWord w = true) : w ∈ BIG := List.mem_filter.mpr ⟨h, g⟩
theorem mBl {w : Cond} (h : w ∈ BIG) : w ∈ lw_tbl := (List.mem_filter.mp h).1
theorem goodB {ws : List Cond} (h : ∀ w ∈ ws, w ∈ BIG) : GoodIn BIG ws := fun w hw => ⟨h w hw, good_of_word (List.mem_filter.mp (h w hw)).2⟩
theorem goodC {c : Cond} (h : c ∈ BIG) : GoodIn BIG (c :: BIG) := goodB (List.forall_mem_cons.mpr ⟨h, fun _ h => h⟩)
theorem goodV {own : String} {idx : Nat} {C : String} {y : MethodName} {c : Cond} (h1 : Cond.methodLink own idx y ∈ BIG) (h2 : Cond.instanceMethod y ∈ BIG) (h3 : Cond.selects C y y ∈ BIG) (h4 : Cond.initialized C ∈ BIG) (h5 : c ∈ BIG) : GoodIn BIG (wsV own idx C y (c :: BIG)) :=
  goodB (fun w hw => by
    unfold wsV at hw
    rcases List.mem_append.mp hw with h | h
    · exact List.forall_mem_cons.mpr ⟨h1, List.forall_mem_cons.mpr ⟨h2, List.forall_mem_cons.mpr ⟨h3, List.forall_mem_cons.mpr ⟨h4, fun _ h => absurd h List.not_mem_nil⟩⟩⟩⟩ w h
    · exact List.forall_mem_cons.mpr ⟨h5, fun _ h => h⟩ w h)
theorem goodS {own : String} {idx : Nat} {y : MethodName} {c : Cond} (h1 : Cond.methodLink own idx y ∈ BIG) (h2 : Cond.static y ∈ BIG) (h4 : Cond.initialized y.cls ∈ BIG) (h5 : c ∈ BIG) : GoodIn BIG (va_wsS own idx y (c :: BIG)) :=
  goodB (fun w hw => by
    unfold va_wsS at hw
    rcases List.mem_append.mp hw with h | h
    · exact List.forall_mem_cons.mpr ⟨h1, List.forall_mem_cons.mpr ⟨h2, List.forall_mem_cons.mpr ⟨h4, fun _ h => absurd h List.not_mem_nil⟩⟩⟩ w h
    · exact List.forall_mem_cons.mpr ⟨h5, fun _ h => h⟩ w h)
def isNest : Cond → Bool
  | .fieldLinkNest _ _ _ _ _ _ => true
  | .methodLinkNest _ _ _ _ => true
  | _ => false
def NST : List Cond := lw_tbl.filter isNest
def NW (U : State) : Prop := ∀ w ∈ NST, va_Nw w U
theorem mN {w : Cond} (h : w ∈ lw_tbl) (g : isNest w = true) : w ∈ NST := List.mem_filter.mpr ⟨h, g⟩
theorem NW.warm {s U : State} (hW : s.WarmedH U.vm) (h : NW s) : NW U := by
  intro w hw
  have h1 := h w hw
  have h2 := (List.mem_filter.mp hw).2
  cases w <;> first | exact va_Nw.warmF hW h1 | exact va_Nw.warmM hW h1 | (simp [isNest] at h2; done)
theorem NW.same {s U : State} (hv : s.vm = U.vm) (h : NW s) : NW U := by
  intro w hw
  have h1 := h w hw
  have h2 := (List.mem_filter.mp hw).2
  cases w <;> first | exact va_Nw.same rfl hv h1 | (simp [isNest] at h2; done)
theorem NW.of {a : Array Value} {s : State} (hts : ∀ w ∈ lw_tbl, w.before a s = true) : NW s := by
  intro w hw
  have h0 := hts w (List.mem_filter.mp hw).1
  have h2 := (List.mem_filter.mp hw).2
  cases w <;> first | exact va_Nw.of rfl h0 | (simp [isNest] at h2; done)
abbrev TYS (cy : Nat → ClassId) : List (ClassId × FieldType) := [(cy 0, .byte), (cy 1, .int), (cy 2, .long), (cy 3, .boolean)]
def ENV (D : va_G) (cy : Nat → ClassId) (U : State) : Prop := va_K D vwCl (TYS cy) U ∧ NW U
theorem ENV.warm {D : va_G} {cy : Nat → ClassId} {s U : State} (h : ENV D cy s) (hW : s.WarmedH U.vm) : ENV D cy U := ⟨va_K.moved hW.alike h.1, NW.warm hW h.2⟩
theorem ENV.same {D : va_G} {cy : Nat → ClassId} {s U : State} (h : ENV D cy s) (hv : s.vm = U.vm) : ENV D cy U := ⟨va_K.moved (by rw [hv]; exact Vm.Alike.refl _) h.1, NW.same hv h.2⟩
abbrev zF : Nat → Int32 := fun _ => 0
abbrev zL : Nat → Int64 := fun _ => 0
theorem upd_same {f : Nat → Int32} {i : Nat} {x : Int32} (h : f i = x) : upd f i x = f := by
  funext j
  unfold upd
  by_cases hj : j = i
  · rw [if_pos hj, hj, h]
  · rw [if_neg hj]
section
variable {p : Program} {l : Launch} {e : Env} {R : Room} {s : State} {m : MethodId} {args : Array Value} {below : List Frame} {meth : Method} {c : Code} {H : Heap} {locs : List Loc} {cells slots : Nat} {Q : State → Prop} {pc : Nat} {ls : Array Slot} {rest st0 : List Value} {cc : ByteArray} {D : va_G} {cy : Nat → ClassId} {A : Nat → Prop} {ws wi wr : va_W}
theorem tI {x y : Int32} (h : x = y) (k : W p l e R s m args below meth c H locs cells slots Q (F0 m pc ls (.int y :: rest))) : W p l e R s m args below meth c H locs cells slots Q (F0 m pc ls (.int x :: rest)) := by rw [h]; exact k
theorem nwB (hx : p.tables.exec = Jvm.exec) (hb : c.code = cc) (harr : (Cond.arrayClass .byte).before args s = true) (hE : ENV D cy s) (hP : va_P D vwCl ws H) (hD : va_D A ws) (hS : va_S A s.heap H locs) (hA : ∀ q, s.heap.size ≤ q → A q) {n : Int32} (N : Nat) (hn : ¬ n < 0) (hN : n.toNatClampNeg = N) (hbytes : N * componentBytes .byte ≤ 536870912) (hcells : cells + 1 ≤ R.cells) (hslots : slots + N ≤ R.slots) (hdg : decode cc pc = .ok (.newarray .byte, 2))
    (kk : ∀ (q : Nat) (H1 : Heap), va_P D vwCl (ws ++ [(q, .inl (cy 0, N, .inl zF))]) H1 → va_D A (ws ++ [(q, .inl (cy 0, N, .inl zF))]) → va_S A s.heap H1 locs → W p l e R s m args below meth c H1 locs (cells + 1) (slots + N) Q (F0 m (pc + 2) ls (.ref q :: rest))) : W p l e R s m args below meth c H locs cells slots Q (F0 m pc ls (.int n :: rest)) := by
  refine va_newa (atype := .byte) (ty := .byte) (a0 := (N, .inl zF)) hx hb harr rfl hE.1 hP hD hS hA (fun cA => rfl) hn hN hbytes hcells hslots hdg (fun q cA H1 hK' hP' hD' hS' => ?_)
  have h1 := (hK'.2 4 (cA, .byte) rfl).2
  have h2 := (hE.1.2 0 (cy 0, .byte) rfl).2
  have h3 : cA = cy 0 := Option.some.inj (h1.symm.trans h2)
  subst h3
  exact kk q H1 hP' hD' hS'
theorem nwI (hx : p.tables.exec = Jvm.exec) (hb : c.code = cc) (harr : (Cond.arrayClass .int).before args s = true) (hE : ENV D cy s) (hP : va_P D vwCl ws H) (hD : va_D A ws) (hS : va_S A s.heap H locs) (hA : ∀ q, s.heap.size ≤ q → A q) {n : Int32} (N : Nat) (hn : ¬ n < 0) (hN : n.toNatClampNeg = N) (hbytes : N * componentBytes .int ≤ 536870912) (hcells : cells + 1 ≤ R.cells) (hslots : slots + N ≤ R.slots) (hdg : decode cc pc = .ok (.newarray .int, 2))
    (kk : ∀ (q : Nat) (H1 : Heap), va_P D vwCl (ws ++ [(q, .inl (cy 1, N, .inl zF))]) H1 → va_D A (ws ++ [(q, .inl (cy 1, N, .inl zF))]) → va_S A s.heap H1 locs → W p l e R s m args below meth c H1 locs (cells + 1) (slots + N) Q (F0 m (pc + 2) ls (.ref q :: rest))) : W p l e R s m args below meth c H locs cells slots Q (F0 m pc ls (.int n :: rest)) := by
  refine va_newa (atype := .int) (ty := .int) (a0 := (N, .inl zF)) hx hb harr rfl hE.1 hP hD hS hA (fun cA => rfl) hn hN hbytes hcells hslots hdg (fun q cA H1 hK' hP' hD' hS' => ?_)
  have h1 := (hK'.2 4 (cA, .int) rfl).2
  have h2 := (hE.1.2 1 (cy 1, .int) rfl).2
  have h3 : cA = cy 1 := Option.some.inj (h1.symm.trans h2)
  subst h3
  exact kk q H1 hP' hD' hS'
theorem nwJ (hx : p.tables.exec = Jvm.exec) (hb : c.code = cc) (harr : (Cond.arrayClass .long).before args s = true) (hE : ENV D cy s) (hP : va_P D vwCl ws H) (hD : va_D A ws) (hS : va_S A s.heap H locs) (hA : ∀ q, s.heap.size ≤ q → A q) {n : Int32} (N : Nat) (hn : ¬ n < 0) (hN : n.toNatClampNeg = N) (hbytes : N * componentBytes .long ≤ 536870912) (hcells : cells + 1 ≤ R.cells) (hslots : slots + N ≤ R.slots) (hdg : decode cc pc = .ok (.newarray .long, 2))
    (kk : ∀ (q : Nat) (H1 : Heap), va_P D vwCl (ws ++ [(q, .inl (cy 2, N, .inr (.inl zL)))]) H1 → va_D A (ws ++ [(q, .inl (cy 2, N, .inr (.inl zL)))]) → va_S A s.heap H1 locs → W p l e R s m args below meth c H1 locs (cells + 1) (slots + N) Q (F0 m (pc + 2) ls (.ref q :: rest))) : W p l e R s m args below meth c H locs cells slots Q (F0 m pc ls (.int n :: rest)) := by
  refine va_newa (atype := .long) (ty := .long) (a0 := (N, .inr (.inl zL))) hx hb harr rfl hE.1 hP hD hS hA (fun cA => rfl) hn hN hbytes hcells hslots hdg (fun q cA H1 hK' hP' hD' hS' => ?_)
  have h1 := (hK'.2 4 (cA, .long) rfl).2
  have h2 := (hE.1.2 2 (cy 2, .long) rfl).2
  have h3 : cA = cy 2 := Option.some.inj (h1.symm.trans h2)
  subst h3
  exact kk q H1 hP' hD' hS'
theorem nwZ (hx : p.tables.exec = Jvm.exec) (hb : c.code = cc) (harr : (Cond.arrayClass .boolean).before args s = true) (hE : ENV D cy s) (hP : va_P D vwCl ws H) (hD : va_D A ws) (hS : va_S A s.heap H locs) (hA : ∀ q, s.heap.size ≤ q → A q) {n : Int32} (N : Nat) (hn : ¬ n < 0) (hN : n.toNatClampNeg = N) (hbytes : N * componentBytes .boolean ≤ 536870912) (hcells : cells + 1 ≤ R.cells) (hslots : slots + N ≤ R.slots) (hdg : decode cc pc = .ok (.newarray .boolean, 2))
    (kk : ∀ (q : Nat) (H1 : Heap), va_P D vwCl (ws ++ [(q, .inl (cy 3, N, .inl zF))]) H1 → va_D A (ws ++ [(q, .inl (cy 3, N, .inl zF))]) → va_S A s.heap H1 locs → W p l e R s m args below meth c H1 locs (cells + 1) (slots + N) Q (F0 m (pc + 2) ls (.ref q :: rest))) : W p l e R s m args below meth c H locs cells slots Q (F0 m pc ls (.int n :: rest)) := by
  refine va_newa (atype := .boolean) (ty := .boolean) (a0 := (N, .inl zF)) hx hb harr rfl hE.1 hP hD hS hA (fun cA => rfl) hn hN hbytes hcells hslots hdg (fun q cA H1 hK' hP' hD' hS' => ?_)
  have h1 := (hK'.2 4 (cA, .boolean) rfl).2
  have h2 := (hE.1.2 3 (cy 3, .boolean) rfl).2
  have h3 : cA = cy 3 := Option.some.inj (h1.symm.trans h2)
  subst h3
  exact kk q H1 hP' hD' hS'
end
section
variable {p : Program} {l : Launch} {e : Env} {R : Room} {s : State} {m : MethodId} {args : Array Value} {below : List Frame} {meth : Method} {c : Code} {H : Heap} {locs : List Loc} {cells slots : Nat} {Q : State → Prop} {pc : Nat} {ls : Array Slot} {rest : List Value} {cc : ByteArray} {D : va_G} {cy : Nat → ClassId} {A : Nat → Prop} {ws : va_W} {a n : Nat} {f : Nat → Int32} {i x : Int32}
theorem ldI (hx : p.tables.exec = Jvm.exec) (hb : c.code = cc) (hE : ENV D cy s) (hP : va_P D vwCl ws H) (q0 : Nat) (ha : ws[q0]? = some (a, .inl (cy 1, n, .inl f))) (hin : vp_in i n) {k : Nat} (hk : i.toNatClampNeg = k) {v : Int32} (hv : f k = v) (hdg : decode cc pc = .ok (.iaload, 1))
    (kk : W p l e R s m args below meth c H locs cells slots Q (F0 m (pc + 1) ls (.int v :: rest))) : W p l e R s m args below meth c H locs cells slots Q (F0 m pc ls (.int i :: .ref a :: rest)) := by
  subst hk
  subst hv
  exact va_iald hx hb hE.1 hP q0 1 ha rfl hin hdg kk
theorem ldB (hx : p.tables.exec = Jvm.exec) (hb : c.code = cc) (hE : ENV D cy s) (hP : va_P D vwCl ws H) (q0 : Nat) (ha : ws[q0]? = some (a, .inl (cy 0, n, .inl f))) (hin : vp_in i n) {k : Nat} (hk : i.toNatClampNeg = k) {v : Int32} (hv : f k = v) (hdg : decode cc pc = .ok (.baload, 1))
    (kk : W p l e R s m args below meth c H locs cells slots Q (F0 m (pc + 1) ls (.int v :: rest))) : W p l e R s m args below meth c H locs cells slots Q (F0 m pc ls (.int i :: .ref a :: rest)) := by
  subst hk
  subst hv
  exact va_bald hx hb hE.1 hP q0 0 ha rfl hin hdg kk
theorem ldZ (hx : p.tables.exec = Jvm.exec) (hb : c.code = cc) (hE : ENV D cy s) (hP : va_P D vwCl ws H) (q0 : Nat) (ha : ws[q0]? = some (a, .inl (cy 3, n, .inl f))) (hin : vp_in i n) {k : Nat} (hk : i.toNatClampNeg = k) {v : Int32} (hv : f k = v) (hdg : decode cc pc = .ok (.baload, 1))
    (kk : W p l e R s m args below meth c H locs cells slots Q (F0 m (pc + 1) ls (.int v :: rest))) : W p l e R s m args below meth c H locs cells slots Q (F0 m pc ls (.int i :: .ref a :: rest)) := by
  subst hk
  subst hv
  exact va_zald hx hb hE.1 hP q0 3 ha rfl hin hdg kk
theorem stI (hx : p.tables.exec = Jvm.exec) (hb : c.code = cc) (hE : ENV D cy s) (hP : va_P D vwCl ws H) (hD : va_D A ws) (hS : va_S A s.heap H locs) (q0 : Nat) (ha : ws[q0]? = some (a, .inl (cy 1, n, .inl f))) (hin : vp_in i n) {k : Nat} (hk : i.toNatClampNeg = k) (hdg : decode cc pc = .ok (.iastore, 1))
    (kk : ∀ (H1 : Heap) (locs1 : List Loc), va_P D vwCl (ws.set q0 (a, .inl (cy 1, n, .inl (upd f k x)))) H1 → va_D A (ws.set q0 (a, .inl (cy 1, n, .inl (upd f k x)))) → va_S A s.heap H1 locs1 → W p l e R s m args below meth c H1 locs1 cells slots Q (F0 m (pc + 1) ls rest)) : W p l e R s m args below meth c H locs cells slots Q (F0 m pc ls (.int x :: .int i :: .ref a :: rest)) := by
  subst hk
  exact va_iast hx hb hE.1 hP hD hS q0 1 ha rfl hin hdg kk
theorem stB (hx : p.tables.exec = Jvm.exec) (hb : c.code = cc) (hE : ENV D cy s) (hP : va_P D vwCl ws H) (hD : va_D A ws) (hS : va_S A s.heap H locs) (q0 : Nat) (ha : ws[q0]? = some (a, .inl (cy 0, n, .inl f))) (hin : vp_in i n) {k : Nat} (hk : i.toNatClampNeg = k) (hdg : decode cc pc = .ok (.bastore, 1))
    (kk : ∀ (H1 : Heap) (locs1 : List Loc), va_P D vwCl (ws.set q0 (a, .inl (cy 0, n, .inl (upd f k (vp_nar .byte x))))) H1 → va_D A (ws.set q0 (a, .inl (cy 0, n, .inl (upd f k (vp_nar .byte x))))) → va_S A s.heap H1 locs1 → W p l e R s m args below meth c H1 locs1 cells slots Q (F0 m (pc + 1) ls rest)) : W p l e R s m args below meth c H locs cells slots Q (F0 m pc ls (.int x :: .int i :: .ref a :: rest)) := by
  subst hk
  exact va_bast hx hb hE.1 hP hD hS q0 0 ha rfl hin hdg kk
theorem stZ (hx : p.tables.exec = Jvm.exec) (hb : c.code = cc) (hE : ENV D cy s) (hP : va_P D vwCl ws H) (hD : va_D A ws) (hS : va_S A s.heap H locs) (q0 : Nat) (ha : ws[q0]? = some (a, .inl (cy 3, n, .inl f))) (hin : vp_in i n) {k : Nat} (hk : i.toNatClampNeg = k) (hdg : decode cc pc = .ok (.bastore, 1))
    (kk : ∀ (H1 : Heap) (locs1 : List Loc), va_P D vwCl (ws.set q0 (a, .inl (cy 3, n, .inl (upd f k (vp_nar .boolean x))))) H1 → va_D A (ws.set q0 (a, .inl (cy 3, n, .inl (upd f k (vp_nar .boolean x))))) → va_S A s.heap H1 locs1 → W p l e R s m args below meth c H1 locs1 cells slots Q (F0 m (pc + 1) ls rest)) : W p l e R s m args below meth c H locs cells slots Q (F0 m pc ls (.int x :: .int i :: .ref a :: rest)) := by
  subst hk
  exact va_zast hx hb hE.1 hP hD hS q0 3 ha rfl hin hdg kk
theorem cpI (hx : p.tables.exec = Jvm.exec) (hb : c.code = cc) (hml : c.maxLocals = ls.size) {own : String} {index : Nat} (hown : s.vm.findClass own = some m.cls) (hlink : (Cond.methodLink own index arraycopyName).before args s = true) (hnat : (Cond.native arraycopyName).before args s = true) (hstat : (Cond.static arraycopyName).before args s = true) (hini : (Cond.initialized "java/lang/System").before args s = true)
    (hE : ENV D cy s) (hP : va_P D vwCl ws H) (hD : va_D A ws) (hS : va_S A s.heap H locs) (q0 q1 : Nat) {a0 n0 n1 : Nat} {g : Nat → Int32} (ha0 : ws[q0]? = some (a0, .inl (cy 1, n0, .inl f))) (ha1 : ws[q1]? = some (a, .inl (cy 1, n1, .inl g))) {sp dp n : Int32} {ks kd kn : Nat} (h1 : nI ks = sp) (h2 : nI kd = dp) (h3 : nI kn = n) (h4 : ks + kn ≤ n0 ∧ ks < 2 ^ 31 ∧ kd < 2 ^ 31 ∧ kn < 2 ^ 31) (h5 : kd + kn ≤ n1)
    (hframes : 1 ≤ R.frames) (hlocals : (rest.map fun v => v.category).sum + (nativeFrameWords "java/lang/System" "arraycopy" 5 + 11) ≤ R.locals) (hdg : decode cc pc = .ok (.invokestatic index, 3))
    (kk : ∀ (H1 : Heap) (locs1 : List Loc), va_P D vwCl (ws.set q1 (a, .inl (cy 1, n1, .inl (va_cpy f g ks kd kn)))) H1 → va_D A (ws.set q1 (a, .inl (cy 1, n1, .inl (va_cpy f g ks kd kn)))) → va_S A s.heap H1 locs1 → W p l e R s m args below meth c H1 locs1 cells slots Q (F0 m (pc + 3) ls rest)) : W p l e R s m args below meth c H locs cells slots Q (F0 m pc ls (.int n :: .int dp :: .ref a :: .int sp :: .ref a0 :: rest)) := by
  obtain ⟨h4, b1, b2, b3⟩ := h4
  subst h1
  subst h2
  subst h3
  refine va_copyi (ty := .int) hx hb hml hown hlink hnat hstat hini hE.1 hP hD hS q0 q1 1 1 ha0 ha1 rfl rfl rfl (nI_pos b1) (nI_pos b2) (nI_pos b3) (by rw [nI_clamp b1, nI_clamp b3]; exact h4) (by rw [nI_clamp b2, nI_clamp b3]; exact h5) (fun _ _ => rfl) hframes hlocals hdg ?_
  rw [nI_clamp b1, nI_clamp b2, nI_clamp b3]
  exact kk
end
def cF : Nat → Int32 := fun k => if 6 ≤ k ∧ k < 12 then -1 else 0
theorem cF_hi {k : Nat} (h : 12 ≤ k) : cF k = 0 := by unfold cF; rw [if_neg (by omega)]
theorem cF_mid {k : Nat} (h : 6 ≤ k ∧ k < 12) : cF k = -1 := by unfold cF; rw [if_pos h]
theorem cpy_zz (sp dp n : Nat) : va_cpy zF zF sp dp n = zF := by funext k; unfold va_cpy; split <;> rfl
theorem cpy_ss (f : Nat → Int32) (sp n : Nat) : va_cpy f f sp sp n = f := by
  funext k; unfold va_cpy; split
  · rename_i h; rw [show sp + (k - sp) = k by omega]
  · rfl
/-- the first loop of muster, behind i men -/
def muF (g : Nat → Int32) (i : Nat) : Nat → Int32 := fun k => if k < i then 0 else if 6 ≤ k ∧ k < 6 + i then -1 else g k
theorem muF_0 (g : Nat → Int32) : muF g 0 = g := by funext k; unfold muF; rw [if_neg (by omega), if_neg (by omega)]
theorem muF_s (g : Nat → Int32) (i : Nat) (hi : i < 6) : upd (upd (muF g i) i 0) (6 + i) (-1) = muF g (i + 1) := by
  funext k; unfold upd muF
  by_cases h1 : k = 6 + i
  · rw [if_pos h1, if_neg (by omega), if_pos (by omega)]
  · rw [if_neg h1]
    by_cases h2 : k = i
    · rw [if_pos h2, if_pos (by omega)]
    · rw [if_neg h2]
      by_cases h3 : k < i
      · rw [if_pos h3, if_pos (show k < i + 1 by omega)]
      · rw [if_neg h3, if_neg (show ¬ k < i + 1 by omega)]
        by_cases h4 : 6 ≤ k ∧ k < 6 + i
        · rw [if_pos h4, if_pos (show 6 ≤ k ∧ k < 6 + (i + 1) by omega)]
        · rw [if_neg h4, if_neg (show ¬ (6 ≤ k ∧ k < 6 + (i + 1)) by omega)]
theorem muF_z : muF zF 6 = cF := by
  funext k; unfold muF cF
  by_cases h : k < 6
  · rw [if_pos h, if_neg (by omega)]
  · rw [if_neg h]
theorem muF_c : muF cF 6 = cF := by
  funext k; unfold muF cF
  by_cases h : k < 6
  · rw [if_pos h, if_neg (by omega)]
  · rw [if_neg h]
    by_cases h2 : 6 ≤ k ∧ k < 12
    · rw [if_pos h2, if_pos h2]
    · rw [if_neg h2]
/-- Arrays.fill behind i places -/
def fiF (g : Nat → Int32) (v : Int32) (i : Nat) : Nat → Int32 := fun k => if k < i then v else g k
theorem fiF_0 (g : Nat → Int32) (v : Int32) : fiF g v 0 = g := by funext k; unfold fiF; rw [if_neg (by omega)]
theorem fiF_s (g : Nat → Int32) (v : Int32) (i : Nat) : upd (fiF g v i) i v = fiF g v (i + 1) := by
  funext k; unfold upd fiF
  by_cases h1 : k = i
  · rw [if_pos h1, if_pos (by omega)]
  · rw [if_neg h1]
    by_cases h2 : k < i
    · rw [if_pos h2, if_pos (by omega)]
    · rw [if_neg h2, if_neg (by omega)]
theorem fa_lt (a b : Int32) : a < b ↔ a.toInt < b.toInt := Int32.lt_iff_toInt_lt
theorem fa_le (a b : Int32) : a ≤ b ↔ a.toInt ≤ b.toInt := Int32.le_iff_toInt_le
theorem fa_eq (a b : Int32) : a = b ↔ a.toInt = b.toInt := Int32.toInt_inj.symm
/-- a contract of mine: a method that answers an int -/
def ctI (l : Launch) (D : va_G) (cy : Nat → ClassId) (y : MethodName) (cc : ByteArray) (mL : Nat) (rt : FieldType) (fr lo mc ms : Nat) (S : Type) (av : List Value) (wi : va_W) (post : Int32 → S → Prop) (wo : S → va_W) : Prop :=
  ∀ sz : Nat, Met l y (Cond.code y cc mL (some rt) :: BIG) { frames := fr, cells := mc, slots := ms, locals := lo } (va_Pc av (fun U => U.heap.size = sz ∧ va_P D vwCl wi U.heap ∧ ENV D cy U ∧ va_D (fun _ => True) wi)) (va_Qi post (fun u t => va_P D vwCl (wo u) t.heap ∧ va_D (va_A wi sz) (wo u)) (va_A wi sz)) mc ms (va_A wi sz)
/-- .. and one that answers nothing -/
def ctV (l : Launch) (D : va_G) (cy : Nat → ClassId) (y : MethodName) (cc : ByteArray) (mL : Nat) (fr lo mc ms : Nat) (S : Type) (av : List Value) (wi : va_W) (post : S → Prop) (wo : S → va_W) : Prop :=
  ∀ sz : Nat, Met l y (Cond.code y cc mL none :: BIG) { frames := fr, cells := mc, slots := ms, locals := lo } (va_Pc av (fun U => U.heap.size = sz ∧ va_P D vwCl wi U.heap ∧ ENV D cy U ∧ va_D (fun _ => True) wi)) (va_Qv post (fun u t => va_P D vwCl (wo u) t.heap ∧ va_D (va_A wi sz) (wo u)) (va_A wi sz)) mc ms (va_A wi sz)
section
variable {p : Program} {l : Launch} {e : Env} {R : Room} {s : State} {m : MethodId} {args : Array Value} {below : List Frame} {meth : Method} {c : Code} {H : Heap} {locs : List Loc} {cells slots : Nat} {Q : State → Prop} {pc : Nat} {ls : Array Slot} {rest st0 : List Value} {cc : ByteArray} {D : va_G} {cy : Nat → ClassId} {A : Nat → Prop} {ws wi wr : va_W} {mc ms : Nat} {S : Type} {wo : S → va_W}
theorem enI {rt : FieldType} {post : Int32 → S → Prop} {v : Int32} (hx : p.tables.exec = Jvm.exec) (hb : c.code = cc) (hr : meth.sig.returnType = some rt) (hlocks : meth.locks = false) (hn : narrow rt (.int v) = .int v) (u : S) (hP : va_P D vwCl (wo u) H) (hD : va_D A (wo u)) (hS : va_S A s.heap H locs) (hp : post v u) (hd : decode cc pc = .ok (.ireturn, 1)) (hc : cells ≤ mc) (hs : slots ≤ ms) :
    W p l e R s m args below meth c H locs cells slots (MQ below (va_Qi post (fun u t => va_P D vwCl (wo u) t.heap ∧ va_D A (wo u)) A) args s mc ms A) (F0 m pc ls [.int v]) :=
  W.widen hc hs (W.zret hx hb hr hn (fun t ht hW => ⟨⟨v, u, rfl, hp, by rw [ht]; exact hP, hD⟩, hS.F ht⟩) hS.2.2 hd hlocks)
theorem enV {post : S → Prop} (hx : p.tables.exec = Jvm.exec) (hb : c.code = cc) (hr : meth.sig.returnType = none) (hlocks : meth.locks = false) (u : S) (hP : va_P D vwCl (wo u) H) (hD : va_D A (wo u)) (hS : va_S A s.heap H locs) (hp : post u) (hd : decode cc pc = .ok (.return_, 1)) (hc : cells ≤ mc) (hs : slots ≤ ms) :
    W p l e R s m args below meth c H locs cells slots (MQ below (va_Qv post (fun u t => va_P D vwCl (wo u) t.heap ∧ va_D A (wo u)) A) args s mc ms A) (F0 m pc ls []) :=
  W.widen hc hs (W.vret hx hb hr (fun t ht hW => ⟨⟨u, rfl, hp, by rw [ht]; exact hP, hD⟩, hS.F ht⟩) hS.2.2 hd hlocks)
end
set_option maxHeartbeats 4000000 in
theorem ctI_of {l : Launch} {D : va_G} {cy : Nat → ClassId} {y : MethodName} {cc : ByteArray} {mL : Nat} {rt : FieldType} {fr lo mc ms : Nat} {S : Type} {av : List Value} {wi : va_W} {post : Int32 → S → Prop} {wo : S → va_W} (hy : plainName y.cls = true) (hL : (lg_sl av).length ≤ mL)
    (body : ∀ (p : Program) (e : Env) (s : State) (m : MethodId) (below : List Frame) (meth : Method) (c : Code) (A : Nat → Prop) (ls : Array Slot) (Q : State → Prop), p.tables.exec = Jvm.exec → c.code = cc → c.maxLocals = mL → (∀ w ∈ BIG, w.before av.toArray s = true) → s.vm.findClass y.cls = some m.cls → ENV D cy s → va_P D vwCl wi s.heap → va_D A wi → (∀ q, s.heap.size ≤ q → A q) → lv_has ls mL (lv_args 0 av) →
      (∀ (v : Int32) (u : S) (H : Heap) (locs : List Loc) (pc cells slots : Nat) (ls : Array Slot), narrow rt (.int v) = .int v → post v u → va_P D vwCl (wo u) H → va_D A (wo u) → va_S A s.heap H locs → decode cc pc = .ok (.ireturn, 1) → cells ≤ mc → slots ≤ ms → W p l e { frames := fr, cells := mc, slots := ms, locals := lo } s m av.toArray below meth c H locs cells slots Q (F0 m pc ls [.int v])) →
      W p l e { frames := fr, cells := mc, slots := ms, locals := lo } s m av.toArray below meth c s.heap [] 0 0 Q (F0 m 0 ls [])) : ctI l D cy y cc mL rt fr lo mc ms S av wi post wo := by
  intro sz
  refine Met.ofW (cc := cc) (maxL := mL) (ret := some rt) hy rfl ?_
  intro p e s m args below meth c s₁ B hml hv
  obtain ⟨rfl, hsz, hP, hE, hD0⟩ := hv
  have hts := atoms_spec (ws := Cond.code y cc mL (some rt) :: BIG) B.pre
  subst hsz
  have hD := hD0.self (sz := s.heap.size)
  have hl := lv_entry av (n := mL) hL
  rw [lg_entry_eq]
  exact body p e s m below meth c _ _ _ B.exec B.bytes hml (fun w h => hts w (List.mem_cons_of_mem _ h)) (findClass_of_methodNamed B.named) hE hP hD (fun q h => Or.inr h) hl (fun v u H locs pc cells slots ls hn hp hP hD hS hd hc hs => enI B.exec B.bytes B.returns B.notSynchronized hn u hP hD hS hp hd hc hs)
set_option maxHeartbeats 4000000 in
theorem ctV_of {l : Launch} {D : va_G} {cy : Nat → ClassId} {y : MethodName} {cc : ByteArray} {mL : Nat} {fr lo mc ms : Nat} {S : Type} {av : List Value} {wi : va_W} {post : S → Prop} {wo : S → va_W} (hy : plainName y.cls = true) (hL : (lg_sl av).length ≤ mL)
    (body : ∀ (p : Program) (e : Env) (s : State) (m : MethodId) (below : List Frame) (meth : Method) (c : Code) (A : Nat → Prop) (ls : Array Slot) (Q : State → Prop), p.tables.exec = Jvm.exec → c.code = cc → c.maxLocals = mL → (∀ w ∈ BIG, w.before av.toArray s = true) → s.vm.findClass y.cls = some m.cls → meth.name = y.name → ENV D cy s → va_P D vwCl wi s.heap → va_D A wi → (∀ q, s.heap.size ≤ q → A q) → lv_has ls mL (lv_args 0 av) →
      (∀ (u : S) (H : Heap) (locs : List Loc) (pc cells slots : Nat) (ls : Array Slot), post u → va_P D vwCl (wo u) H → va_D A (wo u) → va_S A s.heap H locs → decode cc pc = .ok (.return_, 1) → cells ≤ mc → slots ≤ ms → W p l e { frames := fr, cells := mc, slots := ms, locals := lo } s m av.toArray below meth c H locs cells slots Q (F0 m pc ls [])) →
      W p l e { frames := fr, cells := mc, slots := ms, locals := lo } s m av.toArray below meth c s.heap [] 0 0 Q (F0 m 0 ls [])) : ctV l D cy y cc mL fr lo mc ms S av wi post wo := by
  intro sz
  refine Met.ofW (cc := cc) (maxL := mL) (ret := none) hy rfl ?_
  intro p e s m args below meth c s₁ B hml hv
  obtain ⟨rfl, hsz, hP, hE, hD0⟩ := hv
  have hts := atoms_spec (ws := Cond.code y cc mL none :: BIG) B.pre
  subst hsz
  have hD := hD0.self (sz := s.heap.size)
  have hl := lv_entry av (n := mL) hL
  rw [lg_entry_eq]
  exact body p e s m below meth c _ _ _ B.exec B.bytes hml (fun w h => hts w (List.mem_cons_of_mem _ h)) (findClass_of_methodNamed B.named) (name_of_methodNamed B.named B.method).1 hE hP hD (fun q h => Or.inr h) hl (fun u H locs pc cells slots ls hp hP hD hS hd hc hs => enV B.exec B.bytes B.returns B.notSynchronized u hP hD hS hp hd hc hs)
section
variable {p : Program} {l : Launch} {e : Env} {R : Room} {s : State} {m : MethodId} {args : Array Value} {below : List Frame} {meth : Method} {c : Code} {H : Heap} {locs : List Loc} {cells slots : Nat} {Q : State → Prop} {pc : Nat} {ls : Array Slot} {rest st0 : List Value} {cc : ByteArray} {D : va_G} {cy : Nat → ClassId} {A : Nat → Prop} {ws wi wr : va_W} {mc ms : Nat} {S : Type} {wo : S → va_W}
  {y : MethodName} {bytes : ByteArray} {maxL nL index n fr lo : Nat} {rt : FieldType} {As : List Value} {own C : String} {b : Nat}
set_option maxHeartbeats 4000000 in
/-- invokevirtual, an int -/
theorem caVi {post : Int32 → S → Prop} {T : u_T} {N : Nat} {fs : List Value} (hx : p.tables.exec = Jvm.exec) (hb : c.code = cc) (hml : c.maxLocals = nL) (hown : s.vm.findClass own = some m.cls) (hts : ∀ w ∈ BIG, w.before args s = true) (hE : ENV D cy s) (hP : va_P D vwCl ws H) (hD : va_D A ws) (hS : va_S A s.heap H locs) (hA : ∀ q, s.heap.size ≤ q → A q)
    (hM : ctI l D cy y bytes maxL rt fr lo mc ms S (.ref b :: As) wi post wo)
    (h1 : Cond.methodLink own index y ∈ BIG) (h2 : Cond.instanceMethod y ∈ BIG) (h3 : Cond.selects C y y ∈ BIG) (h4 : Cond.initialized C ∈ BIG) (h5 : Cond.code y bytes maxL (some rt) ∈ BIG)
    (hd : y.cls = C ∧ y.cls ≠ "java/lang/invoke/MethodHandle" ∧ y.cls ≠ "java/lang/invoke/VarHandle" ∧ (parseMethodDescriptor y.desc).map (fun d => d.parameters.length) = some n) (hR : fr + 1 ≤ R.frames ∧ 8 + (maxL + 11) + lo ≤ R.locals)
    (isC isR : List Nat) (hC1 : isC.filterMap (fun i => ws[i]?) = wi) (hC : isC.map (fun i => ws[i]?) = wi.map some) (hRR : isR.map (fun i => ws[i]?) = wr.map some) (hnC : va_nd isC = true) (hnR : va_nd isR = true) (hdis : ∀ i ∈ isR, i ∉ isC)
    (q0 ci : Nat) (hc : vwCl[ci]? = some (C, T, N)) (he : wi[q0]? = some (b, .inr (ci, fs))) (hn : As.length = n) (hz : ls.size = nL) (hst : st0 = As.reverse ++ .ref b :: rest) (hW : (rest.map fun v => v.category).sum ≤ 8) (hdg : decode cc pc = .ok (.invokevirtual index, 3)) (hcs : cells + mc ≤ R.cells ∧ slots + ms ≤ R.slots)
    (kk : ∀ (r : Int32) (u : S) (H1 : Heap) (locs1 : List Loc), post r u → va_P D vwCl (wr ++ wo u) H1 → va_D A (wr ++ wo u) → va_S A s.heap H1 locs1 → W p l e R s m args below meth c H1 locs1 (cells + mc) (slots + ms) Q (F0 m (pc + 3) ls (.int r :: rest))) : W p l e R s m args below meth c H locs cells slots Q (F0 m pc ls st0) := by
  have hPc := hP.sub (ws' := wi) isC hC1
  have hDc := hD.sub (ws' := wi) isC hnC hC
  have hFc := va_free (wc := wi) hD hS hA isC hC
  refine va_calli (va_runV (C := C) (As := As) (rest := rest) ⟨hx, hb, hml, hown, hts⟩ (hM H.size) (cwV n hts (goodV h1 h2 h3 h4 h5) rfl rfl rfl hd hR) ⟨fun a U g mk q => by obtain ⟨q0, q1, qP, qE, qD⟩ := q; exact ⟨q0, q1, qP, qE.same rfl, qD⟩, va_recv hE.1 hPc hc he, fun U hU hW => ⟨rfl, by rw [hU], by rw [hU]; exact hPc, hE.warm hW, hDc.weaken (fun _ _ _ _ => trivial)⟩⟩ rfl hn hz hst (lv_room hW) hdg hcs) hS (fun q _ h => hFc q h) hFc (fun r u t H1 locs1 ht hvm hw hB hz1 hk1 hS1 => ?_)
  obtain ⟨hP1, hD1⟩ := hB
  rw [ht] at hP1
  obtain ⟨hPj, hDj⟩ := va_join (wr := wr) (w1 := wo u) hP hD isC isR hC hRR hnR hdis hk1 hFc hP1 hD1
  exact kk r u H1 locs1 hw hPj hDj hS1
set_option maxHeartbeats 4000000 in
/-- invokevirtual, nothing -/
theorem caVv {post : S → Prop} {T : u_T} {N : Nat} {fs : List Value} (hx : p.tables.exec = Jvm.exec) (hb : c.code = cc) (hml : c.maxLocals = nL) (hown : s.vm.findClass own = some m.cls) (hts : ∀ w ∈ BIG, w.before args s = true) (hE : ENV D cy s) (hP : va_P D vwCl ws H) (hD : va_D A ws) (hS : va_S A s.heap H locs) (hA : ∀ q, s.heap.size ≤ q → A q)
    (hM : ctV l D cy y bytes maxL fr lo mc ms S (.ref b :: As) wi post wo)
    (h1 : Cond.methodLink own index y ∈ BIG) (h2 : Cond.instanceMethod y ∈ BIG) (h3 : Cond.selects C y y ∈ BIG) (h4 : Cond.initialized C ∈ BIG) (h5 : Cond.code y bytes maxL none ∈ BIG)
    (hd : y.cls = C ∧ y.cls ≠ "java/lang/invoke/MethodHandle" ∧ y.cls ≠ "java/lang/invoke/VarHandle" ∧ (parseMethodDescriptor y.desc).map (fun d => d.parameters.length) = some n) (hR : fr + 1 ≤ R.frames ∧ 8 + (maxL + 11) + lo ≤ R.locals)
    (isC isR : List Nat) (hC1 : isC.filterMap (fun i => ws[i]?) = wi) (hC : isC.map (fun i => ws[i]?) = wi.map some) (hRR : isR.map (fun i => ws[i]?) = wr.map some) (hnC : va_nd isC = true) (hnR : va_nd isR = true) (hdis : ∀ i ∈ isR, i ∉ isC)
    (q0 ci : Nat) (hc : vwCl[ci]? = some (C, T, N)) (he : wi[q0]? = some (b, .inr (ci, fs))) (hn : As.length = n) (hz : ls.size = nL) (hst : st0 = As.reverse ++ .ref b :: rest) (hW : (rest.map fun v => v.category).sum ≤ 8) (hdg : decode cc pc = .ok (.invokevirtual index, 3)) (hcs : cells + mc ≤ R.cells ∧ slots + ms ≤ R.slots)
    (kk : ∀ (u : S) (H1 : Heap) (locs1 : List Loc), post u → va_P D vwCl (wr ++ wo u) H1 → va_D A (wr ++ wo u) → va_S A s.heap H1 locs1 → W p l e R s m args below meth c H1 locs1 (cells + mc) (slots + ms) Q (F0 m (pc + 3) ls rest)) : W p l e R s m args below meth c H locs cells slots Q (F0 m pc ls st0) := by
  have hPc := hP.sub (ws' := wi) isC hC1
  have hDc := hD.sub (ws' := wi) isC hnC hC
  have hFc := va_free (wc := wi) hD hS hA isC hC
  refine va_callv (va_runV (C := C) (As := As) (rest := rest) ⟨hx, hb, hml, hown, hts⟩ (hM H.size) (cwV n hts (goodV h1 h2 h3 h4 h5) rfl rfl rfl hd hR) ⟨fun a U g mk q => by obtain ⟨q0, q1, qP, qE, qD⟩ := q; exact ⟨q0, q1, qP, qE.same rfl, qD⟩, va_recv hE.1 hPc hc he, fun U hU hW => ⟨rfl, by rw [hU], by rw [hU]; exact hPc, hE.warm hW, hDc.weaken (fun _ _ _ _ => trivial)⟩⟩ rfl hn hz hst (lv_room hW) hdg hcs) hS (fun q _ h => hFc q h) hFc (fun u t H1 locs1 ht hvm hw hB hz1 hk1 hS1 => ?_)
  obtain ⟨hP1, hD1⟩ := hB
  rw [ht] at hP1
  obtain ⟨hPj, hDj⟩ := va_join (wr := wr) (w1 := wo u) hP hD isC isR hC hRR hnR hdis hk1 hFc hP1 hD1
  exact kk u H1 locs1 hw hPj hDj hS1
set_option maxHeartbeats 4000000 in
/-- invokestatic, an int -/
theorem caSi {post : Int32 → S → Prop} (hx : p.tables.exec = Jvm.exec) (hb : c.code = cc) (hml : c.maxLocals = nL) (hown : s.vm.findClass own = some m.cls) (hts : ∀ w ∈ BIG, w.before args s = true) (hE : ENV D cy s) (hP : va_P D vwCl ws H) (hD : va_D A ws) (hS : va_S A s.heap H locs) (hA : ∀ q, s.heap.size ≤ q → A q)
    (hM : ctI l D cy y bytes maxL rt fr lo mc ms S As wi post wo)
    (h1 : Cond.methodLink own index y ∈ BIG) (h2 : Cond.static y ∈ BIG) (h4 : Cond.initialized y.cls ∈ BIG) (h5 : Cond.code y bytes maxL (some rt) ∈ BIG)
    (hd : y.cls ≠ "java/lang/invoke/MethodHandle" ∧ y.cls ≠ "java/lang/invoke/VarHandle" ∧ (parseMethodDescriptor y.desc).map (fun d => d.parameters.length) = some n) (hR : fr + 1 ≤ R.frames ∧ 8 + (maxL + 11) + lo ≤ R.locals)
    (isC isR : List Nat) (hC1 : isC.filterMap (fun i => ws[i]?) = wi) (hC : isC.map (fun i => ws[i]?) = wi.map some) (hRR : isR.map (fun i => ws[i]?) = wr.map some) (hnC : va_nd isC = true) (hnR : va_nd isR = true) (hdis : ∀ i ∈ isR, i ∉ isC)
    (hn : As.length = n) (hz : ls.size = nL) (hst : st0 = As.reverse ++ rest) (hW : (rest.map fun v => v.category).sum ≤ 8) (hdg : decode cc pc = .ok (.invokestatic index, 3)) (hcs : cells + mc ≤ R.cells ∧ slots + ms ≤ R.slots)
    (kk : ∀ (r : Int32) (u : S) (H1 : Heap) (locs1 : List Loc), post r u → va_P D vwCl (wr ++ wo u) H1 → va_D A (wr ++ wo u) → va_S A s.heap H1 locs1 → W p l e R s m args below meth c H1 locs1 (cells + mc) (slots + ms) Q (F0 m (pc + 3) ls (.int r :: rest))) : W p l e R s m args below meth c H locs cells slots Q (F0 m pc ls st0) := by
  have hPc := hP.sub (ws' := wi) isC hC1
  have hDc := hD.sub (ws' := wi) isC hnC hC
  have hFc := va_free (wc := wi) hD hS hA isC hC
  refine va_calli (va_runS (As := As) (rest := rest) ⟨hx, hb, hml, hown, hts⟩ (hM H.size) (va_cwS n hts (goodS h1 h2 h4 h5) rfl rfl rfl hd hR) ⟨fun a U g mk q => by obtain ⟨q0, q1, qP, qE, qD⟩ := q; exact ⟨q0, q1, qP, qE.same rfl, qD⟩, fun U hU hW => ⟨rfl, by rw [hU], by rw [hU]; exact hPc, hE.warm hW, hDc.weaken (fun _ _ _ _ => trivial)⟩⟩ rfl hn hz hst (lv_room hW) hdg hcs) hS (fun q _ h => hFc q h) hFc (fun r u t H1 locs1 ht hvm hw hB hz1 hk1 hS1 => ?_)
  obtain ⟨hP1, hD1⟩ := hB
  rw [ht] at hP1
  obtain ⟨hPj, hDj⟩ := va_join (wr := wr) (w1 := wo u) hP hD isC isR hC hRR hnR hdis hk1 hFc hP1 hD1
  exact kk r u H1 locs1 hw hPj hDj hS1
set_option maxHeartbeats 4000000 in
/-- invokestatic, nothing -/
theorem caSv {post : S → Prop} (hx : p.tables.exec = Jvm.exec) (hb : c.code = cc) (hml : c.maxLocals = nL) (hown : s.vm.findClass own = some m.cls) (hts : ∀ w ∈ BIG, w.before args s = true) (hE : ENV D cy s) (hP : va_P D vwCl ws H) (hD : va_D A ws) (hS : va_S A s.heap H locs) (hA : ∀ q, s.heap.size ≤ q → A q)
    (hM : ctV l D cy y bytes maxL fr lo mc ms S As wi post wo)
    (h1 : Cond.methodLink own index y ∈ BIG) (h2 : Cond.static y ∈ BIG) (h4 : Cond.initialized y.cls ∈ BIG) (h5 : Cond.code y bytes maxL none ∈ BIG)
    (hd : y.cls ≠ "java/lang/invoke/MethodHandle" ∧ y.cls ≠ "java/lang/invoke/VarHandle" ∧ (parseMethodDescriptor y.desc).map (fun d => d.parameters.length) = some n) (hR : fr + 1 ≤ R.frames ∧ 8 + (maxL + 11) + lo ≤ R.locals)
    (isC isR : List Nat) (hC1 : isC.filterMap (fun i => ws[i]?) = wi) (hC : isC.map (fun i => ws[i]?) = wi.map some) (hRR : isR.map (fun i => ws[i]?) = wr.map some) (hnC : va_nd isC = true) (hnR : va_nd isR = true) (hdis : ∀ i ∈ isR, i ∉ isC)
    (hn : As.length = n) (hz : ls.size = nL) (hst : st0 = As.reverse ++ rest) (hW : (rest.map fun v => v.category).sum ≤ 8) (hdg : decode cc pc = .ok (.invokestatic index, 3)) (hcs : cells + mc ≤ R.cells ∧ slots + ms ≤ R.slots)
    (kk : ∀ (u : S) (H1 : Heap) (locs1 : List Loc), post u → va_P D vwCl (wr ++ wo u) H1 → va_D A (wr ++ wo u) → va_S A s.heap H1 locs1 → W p l e R s m args below meth c H1 locs1 (cells + mc) (slots + ms) Q (F0 m (pc + 3) ls rest)) : W p l e R s m args below meth c H locs cells slots Q (F0 m pc ls st0) := by
  have hPc := hP.sub (ws' := wi) isC hC1
  have hDc := hD.sub (ws' := wi) isC hnC hC
  have hFc := va_free (wc := wi) hD hS hA isC hC
  refine va_callv (va_runS (As := As) (rest := rest) ⟨hx, hb, hml, hown, hts⟩ (hM H.size) (va_cwS n hts (goodS h1 h2 h4 h5) rfl rfl rfl hd hR) ⟨fun a U g mk q => by obtain ⟨q0, q1, qP, qE, qD⟩ := q; exact ⟨q0, q1, qP, qE.same rfl, qD⟩, fun U hU hW => ⟨rfl, by rw [hU], by rw [hU]; exact hPc, hE.warm hW, hDc.weaken (fun _ _ _ _ => trivial)⟩⟩ rfl hn hz hst (lv_room hW) hdg hcs) hS (fun q _ h => hFc q h) hFc (fun u t H1 locs1 ht hvm hw hB hz1 hk1 hS1 => ?_)
  obtain ⟨hP1, hD1⟩ := hB
  rw [ht] at hP1
  obtain ⟨hPj, hDj⟩ := va_join (wr := wr) (w1 := wo u) hP hD isC isR hC hRR hnR hdis hk1 hFc hP1 hD1
  exact kk u H1 locs1 hw hPj hDj hS1
set_option maxHeartbeats 4000000 in
/-- a constructor -/
theorem caI {post : S → Prop} (hx : p.tables.exec = Jvm.exec) (hb : c.code = cc) (hml : c.maxLocals = nL) (hown : s.vm.findClass own = some m.cls) (hts : ∀ w ∈ BIG, w.before args s = true) (hE : ENV D cy s) (hP : va_P D vwCl ws H) (hD : va_D A ws) (hS : va_S A s.heap H locs) (hA : ∀ q, s.heap.size ≤ q → A q)
    (hM : ctV l D cy y bytes maxL fr lo mc ms S (.ref b :: As) wi post wo)
    (h1 : Cond.methodLink own index y ∈ BIG) (h2 : Cond.instanceMethod y ∈ BIG) (h4 : Cond.initialized y.cls ∈ BIG) (h5 : Cond.code y bytes maxL none ∈ BIG) (hy1 : y.name = "<init>")
    (hd : y.cls ≠ "java/lang/invoke/MethodHandle" ∧ y.cls ≠ "java/lang/invoke/VarHandle" ∧ (parseMethodDescriptor y.desc).map (fun d => d.parameters.length) = some n) (hR : fr + 1 ≤ R.frames ∧ 8 + (maxL + 11) + lo ≤ R.locals)
    (isC isR : List Nat) (hC1 : isC.filterMap (fun i => ws[i]?) = wi) (hC : isC.map (fun i => ws[i]?) = wi.map some) (hRR : isR.map (fun i => ws[i]?) = wr.map some) (hnC : va_nd isC = true) (hnR : va_nd isR = true) (hdis : ∀ i ∈ isR, i ∉ isC)
    (hn : As.length = n) (hz : ls.size = nL) (hst : st0 = As.reverse ++ .ref b :: rest) (hW : (rest.map fun v => v.category).sum ≤ 8) (hdg : decode cc pc = .ok (.invokespecial index, 3)) (hcs : cells + mc ≤ R.cells ∧ slots + ms ≤ R.slots)
    (kk : ∀ (u : S) (H1 : Heap) (locs1 : List Loc), post u → va_P D vwCl (wr ++ wo u) H1 → va_D A (wr ++ wo u) → va_S A s.heap H1 locs1 → W p l e R s m args below meth c H1 locs1 (cells + mc) (slots + ms) Q (F0 m (pc + 3) ls rest)) : W p l e R s m args below meth c H locs cells slots Q (F0 m pc ls st0) := by
  have hPc := hP.sub (ws' := wi) isC hC1
  have hDc := hD.sub (ws' := wi) isC hnC hC
  have hFc := va_free (wc := wi) hD hS hA isC hC
  refine va_callv (va_runI (As := As) (rest := rest) ⟨hx, hb, hml, hown, hts⟩ (hM H.size) (cwI n hts (goodC h5) rfl rfl rfl (hts _ h4) (hts _ h1) (hts _ h2) hy1 hd hR) ⟨fun a U g mk q => by obtain ⟨q0, q1, qP, qE, qD⟩ := q; exact ⟨q0, q1, qP, qE.same rfl, qD⟩, fun U hU hW => ⟨rfl, by rw [hU], by rw [hU]; exact hPc, hE.warm hW, hDc.weaken (fun _ _ _ _ => trivial)⟩⟩ rfl hn hz hst (lv_room hW) hdg hcs) hS (fun q _ h => hFc q h) hFc (fun u t H1 locs1 ht hvm hw hB hz1 hk1 hS1 => ?_)
  obtain ⟨hP1, hD1⟩ := hB
  rw [ht] at hP1
  obtain ⟨hPj, hDj⟩ := va_join (wr := wr) (w1 := wo u) hP hD isC isR hC hRR hnR hdis hk1 hFc hP1 hD1
  exact kk u H1 locs1 hw hPj hDj hS1
set_option maxHeartbeats 4000000 in
/-- a nest mate's private constructor -/
theorem caIN {post : S → Prop} {host : String} (hx : p.tables.exec = Jvm.exec) (hb : c.code = cc) (hml : c.maxLocals = nL) (hown : s.vm.findClass own = some m.cls) (hts : ∀ w ∈ BIG, w.before args s = true) (hE : ENV D cy s) (hP : va_P D vwCl ws H) (hD : va_D A ws) (hS : va_S A s.heap H locs) (hA : ∀ q, s.heap.size ≤ q → A q)
    (hM : ctV l D cy y bytes maxL fr lo mc ms S (.ref b :: As) wi post wo)
    (h1 : Cond.methodLinkNest own index y host ∈ NST) (h2 : Cond.instanceMethod y ∈ BIG) (h4 : Cond.initialized y.cls ∈ BIG) (h5 : Cond.code y bytes maxL none ∈ BIG) (hy1 : y.name = "<init>")
    (hd : y.cls ≠ "java/lang/invoke/MethodHandle" ∧ y.cls ≠ "java/lang/invoke/VarHandle" ∧ (parseMethodDescriptor y.desc).map (fun d => d.parameters.length) = some n) (hR : fr + 1 ≤ R.frames ∧ 8 + (maxL + 11) + lo ≤ R.locals)
    (isC isR : List Nat) (hC1 : isC.filterMap (fun i => ws[i]?) = wi) (hC : isC.map (fun i => ws[i]?) = wi.map some) (hRR : isR.map (fun i => ws[i]?) = wr.map some) (hnC : va_nd isC = true) (hnR : va_nd isR = true) (hdis : ∀ i ∈ isR, i ∉ isC)
    (hn : As.length = n) (hz : ls.size = nL) (hst : st0 = As.reverse ++ .ref b :: rest) (hW : (rest.map fun v => v.category).sum ≤ 8) (hdg : decode cc pc = .ok (.invokespecial index, 3)) (hcs : cells + mc ≤ R.cells ∧ slots + ms ≤ R.slots)
    (kk : ∀ (u : S) (H1 : Heap) (locs1 : List Loc), post u → va_P D vwCl (wr ++ wo u) H1 → va_D A (wr ++ wo u) → va_S A s.heap H1 locs1 → W p l e R s m args below meth c H1 locs1 (cells + mc) (slots + ms) Q (F0 m (pc + 3) ls rest)) : W p l e R s m args below meth c H locs cells slots Q (F0 m pc ls st0) := by
  have hPc := hP.sub (ws' := wi) isC hC1
  have hDc := hD.sub (ws' := wi) isC hnC hC
  have hFc := va_free (wc := wi) hD hS hA isC hC
  refine va_callv (va_runIN (As := As) (rest := rest) ⟨hx, hb, hml, hown, hts⟩ (hM H.size) ⟨va_cnB n hts (goodC h5) rfl rfl rfl (hE.2 _ h1) (hts _ h4) hd hR, hy1, hts _ h2⟩ ⟨fun a U g mk q => by obtain ⟨q0, q1, qP, qE, qD⟩ := q; exact ⟨q0, q1, qP, qE.same rfl, qD⟩, fun U hU hW => ⟨rfl, by rw [hU], by rw [hU]; exact hPc, hE.warm hW, hDc.weaken (fun _ _ _ _ => trivial)⟩⟩ rfl hn hz hst (lv_room hW) hdg hcs) hS (fun q _ h => hFc q h) hFc (fun u t H1 locs1 ht hvm hw hB hz1 hk1 hS1 => ?_)
  obtain ⟨hP1, hD1⟩ := hB
  rw [ht] at hP1
  obtain ⟨hPj, hDj⟩ := va_join (wr := wr) (w1 := wo u) hP hD isC isR hC hRR hnR hdis hk1 hFc hP1 hD1
  exact kk u H1 locs1 hw hPj hDj hS1
end
end
section
set_option maxRecDepth 20000 in
theorem inB_0 : ∀ w ∈ u_ws RX0 TX0 8, w ∈ BIG := fun w h => mB ((goodIn_r (big := lw_tbl) (u_ws RX0 TX0 8) [441, 443, 445, 447, 449, 451, 453, 455] (by decide +kernel) (by decide +kernel)) w h).1 (List.all_eq_true.mp (show (u_ws RX0 TX0 8).all goodWord = true from by decide +kernel) w h)
set_option maxRecDepth 20000 in
theorem inB_1 : ∀ w ∈ u_ws RX1 TX1 2, w ∈ BIG := fun w h => mB ((goodIn_r (big := lw_tbl) (u_ws RX1 TX1 2) [320, 322] (by decide +kernel) (by decide +kernel)) w h).1 (List.all_eq_true.mp (show (u_ws RX1 TX1 2).all goodWord = true from by decide +kernel) w h)
set_option maxRecDepth 20000 in
theorem inB_2 : ∀ w ∈ u_ws RX2 TX2 3, w ∈ BIG := fun w h => mB ((goodIn_r (big := lw_tbl) (u_ws RX2 TX2 3) [417, 419, 421] (by decide +kernel) (by decide +kernel)) w h).1 (List.all_eq_true.mp (show (u_ws RX2 TX2 3).all goodWord = true from by decide +kernel) w h)
set_option maxRecDepth 20000 in
theorem inB_3 : ∀ w ∈ u_ws RX3 TX3 10, w ∈ BIG := fun w h => mB ((goodIn_r (big := lw_tbl) (u_ws RX3 TX3 10) [387, 389, 391, 393, 395, 397, 399, 401, 403, 405] (by decide +kernel) (by decide +kernel)) w h).1 (List.all_eq_true.mp (show (u_ws RX3 TX3 10).all goodWord = true from by decide +kernel) w h)
set_option maxRecDepth 20000 in
theorem inB_4 : ∀ w ∈ u_ws RX4 TX4 6, w ∈ BIG := fun w h => mB ((goodIn_r (big := lw_tbl) (u_ws RX4 TX4 6) [186, 188, 190, 192, 194, 196] (by decide +kernel) (by decide +kernel)) w h).1 (List.all_eq_true.mp (show (u_ws RX4 TX4 6).all goodWord = true from by decide +kernel) w h)
set_option maxRecDepth 20000 in
theorem inB_5 : ∀ w ∈ u_ws RX5 TX5 7, w ∈ BIG := fun w h => mB ((goodIn_r (big := lw_tbl) (u_ws RX5 TX5 7) [347, 349, 351, 353, 355, 357, 359] (by decide +kernel) (by decide +kernel)) w h).1 (List.all_eq_true.mp (show (u_ws RX5 TX5 7).all goodWord = true from by decide +kernel) w h)
set_option maxRecDepth 20000 in
theorem inB_6 : ∀ w ∈ u_ws RX6 TX6 7, w ∈ BIG := fun w h => mB ((goodIn_r (big := lw_tbl) (u_ws RX6 TX6 7) [275, 277, 279, 281, 283, 285, 287] (by decide +kernel) (by decide +kernel)) w h).1 (List.all_eq_true.mp (show (u_ws RX6 TX6 7).all goodWord = true from by decide +kernel) w h)
set_option maxRecDepth 20000 in
theorem inB_7 : ∀ w ∈ u_ws RX7 TX7 10, w ∈ BIG := fun w h => mB ((goodIn_r (big := lw_tbl) (u_ws RX7 TX7 10) [244, 246, 248, 250, 252, 254, 256, 258, 260, 262] (by decide +kernel) (by decide +kernel)) w h).1 (List.all_eq_true.mp (show (u_ws RX7 TX7 10).all goodWord = true from by decide +kernel) w h)
set_option maxRecDepth 20000 in
theorem inB_8 : ∀ w ∈ u_ws RX8 TX8 7, w ∈ BIG := fun w h => mB ((goodIn_r (big := lw_tbl) (u_ws RX8 TX8 7) [475, 477, 479, 481, 483, 485, 487] (by decide +kernel) (by decide +kernel)) w h).1 (List.all_eq_true.mp (show (u_ws RX8 TX8 7).all goodWord = true from by decide +kernel) w h)
set_option maxRecDepth 20000 in
theorem inB_9 : ∀ w ∈ u_ws RX9 TX9 6, w ∈ BIG := fun w h => mB ((goodIn_r (big := lw_tbl) (u_ws RX9 TX9 6) [146, 148, 150, 152, 154, 156] (by decide +kernel) (by decide +kernel)) w h).1 (List.all_eq_true.mp (show (u_ws RX9 TX9 6).all goodWord = true from by decide +kernel) w h)
set_option maxRecDepth 20000 in
theorem inB_10 : ∀ w ∈ u_ws RX10 TX10 10, w ∈ BIG := fun w h => mB ((goodIn_r (big := lw_tbl) (u_ws RX10 TX10 10) [501, 503, 505, 507, 509, 511, 513, 515, 517, 519] (by decide +kernel) (by decide +kernel)) w h).1 (List.all_eq_true.mp (show (u_ws RX10 TX10 10).all goodWord = true from by decide +kernel) w h)
set_option maxRecDepth 20000 in
theorem inB_11 : ∀ w ∈ u_ws RX11 TX11 79, w ∈ BIG := fun w h => mB ((goodIn_r (big := lw_tbl) (u_ws RX11 TX11 79) [1399, 1401, 1403, 1405, 1407, 1409, 1411, 1413, 1415, 1417, 1419, 1421, 1423, 1425, 1427, 1429, 1431, 1433, 1435, 1437, 1439, 1441, 1443, 1445, 1447, 1449, 1451, 1453, 1455, 1457, 1459, 1461, 1463, 1465, 1467, 1469, 1471, 1473, 1475, 1477, 1479, 1481, 1483, 1485, 1487, 1489, 1491, 1493, 1495, 1497, 1499, 1501, 1503, 1505, 1507, 1509, 1511, 1513, 1515, 1517, 1519, 1521, 1523, 1525, 1527, 1529, 1531, 1533, 1535, 1537, 1539, 1541, 1543, 1545, 1547, 1549, 1551, 1553, 1555] (by decide +kernel) (by decide +kernel)) w h).1 (List.all_eq_true.mp (show (u_ws RX11 TX11 79).all goodWord = true from by decide +kernel) w h)
theorem nwd_0 : ∀ j, j < 8 → defaultValue (tyX0 j) = vp_V [.null, .null, .null, .int 0, .null, .null, .int 0, .int 0] j := fun j hj => match j, hj with
  | 0, _ => rfl
  | 1, _ => rfl
  | 2, _ => rfl
  | 3, _ => rfl
  | 4, _ => rfl
  | 5, _ => rfl
  | 6, _ => rfl
  | 7, _ => rfl
  | j + 8, h => absurd h (by omega)
theorem nwd_1 : ∀ j, j < 2 → defaultValue (tyX1 j) = vp_V [.null, .null] j := fun j hj => match j, hj with
  | 0, _ => rfl
  | 1, _ => rfl
  | j + 2, h => absurd h (by omega)
theorem nwd_2 : ∀ j, j < 3 → defaultValue (tyX2 j) = vp_V [.null, .null, .null] j := fun j hj => match j, hj with
  | 0, _ => rfl
  | 1, _ => rfl
  | 2, _ => rfl
  | j + 3, h => absurd h (by omega)
theorem nwd_3 : ∀ j, j < 10 → defaultValue (tyX3 j) = vp_V [.null, .null, .null, .int 0, .int 0, .int 0, .int 0, .int 0, .int 0, .int 0] j := fun j hj => match j, hj with
  | 0, _ => rfl
  | 1, _ => rfl
  | 2, _ => rfl
  | 3, _ => rfl
  | 4, _ => rfl
  | 5, _ => rfl
  | 6, _ => rfl
  | 7, _ => rfl
  | 8, _ => rfl
  | 9, _ => rfl
  | j + 10, h => absurd h (by omega)
theorem nwd_4 : ∀ j, j < 6 → defaultValue (tyX4 j) = vp_V [.null, .null, .null, .null, .int 0, .int 0] j := fun j hj => match j, hj with
  | 0, _ => rfl
  | 1, _ => rfl
  | 2, _ => rfl
  | 3, _ => rfl
  | 4, _ => rfl
  | 5, _ => rfl
  | j + 6, h => absurd h (by omega)
theorem nwd_5 : ∀ j, j < 7 → defaultValue (tyX5 j) = vp_V [.null, .null, .null, .int 0, .int 0, .int 0, .int 0] j := fun j hj => match j, hj with
  | 0, _ => rfl
  | 1, _ => rfl
  | 2, _ => rfl
  | 3, _ => rfl
  | 4, _ => rfl
  | 5, _ => rfl
  | 6, _ => rfl
  | j + 7, h => absurd h (by omega)
theorem nwd_6 : ∀ j, j < 7 → defaultValue (tyX6 j) = vp_V [.null, .null, .null, .null, .int 0, .int 0, .int 0] j := fun j hj => match j, hj with
  | 0, _ => rfl
  | 1, _ => rfl
  | 2, _ => rfl
  | 3, _ => rfl
  | 4, _ => rfl
  | 5, _ => rfl
  | 6, _ => rfl
  | j + 7, h => absurd h (by omega)
theorem nwd_7 : ∀ j, j < 10 → defaultValue (tyX7 j) = vp_V [.null, .null, .null, .int 0, .int 0, .int 0, .int 0, .int 0, .int 0, .int 0] j := fun j hj => match j, hj with
  | 0, _ => rfl
  | 1, _ => rfl
  | 2, _ => rfl
  | 3, _ => rfl
  | 4, _ => rfl
  | 5, _ => rfl
  | 6, _ => rfl
  | 7, _ => rfl
  | 8, _ => rfl
  | 9, _ => rfl
  | j + 10, h => absurd h (by omega)
theorem nwd_8 : ∀ j, j < 7 → defaultValue (tyX8 j) = vp_V [.null, .null, .null, .null, .null, .int 0, .null] j := fun j hj => match j, hj with
  | 0, _ => rfl
  | 1, _ => rfl
  | 2, _ => rfl
  | 3, _ => rfl
  | 4, _ => rfl
  | 5, _ => rfl
  | 6, _ => rfl
  | j + 7, h => absurd h (by omega)
theorem nwd_9 : ∀ j, j < 6 → defaultValue (tyX9 j) = vp_V [.null, .int 0, .int 0, .int 0, .int 0, .int 0] j := fun j hj => match j, hj with
  | 0, _ => rfl
  | 1, _ => rfl
  | 2, _ => rfl
  | 3, _ => rfl
  | 4, _ => rfl
  | 5, _ => rfl
  | j + 6, h => absurd h (by omega)
theorem nwd_10 : ∀ j, j < 10 → defaultValue (tyX10 j) = vp_V [.null, .null, .null, .null, .null, .null, .null, .null, .null, .int 0] j := fun j hj => match j, hj with
  | 0, _ => rfl
  | 1, _ => rfl
  | 2, _ => rfl
  | 3, _ => rfl
  | 4, _ => rfl
  | 5, _ => rfl
  | 6, _ => rfl
  | 7, _ => rfl
  | 8, _ => rfl
  | 9, _ => rfl
  | j + 10, h => absurd h (by omega)
theorem nwd_11 : ∀ j, j < 79 → defaultValue (tyX11 j) = vp_V [.null, .int 0, .int 0, .int 0, .int 0, .int 0, .int 0, .int 0, .int 0, .long 0, .null, .null, .null, .null, .null, .null, .null, .int 0, .int 0, .int 0, .int 0, .int 0, .int 0, .int 0, .int 0, .int 0, .null, .null, .null, .null, .null, .null, .null, .null, .null, .null, .null, .null, .null, .null, .null, .int 0, .int 0, .int 0, .int 0, .int 0, .int 0, .int 0, .int 0, .int 0, .int 0, .int 0, .int 0, .int 0, .int 0, .int 0, .int 0, .int 0, .int 0, .null, .null, .null, .int 0, .int 0, .null, .null, .null, .int 0, .null, .null, .null, .null, .null, .int 0, .int 0, .null, .null, .null, .null] j := fun j hj => match j, hj with
  | 0, _ => rfl
  | 1, _ => rfl
  | 2, _ => rfl
  | 3, _ => rfl
  | 4, _ => rfl
  | 5, _ => rfl
  | 6, _ => rfl
  | 7, _ => rfl
  | 8, _ => rfl
  | 9, _ => rfl
  | 10, _ => rfl
  | 11, _ => rfl
  | 12, _ => rfl
  | 13, _ => rfl
  | 14, _ => rfl
  | 15, _ => rfl
  | 16, _ => rfl
  | 17, _ => rfl
  | 18, _ => rfl
  | 19, _ => rfl
  | 20, _ => rfl
  | 21, _ => rfl
  | 22, _ => rfl
  | 23, _ => rfl
  | 24, _ => rfl
  | 25, _ => rfl
  | 26, _ => rfl
  | 27, _ => rfl
  | 28, _ => rfl
  | 29, _ => rfl
  | 30, _ => rfl
  | 31, _ => rfl
  | 32, _ => rfl
  | 33, _ => rfl
  | 34, _ => rfl
  | 35, _ => rfl
  | 36, _ => rfl
  | 37, _ => rfl
  | 38, _ => rfl
  | 39, _ => rfl
  | 40, _ => rfl
  | 41, _ => rfl
  | 42, _ => rfl
  | 43, _ => rfl
  | 44, _ => rfl
  | 45, _ => rfl
  | 46, _ => rfl
  | 47, _ => rfl
  | 48, _ => rfl
  | 49, _ => rfl
  | 50, _ => rfl
  | 51, _ => rfl
  | 52, _ => rfl
  | 53, _ => rfl
  | 54, _ => rfl
  | 55, _ => rfl
  | 56, _ => rfl
  | 57, _ => rfl
  | 58, _ => rfl
  | 59, _ => rfl
  | 60, _ => rfl
  | 61, _ => rfl
  | 62, _ => rfl
  | 63, _ => rfl
  | 64, _ => rfl
  | 65, _ => rfl
  | 66, _ => rfl
  | 67, _ => rfl
  | 68, _ => rfl
  | 69, _ => rfl
  | 70, _ => rfl
  | 71, _ => rfl
  | 72, _ => rfl
  | 73, _ => rfl
  | 74, _ => rfl
  | 75, _ => rfl
  | 76, _ => rfl
  | 77, _ => rfl
  | 78, _ => rfl
  | j + 79, h => absurd h (by omega)
theorem tl_m2147483648 : ((-2147483648) : Int32).toInt = -2147483648 := by decide
theorem tl_m100 : ((-100) : Int32).toInt = -100 := by decide
theorem tl_m2 : ((-2) : Int32).toInt = -2 := by decide
theorem tl_m1 : ((-1) : Int32).toInt = -1 := by decide
theorem tl_0 : (0 : Int32).toInt = 0 := by decide
theorem tl_1 : (1 : Int32).toInt = 1 := by decide
theorem tl_2 : (2 : Int32).toInt = 2 := by decide
theorem tl_3 : (3 : Int32).toInt = 3 := by decide
theorem tl_4 : (4 : Int32).toInt = 4 := by decide
theorem tl_5 : (5 : Int32).toInt = 5 := by decide
theorem tl_6 : (6 : Int32).toInt = 6 := by decide
theorem tl_7 : (7 : Int32).toInt = 7 := by decide
theorem tl_8 : (8 : Int32).toInt = 8 := by decide
theorem tl_9 : (9 : Int32).toInt = 9 := by decide
theorem tl_10 : (10 : Int32).toInt = 10 := by decide
theorem tl_11 : (11 : Int32).toInt = 11 := by decide
theorem tl_12 : (12 : Int32).toInt = 12 := by decide
theorem tl_13 : (13 : Int32).toInt = 13 := by decide
theorem tl_20 : (20 : Int32).toInt = 20 := by decide
theorem tl_21 : (21 : Int32).toInt = 21 := by decide
theorem tl_39 : (39 : Int32).toInt = 39 := by decide
theorem tl_64 : (64 : Int32).toInt = 64 := by decide
theorem tl_150 : (150 : Int32).toInt = 150 := by decide
theorem tl_448 : (448 : Int32).toInt = 448 := by decide
theorem tl_999 : (999 : Int32).toInt = 999 := by decide
theorem tl_1000 : (1000 : Int32).toInt = 1000 := by decide
theorem tl_100000 : (100000 : Int32).toInt = 100000 := by decide
theorem and_m1 (x : Int32) : x &&& (-1) = x := by
  apply Int32.toBitVec_inj.mp
  show x.toBitVec &&& (-1 : Int32).toBitVec = x.toBitVec
  rw [show (-1 : Int32).toBitVec = BitVec.allOnes 32 from by decide]
  exact BitVec.and_allOnes
def F_feed (_p1 : Int32) (_p2 : Int32) (_p3 : Int32) (_p4 : Int32) (_p5 : Int32) : Int32 := 20
def F_end (p1 : Int32) : Int32 := if p1 = 0 then 0 else -1
def F_regiment : Int32 := 0
def F_fault (p1 : Int32) : Int32 := if p1 = 0 then 0 else -1
def F_man (_p1 : Int32) (_p2 : Int32) : Int32 := -2
def F_coat (_p1 : Int32) (_p2 : Int32) : Int32 := -2
def F_misfit (_p1 : Int32) (_p2 : Int32) : Int32 := -1
def F_day : Int32 := 0
def F_don (_p1 : Int32) (_p2 : Int32) : Int32 := -2
def F_doff (_p1 : Int32) : Int32 := -1
def F_letout (_p1 : Int32) (_p2 : Int32) : Int32 := -1
def F_takein (_p1 : Int32) (_p2 : Int32) : Int32 := -1
def F_hem (_p1 : Int32) (_p2 : Int32) : Int32 := -1
def F_turn (_p1 : Int32) : Int32 := -1
def F_undo : Int32 := 0
def F_redo : Int32 := 0
def F_will (_p1 : Int32) (_p2 : Int32) (_p3 : Int32) : Int32 := -2
def F_out (_p1 : Int32) : Int32 := -1
def F_fitted : Int32 := 0
def F_dress (p1 : Int32) : Int32 := if p1 = 0 then 0 else if p1 = 1 then 0 else -1
def F_sewing (_p1 : Int32) (_p2 : Int32) (_p3 : Int32) : Int32 := -100
def F_rota (_p1 : Int32) : Int32 := -1
def F_change (_p1 : Int32) : Int32 := -1
def F_front (p1 : Int32) (p2 : Int32) : Int32 := if p1 = 0 then (if p2 = 0 then 0 else if p2 = 1 then 0 else -1) else -1
def F_wings (p1 : Int32) : Int32 := if p1 = 0 then 0 else if p1 = 1 then 0 else -1
def F_cloth : Int32 := 0
def F_buttons : Int32 := 0
def F_reach (_p1 : Int32) (_p2 : Int32) : Int32 := -1
def F_turning : Int32 := -1
def F_rags : Int32 := 0
def F_naked : Int32 := 0
def F_popular (_p1 : Int32) : Int32 := -1
def F_law (p1 : Int32) : Int32 := if 0 ≤ p1 ∧ p1 ≤ 999 then 0 else -1
def F_ease : Int32 := 0
def F_breadth : Int32 := 0
def F_rout : Int32 := 0
def F_odds (p1 : Int32) (p2 : Int32) : Int32 := if 0 ≤ p1 ∧ p1 ≤ 4 ∧ 0 ≤ p2 ∧ p2 ≤ 1 then 1 else -1
def F_lies (_p1 : Int32) : Int32 := -2
def F_seen (_p1 : Int32) (_p2 : Int32) : Int32 := -1
def F_untell (_p1 : Int32) : Int32 := 0
def F_later (p1 : Int32) : Int32 := if 0 ≤ p1 ∧ p1 ≤ 1000 then p1 else -1
def F_growths (_p1 : Int32) : Int32 := 0
def F_sure (_p1 : Int32) (_p2 : Int32) : Int32 := -1
def F_ask (_p1 : Int32) (_p2 : Int32) : Int32 := -1
def F_image (p1 : Int32) : Int32 := if 0 ≤ p1 ∧ p1 ≤ 2 then 0 else -1
def F_back (_p1 : Int32) : Int32 := -1
def F_about (p1 : Int32) : Int32 := if p1 = 2 then 10 else if p1 = 3 then 150 else if p1 = 4 then 2 else if 0 ≤ p1 ∧ p1 ≤ 13 then 0 else -1
def mv0 : Nat → Int32 := fun k => if k = 3 then (-1) else if k = 50 then 10 else if k = 51 then 150 else if k = 52 then 2 else 0
def mFs (r : Nat → Nat) (v : Nat → Int32) : List Value := [.ref (r 0), .int (v 1), .int (v 2), .int (v 3), .int (v 4), .int (v 5), .int (v 6), .int (v 7), .int (v 8), .long 0, .ref (r 10), .ref (r 11), .ref (r 12), .ref (r 13), .ref (r 14), .ref (r 15), .ref (r 16), .int (v 17), .int (v 18), .int (v 19), .int (v 20), .int (v 21), .int (v 22), .int (v 23), .int (v 24), .int (v 25), .ref (r 26), .ref (r 27), .ref (r 28), .ref (r 29), .ref (r 30), .ref (r 31), .ref (r 32), .ref (r 33), .ref (r 34), .ref (r 35), .ref (r 36), .ref (r 37), .ref (r 38), .ref (r 39), .ref (r 40), .int (v 41), .int (v 42), .int (v 43), .int (v 44), .int (v 45), .int (v 46), .int (v 47), .int (v 48), .int (v 49), .int (v 50), .int (v 51), .int (v 52), .int (v 53), .int (v 54), .int (v 55), .int (v 56), .int (v 57), .int (v 58), .ref (r 59), .ref (r 60), .ref (r 61), .int (v 62), .int (v 63), .ref (r 64), .ref (r 65), .ref (r 66), .int (v 67), .ref (r 68), .ref (r 69), .ref (r 70), .ref (r 71), .ref (r 72), .int (v 73), .int (v 74), .ref (r 75), .ref (r 76), .ref (r 77), .ref (r 78)]
def LW (cy : Nat → ClassId) (x0 y0 : Nat) (x r : Nat → Nat) : va_W := [(x0, .inr (10, [.ref (x 0), .ref (x 2), .ref (x 26), .ref (x 21), .ref (x 20), .ref (x 25), .ref (x 29), .ref (x 31), .ref (x 35), .int 0])),
  ((x 0), .inr (9, [.ref (x 1), .int 0, .int 0, .int 0, .int 0, .int 0])),
  ((x 1), .inl (cy 0, 1600, .inl zF)),
  ((x 2), .inr (6, [.ref (x 0), .ref (x 3), .ref (x 11), .ref (x 12), .int 0, .int 0, .int (-1)])),
  ((x 3), .inr (7, [.ref (x 4), .ref (x 5), .ref (x 6), .int 0, .int 0, .int 10, .int 150, .int 2, .int 0, .int 0])),
  ((x 4), .inl (cy 1, 18, .inl zF)),
  ((x 5), .inl (cy 1, 24, .inl zF)),
  ((x 6), .inr (4, [.ref (x 7), .ref (x 8), .ref (x 9), .ref (x 10), .int 0, .int 0])),
  ((x 7), .inl (cy 1, 300, .inl zF)),
  ((x 8), .inl (cy 1, 300, .inl zF)),
  ((x 9), .inl (cy 1, 30, .inl zF)),
  ((x 10), .inl (cy 1, 6, .inl zF)),
  ((x 11), .inl (cy 1, 6, .inl zF)),
  ((x 12), .inl (cy 1, 6, .inl zF)),
  ((x 13), .inl (cy 1, 18, .inl zF)),
  ((x 14), .inl (cy 1, 24, .inl zF)),
  ((x 15), .inr (4, [.ref (x 16), .ref (x 17), .ref (x 18), .ref (x 19), .int 0, .int 0])),
  ((x 16), .inl (cy 1, 300, .inl zF)),
  ((x 17), .inl (cy 1, 300, .inl zF)),
  ((x 18), .inl (cy 1, 30, .inl zF)),
  ((x 19), .inl (cy 1, 6, .inl zF)),
  ((x 20), .inr (5, [.ref (x 21), .ref (x 24), .ref (x 23), .int 0, .int 0, .int 0, .int 0])),
  ((x 21), .inr (1, [.ref (x 26), .ref (x 22)])),
  ((x 22), .inl (cy 1, 44, .inl cF)),
  ((x 23), .inl (cy 1, 132, .inl zF)),
  ((x 24), .inl (cy 1, 1804, .inl (va_cpy cF zF 0 0 44))),
  ((x 25), .inr (3, [.ref (x 26), .ref (x 21), .ref (x 27), .int 0, .int 0, .int 0, .int 0, .int 0, .int 0, .int 0])),
  ((x 26), .inr (7, [.ref (x 13), .ref (x 14), .ref (x 15), .int 0, .int 0, .int 10, .int 150, .int 2, .int 0, .int 0])),
  ((x 27), .inr (1, [.ref (x 26), .ref (x 28)])),
  ((x 28), .inl (cy 1, 44, .inl cF)),
  ((x 29), .inr (2, [.ref (x 26), .ref (x 21), .ref (x 30)])),
  ((x 30), .inl (cy 1, 64, .inl zF)),
  ((x 31), .inr (0, [.ref (x 26), .ref (x 21), .ref (x 32), .int 0, .ref (x 33), .ref (x 34), .int 0, .int 0])),
  ((x 32), .inl (cy 1, 6, .inl zF)),
  ((x 33), .inl (cy 1, 448, .inl zF)),
  ((x 34), .inl (cy 1, 36, .inl zF)),
  ((x 35), .inr (8, [.ref (x 26), .ref (x 36), .ref (x 37), .ref (x 38), .ref (x 39), .int 0, .ref (x 40)])),
  ((x 36), .inl (cy 1, 30, .inl zF)),
  ((x 37), .inl (cy 3, 30, .inl zF)),
  ((x 38), .inl (cy 1, 30, .inl zF)),
  ((x 39), .inl (cy 1, 30, .inl zF)),
  ((x 40), .inl (cy 1, 21, .inl (fiF zF (-1) 21))),
  (y0, .inr (11, mFs r mv0)),
  ((r 0), .inl (cy 1, 1600, .inl zF)),
  ((r 10), .inl (cy 2, 12, .inr (.inl zL))),
  ((r 11), .inl (cy 1, 320, .inl zF)),
  ((r 12), .inl (cy 1, 320, .inl zF)),
  ((r 13), .inl (cy 1, 320, .inl zF)),
  ((r 14), .inl (cy 1, 320, .inl zF)),
  ((r 15), .inl (cy 1, 160, .inl zF)),
  ((r 16), .inl (cy 1, 64, .inl zF)),
  ((r 26), .inl (cy 1, 6, .inl zF)),
  ((r 27), .inl (cy 1, 6, .inl zF)),
  ((r 28), .inl (cy 1, 6, .inl zF)),
  ((r 29), .inl (cy 1, 6, .inl zF)),
  ((r 30), .inl (cy 1, 6, .inl zF)),
  ((r 31), .inl (cy 1, 6, .inl zF)),
  ((r 32), .inl (cy 1, 6, .inl zF)),
  ((r 33), .inl (cy 1, 6, .inl zF)),
  ((r 34), .inl (cy 1, 6, .inl zF)),
  ((r 35), .inl (cy 1, 6, .inl zF)),
  ((r 36), .inl (cy 1, 6, .inl zF)),
  ((r 37), .inl (cy 1, 6, .inl zF)),
  ((r 38), .inl (cy 1, 6, .inl zF)),
  ((r 39), .inl (cy 1, 6, .inl zF)),
  ((r 40), .inl (cy 1, 6, .inl zF)),
  ((r 59), .inl (cy 1, 39, .inl zF)),
  ((r 60), .inl (cy 1, 39, .inl zF)),
  ((r 61), .inl (cy 1, 1560, .inl zF)),
  ((r 64), .inl (cy 1, 6, .inl zF)),
  ((r 65), .inl (cy 1, 6, .inl zF)),
  ((r 66), .inl (cy 1, 36, .inl zF)),
  ((r 68), .inl (cy 1, 64, .inl zF)),
  ((r 69), .inl (cy 1, 30, .inl zF)),
  ((r 70), .inl (cy 1, 30, .inl zF)),
  ((r 71), .inl (cy 1, 30, .inl zF)),
  ((r 72), .inl (cy 3, 30, .inl zF)),
  ((r 75), .inl (cy 3, 651, .inl zF)),
  ((r 76), .inl (cy 3, 31, .inl zF)),
  ((r 77), .inl (cy 3, 3, .inl zF)),
  ((r 78), .inl (cy 1, 117, .inl zF))]
end
section
theorem k_0 : Cond.selects RX7 yX7_setDefaults yX7_setDefaults ∈ BIG := mB (List.mem_of_getElem? (i := 0) (by decide +kernel)) rfl
theorem k_19 : Cond.selects RX5 yX5_forgetActs yX5_forgetActs ∈ BIG := mB (List.mem_of_getElem? (i := 19) (by decide +kernel)) rfl
theorem k_22 : Cond.selects RX0 yX0_reckonGains yX0_reckonGains ∈ BIG := mB (List.mem_of_getElem? (i := 22) (by decide +kernel)) rfl
theorem k_23 : Cond.selects RX0 yX0_reckonBest yX0_reckonBest ∈ BIG := mB (List.mem_of_getElem? (i := 23) (by decide +kernel)) rfl
theorem k_30 : Cond.selects RX2 yX2_isEvener yX2_isEvener ∈ BIG := mB (List.mem_of_getElem? (i := 30) (by decide +kernel)) rfl
theorem k_33 : Cond.selects RX0 yX0_painted yX0_painted ∈ BIG := mB (List.mem_of_getElem? (i := 33) (by decide +kernel)) rfl
theorem k_40 : Cond.selects RX11 yX11_four yX11_four ∈ BIG := mB (List.mem_of_getElem? (i := 40) (by decide +kernel)) rfl
theorem k_41 : Cond.selects RX11 yX11_readAll yX11_readAll ∈ BIG := mB (List.mem_of_getElem? (i := 41) (by decide +kernel)) rfl
theorem k_42 : Cond.selects RX11 yX11_token yX11_token ∈ BIG := mB (List.mem_of_getElem? (i := 42) (by decide +kernel)) rfl
theorem k_43 : Cond.selects RX11 yX11_here yX11_here ∈ BIG := mB (List.mem_of_getElem? (i := 43) (by decide +kernel)) rfl
theorem k_68 : Cond.selects RX11 yX11_begin yX11_begin ∈ BIG := mB (List.mem_of_getElem? (i := 68) (by decide +kernel)) rfl
theorem k_69 : Cond.selects RX11 yX11_keepAir yX11_keepAir ∈ BIG := mB (List.mem_of_getElem? (i := 69) (by decide +kernel)) rfl
theorem k_70 : Cond.selects RX11 yX11_isMan yX11_isMan ∈ BIG := mB (List.mem_of_getElem? (i := 70) (by decide +kernel)) rfl
theorem k_71 : Cond.selects RX11 yX11_fill yX11_fill ∈ BIG := mB (List.mem_of_getElem? (i := 71) (by decide +kernel)) rfl
theorem k_75 : Cond.selects RX11 yX11_isCoat yX11_isCoat ∈ BIG := mB (List.mem_of_getElem? (i := 75) (by decide +kernel)) rfl
theorem k_77 : Cond.selects RX11 yX11_act yX11_act ∈ BIG := mB (List.mem_of_getElem? (i := 77) (by decide +kernel)) rfl
theorem k_78 : Cond.selects RX11 yX11_drawRain yX11_drawRain ∈ BIG := mB (List.mem_of_getElem? (i := 78) (by decide +kernel)) rfl
theorem k_79 : Cond.selects RX11 yX11_goDay yX11_goDay ∈ BIG := mB (List.mem_of_getElem? (i := 79) (by decide +kernel)) rfl
theorem k_80 : Cond.selects RX11 yX11_wearers yX11_wearers ∈ BIG := mB (List.mem_of_getElem? (i := 80) (by decide +kernel)) rfl
theorem k_81 : Cond.selects RX11 yX11_fittedOnes yX11_fittedOnes ∈ BIG := mB (List.mem_of_getElem? (i := 81) (by decide +kernel)) rfl
theorem k_84 : Cond.selects RX11 yX11_layIlls yX11_layIlls ∈ BIG := mB (List.mem_of_getElem? (i := 84) (by decide +kernel)) rfl
theorem k_85 : Cond.selects RX11 yX11_layDress yX11_layDress ∈ BIG := mB (List.mem_of_getElem? (i := 85) (by decide +kernel)) rfl
theorem k_86 : Cond.selects RX11 yX11_illOfRow yX11_illOfRow ∈ BIG := mB (List.mem_of_getElem? (i := 86) (by decide +kernel)) rfl
theorem k_88 : Cond.selects RX11 yX11_wideOf yX11_wideOf ∈ BIG := mB (List.mem_of_getElem? (i := 88) (by decide +kernel)) rfl
theorem k_92 : Cond.selects RX11 yX11_freeCoats yX11_freeCoats ∈ BIG := mB (List.mem_of_getElem? (i := 92) (by decide +kernel)) rfl
theorem k_97 : Cond.selects RX11 yX11_layGrowths yX11_layGrowths ∈ BIG := mB (List.mem_of_getElem? (i := 97) (by decide +kernel)) rfl
theorem k_101 : Cond.initialized RX10 ∈ BIG := mB (List.mem_of_getElem? (i := 101) (by decide +kernel)) rfl
theorem k_102 : Cond.initialized RX9 ∈ BIG := mB (List.mem_of_getElem? (i := 102) (by decide +kernel)) rfl
theorem k_103 : Cond.initialized RX6 ∈ BIG := mB (List.mem_of_getElem? (i := 103) (by decide +kernel)) rfl
theorem k_104 : Cond.initialized RX7 ∈ BIG := mB (List.mem_of_getElem? (i := 104) (by decide +kernel)) rfl
theorem k_105 : Cond.initialized RX4 ∈ BIG := mB (List.mem_of_getElem? (i := 105) (by decide +kernel)) rfl
theorem k_106 : Cond.initialized RX1 ∈ BIG := mB (List.mem_of_getElem? (i := 106) (by decide +kernel)) rfl
theorem k_107 : Cond.initialized RX5 ∈ BIG := mB (List.mem_of_getElem? (i := 107) (by decide +kernel)) rfl
theorem k_108 : Cond.initialized RJ10 ∈ BIG := mB (List.mem_of_getElem? (i := 108) (by decide +kernel)) rfl
theorem k_109 : Cond.initialized RX3 ∈ BIG := mB (List.mem_of_getElem? (i := 109) (by decide +kernel)) rfl
theorem k_110 : Cond.initialized RX2 ∈ BIG := mB (List.mem_of_getElem? (i := 110) (by decide +kernel)) rfl
theorem k_111 : Cond.initialized RX0 ∈ BIG := mB (List.mem_of_getElem? (i := 111) (by decide +kernel)) rfl
theorem k_112 : Cond.initialized RX8 ∈ BIG := mB (List.mem_of_getElem? (i := 112) (by decide +kernel)) rfl
theorem k_113 : Cond.initialized RJ7 ∈ BIG := mB (List.mem_of_getElem? (i := 113) (by decide +kernel)) rfl
theorem k_114 : Cond.initialized RX11 ∈ BIG := mB (List.mem_of_getElem? (i := 114) (by decide +kernel)) rfl
theorem k_119 : Cond.initialized RJ9 ∈ BIG := mB (List.mem_of_getElem? (i := 119) (by decide +kernel)) rfl
theorem k_121 : Cond.initialized RJ6 ∈ BIG := mB (List.mem_of_getElem? (i := 121) (by decide +kernel)) rfl
theorem k_122 : Cond.classLink RL 7 RX10 ∈ BIG := mB (List.mem_of_getElem? (i := 122) (by decide +kernel)) rfl
theorem k_123 : Cond.instantiable RX10 10 ∈ BIG := mB (List.mem_of_getElem? (i := 123) (by decide +kernel)) rfl
theorem k_124 : Cond.methodLink RL 9 yX10_init ∈ BIG := mB (List.mem_of_getElem? (i := 124) (by decide +kernel)) rfl
theorem k_125 : Cond.instanceMethod yX10_init ∈ BIG := mB (List.mem_of_getElem? (i := 125) (by decide +kernel)) rfl
theorem k_126 : Cond.code yX10_init cX10_init 1 none ∈ BIG := mB (List.mem_of_getElem? (i := 126) (by decide +kernel)) rfl
theorem k_127 : Cond.methodLink RX10 1 Lib.objectInit ∈ BIG := mB (List.mem_of_getElem? (i := 127) (by decide +kernel)) rfl
theorem k_128 : Cond.instanceMethod Lib.objectInit ∈ BIG := mB (List.mem_of_getElem? (i := 128) (by decide +kernel)) rfl
theorem k_129 : Cond.code Lib.objectInit ⟨#[0xb1]⟩ 1 none ∈ BIG := mB (List.mem_of_getElem? (i := 129) (by decide +kernel)) rfl
theorem k_130 : Cond.classLink RX10 7 RX9 ∈ BIG := mB (List.mem_of_getElem? (i := 130) (by decide +kernel)) rfl
theorem k_131 : Cond.instantiable RX9 6 ∈ BIG := mB (List.mem_of_getElem? (i := 131) (by decide +kernel)) rfl
theorem k_132 : Cond.methodLinkNest RX10 9 yX9_init "TailorRegiment" ∈ NST := mN (List.mem_of_getElem? (i := 132) (by decide +kernel)) rfl
theorem k_133 : Cond.instanceMethod yX9_init ∈ BIG := mB (List.mem_of_getElem? (i := 133) (by decide +kernel)) rfl
theorem k_134 : Cond.code yX9_init cX9_init 1 none ∈ BIG := mB (List.mem_of_getElem? (i := 134) (by decide +kernel)) rfl
theorem k_135 : Cond.methodLink RX9 3 Lib.objectInit ∈ BIG := mB (List.mem_of_getElem? (i := 135) (by decide +kernel)) rfl
theorem k_136 : Cond.fieldLink RX9 9 RX9 "bytes" "[B" ∈ BIG := mB (List.mem_of_getElem? (i := 136) (by decide +kernel)) rfl
theorem k_137 : Cond.fieldLink RX9 15 RX9 "size" "I" ∈ BIG := mB (List.mem_of_getElem? (i := 137) (by decide +kernel)) rfl
theorem k_138 : Cond.fieldLinkNest RX10 88 RX9 "size" "I" "TailorRegiment" ∈ NST := mN (List.mem_of_getElem? (i := 138) (by decide +kernel)) rfl
theorem k_139 : Cond.fieldLinkNest RX6 47 RX9 "kind" "I" "TailorRegiment" ∈ NST := mN (List.mem_of_getElem? (i := 139) (by decide +kernel)) rfl
theorem k_140 : Cond.fieldLink RX9 28 RX9 "kind" "I" ∈ BIG := mB (List.mem_of_getElem? (i := 140) (by decide +kernel)) rfl
theorem k_141 : Cond.fieldLink RX9 25 RX9 "place" "I" ∈ BIG := mB (List.mem_of_getElem? (i := 141) (by decide +kernel)) rfl
theorem k_143 : Cond.fieldLink RX9 19 RX9 "behind" "I" ∈ BIG := mB (List.mem_of_getElem? (i := 143) (by decide +kernel)) rfl
theorem k_159 : Cond.arrayClass .byte ∈ BIG := mB (List.mem_of_getElem? (i := 159) (by decide +kernel)) rfl
theorem k_160 : Cond.classLink RX10 16 RX6 ∈ BIG := mB (List.mem_of_getElem? (i := 160) (by decide +kernel)) rfl
theorem k_161 : Cond.instantiable RX6 7 ∈ BIG := mB (List.mem_of_getElem? (i := 161) (by decide +kernel)) rfl
theorem k_162 : Cond.methodLink RX10 18 yX6_init ∈ BIG := mB (List.mem_of_getElem? (i := 162) (by decide +kernel)) rfl
theorem k_163 : Cond.instanceMethod yX6_init ∈ BIG := mB (List.mem_of_getElem? (i := 163) (by decide +kernel)) rfl
theorem k_164 : Cond.code yX6_init cX6_init 2 none ∈ BIG := mB (List.mem_of_getElem? (i := 164) (by decide +kernel)) rfl
theorem k_165 : Cond.methodLink RX6 3 Lib.objectInit ∈ BIG := mB (List.mem_of_getElem? (i := 165) (by decide +kernel)) rfl
theorem k_166 : Cond.classLink RX6 9 RX7 ∈ BIG := mB (List.mem_of_getElem? (i := 166) (by decide +kernel)) rfl
theorem k_167 : Cond.instantiable RX7 10 ∈ BIG := mB (List.mem_of_getElem? (i := 167) (by decide +kernel)) rfl
theorem k_168 : Cond.methodLink RX6 11 yX7_init ∈ BIG := mB (List.mem_of_getElem? (i := 168) (by decide +kernel)) rfl
theorem k_169 : Cond.instanceMethod yX7_init ∈ BIG := mB (List.mem_of_getElem? (i := 169) (by decide +kernel)) rfl
theorem k_170 : Cond.code yX7_init cX7_init 1 none ∈ BIG := mB (List.mem_of_getElem? (i := 170) (by decide +kernel)) rfl
theorem k_171 : Cond.methodLink RX7 3 Lib.objectInit ∈ BIG := mB (List.mem_of_getElem? (i := 171) (by decide +kernel)) rfl
theorem k_172 : Cond.classLink RX7 18 RX4 ∈ BIG := mB (List.mem_of_getElem? (i := 172) (by decide +kernel)) rfl
theorem k_173 : Cond.instantiable RX4 6 ∈ BIG := mB (List.mem_of_getElem? (i := 173) (by decide +kernel)) rfl
theorem k_174 : Cond.methodLinkNest RX7 20 yX4_init "TailorRegiment" ∈ NST := mN (List.mem_of_getElem? (i := 174) (by decide +kernel)) rfl
theorem k_175 : Cond.instanceMethod yX4_init ∈ BIG := mB (List.mem_of_getElem? (i := 175) (by decide +kernel)) rfl
theorem k_176 : Cond.code yX4_init cX4_init 1 none ∈ BIG := mB (List.mem_of_getElem? (i := 176) (by decide +kernel)) rfl
theorem k_177 : Cond.methodLink RX4 3 Lib.objectInit ∈ BIG := mB (List.mem_of_getElem? (i := 177) (by decide +kernel)) rfl
theorem k_178 : Cond.fieldLink RX4 11 RX4 "kinds" "[I" ∈ BIG := mB (List.mem_of_getElem? (i := 178) (by decide +kernel)) rfl
theorem k_179 : Cond.fieldLink RX4 15 RX4 "numbers" "[I" ∈ BIG := mB (List.mem_of_getElem? (i := 179) (by decide +kernel)) rfl
theorem k_180 : Cond.fieldLink RX4 18 RX4 "stack" "[I" ∈ BIG := mB (List.mem_of_getElem? (i := 180) (by decide +kernel)) rfl
theorem k_181 : Cond.fieldLink RX4 21 RX4 "facts" "[I" ∈ BIG := mB (List.mem_of_getElem? (i := 181) (by decide +kernel)) rfl
theorem k_182 : Cond.fieldLink RX4 24 RX4 "steps" "I" ∈ BIG := mB (List.mem_of_getElem? (i := 182) (by decide +kernel)) rfl
theorem k_183 : Cond.fieldLink RX4 28 RX4 "units" "I" ∈ BIG := mB (List.mem_of_getElem? (i := 183) (by decide +kernel)) rfl
theorem k_185 : Cond.fieldLinkNest RX10 345 RX4 "units" "I" "TailorRegiment" ∈ NST := mN (List.mem_of_getElem? (i := 185) (by decide +kernel)) rfl
theorem k_199 : Cond.arrayClass .int ∈ BIG := mB (List.mem_of_getElem? (i := 199) (by decide +kernel)) rfl
theorem k_200 : Cond.methodLink RX7 25 yX7_setDefaults ∈ BIG := mB (List.mem_of_getElem? (i := 200) (by decide +kernel)) rfl
theorem k_202 : Cond.instanceMethod yX7_setDefaults ∈ BIG := mB (List.mem_of_getElem? (i := 202) (by decide +kernel)) rfl
theorem k_203 : Cond.code yX7_setDefaults cX7_setDefaults 1 none ∈ BIG := mB (List.mem_of_getElem? (i := 203) (by decide +kernel)) rfl
theorem k_204 : Cond.fieldLink RX7 9 RX7 "manParts" "[I" ∈ BIG := mB (List.mem_of_getElem? (i := 204) (by decide +kernel)) rfl
theorem k_205 : Cond.fieldLink RX7 15 RX7 "coatParts" "[I" ∈ BIG := mB (List.mem_of_getElem? (i := 205) (by decide +kernel)) rfl
theorem k_206 : Cond.fieldLink RX7 21 RX7 "ill" "LTailorRegiment$Formula;" ∈ BIG := mB (List.mem_of_getElem? (i := 206) (by decide +kernel)) rfl
theorem k_211 : Cond.fieldLinkNest RX10 341 RX7 "ill" "LTailorRegiment$Formula;" "TailorRegiment" ∈ NST := mN (List.mem_of_getElem? (i := 211) (by decide +kernel)) rfl
theorem k_212 : Cond.fieldLink RX7 28 RX7 "men" "I" ∈ BIG := mB (List.mem_of_getElem? (i := 212) (by decide +kernel)) rfl
theorem k_213 : Cond.fieldLinkNest RX2 23 RX7 "men" "I" "TailorRegiment" ∈ NST := mN (List.mem_of_getElem? (i := 213) (by decide +kernel)) rfl
theorem k_214 : Cond.fieldLinkNest RX10 111 RX7 "men" "I" "TailorRegiment" ∈ NST := mN (List.mem_of_getElem? (i := 214) (by decide +kernel)) rfl
theorem k_215 : Cond.fieldLinkNest RX8 42 RX7 "men" "I" "TailorRegiment" ∈ NST := mN (List.mem_of_getElem? (i := 215) (by decide +kernel)) rfl
theorem k_216 : Cond.fieldLinkNest RX0 48 RX7 "men" "I" "TailorRegiment" ∈ NST := mN (List.mem_of_getElem? (i := 216) (by decide +kernel)) rfl
theorem k_217 : Cond.fieldLinkNest RX3 92 RX7 "men" "I" "TailorRegiment" ∈ NST := mN (List.mem_of_getElem? (i := 217) (by decide +kernel)) rfl
theorem k_219 : Cond.fieldLinkNest RX1 48 RX7 "men" "I" "TailorRegiment" ∈ NST := mN (List.mem_of_getElem? (i := 219) (by decide +kernel)) rfl
theorem k_220 : Cond.fieldLink RX7 32 RX7 "coats" "I" ∈ BIG := mB (List.mem_of_getElem? (i := 220) (by decide +kernel)) rfl
theorem k_223 : Cond.fieldLinkNest RX2 66 RX7 "coats" "I" "TailorRegiment" ∈ NST := mN (List.mem_of_getElem? (i := 223) (by decide +kernel)) rfl
theorem k_225 : Cond.fieldLinkNest RX3 122 RX7 "coats" "I" "TailorRegiment" ∈ NST := mN (List.mem_of_getElem? (i := 225) (by decide +kernel)) rfl
theorem k_227 : Cond.fieldLinkNest RX10 261 RX7 "coats" "I" "TailorRegiment" ∈ NST := mN (List.mem_of_getElem? (i := 227) (by decide +kernel)) rfl
theorem k_228 : Cond.fieldLink RX7 38 RX7 "easy" "I" ∈ BIG := mB (List.mem_of_getElem? (i := 228) (by decide +kernel)) rfl
theorem k_233 : Cond.fieldLinkNest RX10 320 RX7 "easy" "I" "TailorRegiment" ∈ NST := mN (List.mem_of_getElem? (i := 233) (by decide +kernel)) rfl
theorem k_234 : Cond.fieldLink RX7 41 RX7 "bolt" "I" ∈ BIG := mB (List.mem_of_getElem? (i := 234) (by decide +kernel)) rfl
theorem k_236 : Cond.fieldLinkNest RX10 323 RX7 "bolt" "I" "TailorRegiment" ∈ NST := mN (List.mem_of_getElem? (i := 236) (by decide +kernel)) rfl
theorem k_237 : Cond.fieldLink RX7 44 RX7 "like" "I" ∈ BIG := mB (List.mem_of_getElem? (i := 237) (by decide +kernel)) rfl
theorem k_239 : Cond.fieldLinkNest RX10 326 RX7 "like" "I" "TailorRegiment" ∈ NST := mN (List.mem_of_getElem? (i := 239) (by decide +kernel)) rfl
theorem k_240 : Cond.fieldLink RX7 47 RX7 "rain" "I" ∈ BIG := mB (List.mem_of_getElem? (i := 240) (by decide +kernel)) rfl
theorem k_241 : Cond.fieldLinkNest RX10 154 RX7 "rain" "I" "TailorRegiment" ∈ NST := mN (List.mem_of_getElem? (i := 241) (by decide +kernel)) rfl
theorem k_242 : Cond.fieldLinkNest RX1 31 RX7 "draw" "I" "TailorRegiment" ∈ NST := mN (List.mem_of_getElem? (i := 242) (by decide +kernel)) rfl
theorem k_243 : Cond.fieldLink RX7 50 RX7 "draw" "I" ∈ BIG := mB (List.mem_of_getElem? (i := 243) (by decide +kernel)) rfl
theorem k_265 : Cond.fieldLink RX6 29 RX6 "tape" "LTailorRegiment$Tape;" ∈ BIG := mB (List.mem_of_getElem? (i := 265) (by decide +kernel)) rfl
theorem k_266 : Cond.fieldLink RX6 12 RX6 "draft" "LTailorRegiment$Roll;" ∈ BIG := mB (List.mem_of_getElem? (i := 266) (by decide +kernel)) rfl
theorem k_267 : Cond.fieldLinkNest RX10 95 RX6 "draft" "LTailorRegiment$Roll;" "TailorRegiment" ∈ NST := mN (List.mem_of_getElem? (i := 267) (by decide +kernel)) rfl
theorem k_268 : Cond.fieldLink RX6 18 RX6 "manNames" "[I" ∈ BIG := mB (List.mem_of_getElem? (i := 268) (by decide +kernel)) rfl
theorem k_269 : Cond.fieldLink RX6 22 RX6 "coatNames" "[I" ∈ BIG := mB (List.mem_of_getElem? (i := 269) (by decide +kernel)) rfl
theorem k_270 : Cond.fieldLink RX6 36 RX6 "told" "I" ∈ BIG := mB (List.mem_of_getElem? (i := 270) (by decide +kernel)) rfl
theorem k_271 : Cond.fieldLink RX6 39 RX6 "faultSort" "I" ∈ BIG := mB (List.mem_of_getElem? (i := 271) (by decide +kernel)) rfl
theorem k_272 : Cond.fieldLinkNest RX10 114 RX6 "faultSort" "I" "TailorRegiment" ∈ NST := mN (List.mem_of_getElem? (i := 272) (by decide +kernel)) rfl
theorem k_273 : Cond.fieldLink RX6 25 RX6 "faultPlace" "I" ∈ BIG := mB (List.mem_of_getElem? (i := 273) (by decide +kernel)) rfl
theorem k_274 : Cond.fieldLinkNest RX10 117 RX6 "faultPlace" "I" "TailorRegiment" ∈ NST := mN (List.mem_of_getElem? (i := 274) (by decide +kernel)) rfl
theorem k_290 : Cond.classLink RX10 25 RX7 ∈ BIG := mB (List.mem_of_getElem? (i := 290) (by decide +kernel)) rfl
theorem k_291 : Cond.methodLink RX10 27 yX7_init ∈ BIG := mB (List.mem_of_getElem? (i := 291) (by decide +kernel)) rfl
theorem k_292 : Cond.classLink RX10 32 RX1 ∈ BIG := mB (List.mem_of_getElem? (i := 292) (by decide +kernel)) rfl
theorem k_293 : Cond.instantiable RX1 2 ∈ BIG := mB (List.mem_of_getElem? (i := 293) (by decide +kernel)) rfl
theorem k_294 : Cond.methodLink RX10 34 yX1_init ∈ BIG := mB (List.mem_of_getElem? (i := 294) (by decide +kernel)) rfl
theorem k_295 : Cond.instanceMethod yX1_init ∈ BIG := mB (List.mem_of_getElem? (i := 295) (by decide +kernel)) rfl
theorem k_296 : Cond.code yX1_init cX1_init 2 none ∈ BIG := mB (List.mem_of_getElem? (i := 296) (by decide +kernel)) rfl
theorem k_297 : Cond.methodLink RX1 5 Lib.objectInit ∈ BIG := mB (List.mem_of_getElem? (i := 297) (by decide +kernel)) rfl
theorem k_298 : Cond.methodLink RX1 19 yX1_muster ∈ BIG := mB (List.mem_of_getElem? (i := 298) (by decide +kernel)) rfl
theorem k_299 : Cond.instanceMethod yX1_muster ∈ BIG := mB (List.mem_of_getElem? (i := 299) (by decide +kernel)) rfl
theorem k_300 : Cond.selects RX1 yX1_muster yX1_muster ∈ BIG := mB (List.mem_of_getElem? (i := 300) (by decide +kernel)) rfl
theorem k_301 : Cond.code yX1_muster cX1_muster 3 none ∈ BIG := mB (List.mem_of_getElem? (i := 301) (by decide +kernel)) rfl
theorem k_302 : Cond.methodLink RX1 22 yX7_manPart ∈ BIG := mB (List.mem_of_getElem? (i := 302) (by decide +kernel)) rfl
theorem k_303 : Cond.instanceMethod yX7_manPart ∈ BIG := mB (List.mem_of_getElem? (i := 303) (by decide +kernel)) rfl
theorem k_304 : Cond.selects RX7 yX7_manPart yX7_manPart ∈ BIG := mB (List.mem_of_getElem? (i := 304) (by decide +kernel)) rfl
theorem k_305 : Cond.code yX7_manPart cX7_manPart 3 (some .int) ∈ BIG := mB (List.mem_of_getElem? (i := 305) (by decide +kernel)) rfl
theorem k_306 : Cond.methodLink RX7 63 yX7_hasMan ∈ BIG := mB (List.mem_of_getElem? (i := 306) (by decide +kernel)) rfl
theorem k_307 : Cond.instanceMethod yX7_hasMan ∈ BIG := mB (List.mem_of_getElem? (i := 307) (by decide +kernel)) rfl
theorem k_308 : Cond.selects RX7 yX7_hasMan yX7_hasMan ∈ BIG := mB (List.mem_of_getElem? (i := 308) (by decide +kernel)) rfl
theorem k_309 : Cond.code yX7_hasMan cX7_hasMan 2 (some .boolean) ∈ BIG := mB (List.mem_of_getElem? (i := 309) (by decide +kernel)) rfl
theorem k_310 : Cond.methodLink RX1 28 yX7_coatPart ∈ BIG := mB (List.mem_of_getElem? (i := 310) (by decide +kernel)) rfl
theorem k_311 : Cond.instanceMethod yX7_coatPart ∈ BIG := mB (List.mem_of_getElem? (i := 311) (by decide +kernel)) rfl
theorem k_312 : Cond.selects RX7 yX7_coatPart yX7_coatPart ∈ BIG := mB (List.mem_of_getElem? (i := 312) (by decide +kernel)) rfl
theorem k_313 : Cond.code yX7_coatPart cX7_coatPart 3 (some .int) ∈ BIG := mB (List.mem_of_getElem? (i := 313) (by decide +kernel)) rfl
theorem k_314 : Cond.methodLink RX7 67 yX7_hasCoat ∈ BIG := mB (List.mem_of_getElem? (i := 314) (by decide +kernel)) rfl
theorem k_315 : Cond.instanceMethod yX7_hasCoat ∈ BIG := mB (List.mem_of_getElem? (i := 315) (by decide +kernel)) rfl
theorem k_316 : Cond.selects RX7 yX7_hasCoat yX7_hasCoat ∈ BIG := mB (List.mem_of_getElem? (i := 316) (by decide +kernel)) rfl
theorem k_317 : Cond.code yX7_hasCoat cX7_hasCoat 2 (some .boolean) ∈ BIG := mB (List.mem_of_getElem? (i := 317) (by decide +kernel)) rfl
theorem k_318 : Cond.fieldLink RX1 15 RX1 "roll" "LTailorRegiment$Roll;" ∈ BIG := mB (List.mem_of_getElem? (i := 318) (by decide +kernel)) rfl
theorem k_319 : Cond.fieldLink RX1 11 RX1 "cells" "[I" ∈ BIG := mB (List.mem_of_getElem? (i := 319) (by decide +kernel)) rfl
theorem k_325 : Cond.classLink RX10 41 RX5 ∈ BIG := mB (List.mem_of_getElem? (i := 325) (by decide +kernel)) rfl
theorem k_326 : Cond.instantiable RX5 7 ∈ BIG := mB (List.mem_of_getElem? (i := 326) (by decide +kernel)) rfl
theorem k_327 : Cond.methodLink RX10 43 yX5_init ∈ BIG := mB (List.mem_of_getElem? (i := 327) (by decide +kernel)) rfl
theorem k_328 : Cond.instanceMethod yX5_init ∈ BIG := mB (List.mem_of_getElem? (i := 328) (by decide +kernel)) rfl
theorem k_329 : Cond.code yX5_init cX5_init 2 none ∈ BIG := mB (List.mem_of_getElem? (i := 329) (by decide +kernel)) rfl
theorem k_330 : Cond.methodLink RX5 3 Lib.objectInit ∈ BIG := mB (List.mem_of_getElem? (i := 330) (by decide +kernel)) rfl
theorem k_331 : Cond.methodLink RX5 24 yX1_saveTo ∈ BIG := mB (List.mem_of_getElem? (i := 331) (by decide +kernel)) rfl
theorem k_332 : Cond.instanceMethod yX1_saveTo ∈ BIG := mB (List.mem_of_getElem? (i := 332) (by decide +kernel)) rfl
theorem k_333 : Cond.selects RX1 yX1_saveTo yX1_saveTo ∈ BIG := mB (List.mem_of_getElem? (i := 333) (by decide +kernel)) rfl
theorem k_334 : Cond.code yX1_saveTo cX1_saveTo 3 none ∈ BIG := mB (List.mem_of_getElem? (i := 334) (by decide +kernel)) rfl
theorem k_335 : Cond.methodLink RX1 35 arraycopyName ∈ BIG := mB (List.mem_of_getElem? (i := 335) (by decide +kernel)) rfl
theorem k_336 : Cond.static arraycopyName ∈ BIG := mB (List.mem_of_getElem? (i := 336) (by decide +kernel)) rfl
theorem k_337 : Cond.native arraycopyName ∈ BIG := mB (List.mem_of_getElem? (i := 337) (by decide +kernel)) rfl
theorem k_338 : Cond.fieldLink RX5 20 RX5 "now" "LTailorRegiment$Company;" ∈ BIG := mB (List.mem_of_getElem? (i := 338) (by decide +kernel)) rfl
theorem k_339 : Cond.fieldLink RX5 13 RX5 "rows" "[I" ∈ BIG := mB (List.mem_of_getElem? (i := 339) (by decide +kernel)) rfl
theorem k_340 : Cond.fieldLink RX5 17 RX5 "boxes" "[I" ∈ BIG := mB (List.mem_of_getElem? (i := 340) (by decide +kernel)) rfl
theorem k_341 : Cond.fieldLink RX5 28 RX5 "filled" "I" ∈ BIG := mB (List.mem_of_getElem? (i := 341) (by decide +kernel)) rfl
theorem k_342 : Cond.fieldLink RX5 35 RX5 "first" "I" ∈ BIG := mB (List.mem_of_getElem? (i := 342) (by decide +kernel)) rfl
theorem k_343 : Cond.fieldLink RX5 38 RX5 "done" "I" ∈ BIG := mB (List.mem_of_getElem? (i := 343) (by decide +kernel)) rfl
theorem k_344 : Cond.fieldLinkNest RX10 332 RX5 "done" "I" "TailorRegiment" ∈ NST := mN (List.mem_of_getElem? (i := 344) (by decide +kernel)) rfl
theorem k_345 : Cond.fieldLink RX5 41 RX5 "undone" "I" ∈ BIG := mB (List.mem_of_getElem? (i := 345) (by decide +kernel)) rfl
theorem k_346 : Cond.fieldLinkNest RX10 335 RX5 "undone" "I" "TailorRegiment" ∈ NST := mN (List.mem_of_getElem? (i := 346) (by decide +kernel)) rfl
theorem k_362 : Cond.classLink RX10 50 RX3 ∈ BIG := mB (List.mem_of_getElem? (i := 362) (by decide +kernel)) rfl
theorem k_363 : Cond.instantiable RX3 10 ∈ BIG := mB (List.mem_of_getElem? (i := 363) (by decide +kernel)) rfl
theorem k_364 : Cond.methodLink RX10 52 yX3_init ∈ BIG := mB (List.mem_of_getElem? (i := 364) (by decide +kernel)) rfl
theorem k_365 : Cond.instanceMethod yX3_init ∈ BIG := mB (List.mem_of_getElem? (i := 365) (by decide +kernel)) rfl
theorem k_366 : Cond.code yX3_init cX3_init 3 none ∈ BIG := mB (List.mem_of_getElem? (i := 366) (by decide +kernel)) rfl
theorem k_367 : Cond.methodLink RX3 3 Lib.objectInit ∈ BIG := mB (List.mem_of_getElem? (i := 367) (by decide +kernel)) rfl
theorem k_368 : Cond.classLink RX3 19 RX1 ∈ BIG := mB (List.mem_of_getElem? (i := 368) (by decide +kernel)) rfl
theorem k_369 : Cond.methodLink RX3 21 yX1_init ∈ BIG := mB (List.mem_of_getElem? (i := 369) (by decide +kernel)) rfl
theorem k_370 : Cond.fieldLink RX3 9 RX3 "roll" "LTailorRegiment$Roll;" ∈ BIG := mB (List.mem_of_getElem? (i := 370) (by decide +kernel)) rfl
theorem k_371 : Cond.fieldLink RX3 15 RX3 "now" "LTailorRegiment$Company;" ∈ BIG := mB (List.mem_of_getElem? (i := 371) (by decide +kernel)) rfl
theorem k_372 : Cond.fieldLink RX3 24 RX3 "ahead" "LTailorRegiment$Company;" ∈ BIG := mB (List.mem_of_getElem? (i := 372) (by decide +kernel)) rfl
theorem k_385 : Cond.fieldLink RX3 110 RX3 "changeFits" "I" ∈ BIG := mB (List.mem_of_getElem? (i := 385) (by decide +kernel)) rfl
theorem k_408 : Cond.classLink RX10 59 RX2 ∈ BIG := mB (List.mem_of_getElem? (i := 408) (by decide +kernel)) rfl
theorem k_409 : Cond.instantiable RX2 3 ∈ BIG := mB (List.mem_of_getElem? (i := 409) (by decide +kernel)) rfl
theorem k_410 : Cond.methodLink RX10 61 yX2_init ∈ BIG := mB (List.mem_of_getElem? (i := 410) (by decide +kernel)) rfl
theorem k_411 : Cond.instanceMethod yX2_init ∈ BIG := mB (List.mem_of_getElem? (i := 411) (by decide +kernel)) rfl
theorem k_412 : Cond.code yX2_init cX2_init 3 none ∈ BIG := mB (List.mem_of_getElem? (i := 412) (by decide +kernel)) rfl
theorem k_413 : Cond.methodLink RX2 3 Lib.objectInit ∈ BIG := mB (List.mem_of_getElem? (i := 413) (by decide +kernel)) rfl
theorem k_414 : Cond.fieldLink RX2 15 RX2 "roll" "LTailorRegiment$Roll;" ∈ BIG := mB (List.mem_of_getElem? (i := 414) (by decide +kernel)) rfl
theorem k_415 : Cond.fieldLink RX2 19 RX2 "now" "LTailorRegiment$Company;" ∈ BIG := mB (List.mem_of_getElem? (i := 415) (by decide +kernel)) rfl
theorem k_416 : Cond.fieldLink RX2 9 RX2 "lengths" "[I" ∈ BIG := mB (List.mem_of_getElem? (i := 416) (by decide +kernel)) rfl
theorem k_424 : Cond.classLink RX10 66 RX0 ∈ BIG := mB (List.mem_of_getElem? (i := 424) (by decide +kernel)) rfl
theorem k_425 : Cond.instantiable RX0 8 ∈ BIG := mB (List.mem_of_getElem? (i := 425) (by decide +kernel)) rfl
theorem k_426 : Cond.methodLink RX10 68 yX0_init ∈ BIG := mB (List.mem_of_getElem? (i := 426) (by decide +kernel)) rfl
theorem k_427 : Cond.instanceMethod yX0_init ∈ BIG := mB (List.mem_of_getElem? (i := 427) (by decide +kernel)) rfl
theorem k_428 : Cond.code yX0_init cX0_init 3 none ∈ BIG := mB (List.mem_of_getElem? (i := 428) (by decide +kernel)) rfl
theorem k_429 : Cond.methodLink RX0 3 Lib.objectInit ∈ BIG := mB (List.mem_of_getElem? (i := 429) (by decide +kernel)) rfl
theorem k_430 : Cond.fieldLink RX0 21 RX0 "roll" "LTailorRegiment$Roll;" ∈ BIG := mB (List.mem_of_getElem? (i := 430) (by decide +kernel)) rfl
theorem k_431 : Cond.fieldLink RX0 25 RX0 "now" "LTailorRegiment$Company;" ∈ BIG := mB (List.mem_of_getElem? (i := 431) (by decide +kernel)) rfl
theorem k_432 : Cond.fieldLink RX0 9 RX0 "row" "[I" ∈ BIG := mB (List.mem_of_getElem? (i := 432) (by decide +kernel)) rfl
theorem k_433 : Cond.fieldLink RX0 29 RX0 "count" "I" ∈ BIG := mB (List.mem_of_getElem? (i := 433) (by decide +kernel)) rfl
theorem k_434 : Cond.fieldLinkNest RX10 350 RX0 "count" "I" "TailorRegiment" ∈ NST := mN (List.mem_of_getElem? (i := 434) (by decide +kernel)) rfl
theorem k_435 : Cond.fieldLink RX0 15 RX0 "best" "[I" ∈ BIG := mB (List.mem_of_getElem? (i := 435) (by decide +kernel)) rfl
theorem k_436 : Cond.fieldLink RX0 18 RX0 "gains" "[I" ∈ BIG := mB (List.mem_of_getElem? (i := 436) (by decide +kernel)) rfl
theorem k_437 : Cond.fieldLink RX0 42 RX0 "dressed" "I" ∈ BIG := mB (List.mem_of_getElem? (i := 437) (by decide +kernel)) rfl
theorem k_438 : Cond.fieldLinkNest RX10 193 RX0 "dressed" "I" "TailorRegiment" ∈ NST := mN (List.mem_of_getElem? (i := 438) (by decide +kernel)) rfl
theorem k_439 : Cond.fieldLink RX0 45 RX0 "dressedIll" "I" ∈ BIG := mB (List.mem_of_getElem? (i := 439) (by decide +kernel)) rfl
theorem k_440 : Cond.fieldLinkNest RX10 196 RX0 "dressedIll" "I" "TailorRegiment" ∈ NST := mN (List.mem_of_getElem? (i := 440) (by decide +kernel)) rfl
theorem k_458 : Cond.classLink RX10 73 RX8 ∈ BIG := mB (List.mem_of_getElem? (i := 458) (by decide +kernel)) rfl
theorem k_459 : Cond.instantiable RX8 7 ∈ BIG := mB (List.mem_of_getElem? (i := 459) (by decide +kernel)) rfl
theorem k_460 : Cond.methodLink RX10 75 yX8_init ∈ BIG := mB (List.mem_of_getElem? (i := 460) (by decide +kernel)) rfl
theorem k_461 : Cond.instanceMethod yX8_init ∈ BIG := mB (List.mem_of_getElem? (i := 461) (by decide +kernel)) rfl
theorem k_462 : Cond.code yX8_init cX8_init 2 none ∈ BIG := mB (List.mem_of_getElem? (i := 462) (by decide +kernel)) rfl
theorem k_463 : Cond.methodLink RX8 3 Lib.objectInit ∈ BIG := mB (List.mem_of_getElem? (i := 463) (by decide +kernel)) rfl
theorem k_464 : Cond.methodLink RX8 32 yJ7_fill_53178 ∈ BIG := mB (List.mem_of_getElem? (i := 464) (by decide +kernel)) rfl
theorem k_465 : Cond.static yJ7_fill_53178 ∈ BIG := mB (List.mem_of_getElem? (i := 465) (by decide +kernel)) rfl
theorem k_466 : Cond.code yJ7_fill_53178 cJ7_fill_53178 4 none ∈ BIG := mB (List.mem_of_getElem? (i := 466) (by decide +kernel)) rfl
theorem k_467 : Cond.fieldLink RX8 28 RX8 "roll" "LTailorRegiment$Roll;" ∈ BIG := mB (List.mem_of_getElem? (i := 467) (by decide +kernel)) rfl
theorem k_468 : Cond.fieldLink RX8 11 RX8 "days" "[I" ∈ BIG := mB (List.mem_of_getElem? (i := 468) (by decide +kernel)) rfl
theorem k_469 : Cond.fieldLink RX8 15 RX8 "fitted" "[Z" ∈ BIG := mB (List.mem_of_getElem? (i := 469) (by decide +kernel)) rfl
theorem k_470 : Cond.fieldLink RX8 19 RX8 "toldAt" "[I" ∈ BIG := mB (List.mem_of_getElem? (i := 470) (by decide +kernel)) rfl
theorem k_471 : Cond.fieldLink RX8 22 RX8 "untoldAt" "[I" ∈ BIG := mB (List.mem_of_getElem? (i := 471) (by decide +kernel)) rfl
theorem k_472 : Cond.fieldLink RX8 38 RX8 "count" "I" ∈ BIG := mB (List.mem_of_getElem? (i := 472) (by decide +kernel)) rfl
theorem k_473 : Cond.fieldLinkNest RX10 338 RX8 "count" "I" "TailorRegiment" ∈ NST := mN (List.mem_of_getElem? (i := 473) (by decide +kernel)) rfl
theorem k_474 : Cond.fieldLink RX8 25 RX8 "fitting" "[I" ∈ BIG := mB (List.mem_of_getElem? (i := 474) (by decide +kernel)) rfl
theorem k_490 : Cond.arrayClass .boolean ∈ BIG := mB (List.mem_of_getElem? (i := 490) (by decide +kernel)) rfl
theorem k_491 : Cond.fieldLink RX10 10 RX10 "tape" "LTailorRegiment$Tape;" ∈ BIG := mB (List.mem_of_getElem? (i := 491) (by decide +kernel)) rfl
theorem k_492 : Cond.fieldLink RX10 21 RX10 "reader" "LTailorRegiment$Reader;" ∈ BIG := mB (List.mem_of_getElem? (i := 492) (by decide +kernel)) rfl
theorem k_493 : Cond.fieldLink RX10 28 RX10 "roll" "LTailorRegiment$Roll;" ∈ BIG := mB (List.mem_of_getElem? (i := 493) (by decide +kernel)) rfl
theorem k_494 : Cond.fieldLink RX10 37 RX10 "now" "LTailorRegiment$Company;" ∈ BIG := mB (List.mem_of_getElem? (i := 494) (by decide +kernel)) rfl
theorem k_495 : Cond.fieldLink RX10 46 RX10 "memory" "LTailorRegiment$Memory;" ∈ BIG := mB (List.mem_of_getElem? (i := 495) (by decide +kernel)) rfl
theorem k_496 : Cond.fieldLink RX10 55 RX10 "fitting" "LTailorRegiment$Fitting;" ∈ BIG := mB (List.mem_of_getElem? (i := 496) (by decide +kernel)) rfl
theorem k_497 : Cond.fieldLink RX10 62 RX10 "cutting" "LTailorRegiment$Cutting;" ∈ BIG := mB (List.mem_of_getElem? (i := 497) (by decide +kernel)) rfl
theorem k_498 : Cond.fieldLink RX10 69 RX10 "choices" "LTailorRegiment$Choices;" ∈ BIG := mB (List.mem_of_getElem? (i := 498) (by decide +kernel)) rfl
theorem k_499 : Cond.fieldLink RX10 76 RX10 "sightings" "LTailorRegiment$Sightings;" ∈ BIG := mB (List.mem_of_getElem? (i := 499) (by decide +kernel)) rfl
theorem k_500 : Cond.fieldLink RX10 288 RX10 "time" "I" ∈ BIG := mB (List.mem_of_getElem? (i := 500) (by decide +kernel)) rfl
theorem k_522 : Cond.methodLink RL 13 yX10_feed ∈ BIG := mB (List.mem_of_getElem? (i := 522) (by decide +kernel)) rfl
theorem k_523 : Cond.instanceMethod yX10_feed ∈ BIG := mB (List.mem_of_getElem? (i := 523) (by decide +kernel)) rfl
theorem k_524 : Cond.selects RX10 yX10_feed yX10_feed ∈ BIG := mB (List.mem_of_getElem? (i := 524) (by decide +kernel)) rfl
theorem k_525 : Cond.code yX10_feed cX10_feed 6 (some .int) ∈ BIG := mB (List.mem_of_getElem? (i := 525) (by decide +kernel)) rfl
theorem k_526 : Cond.methodLink RX10 80 yX9_hasRoom ∈ BIG := mB (List.mem_of_getElem? (i := 526) (by decide +kernel)) rfl
theorem k_527 : Cond.instanceMethod yX9_hasRoom ∈ BIG := mB (List.mem_of_getElem? (i := 527) (by decide +kernel)) rfl
theorem k_528 : Cond.selects RX9 yX9_hasRoom yX9_hasRoom ∈ BIG := mB (List.mem_of_getElem? (i := 528) (by decide +kernel)) rfl
theorem k_529 : Cond.code yX9_hasRoom cX9_hasRoom 1 (some .boolean) ∈ BIG := mB (List.mem_of_getElem? (i := 529) (by decide +kernel)) rfl
theorem k_530 : Cond.methodLink RX10 84 yX9_append ∈ BIG := mB (List.mem_of_getElem? (i := 530) (by decide +kernel)) rfl
theorem k_531 : Cond.instanceMethod yX9_append ∈ BIG := mB (List.mem_of_getElem? (i := 531) (by decide +kernel)) rfl
theorem k_532 : Cond.selects RX9 yX9_append yX9_append ∈ BIG := mB (List.mem_of_getElem? (i := 532) (by decide +kernel)) rfl
theorem k_533 : Cond.code yX9_append cX9_append 3 none ∈ BIG := mB (List.mem_of_getElem? (i := 533) (by decide +kernel)) rfl
theorem k_534 : Cond.methodLink RL 18 yX10_end ∈ BIG := mB (List.mem_of_getElem? (i := 534) (by decide +kernel)) rfl
theorem k_535 : Cond.instanceMethod yX10_end ∈ BIG := mB (List.mem_of_getElem? (i := 535) (by decide +kernel)) rfl
theorem k_536 : Cond.selects RX10 yX10_end yX10_end ∈ BIG := mB (List.mem_of_getElem? (i := 536) (by decide +kernel)) rfl
theorem k_537 : Cond.code yX10_end cX10_end 2 (some .int) ∈ BIG := mB (List.mem_of_getElem? (i := 537) (by decide +kernel)) rfl
theorem k_538 : Cond.methodLink RL 23 yX10_regiment ∈ BIG := mB (List.mem_of_getElem? (i := 538) (by decide +kernel)) rfl
theorem k_539 : Cond.instanceMethod yX10_regiment ∈ BIG := mB (List.mem_of_getElem? (i := 539) (by decide +kernel)) rfl
theorem k_540 : Cond.selects RX10 yX10_regiment yX10_regiment ∈ BIG := mB (List.mem_of_getElem? (i := 540) (by decide +kernel)) rfl
theorem k_541 : Cond.code yX10_regiment cX10_regiment 2 (some .int) ∈ BIG := mB (List.mem_of_getElem? (i := 541) (by decide +kernel)) rfl
theorem k_542 : Cond.methodLink RX10 92 yX6_read ∈ BIG := mB (List.mem_of_getElem? (i := 542) (by decide +kernel)) rfl
theorem k_543 : Cond.instanceMethod yX6_read ∈ BIG := mB (List.mem_of_getElem? (i := 543) (by decide +kernel)) rfl
theorem k_544 : Cond.selects RX6 yX6_read yX6_read ∈ BIG := mB (List.mem_of_getElem? (i := 544) (by decide +kernel)) rfl
theorem k_545 : Cond.code yX6_read cX6_read 2 (some .boolean) ∈ BIG := mB (List.mem_of_getElem? (i := 545) (by decide +kernel)) rfl
theorem k_546 : Cond.methodLink RX6 33 yX7_clear ∈ BIG := mB (List.mem_of_getElem? (i := 546) (by decide +kernel)) rfl
theorem k_547 : Cond.instanceMethod yX7_clear ∈ BIG := mB (List.mem_of_getElem? (i := 547) (by decide +kernel)) rfl
theorem k_548 : Cond.selects RX7 yX7_clear yX7_clear ∈ BIG := mB (List.mem_of_getElem? (i := 548) (by decide +kernel)) rfl
theorem k_549 : Cond.code yX7_clear cX7_clear 1 none ∈ BIG := mB (List.mem_of_getElem? (i := 549) (by decide +kernel)) rfl
theorem k_550 : Cond.methodLink RX7 35 yX4_clear ∈ BIG := mB (List.mem_of_getElem? (i := 550) (by decide +kernel)) rfl
theorem k_551 : Cond.instanceMethod yX4_clear ∈ BIG := mB (List.mem_of_getElem? (i := 551) (by decide +kernel)) rfl
theorem k_552 : Cond.selects RX4 yX4_clear yX4_clear ∈ BIG := mB (List.mem_of_getElem? (i := 552) (by decide +kernel)) rfl
theorem k_553 : Cond.code yX4_clear cX4_clear 1 none ∈ BIG := mB (List.mem_of_getElem? (i := 553) (by decide +kernel)) rfl
theorem k_554 : Cond.methodLink RX6 42 yX9_rewind ∈ BIG := mB (List.mem_of_getElem? (i := 554) (by decide +kernel)) rfl
theorem k_555 : Cond.instanceMethod yX9_rewind ∈ BIG := mB (List.mem_of_getElem? (i := 555) (by decide +kernel)) rfl
theorem k_556 : Cond.selects RX9 yX9_rewind yX9_rewind ∈ BIG := mB (List.mem_of_getElem? (i := 556) (by decide +kernel)) rfl
theorem k_557 : Cond.code yX9_rewind cX9_rewind 1 none ∈ BIG := mB (List.mem_of_getElem? (i := 557) (by decide +kernel)) rfl
theorem k_558 : Cond.methodLink RX9 22 yX9_advance ∈ BIG := mB (List.mem_of_getElem? (i := 558) (by decide +kernel)) rfl
theorem k_559 : Cond.instanceMethod yX9_advance ∈ BIG := mB (List.mem_of_getElem? (i := 559) (by decide +kernel)) rfl
theorem k_560 : Cond.selects RX9 yX9_advance yX9_advance ∈ BIG := mB (List.mem_of_getElem? (i := 560) (by decide +kernel)) rfl
theorem k_561 : Cond.code yX9_advance cX9_advance 1 none ∈ BIG := mB (List.mem_of_getElem? (i := 561) (by decide +kernel)) rfl
theorem k_767 : Cond.methodLink RX10 98 yX7_copy ∈ BIG := mB (List.mem_of_getElem? (i := 767) (by decide +kernel)) rfl
theorem k_768 : Cond.instanceMethod yX7_copy ∈ BIG := mB (List.mem_of_getElem? (i := 768) (by decide +kernel)) rfl
theorem k_769 : Cond.selects RX7 yX7_copy yX7_copy ∈ BIG := mB (List.mem_of_getElem? (i := 769) (by decide +kernel)) rfl
theorem k_770 : Cond.code yX7_copy cX7_copy 2 none ∈ BIG := mB (List.mem_of_getElem? (i := 770) (by decide +kernel)) rfl
theorem k_771 : Cond.methodLink RX7 53 arraycopyName ∈ BIG := mB (List.mem_of_getElem? (i := 771) (by decide +kernel)) rfl
theorem k_772 : Cond.methodLink RX7 59 yX4_copy ∈ BIG := mB (List.mem_of_getElem? (i := 772) (by decide +kernel)) rfl
theorem k_773 : Cond.instanceMethod yX4_copy ∈ BIG := mB (List.mem_of_getElem? (i := 773) (by decide +kernel)) rfl
theorem k_774 : Cond.selects RX4 yX4_copy yX4_copy ∈ BIG := mB (List.mem_of_getElem? (i := 774) (by decide +kernel)) rfl
theorem k_775 : Cond.code yX4_copy cX4_copy 2 none ∈ BIG := mB (List.mem_of_getElem? (i := 775) (by decide +kernel)) rfl
theorem k_776 : Cond.methodLink RX4 31 arraycopyName ∈ BIG := mB (List.mem_of_getElem? (i := 776) (by decide +kernel)) rfl
theorem k_777 : Cond.methodLink RX10 101 yX1_muster ∈ BIG := mB (List.mem_of_getElem? (i := 777) (by decide +kernel)) rfl
theorem k_778 : Cond.methodLink RX10 104 yX5_forgetAll ∈ BIG := mB (List.mem_of_getElem? (i := 778) (by decide +kernel)) rfl
theorem k_779 : Cond.instanceMethod yX5_forgetAll ∈ BIG := mB (List.mem_of_getElem? (i := 779) (by decide +kernel)) rfl
theorem k_780 : Cond.selects RX5 yX5_forgetAll yX5_forgetAll ∈ BIG := mB (List.mem_of_getElem? (i := 780) (by decide +kernel)) rfl
theorem k_781 : Cond.code yX5_forgetAll cX5_forgetAll 1 none ∈ BIG := mB (List.mem_of_getElem? (i := 781) (by decide +kernel)) rfl
theorem k_782 : Cond.methodLink RX5 32 yX5_forgetActs ∈ BIG := mB (List.mem_of_getElem? (i := 782) (by decide +kernel)) rfl
theorem k_784 : Cond.instanceMethod yX5_forgetActs ∈ BIG := mB (List.mem_of_getElem? (i := 784) (by decide +kernel)) rfl
theorem k_785 : Cond.code yX5_forgetActs cX5_forgetActs 1 none ∈ BIG := mB (List.mem_of_getElem? (i := 785) (by decide +kernel)) rfl
theorem k_786 : Cond.methodLink RX10 107 yX0_clear ∈ BIG := mB (List.mem_of_getElem? (i := 786) (by decide +kernel)) rfl
theorem k_787 : Cond.instanceMethod yX0_clear ∈ BIG := mB (List.mem_of_getElem? (i := 787) (by decide +kernel)) rfl
theorem k_788 : Cond.selects RX0 yX0_clear yX0_clear ∈ BIG := mB (List.mem_of_getElem? (i := 788) (by decide +kernel)) rfl
theorem k_789 : Cond.code yX0_clear cX0_clear 1 none ∈ BIG := mB (List.mem_of_getElem? (i := 789) (by decide +kernel)) rfl
theorem k_790 : Cond.methodLink RX10 110 yX8_clear ∈ BIG := mB (List.mem_of_getElem? (i := 790) (by decide +kernel)) rfl
theorem k_791 : Cond.instanceMethod yX8_clear ∈ BIG := mB (List.mem_of_getElem? (i := 791) (by decide +kernel)) rfl
theorem k_792 : Cond.selects RX8 yX8_clear yX8_clear ∈ BIG := mB (List.mem_of_getElem? (i := 792) (by decide +kernel)) rfl
theorem k_793 : Cond.code yX8_clear cX8_clear 1 none ∈ BIG := mB (List.mem_of_getElem? (i := 793) (by decide +kernel)) rfl
theorem k_794 : Cond.methodLink RL 28 yX10_fault ∈ BIG := mB (List.mem_of_getElem? (i := 794) (by decide +kernel)) rfl
theorem k_795 : Cond.instanceMethod yX10_fault ∈ BIG := mB (List.mem_of_getElem? (i := 795) (by decide +kernel)) rfl
theorem k_796 : Cond.selects RX10 yX10_fault yX10_fault ∈ BIG := mB (List.mem_of_getElem? (i := 796) (by decide +kernel)) rfl
theorem k_797 : Cond.code yX10_fault cX10_fault 2 (some .int) ∈ BIG := mB (List.mem_of_getElem? (i := 797) (by decide +kernel)) rfl
theorem k_798 : Cond.methodLink RL 32 yX10_man ∈ BIG := mB (List.mem_of_getElem? (i := 798) (by decide +kernel)) rfl
theorem k_799 : Cond.instanceMethod yX10_man ∈ BIG := mB (List.mem_of_getElem? (i := 799) (by decide +kernel)) rfl
theorem k_800 : Cond.selects RX10 yX10_man yX10_man ∈ BIG := mB (List.mem_of_getElem? (i := 800) (by decide +kernel)) rfl
theorem k_801 : Cond.code yX10_man cX10_man 3 (some .int) ∈ BIG := mB (List.mem_of_getElem? (i := 801) (by decide +kernel)) rfl
theorem k_802 : Cond.methodLink RX10 120 yX7_hasMan ∈ BIG := mB (List.mem_of_getElem? (i := 802) (by decide +kernel)) rfl
theorem k_808 : Cond.methodLink RX1 41 yX7_hasMan ∈ BIG := mB (List.mem_of_getElem? (i := 808) (by decide +kernel)) rfl
theorem k_809 : Cond.methodLink RX10 132 yX1_wears ∈ BIG := mB (List.mem_of_getElem? (i := 809) (by decide +kernel)) rfl
theorem k_810 : Cond.instanceMethod yX1_wears ∈ BIG := mB (List.mem_of_getElem? (i := 810) (by decide +kernel)) rfl
theorem k_811 : Cond.selects RX1 yX1_wears yX1_wears ∈ BIG := mB (List.mem_of_getElem? (i := 811) (by decide +kernel)) rfl
theorem k_812 : Cond.code yX1_wears cX1_wears 2 (some .int) ∈ BIG := mB (List.mem_of_getElem? (i := 812) (by decide +kernel)) rfl
theorem k_821 : Cond.methodLink RX1 45 yX7_hasCoat ∈ BIG := mB (List.mem_of_getElem? (i := 821) (by decide +kernel)) rfl
theorem k_828 : Cond.instanceMethod yX1_part ∈ BIG := mB (List.mem_of_getElem? (i := 828) (by decide +kernel)) rfl
theorem k_829 : Cond.selects RX1 yX1_part yX1_part ∈ BIG := mB (List.mem_of_getElem? (i := 829) (by decide +kernel)) rfl
theorem k_830 : Cond.code yX1_part cX1_part 4 (some .int) ∈ BIG := mB (List.mem_of_getElem? (i := 830) (by decide +kernel)) rfl
theorem k_832 : Cond.instanceMethod yX1_today ∈ BIG := mB (List.mem_of_getElem? (i := 832) (by decide +kernel)) rfl
theorem k_833 : Cond.selects RX1 yX1_today yX1_today ∈ BIG := mB (List.mem_of_getElem? (i := 833) (by decide +kernel)) rfl
theorem k_834 : Cond.code yX1_today cX1_today 1 (some .int) ∈ BIG := mB (List.mem_of_getElem? (i := 834) (by decide +kernel)) rfl
theorem k_844 : Cond.methodLink RL 37 yX10_coat ∈ BIG := mB (List.mem_of_getElem? (i := 844) (by decide +kernel)) rfl
theorem k_845 : Cond.instanceMethod yX10_coat ∈ BIG := mB (List.mem_of_getElem? (i := 845) (by decide +kernel)) rfl
theorem k_846 : Cond.selects RX10 yX10_coat yX10_coat ∈ BIG := mB (List.mem_of_getElem? (i := 846) (by decide +kernel)) rfl
theorem k_847 : Cond.code yX10_coat cX10_coat 3 (some .int) ∈ BIG := mB (List.mem_of_getElem? (i := 847) (by decide +kernel)) rfl
theorem k_848 : Cond.methodLink RX10 138 yX7_hasCoat ∈ BIG := mB (List.mem_of_getElem? (i := 848) (by decide +kernel)) rfl
theorem k_854 : Cond.methodLink RX10 144 yX1_part ∈ BIG := mB (List.mem_of_getElem? (i := 854) (by decide +kernel)) rfl
theorem k_855 : Cond.methodLink RL 41 yX10_misfit ∈ BIG := mB (List.mem_of_getElem? (i := 855) (by decide +kernel)) rfl
theorem k_856 : Cond.instanceMethod yX10_misfit ∈ BIG := mB (List.mem_of_getElem? (i := 856) (by decide +kernel)) rfl
theorem k_857 : Cond.selects RX10 yX10_misfit yX10_misfit ∈ BIG := mB (List.mem_of_getElem? (i := 857) (by decide +kernel)) rfl
theorem k_858 : Cond.code yX10_misfit cX10_misfit 3 (some .int) ∈ BIG := mB (List.mem_of_getElem? (i := 858) (by decide +kernel)) rfl
theorem k_860 : Cond.methodLink RL 45 yX10_day ∈ BIG := mB (List.mem_of_getElem? (i := 860) (by decide +kernel)) rfl
theorem k_861 : Cond.instanceMethod yX10_day ∈ BIG := mB (List.mem_of_getElem? (i := 861) (by decide +kernel)) rfl
theorem k_862 : Cond.selects RX10 yX10_day yX10_day ∈ BIG := mB (List.mem_of_getElem? (i := 862) (by decide +kernel)) rfl
theorem k_863 : Cond.code yX10_day cX10_day 2 (some .int) ∈ BIG := mB (List.mem_of_getElem? (i := 863) (by decide +kernel)) rfl
theorem k_864 : Cond.methodLink RX10 150 yX1_today ∈ BIG := mB (List.mem_of_getElem? (i := 864) (by decide +kernel)) rfl
theorem k_865 : Cond.methodLink RX10 157 yX1_passDay ∈ BIG := mB (List.mem_of_getElem? (i := 865) (by decide +kernel)) rfl
theorem k_866 : Cond.instanceMethod yX1_passDay ∈ BIG := mB (List.mem_of_getElem? (i := 866) (by decide +kernel)) rfl
end
section
theorem k_867 : Cond.selects RX1 yX1_passDay yX1_passDay ∈ BIG := mB (List.mem_of_getElem? (i := 867) (by decide +kernel)) rfl
theorem k_868 : Cond.code yX1_passDay cX1_passDay 5 (some .int) ∈ BIG := mB (List.mem_of_getElem? (i := 868) (by decide +kernel)) rfl
theorem k_883 : Cond.methodLink RX10 160 yX5_keepAct ∈ BIG := mB (List.mem_of_getElem? (i := 883) (by decide +kernel)) rfl
theorem k_884 : Cond.instanceMethod yX5_keepAct ∈ BIG := mB (List.mem_of_getElem? (i := 884) (by decide +kernel)) rfl
theorem k_885 : Cond.selects RX5 yX5_keepAct yX5_keepAct ∈ BIG := mB (List.mem_of_getElem? (i := 885) (by decide +kernel)) rfl
theorem k_886 : Cond.code yX5_keepAct cX5_keepAct 1 none ∈ BIG := mB (List.mem_of_getElem? (i := 886) (by decide +kernel)) rfl
theorem k_887 : Cond.methodLink RL 49 yX10_don ∈ BIG := mB (List.mem_of_getElem? (i := 887) (by decide +kernel)) rfl
theorem k_888 : Cond.instanceMethod yX10_don ∈ BIG := mB (List.mem_of_getElem? (i := 888) (by decide +kernel)) rfl
theorem k_889 : Cond.selects RX10 yX10_don yX10_don ∈ BIG := mB (List.mem_of_getElem? (i := 889) (by decide +kernel)) rfl
theorem k_890 : Cond.code yX10_don cX10_don 4 (some .int) ∈ BIG := mB (List.mem_of_getElem? (i := 890) (by decide +kernel)) rfl
theorem k_892 : Cond.methodLink RL 53 yX10_doff ∈ BIG := mB (List.mem_of_getElem? (i := 892) (by decide +kernel)) rfl
theorem k_893 : Cond.instanceMethod yX10_doff ∈ BIG := mB (List.mem_of_getElem? (i := 893) (by decide +kernel)) rfl
theorem k_894 : Cond.selects RX10 yX10_doff yX10_doff ∈ BIG := mB (List.mem_of_getElem? (i := 894) (by decide +kernel)) rfl
theorem k_895 : Cond.code yX10_doff cX10_doff 3 (some .int) ∈ BIG := mB (List.mem_of_getElem? (i := 895) (by decide +kernel)) rfl
theorem k_896 : Cond.methodLink RL 57 yX10_letout ∈ BIG := mB (List.mem_of_getElem? (i := 896) (by decide +kernel)) rfl
theorem k_897 : Cond.instanceMethod yX10_letout ∈ BIG := mB (List.mem_of_getElem? (i := 897) (by decide +kernel)) rfl
theorem k_898 : Cond.selects RX10 yX10_letout yX10_letout ∈ BIG := mB (List.mem_of_getElem? (i := 898) (by decide +kernel)) rfl
theorem k_899 : Cond.code yX10_letout cX10_letout 3 (some .int) ∈ BIG := mB (List.mem_of_getElem? (i := 899) (by decide +kernel)) rfl
theorem k_905 : Cond.methodLink RL 61 yX10_takein ∈ BIG := mB (List.mem_of_getElem? (i := 905) (by decide +kernel)) rfl
theorem k_906 : Cond.instanceMethod yX10_takein ∈ BIG := mB (List.mem_of_getElem? (i := 906) (by decide +kernel)) rfl
theorem k_907 : Cond.selects RX10 yX10_takein yX10_takein ∈ BIG := mB (List.mem_of_getElem? (i := 907) (by decide +kernel)) rfl
theorem k_908 : Cond.code yX10_takein cX10_takein 3 (some .int) ∈ BIG := mB (List.mem_of_getElem? (i := 908) (by decide +kernel)) rfl
theorem k_909 : Cond.methodLink RL 65 yX10_hem ∈ BIG := mB (List.mem_of_getElem? (i := 909) (by decide +kernel)) rfl
theorem k_910 : Cond.instanceMethod yX10_hem ∈ BIG := mB (List.mem_of_getElem? (i := 910) (by decide +kernel)) rfl
theorem k_911 : Cond.selects RX10 yX10_hem yX10_hem ∈ BIG := mB (List.mem_of_getElem? (i := 911) (by decide +kernel)) rfl
theorem k_912 : Cond.code yX10_hem cX10_hem 4 (some .int) ∈ BIG := mB (List.mem_of_getElem? (i := 912) (by decide +kernel)) rfl
theorem k_913 : Cond.methodLink RL 69 yX10_turn ∈ BIG := mB (List.mem_of_getElem? (i := 913) (by decide +kernel)) rfl
theorem k_914 : Cond.instanceMethod yX10_turn ∈ BIG := mB (List.mem_of_getElem? (i := 914) (by decide +kernel)) rfl
theorem k_915 : Cond.selects RX10 yX10_turn yX10_turn ∈ BIG := mB (List.mem_of_getElem? (i := 915) (by decide +kernel)) rfl
theorem k_916 : Cond.code yX10_turn cX10_turn 3 (some .int) ∈ BIG := mB (List.mem_of_getElem? (i := 916) (by decide +kernel)) rfl
theorem k_917 : Cond.methodLink RL 73 yX10_undo ∈ BIG := mB (List.mem_of_getElem? (i := 917) (by decide +kernel)) rfl
theorem k_918 : Cond.instanceMethod yX10_undo ∈ BIG := mB (List.mem_of_getElem? (i := 918) (by decide +kernel)) rfl
theorem k_919 : Cond.selects RX10 yX10_undo yX10_undo ∈ BIG := mB (List.mem_of_getElem? (i := 919) (by decide +kernel)) rfl
theorem k_920 : Cond.code yX10_undo cX10_undo 1 (some .boolean) ∈ BIG := mB (List.mem_of_getElem? (i := 920) (by decide +kernel)) rfl
theorem k_921 : Cond.methodLink RX10 174 yX5_stepBack ∈ BIG := mB (List.mem_of_getElem? (i := 921) (by decide +kernel)) rfl
theorem k_922 : Cond.instanceMethod yX5_stepBack ∈ BIG := mB (List.mem_of_getElem? (i := 922) (by decide +kernel)) rfl
theorem k_923 : Cond.selects RX5 yX5_stepBack yX5_stepBack ∈ BIG := mB (List.mem_of_getElem? (i := 923) (by decide +kernel)) rfl
theorem k_924 : Cond.code yX5_stepBack cX5_stepBack 1 (some .boolean) ∈ BIG := mB (List.mem_of_getElem? (i := 924) (by decide +kernel)) rfl
theorem k_929 : Cond.methodLink RL 78 yX10_redo ∈ BIG := mB (List.mem_of_getElem? (i := 929) (by decide +kernel)) rfl
theorem k_930 : Cond.instanceMethod yX10_redo ∈ BIG := mB (List.mem_of_getElem? (i := 930) (by decide +kernel)) rfl
theorem k_931 : Cond.selects RX10 yX10_redo yX10_redo ∈ BIG := mB (List.mem_of_getElem? (i := 931) (by decide +kernel)) rfl
theorem k_932 : Cond.code yX10_redo cX10_redo 1 (some .boolean) ∈ BIG := mB (List.mem_of_getElem? (i := 932) (by decide +kernel)) rfl
theorem k_933 : Cond.methodLink RX10 177 yX5_stepOn ∈ BIG := mB (List.mem_of_getElem? (i := 933) (by decide +kernel)) rfl
theorem k_934 : Cond.instanceMethod yX5_stepOn ∈ BIG := mB (List.mem_of_getElem? (i := 934) (by decide +kernel)) rfl
theorem k_935 : Cond.selects RX5 yX5_stepOn yX5_stepOn ∈ BIG := mB (List.mem_of_getElem? (i := 935) (by decide +kernel)) rfl
theorem k_936 : Cond.code yX5_stepOn cX5_stepOn 1 (some .boolean) ∈ BIG := mB (List.mem_of_getElem? (i := 936) (by decide +kernel)) rfl
theorem k_937 : Cond.methodLink RL 82 yX10_will ∈ BIG := mB (List.mem_of_getElem? (i := 937) (by decide +kernel)) rfl
theorem k_938 : Cond.instanceMethod yX10_will ∈ BIG := mB (List.mem_of_getElem? (i := 938) (by decide +kernel)) rfl
theorem k_939 : Cond.selects RX10 yX10_will yX10_will ∈ BIG := mB (List.mem_of_getElem? (i := 939) (by decide +kernel)) rfl
theorem k_940 : Cond.code yX10_will cX10_will 4 (some .int) ∈ BIG := mB (List.mem_of_getElem? (i := 940) (by decide +kernel)) rfl
theorem k_945 : Cond.methodLink RX3 27 yX1_copy ∈ BIG := mB (List.mem_of_getElem? (i := 945) (by decide +kernel)) rfl
theorem k_946 : Cond.instanceMethod yX1_copy ∈ BIG := mB (List.mem_of_getElem? (i := 946) (by decide +kernel)) rfl
theorem k_947 : Cond.selects RX1 yX1_copy yX1_copy ∈ BIG := mB (List.mem_of_getElem? (i := 947) (by decide +kernel)) rfl
theorem k_948 : Cond.code yX1_copy cX1_copy 2 none ∈ BIG := mB (List.mem_of_getElem? (i := 948) (by decide +kernel)) rfl
theorem k_951 : Cond.methodLink RL 87 yX10_out ∈ BIG := mB (List.mem_of_getElem? (i := 951) (by decide +kernel)) rfl
theorem k_952 : Cond.instanceMethod yX10_out ∈ BIG := mB (List.mem_of_getElem? (i := 952) (by decide +kernel)) rfl
theorem k_953 : Cond.selects RX10 yX10_out yX10_out ∈ BIG := mB (List.mem_of_getElem? (i := 953) (by decide +kernel)) rfl
theorem k_954 : Cond.code yX10_out cX10_out 2 (some .int) ∈ BIG := mB (List.mem_of_getElem? (i := 954) (by decide +kernel)) rfl
theorem k_959 : Cond.methodLink RL 91 yX10_fitted ∈ BIG := mB (List.mem_of_getElem? (i := 959) (by decide +kernel)) rfl
theorem k_960 : Cond.instanceMethod yX10_fitted ∈ BIG := mB (List.mem_of_getElem? (i := 960) (by decide +kernel)) rfl
theorem k_961 : Cond.selects RX10 yX10_fitted yX10_fitted ∈ BIG := mB (List.mem_of_getElem? (i := 961) (by decide +kernel)) rfl
theorem k_962 : Cond.code yX10_fitted cX10_fitted 1 (some .int) ∈ BIG := mB (List.mem_of_getElem? (i := 962) (by decide +kernel)) rfl
theorem k_963 : Cond.methodLink RX10 187 yX1_fittedMen ∈ BIG := mB (List.mem_of_getElem? (i := 963) (by decide +kernel)) rfl
theorem k_964 : Cond.instanceMethod yX1_fittedMen ∈ BIG := mB (List.mem_of_getElem? (i := 964) (by decide +kernel)) rfl
theorem k_965 : Cond.selects RX1 yX1_fittedMen yX1_fittedMen ∈ BIG := mB (List.mem_of_getElem? (i := 965) (by decide +kernel)) rfl
theorem k_966 : Cond.code yX1_fittedMen cX1_fittedMen 3 (some .int) ∈ BIG := mB (List.mem_of_getElem? (i := 966) (by decide +kernel)) rfl
theorem k_967 : Cond.methodLink RL 95 yX10_dress ∈ BIG := mB (List.mem_of_getElem? (i := 967) (by decide +kernel)) rfl
theorem k_968 : Cond.instanceMethod yX10_dress ∈ BIG := mB (List.mem_of_getElem? (i := 968) (by decide +kernel)) rfl
theorem k_969 : Cond.selects RX10 yX10_dress yX10_dress ∈ BIG := mB (List.mem_of_getElem? (i := 969) (by decide +kernel)) rfl
theorem k_970 : Cond.code yX10_dress cX10_dress 2 (some .int) ∈ BIG := mB (List.mem_of_getElem? (i := 970) (by decide +kernel)) rfl
theorem k_971 : Cond.methodLink RX10 190 yX0_layDressing ∈ BIG := mB (List.mem_of_getElem? (i := 971) (by decide +kernel)) rfl
theorem k_972 : Cond.instanceMethod yX0_layDressing ∈ BIG := mB (List.mem_of_getElem? (i := 972) (by decide +kernel)) rfl
theorem k_973 : Cond.selects RX0 yX0_layDressing yX0_layDressing ∈ BIG := mB (List.mem_of_getElem? (i := 973) (by decide +kernel)) rfl
theorem k_974 : Cond.code yX0_layDressing cX0_layDressing 4 none ∈ BIG := mB (List.mem_of_getElem? (i := 974) (by decide +kernel)) rfl
theorem k_975 : Cond.methodLink RX0 33 yX0_reckonGains ∈ BIG := mB (List.mem_of_getElem? (i := 975) (by decide +kernel)) rfl
theorem k_977 : Cond.instanceMethod yX0_reckonGains ∈ BIG := mB (List.mem_of_getElem? (i := 977) (by decide +kernel)) rfl
theorem k_978 : Cond.code yX0_reckonGains cX0_reckonGains 4 none ∈ BIG := mB (List.mem_of_getElem? (i := 978) (by decide +kernel)) rfl
theorem k_980 : Cond.methodLink RX0 36 yX0_reckonBest ∈ BIG := mB (List.mem_of_getElem? (i := 980) (by decide +kernel)) rfl
theorem k_982 : Cond.instanceMethod yX0_reckonBest ∈ BIG := mB (List.mem_of_getElem? (i := 982) (by decide +kernel)) rfl
theorem k_983 : Cond.code yX0_reckonBest cX0_reckonBest 5 none ∈ BIG := mB (List.mem_of_getElem? (i := 983) (by decide +kernel)) rfl
theorem k_984 : Cond.methodLink RX0 72 yJ7_fill_53178 ∈ BIG := mB (List.mem_of_getElem? (i := 984) (by decide +kernel)) rfl
theorem k_990 : Cond.methodLink RX0 39 yX0_clear ∈ BIG := mB (List.mem_of_getElem? (i := 990) (by decide +kernel)) rfl
theorem k_999 : Cond.methodLink RL 99 yX10_sewing ∈ BIG := mB (List.mem_of_getElem? (i := 999) (by decide +kernel)) rfl
theorem k_1000 : Cond.instanceMethod yX10_sewing ∈ BIG := mB (List.mem_of_getElem? (i := 1000) (by decide +kernel)) rfl
theorem k_1001 : Cond.selects RX10 yX10_sewing yX10_sewing ∈ BIG := mB (List.mem_of_getElem? (i := 1001) (by decide +kernel)) rfl
theorem k_1002 : Cond.code yX10_sewing cX10_sewing 4 (some .int) ∈ BIG := mB (List.mem_of_getElem? (i := 1002) (by decide +kernel)) rfl
theorem k_1018 : Cond.static Lib.Math.abs.name ∈ BIG := mB (List.mem_of_getElem? (i := 1018) (by decide +kernel)) rfl
theorem k_1019 : Cond.code Lib.Math.abs.name Lib.Math.abs.code 1 (some .int) ∈ BIG := mB (List.mem_of_getElem? (i := 1019) (by decide +kernel)) rfl
theorem k_1020 : Cond.methodLink RL 103 yX10_rota ∈ BIG := mB (List.mem_of_getElem? (i := 1020) (by decide +kernel)) rfl
theorem k_1021 : Cond.instanceMethod yX10_rota ∈ BIG := mB (List.mem_of_getElem? (i := 1021) (by decide +kernel)) rfl
theorem k_1022 : Cond.selects RX10 yX10_rota yX10_rota ∈ BIG := mB (List.mem_of_getElem? (i := 1022) (by decide +kernel)) rfl
theorem k_1023 : Cond.code yX10_rota cX10_rota 2 (some .int) ∈ BIG := mB (List.mem_of_getElem? (i := 1023) (by decide +kernel)) rfl
theorem k_1033 : Cond.methodLink RL 107 yX10_change ∈ BIG := mB (List.mem_of_getElem? (i := 1033) (by decide +kernel)) rfl
theorem k_1034 : Cond.instanceMethod yX10_change ∈ BIG := mB (List.mem_of_getElem? (i := 1034) (by decide +kernel)) rfl
theorem k_1035 : Cond.selects RX10 yX10_change yX10_change ∈ BIG := mB (List.mem_of_getElem? (i := 1035) (by decide +kernel)) rfl
theorem k_1036 : Cond.code yX10_change cX10_change 2 (some .int) ∈ BIG := mB (List.mem_of_getElem? (i := 1036) (by decide +kernel)) rfl
theorem k_1037 : Cond.methodLink RX10 223 yX3_findChange ∈ BIG := mB (List.mem_of_getElem? (i := 1037) (by decide +kernel)) rfl
theorem k_1038 : Cond.instanceMethod yX3_findChange ∈ BIG := mB (List.mem_of_getElem? (i := 1038) (by decide +kernel)) rfl
theorem k_1039 : Cond.selects RX3 yX3_findChange yX3_findChange ∈ BIG := mB (List.mem_of_getElem? (i := 1039) (by decide +kernel)) rfl
theorem k_1040 : Cond.code yX3_findChange cX3_findChange 5 (some .boolean) ∈ BIG := mB (List.mem_of_getElem? (i := 1040) (by decide +kernel)) rfl
theorem k_1041 : Cond.methodLink RX3 102 yX1_fittedMen ∈ BIG := mB (List.mem_of_getElem? (i := 1041) (by decide +kernel)) rfl
theorem k_1042 : Cond.methodLink RX3 105 yJ6_bitCount_0f7a4 ∈ BIG := mB (List.mem_of_getElem? (i := 1042) (by decide +kernel)) rfl
theorem k_1043 : Cond.static yJ6_bitCount_0f7a4 ∈ BIG := mB (List.mem_of_getElem? (i := 1043) (by decide +kernel)) rfl
theorem k_1044 : Cond.code yJ6_bitCount_0f7a4 cJ6_bitCount_0f7a4 1 (some .int) ∈ BIG := mB (List.mem_of_getElem? (i := 1044) (by decide +kernel)) rfl
theorem k_1045 : Cond.constant RJ6 265 1431655765 ∈ BIG := mB (List.mem_of_getElem? (i := 1045) (by decide +kernel)) rfl
theorem k_1046 : Cond.constant RJ6 266 858993459 ∈ BIG := mB (List.mem_of_getElem? (i := 1046) (by decide +kernel)) rfl
theorem k_1047 : Cond.constant RJ6 267 252645135 ∈ BIG := mB (List.mem_of_getElem? (i := 1047) (by decide +kernel)) rfl
theorem k_1052 : Cond.methodLink RL 111 yX10_front ∈ BIG := mB (List.mem_of_getElem? (i := 1052) (by decide +kernel)) rfl
theorem k_1053 : Cond.instanceMethod yX10_front ∈ BIG := mB (List.mem_of_getElem? (i := 1053) (by decide +kernel)) rfl
theorem k_1054 : Cond.selects RX10 yX10_front yX10_front ∈ BIG := mB (List.mem_of_getElem? (i := 1054) (by decide +kernel)) rfl
theorem k_1055 : Cond.code yX10_front cX10_front 4 (some .int) ∈ BIG := mB (List.mem_of_getElem? (i := 1055) (by decide +kernel)) rfl
theorem k_1056 : Cond.methodLink RX10 235 yX2_frontOf ∈ BIG := mB (List.mem_of_getElem? (i := 1056) (by decide +kernel)) rfl
theorem k_1057 : Cond.instanceMethod yX2_frontOf ∈ BIG := mB (List.mem_of_getElem? (i := 1057) (by decide +kernel)) rfl
theorem k_1058 : Cond.selects RX2 yX2_frontOf yX2_frontOf ∈ BIG := mB (List.mem_of_getElem? (i := 1058) (by decide +kernel)) rfl
theorem k_1059 : Cond.code yX2_frontOf cX2_frontOf 6 (some .int) ∈ BIG := mB (List.mem_of_getElem? (i := 1059) (by decide +kernel)) rfl
theorem k_1060 : Cond.methodLink RX2 39 yX1_wearers ∈ BIG := mB (List.mem_of_getElem? (i := 1060) (by decide +kernel)) rfl
theorem k_1061 : Cond.instanceMethod yX1_wearers ∈ BIG := mB (List.mem_of_getElem? (i := 1061) (by decide +kernel)) rfl
theorem k_1062 : Cond.selects RX1 yX1_wearers yX1_wearers ∈ BIG := mB (List.mem_of_getElem? (i := 1062) (by decide +kernel)) rfl
theorem k_1063 : Cond.code yX1_wearers cX1_wearers 3 (some .int) ∈ BIG := mB (List.mem_of_getElem? (i := 1063) (by decide +kernel)) rfl
theorem k_1064 : Cond.methodLink RX2 43 yJ6_bitCount_0f7a4 ∈ BIG := mB (List.mem_of_getElem? (i := 1064) (by decide +kernel)) rfl
theorem k_1065 : Cond.methodLink RX2 48 yX2_wideTogether ∈ BIG := mB (List.mem_of_getElem? (i := 1065) (by decide +kernel)) rfl
theorem k_1066 : Cond.instanceMethod yX2_wideTogether ∈ BIG := mB (List.mem_of_getElem? (i := 1066) (by decide +kernel)) rfl
theorem k_1067 : Cond.selects RX2 yX2_wideTogether yX2_wideTogether ∈ BIG := mB (List.mem_of_getElem? (i := 1067) (by decide +kernel)) rfl
theorem k_1068 : Cond.code yX2_wideTogether cX2_wideTogether 4 (some .int) ∈ BIG := mB (List.mem_of_getElem? (i := 1068) (by decide +kernel)) rfl
theorem k_1071 : Cond.methodLink RX10 238 yJ6_bitCount_0f7a4 ∈ BIG := mB (List.mem_of_getElem? (i := 1071) (by decide +kernel)) rfl
theorem k_1072 : Cond.methodLink RL 115 yX10_wings ∈ BIG := mB (List.mem_of_getElem? (i := 1072) (by decide +kernel)) rfl
theorem k_1073 : Cond.instanceMethod yX10_wings ∈ BIG := mB (List.mem_of_getElem? (i := 1073) (by decide +kernel)) rfl
theorem k_1074 : Cond.selects RX10 yX10_wings yX10_wings ∈ BIG := mB (List.mem_of_getElem? (i := 1074) (by decide +kernel)) rfl
theorem k_1075 : Cond.code yX10_wings cX10_wings 3 (some .int) ∈ BIG := mB (List.mem_of_getElem? (i := 1075) (by decide +kernel)) rfl
theorem k_1076 : Cond.methodLink RX10 243 yX2_leftWing ∈ BIG := mB (List.mem_of_getElem? (i := 1076) (by decide +kernel)) rfl
theorem k_1077 : Cond.instanceMethod yX2_leftWing ∈ BIG := mB (List.mem_of_getElem? (i := 1077) (by decide +kernel)) rfl
theorem k_1078 : Cond.selects RX2 yX2_leftWing yX2_leftWing ∈ BIG := mB (List.mem_of_getElem? (i := 1078) (by decide +kernel)) rfl
theorem k_1079 : Cond.code yX2_leftWing cX2_leftWing 6 (some .int) ∈ BIG := mB (List.mem_of_getElem? (i := 1079) (by decide +kernel)) rfl
theorem k_1080 : Cond.methodLink RX2 51 yJ6_lowestOneBit_0f7a4 ∈ BIG := mB (List.mem_of_getElem? (i := 1080) (by decide +kernel)) rfl
theorem k_1081 : Cond.static yJ6_lowestOneBit_0f7a4 ∈ BIG := mB (List.mem_of_getElem? (i := 1081) (by decide +kernel)) rfl
theorem k_1082 : Cond.code yJ6_lowestOneBit_0f7a4 cJ6_lowestOneBit_0f7a4 1 (some .int) ∈ BIG := mB (List.mem_of_getElem? (i := 1082) (by decide +kernel)) rfl
theorem k_1083 : Cond.methodLink RX2 54 yX2_isEvener ∈ BIG := mB (List.mem_of_getElem? (i := 1083) (by decide +kernel)) rfl
theorem k_1085 : Cond.instanceMethod yX2_isEvener ∈ BIG := mB (List.mem_of_getElem? (i := 1085) (by decide +kernel)) rfl
theorem k_1086 : Cond.code yX2_isEvener cX2_isEvener 4 (some .boolean) ∈ BIG := mB (List.mem_of_getElem? (i := 1086) (by decide +kernel)) rfl
theorem k_1087 : Cond.methodLink RX2 58 yX2_difference ∈ BIG := mB (List.mem_of_getElem? (i := 1087) (by decide +kernel)) rfl
theorem k_1088 : Cond.instanceMethod yX2_difference ∈ BIG := mB (List.mem_of_getElem? (i := 1088) (by decide +kernel)) rfl
theorem k_1089 : Cond.selects RX2 yX2_difference yX2_difference ∈ BIG := mB (List.mem_of_getElem? (i := 1089) (by decide +kernel)) rfl
theorem k_1090 : Cond.code yX2_difference cX2_difference 2 (some .int) ∈ BIG := mB (List.mem_of_getElem? (i := 1090) (by decide +kernel)) rfl
theorem k_1091 : Cond.methodLink RX2 61 Lib.Math.abs.name ∈ BIG := mB (List.mem_of_getElem? (i := 1091) (by decide +kernel)) rfl
theorem k_1092 : Cond.methodLink RX10 246 yX2_difference ∈ BIG := mB (List.mem_of_getElem? (i := 1092) (by decide +kernel)) rfl
theorem k_1093 : Cond.methodLink RL 119 yX10_cloth ∈ BIG := mB (List.mem_of_getElem? (i := 1093) (by decide +kernel)) rfl
theorem k_1094 : Cond.instanceMethod yX10_cloth ∈ BIG := mB (List.mem_of_getElem? (i := 1094) (by decide +kernel)) rfl
theorem k_1095 : Cond.selects RX10 yX10_cloth yX10_cloth ∈ BIG := mB (List.mem_of_getElem? (i := 1095) (by decide +kernel)) rfl
theorem k_1096 : Cond.code yX10_cloth cX10_cloth 1 (some .int) ∈ BIG := mB (List.mem_of_getElem? (i := 1096) (by decide +kernel)) rfl
theorem k_1097 : Cond.methodLink RX10 249 yX2_leastCloth ∈ BIG := mB (List.mem_of_getElem? (i := 1097) (by decide +kernel)) rfl
theorem k_1098 : Cond.instanceMethod yX2_leastCloth ∈ BIG := mB (List.mem_of_getElem? (i := 1098) (by decide +kernel)) rfl
theorem k_1099 : Cond.selects RX2 yX2_leastCloth yX2_leastCloth ∈ BIG := mB (List.mem_of_getElem? (i := 1099) (by decide +kernel)) rfl
theorem k_1100 : Cond.code yX2_leastCloth cX2_leastCloth 3 (some .int) ∈ BIG := mB (List.mem_of_getElem? (i := 1100) (by decide +kernel)) rfl
theorem k_1111 : Cond.methodLink RL 123 yX10_buttons ∈ BIG := mB (List.mem_of_getElem? (i := 1111) (by decide +kernel)) rfl
theorem k_1112 : Cond.instanceMethod yX10_buttons ∈ BIG := mB (List.mem_of_getElem? (i := 1112) (by decide +kernel)) rfl
theorem k_1113 : Cond.selects RX10 yX10_buttons yX10_buttons ∈ BIG := mB (List.mem_of_getElem? (i := 1113) (by decide +kernel)) rfl
theorem k_1114 : Cond.code yX10_buttons cX10_buttons 1 (some .int) ∈ BIG := mB (List.mem_of_getElem? (i := 1114) (by decide +kernel)) rfl
theorem k_1115 : Cond.methodLink RX10 252 yX0_layColours ∈ BIG := mB (List.mem_of_getElem? (i := 1115) (by decide +kernel)) rfl
theorem k_1116 : Cond.instanceMethod yX0_layColours ∈ BIG := mB (List.mem_of_getElem? (i := 1116) (by decide +kernel)) rfl
theorem k_1117 : Cond.selects RX0 yX0_layColours yX0_layColours ∈ BIG := mB (List.mem_of_getElem? (i := 1117) (by decide +kernel)) rfl
theorem k_1118 : Cond.code yX0_layColours cX0_layColours 2 (some .int) ∈ BIG := mB (List.mem_of_getElem? (i := 1118) (by decide +kernel)) rfl
theorem k_1119 : Cond.methodLink RX0 87 yX0_painted ∈ BIG := mB (List.mem_of_getElem? (i := 1119) (by decide +kernel)) rfl
theorem k_1121 : Cond.instanceMethod yX0_painted ∈ BIG := mB (List.mem_of_getElem? (i := 1121) (by decide +kernel)) rfl
theorem k_1122 : Cond.code yX0_painted cX0_painted 4 (some .boolean) ∈ BIG := mB (List.mem_of_getElem? (i := 1122) (by decide +kernel)) rfl
theorem k_1129 : Cond.methodLink RL 127 yX10_reach ∈ BIG := mB (List.mem_of_getElem? (i := 1129) (by decide +kernel)) rfl
theorem k_1130 : Cond.instanceMethod yX10_reach ∈ BIG := mB (List.mem_of_getElem? (i := 1130) (by decide +kernel)) rfl
theorem k_1131 : Cond.selects RX10 yX10_reach yX10_reach ∈ BIG := mB (List.mem_of_getElem? (i := 1131) (by decide +kernel)) rfl
theorem k_1132 : Cond.code yX10_reach cX10_reach 3 (some .int) ∈ BIG := mB (List.mem_of_getElem? (i := 1132) (by decide +kernel)) rfl
theorem k_1150 : Cond.methodLink RL 131 yX10_turning ∈ BIG := mB (List.mem_of_getElem? (i := 1150) (by decide +kernel)) rfl
theorem k_1151 : Cond.instanceMethod yX10_turning ∈ BIG := mB (List.mem_of_getElem? (i := 1151) (by decide +kernel)) rfl
theorem k_1152 : Cond.selects RX10 yX10_turning yX10_turning ∈ BIG := mB (List.mem_of_getElem? (i := 1152) (by decide +kernel)) rfl
theorem k_1153 : Cond.code yX10_turning cX10_turning 1 (some .int) ∈ BIG := mB (List.mem_of_getElem? (i := 1153) (by decide +kernel)) rfl
theorem k_1154 : Cond.methodLink RX10 258 yX3_bestTurning ∈ BIG := mB (List.mem_of_getElem? (i := 1154) (by decide +kernel)) rfl
theorem k_1155 : Cond.instanceMethod yX3_bestTurning ∈ BIG := mB (List.mem_of_getElem? (i := 1155) (by decide +kernel)) rfl
theorem k_1156 : Cond.selects RX3 yX3_bestTurning yX3_bestTurning ∈ BIG := mB (List.mem_of_getElem? (i := 1156) (by decide +kernel)) rfl
theorem k_1157 : Cond.code yX3_bestTurning cX3_bestTurning 5 (some .int) ∈ BIG := mB (List.mem_of_getElem? (i := 1157) (by decide +kernel)) rfl
theorem k_1159 : Cond.methodLink RL 135 yX10_rags ∈ BIG := mB (List.mem_of_getElem? (i := 1159) (by decide +kernel)) rfl
theorem k_1160 : Cond.instanceMethod yX10_rags ∈ BIG := mB (List.mem_of_getElem? (i := 1160) (by decide +kernel)) rfl
theorem k_1161 : Cond.selects RX10 yX10_rags yX10_rags ∈ BIG := mB (List.mem_of_getElem? (i := 1161) (by decide +kernel)) rfl
theorem k_1162 : Cond.code yX10_rags cX10_rags 3 (some .int) ∈ BIG := mB (List.mem_of_getElem? (i := 1162) (by decide +kernel)) rfl
theorem k_1167 : Cond.methodLink RL 139 yX10_naked ∈ BIG := mB (List.mem_of_getElem? (i := 1167) (by decide +kernel)) rfl
theorem k_1168 : Cond.instanceMethod yX10_naked ∈ BIG := mB (List.mem_of_getElem? (i := 1168) (by decide +kernel)) rfl
theorem k_1169 : Cond.selects RX10 yX10_naked yX10_naked ∈ BIG := mB (List.mem_of_getElem? (i := 1169) (by decide +kernel)) rfl
theorem k_1170 : Cond.code yX10_naked cX10_naked 3 (some .int) ∈ BIG := mB (List.mem_of_getElem? (i := 1170) (by decide +kernel)) rfl
theorem k_1171 : Cond.methodLink RL 143 yX10_popular ∈ BIG := mB (List.mem_of_getElem? (i := 1171) (by decide +kernel)) rfl
theorem k_1172 : Cond.instanceMethod yX10_popular ∈ BIG := mB (List.mem_of_getElem? (i := 1172) (by decide +kernel)) rfl
theorem k_1173 : Cond.selects RX10 yX10_popular yX10_popular ∈ BIG := mB (List.mem_of_getElem? (i := 1173) (by decide +kernel)) rfl
theorem k_1174 : Cond.code yX10_popular cX10_popular 2 (some .int) ∈ BIG := mB (List.mem_of_getElem? (i := 1174) (by decide +kernel)) rfl
theorem k_1175 : Cond.methodLink RL 147 yX10_law ∈ BIG := mB (List.mem_of_getElem? (i := 1175) (by decide +kernel)) rfl
theorem k_1176 : Cond.instanceMethod yX10_law ∈ BIG := mB (List.mem_of_getElem? (i := 1176) (by decide +kernel)) rfl
theorem k_1177 : Cond.selects RX10 yX10_law yX10_law ∈ BIG := mB (List.mem_of_getElem? (i := 1177) (by decide +kernel)) rfl
theorem k_1178 : Cond.code yX10_law cX10_law 2 (some .int) ∈ BIG := mB (List.mem_of_getElem? (i := 1178) (by decide +kernel)) rfl
theorem k_1179 : Cond.methodLink RX10 267 yX3_fittingBy ∈ BIG := mB (List.mem_of_getElem? (i := 1179) (by decide +kernel)) rfl
theorem k_1180 : Cond.instanceMethod yX3_fittingBy ∈ BIG := mB (List.mem_of_getElem? (i := 1180) (by decide +kernel)) rfl
theorem k_1181 : Cond.selects RX3 yX3_fittingBy yX3_fittingBy ∈ BIG := mB (List.mem_of_getElem? (i := 1181) (by decide +kernel)) rfl
theorem k_1182 : Cond.code yX3_fittingBy cX3_fittingBy 5 (some .int) ∈ BIG := mB (List.mem_of_getElem? (i := 1182) (by decide +kernel)) rfl
theorem k_1184 : Cond.methodLink RL 151 yX10_ease ∈ BIG := mB (List.mem_of_getElem? (i := 1184) (by decide +kernel)) rfl
theorem k_1185 : Cond.instanceMethod yX10_ease ∈ BIG := mB (List.mem_of_getElem? (i := 1185) (by decide +kernel)) rfl
theorem k_1186 : Cond.selects RX10 yX10_ease yX10_ease ∈ BIG := mB (List.mem_of_getElem? (i := 1186) (by decide +kernel)) rfl
theorem k_1187 : Cond.code yX10_ease cX10_ease 1 (some .int) ∈ BIG := mB (List.mem_of_getElem? (i := 1187) (by decide +kernel)) rfl
theorem k_1188 : Cond.methodLink RX10 270 yX3_worstIllness ∈ BIG := mB (List.mem_of_getElem? (i := 1188) (by decide +kernel)) rfl
theorem k_1189 : Cond.instanceMethod yX3_worstIllness ∈ BIG := mB (List.mem_of_getElem? (i := 1189) (by decide +kernel)) rfl
theorem k_1190 : Cond.selects RX3 yX3_worstIllness yX3_worstIllness ∈ BIG := mB (List.mem_of_getElem? (i := 1190) (by decide +kernel)) rfl
theorem k_1191 : Cond.code yX3_worstIllness cX3_worstIllness 4 (some .int) ∈ BIG := mB (List.mem_of_getElem? (i := 1191) (by decide +kernel)) rfl
theorem k_1192 : Cond.methodLink RL 155 yX10_breadth ∈ BIG := mB (List.mem_of_getElem? (i := 1192) (by decide +kernel)) rfl
theorem k_1193 : Cond.instanceMethod yX10_breadth ∈ BIG := mB (List.mem_of_getElem? (i := 1193) (by decide +kernel)) rfl
theorem k_1194 : Cond.selects RX10 yX10_breadth yX10_breadth ∈ BIG := mB (List.mem_of_getElem? (i := 1194) (by decide +kernel)) rfl
theorem k_1195 : Cond.code yX10_breadth cX10_breadth 1 (some .int) ∈ BIG := mB (List.mem_of_getElem? (i := 1195) (by decide +kernel)) rfl
theorem k_1196 : Cond.methodLink RX10 273 yX1_wearers ∈ BIG := mB (List.mem_of_getElem? (i := 1196) (by decide +kernel)) rfl
theorem k_1197 : Cond.methodLink RX10 276 yX2_wideTogether ∈ BIG := mB (List.mem_of_getElem? (i := 1197) (by decide +kernel)) rfl
theorem k_1198 : Cond.methodLink RL 159 yX10_rout ∈ BIG := mB (List.mem_of_getElem? (i := 1198) (by decide +kernel)) rfl
theorem k_1199 : Cond.instanceMethod yX10_rout ∈ BIG := mB (List.mem_of_getElem? (i := 1199) (by decide +kernel)) rfl
theorem k_1200 : Cond.selects RX10 yX10_rout yX10_rout ∈ BIG := mB (List.mem_of_getElem? (i := 1200) (by decide +kernel)) rfl
theorem k_1201 : Cond.code yX10_rout cX10_rout 1 (some .int) ∈ BIG := mB (List.mem_of_getElem? (i := 1201) (by decide +kernel)) rfl
theorem k_1202 : Cond.methodLink RX10 279 yX3_daysTillRout ∈ BIG := mB (List.mem_of_getElem? (i := 1202) (by decide +kernel)) rfl
theorem k_1203 : Cond.instanceMethod yX3_daysTillRout ∈ BIG := mB (List.mem_of_getElem? (i := 1203) (by decide +kernel)) rfl
theorem k_1204 : Cond.selects RX3 yX3_daysTillRout yX3_daysTillRout ∈ BIG := mB (List.mem_of_getElem? (i := 1204) (by decide +kernel)) rfl
theorem k_1205 : Cond.code yX3_daysTillRout cX3_daysTillRout 2 (some .int) ∈ BIG := mB (List.mem_of_getElem? (i := 1205) (by decide +kernel)) rfl
theorem k_1206 : Cond.methodLink RX3 38 yX1_wearers ∈ BIG := mB (List.mem_of_getElem? (i := 1206) (by decide +kernel)) rfl
theorem k_1207 : Cond.methodLink RL 163 yX10_odds ∈ BIG := mB (List.mem_of_getElem? (i := 1207) (by decide +kernel)) rfl
theorem k_1208 : Cond.instanceMethod yX10_odds ∈ BIG := mB (List.mem_of_getElem? (i := 1208) (by decide +kernel)) rfl
theorem k_1209 : Cond.selects RX10 yX10_odds yX10_odds ∈ BIG := mB (List.mem_of_getElem? (i := 1209) (by decide +kernel)) rfl
theorem k_1210 : Cond.code yX10_odds cX10_odds 6 (some .int) ∈ BIG := mB (List.mem_of_getElem? (i := 1210) (by decide +kernel)) rfl
theorem k_1211 : Cond.methodLink RX10 282 yX10_commonDivisor ∈ BIG := mB (List.mem_of_getElem? (i := 1211) (by decide +kernel)) rfl
theorem k_1212 : Cond.static yX10_commonDivisor ∈ BIG := mB (List.mem_of_getElem? (i := 1212) (by decide +kernel)) rfl
theorem k_1213 : Cond.code yX10_commonDivisor cX10_commonDivisor 6 (some .int) ∈ BIG := mB (List.mem_of_getElem? (i := 1213) (by decide +kernel)) rfl
theorem k_1214 : Cond.methodLink RL 167 yX10_lies ∈ BIG := mB (List.mem_of_getElem? (i := 1214) (by decide +kernel)) rfl
theorem k_1215 : Cond.instanceMethod yX10_lies ∈ BIG := mB (List.mem_of_getElem? (i := 1215) (by decide +kernel)) rfl
theorem k_1216 : Cond.selects RX10 yX10_lies yX10_lies ∈ BIG := mB (List.mem_of_getElem? (i := 1216) (by decide +kernel)) rfl
theorem k_1217 : Cond.code yX10_lies cX10_lies 2 (some .int) ∈ BIG := mB (List.mem_of_getElem? (i := 1217) (by decide +kernel)) rfl
theorem k_1218 : Cond.methodLink RX10 285 yX0_lying ∈ BIG := mB (List.mem_of_getElem? (i := 1218) (by decide +kernel)) rfl
theorem k_1219 : Cond.instanceMethod yX0_lying ∈ BIG := mB (List.mem_of_getElem? (i := 1219) (by decide +kernel)) rfl
theorem k_1220 : Cond.selects RX0 yX0_lying yX0_lying ∈ BIG := mB (List.mem_of_getElem? (i := 1220) (by decide +kernel)) rfl
theorem k_1221 : Cond.code yX0_lying cX0_lying 2 (some .int) ∈ BIG := mB (List.mem_of_getElem? (i := 1221) (by decide +kernel)) rfl
theorem k_1222 : Cond.methodLink RL 171 yX10_seen ∈ BIG := mB (List.mem_of_getElem? (i := 1222) (by decide +kernel)) rfl
theorem k_1223 : Cond.instanceMethod yX10_seen ∈ BIG := mB (List.mem_of_getElem? (i := 1223) (by decide +kernel)) rfl
theorem k_1224 : Cond.selects RX10 yX10_seen yX10_seen ∈ BIG := mB (List.mem_of_getElem? (i := 1224) (by decide +kernel)) rfl
theorem k_1225 : Cond.code yX10_seen cX10_seen 3 (some .int) ∈ BIG := mB (List.mem_of_getElem? (i := 1225) (by decide +kernel)) rfl
theorem k_1230 : Cond.methodLink RL 176 yX10_untell ∈ BIG := mB (List.mem_of_getElem? (i := 1230) (by decide +kernel)) rfl
theorem k_1231 : Cond.instanceMethod yX10_untell ∈ BIG := mB (List.mem_of_getElem? (i := 1231) (by decide +kernel)) rfl
theorem k_1232 : Cond.selects RX10 yX10_untell yX10_untell ∈ BIG := mB (List.mem_of_getElem? (i := 1232) (by decide +kernel)) rfl
theorem k_1233 : Cond.code yX10_untell cX10_untell 2 (some .boolean) ∈ BIG := mB (List.mem_of_getElem? (i := 1233) (by decide +kernel)) rfl
theorem k_1234 : Cond.methodLink RX10 295 yX8_takeBack ∈ BIG := mB (List.mem_of_getElem? (i := 1234) (by decide +kernel)) rfl
theorem k_1235 : Cond.instanceMethod yX8_takeBack ∈ BIG := mB (List.mem_of_getElem? (i := 1235) (by decide +kernel)) rfl
theorem k_1236 : Cond.selects RX8 yX8_takeBack yX8_takeBack ∈ BIG := mB (List.mem_of_getElem? (i := 1236) (by decide +kernel)) rfl
theorem k_1237 : Cond.code yX8_takeBack cX8_takeBack 3 (some .boolean) ∈ BIG := mB (List.mem_of_getElem? (i := 1237) (by decide +kernel)) rfl
theorem k_1238 : Cond.methodLink RL 181 yX10_later ∈ BIG := mB (List.mem_of_getElem? (i := 1238) (by decide +kernel)) rfl
theorem k_1239 : Cond.instanceMethod yX10_later ∈ BIG := mB (List.mem_of_getElem? (i := 1239) (by decide +kernel)) rfl
theorem k_1240 : Cond.selects RX10 yX10_later yX10_later ∈ BIG := mB (List.mem_of_getElem? (i := 1240) (by decide +kernel)) rfl
theorem k_1241 : Cond.code yX10_later cX10_later 2 (some .int) ∈ BIG := mB (List.mem_of_getElem? (i := 1241) (by decide +kernel)) rfl
theorem k_1242 : Cond.constant RX10 298 100000 ∈ BIG := mB (List.mem_of_getElem? (i := 1242) (by decide +kernel)) rfl
theorem k_1243 : Cond.methodLink RL 185 yX10_growths ∈ BIG := mB (List.mem_of_getElem? (i := 1243) (by decide +kernel)) rfl
theorem k_1244 : Cond.instanceMethod yX10_growths ∈ BIG := mB (List.mem_of_getElem? (i := 1244) (by decide +kernel)) rfl
theorem k_1245 : Cond.selects RX10 yX10_growths yX10_growths ∈ BIG := mB (List.mem_of_getElem? (i := 1245) (by decide +kernel)) rfl
theorem k_1246 : Cond.code yX10_growths cX10_growths 2 (some .int) ∈ BIG := mB (List.mem_of_getElem? (i := 1246) (by decide +kernel)) rfl
theorem k_1247 : Cond.methodLink RX10 299 yX8_growthsAt ∈ BIG := mB (List.mem_of_getElem? (i := 1247) (by decide +kernel)) rfl
theorem k_1248 : Cond.instanceMethod yX8_growthsAt ∈ BIG := mB (List.mem_of_getElem? (i := 1248) (by decide +kernel)) rfl
theorem k_1249 : Cond.selects RX8 yX8_growthsAt yX8_growthsAt ∈ BIG := mB (List.mem_of_getElem? (i := 1249) (by decide +kernel)) rfl
theorem k_1250 : Cond.code yX8_growthsAt cX8_growthsAt 6 (some .int) ∈ BIG := mB (List.mem_of_getElem? (i := 1250) (by decide +kernel)) rfl
theorem k_1264 : Cond.methodLink RL 189 yX10_sure ∈ BIG := mB (List.mem_of_getElem? (i := 1264) (by decide +kernel)) rfl
theorem k_1265 : Cond.instanceMethod yX10_sure ∈ BIG := mB (List.mem_of_getElem? (i := 1265) (by decide +kernel)) rfl
theorem k_1266 : Cond.selects RX10 yX10_sure yX10_sure ∈ BIG := mB (List.mem_of_getElem? (i := 1266) (by decide +kernel)) rfl
theorem k_1267 : Cond.code yX10_sure cX10_sure 4 (some .int) ∈ BIG := mB (List.mem_of_getElem? (i := 1267) (by decide +kernel)) rfl
theorem k_1275 : Cond.methodLink RL 193 yX10_ask ∈ BIG := mB (List.mem_of_getElem? (i := 1275) (by decide +kernel)) rfl
theorem k_1276 : Cond.instanceMethod yX10_ask ∈ BIG := mB (List.mem_of_getElem? (i := 1276) (by decide +kernel)) rfl
theorem k_1277 : Cond.selects RX10 yX10_ask yX10_ask ∈ BIG := mB (List.mem_of_getElem? (i := 1277) (by decide +kernel)) rfl
theorem k_1278 : Cond.code yX10_ask cX10_ask 5 (some .int) ∈ BIG := mB (List.mem_of_getElem? (i := 1278) (by decide +kernel)) rfl
theorem k_1290 : Cond.methodLink RL 197 yX10_image ∈ BIG := mB (List.mem_of_getElem? (i := 1290) (by decide +kernel)) rfl
theorem k_1291 : Cond.instanceMethod yX10_image ∈ BIG := mB (List.mem_of_getElem? (i := 1291) (by decide +kernel)) rfl
theorem k_1292 : Cond.selects RX10 yX10_image yX10_image ∈ BIG := mB (List.mem_of_getElem? (i := 1292) (by decide +kernel)) rfl
theorem k_1293 : Cond.code yX10_image cX10_image 2 (some .int) ∈ BIG := mB (List.mem_of_getElem? (i := 1293) (by decide +kernel)) rfl
theorem k_1294 : Cond.methodLink RX10 314 yX5_fillBox ∈ BIG := mB (List.mem_of_getElem? (i := 1294) (by decide +kernel)) rfl
theorem k_1295 : Cond.instanceMethod yX5_fillBox ∈ BIG := mB (List.mem_of_getElem? (i := 1295) (by decide +kernel)) rfl
theorem k_1296 : Cond.selects RX5 yX5_fillBox yX5_fillBox ∈ BIG := mB (List.mem_of_getElem? (i := 1296) (by decide +kernel)) rfl
theorem k_1297 : Cond.code yX5_fillBox cX5_fillBox 2 (some .boolean) ∈ BIG := mB (List.mem_of_getElem? (i := 1297) (by decide +kernel)) rfl
theorem k_1298 : Cond.methodLink RL 201 yX10_back ∈ BIG := mB (List.mem_of_getElem? (i := 1298) (by decide +kernel)) rfl
theorem k_1299 : Cond.instanceMethod yX10_back ∈ BIG := mB (List.mem_of_getElem? (i := 1299) (by decide +kernel)) rfl
theorem k_1300 : Cond.selects RX10 yX10_back yX10_back ∈ BIG := mB (List.mem_of_getElem? (i := 1300) (by decide +kernel)) rfl
theorem k_1301 : Cond.code yX10_back cX10_back 2 (some .int) ∈ BIG := mB (List.mem_of_getElem? (i := 1301) (by decide +kernel)) rfl
theorem k_1302 : Cond.methodLink RX10 317 yX5_takeBox ∈ BIG := mB (List.mem_of_getElem? (i := 1302) (by decide +kernel)) rfl
theorem k_1303 : Cond.instanceMethod yX5_takeBox ∈ BIG := mB (List.mem_of_getElem? (i := 1303) (by decide +kernel)) rfl
theorem k_1304 : Cond.selects RX5 yX5_takeBox yX5_takeBox ∈ BIG := mB (List.mem_of_getElem? (i := 1304) (by decide +kernel)) rfl
theorem k_1305 : Cond.code yX5_takeBox cX5_takeBox 2 (some .boolean) ∈ BIG := mB (List.mem_of_getElem? (i := 1305) (by decide +kernel)) rfl
theorem k_1306 : Cond.methodLink RL 205 yX10_about ∈ BIG := mB (List.mem_of_getElem? (i := 1306) (by decide +kernel)) rfl
theorem k_1307 : Cond.instanceMethod yX10_about ∈ BIG := mB (List.mem_of_getElem? (i := 1307) (by decide +kernel)) rfl
theorem k_1308 : Cond.selects RX10 yX10_about yX10_about ∈ BIG := mB (List.mem_of_getElem? (i := 1308) (by decide +kernel)) rfl
theorem k_1309 : Cond.code yX10_about cX10_about 2 (some .int) ∈ BIG := mB (List.mem_of_getElem? (i := 1309) (by decide +kernel)) rfl
theorem k_1310 : Cond.methodLink RX10 329 yX1_seed ∈ BIG := mB (List.mem_of_getElem? (i := 1310) (by decide +kernel)) rfl
theorem k_1311 : Cond.instanceMethod yX1_seed ∈ BIG := mB (List.mem_of_getElem? (i := 1311) (by decide +kernel)) rfl
theorem k_1312 : Cond.selects RX1 yX1_seed yX1_seed ∈ BIG := mB (List.mem_of_getElem? (i := 1312) (by decide +kernel)) rfl
theorem k_1313 : Cond.code yX1_seed cX1_seed 1 (some .int) ∈ BIG := mB (List.mem_of_getElem? (i := 1313) (by decide +kernel)) rfl
theorem k_1314 : Cond.classLink RL 10 RX11 ∈ BIG := mB (List.mem_of_getElem? (i := 1314) (by decide +kernel)) rfl
theorem k_1315 : Cond.instantiable RX11 79 ∈ BIG := mB (List.mem_of_getElem? (i := 1315) (by decide +kernel)) rfl
theorem k_1316 : Cond.methodLink RL 12 yX11_init ∈ BIG := mB (List.mem_of_getElem? (i := 1316) (by decide +kernel)) rfl
theorem k_1317 : Cond.instanceMethod yX11_init ∈ BIG := mB (List.mem_of_getElem? (i := 1317) (by decide +kernel)) rfl
theorem k_1318 : Cond.code yX11_init cX11_init 1 none ∈ BIG := mB (List.mem_of_getElem? (i := 1318) (by decide +kernel)) rfl
theorem k_1319 : Cond.methodLink RX11 1 Lib.objectInit ∈ BIG := mB (List.mem_of_getElem? (i := 1319) (by decide +kernel)) rfl
theorem k_1320 : Cond.fieldLink RX11 7 RX11 "tape" "[I" ∈ BIG := mB (List.mem_of_getElem? (i := 1320) (by decide +kernel)) rfl
theorem k_1321 : Cond.fieldLink RX11 139 RX11 "taped" "I" ∈ BIG := mB (List.mem_of_getElem? (i := 1321) (by decide +kernel)) rfl
theorem k_1322 : Cond.fieldLink RX11 179 RX11 "fault" "I" ∈ BIG := mB (List.mem_of_getElem? (i := 1322) (by decide +kernel)) rfl
theorem k_1323 : Cond.fieldLink RX11 13 RX11 "faultPlace" "I" ∈ BIG := mB (List.mem_of_getElem? (i := 1323) (by decide +kernel)) rfl
theorem k_1324 : Cond.fieldLink RX11 146 RX11 "at" "I" ∈ BIG := mB (List.mem_of_getElem? (i := 1324) (by decide +kernel)) rfl
theorem k_1325 : Cond.fieldLink RX11 149 RX11 "size" "I" ∈ BIG := mB (List.mem_of_getElem? (i := 1325) (by decide +kernel)) rfl
theorem k_1326 : Cond.fieldLink RX11 166 RX11 "sort" "I" ∈ BIG := mB (List.mem_of_getElem? (i := 1326) (by decide +kernel)) rfl
theorem k_1327 : Cond.fieldLink RX11 156 RX11 "place" "I" ∈ BIG := mB (List.mem_of_getElem? (i := 1327) (by decide +kernel)) rfl
theorem k_1328 : Cond.fieldLink RX11 163 RX11 "number" "I" ∈ BIG := mB (List.mem_of_getElem? (i := 1328) (by decide +kernel)) rfl
theorem k_1329 : Cond.fieldLink RX11 159 RX11 "word" "J" ∈ BIG := mB (List.mem_of_getElem? (i := 1329) (by decide +kernel)) rfl
theorem k_1330 : Cond.fieldLink RX11 17 RX11 "nName" "[J" ∈ BIG := mB (List.mem_of_getElem? (i := 1330) (by decide +kernel)) rfl
theorem k_1331 : Cond.fieldLink RX11 21 RX11 "nStep" "[I" ∈ BIG := mB (List.mem_of_getElem? (i := 1331) (by decide +kernel)) rfl
theorem k_1332 : Cond.fieldLink RX11 24 RX11 "nArg" "[I" ∈ BIG := mB (List.mem_of_getElem? (i := 1332) (by decide +kernel)) rfl
theorem k_1333 : Cond.fieldLink RX11 27 RX11 "step" "[I" ∈ BIG := mB (List.mem_of_getElem? (i := 1333) (by decide +kernel)) rfl
theorem k_1334 : Cond.fieldLink RX11 30 RX11 "arg" "[I" ∈ BIG := mB (List.mem_of_getElem? (i := 1334) (by decide +kernel)) rfl
theorem k_1335 : Cond.fieldLink RX11 33 RX11 "open" "[I" ∈ BIG := mB (List.mem_of_getElem? (i := 1335) (by decide +kernel)) rfl
theorem k_1336 : Cond.fieldLink RX11 36 RX11 "values" "[I" ∈ BIG := mB (List.mem_of_getElem? (i := 1336) (by decide +kernel)) rfl
theorem k_1338 : Cond.fieldLink RX11 323 RX11 "steps" "I" ∈ BIG := mB (List.mem_of_getElem? (i := 1338) (by decide +kernel)) rfl
theorem k_1340 : Cond.fieldLink RX11 269 RX11 "nUnits" "I" ∈ BIG := mB (List.mem_of_getElem? (i := 1340) (by decide +kernel)) rfl
theorem k_1341 : Cond.fieldLink RX11 396 RX11 "units" "I" ∈ BIG := mB (List.mem_of_getElem? (i := 1341) (by decide +kernel)) rfl
theorem k_1344 : Cond.fieldLink RX11 291 RX11 "nHasForm" "Z" ∈ BIG := mB (List.mem_of_getElem? (i := 1344) (by decide +kernel)) rfl
theorem k_1345 : Cond.fieldLink RX11 317 RX11 "hasForm" "Z" ∈ BIG := mB (List.mem_of_getElem? (i := 1345) (by decide +kernel)) rfl
theorem k_1346 : Cond.fieldLink RX11 39 RX11 "asks" "[I" ∈ BIG := mB (List.mem_of_getElem? (i := 1346) (by decide +kernel)) rfl
theorem k_1347 : Cond.fieldLink RX11 42 RX11 "nTall" "[I" ∈ BIG := mB (List.mem_of_getElem? (i := 1347) (by decide +kernel)) rfl
theorem k_1348 : Cond.fieldLink RX11 45 RX11 "nWide" "[I" ∈ BIG := mB (List.mem_of_getElem? (i := 1348) (by decide +kernel)) rfl
theorem k_1349 : Cond.fieldLink RX11 48 RX11 "nGrows" "[I" ∈ BIG := mB (List.mem_of_getElem? (i := 1349) (by decide +kernel)) rfl
theorem k_1350 : Cond.fieldLink RX11 51 RX11 "nCoatTall" "[I" ∈ BIG := mB (List.mem_of_getElem? (i := 1350) (by decide +kernel)) rfl
theorem k_1351 : Cond.fieldLink RX11 54 RX11 "nCoatWide" "[I" ∈ BIG := mB (List.mem_of_getElem? (i := 1351) (by decide +kernel)) rfl
theorem k_1352 : Cond.fieldLink RX11 57 RX11 "nSeam" "[I" ∈ BIG := mB (List.mem_of_getElem? (i := 1352) (by decide +kernel)) rfl
theorem k_1353 : Cond.fieldLink RX11 60 RX11 "nWorn" "[I" ∈ BIG := mB (List.mem_of_getElem? (i := 1353) (by decide +kernel)) rfl
theorem k_1354 : Cond.fieldLink RX11 63 RX11 "tall" "[I" ∈ BIG := mB (List.mem_of_getElem? (i := 1354) (by decide +kernel)) rfl
theorem k_1355 : Cond.fieldLink RX11 66 RX11 "wide" "[I" ∈ BIG := mB (List.mem_of_getElem? (i := 1355) (by decide +kernel)) rfl
theorem k_1356 : Cond.fieldLink RX11 69 RX11 "grows" "[I" ∈ BIG := mB (List.mem_of_getElem? (i := 1356) (by decide +kernel)) rfl
theorem k_1357 : Cond.fieldLink RX11 72 RX11 "coatTall" "[I" ∈ BIG := mB (List.mem_of_getElem? (i := 1357) (by decide +kernel)) rfl
theorem k_1358 : Cond.fieldLink RX11 75 RX11 "coatWide" "[I" ∈ BIG := mB (List.mem_of_getElem? (i := 1358) (by decide +kernel)) rfl
theorem k_1359 : Cond.fieldLink RX11 78 RX11 "seam" "[I" ∈ BIG := mB (List.mem_of_getElem? (i := 1359) (by decide +kernel)) rfl
theorem k_1360 : Cond.fieldLink RX11 81 RX11 "worn" "[I" ∈ BIG := mB (List.mem_of_getElem? (i := 1360) (by decide +kernel)) rfl
theorem k_1361 : Cond.fieldLink RX11 330 RX11 "nMen" "I" ∈ BIG := mB (List.mem_of_getElem? (i := 1361) (by decide +kernel)) rfl
theorem k_1362 : Cond.fieldLink RX11 339 RX11 "nCoats" "I" ∈ BIG := mB (List.mem_of_getElem? (i := 1362) (by decide +kernel)) rfl
theorem k_1363 : Cond.fieldLink RX11 354 RX11 "nEasy" "I" ∈ BIG := mB (List.mem_of_getElem? (i := 1363) (by decide +kernel)) rfl
theorem k_1364 : Cond.fieldLink RX11 360 RX11 "nBolt" "I" ∈ BIG := mB (List.mem_of_getElem? (i := 1364) (by decide +kernel)) rfl
theorem k_1365 : Cond.fieldLink RX11 366 RX11 "nLike" "I" ∈ BIG := mB (List.mem_of_getElem? (i := 1365) (by decide +kernel)) rfl
theorem k_1366 : Cond.fieldLink RX11 372 RX11 "nRain" "I" ∈ BIG := mB (List.mem_of_getElem? (i := 1366) (by decide +kernel)) rfl
theorem k_1367 : Cond.fieldLink RX11 378 RX11 "nDraw" "I" ∈ BIG := mB (List.mem_of_getElem? (i := 1367) (by decide +kernel)) rfl
theorem k_1368 : Cond.fieldLink RX11 387 RX11 "men" "I" ∈ BIG := mB (List.mem_of_getElem? (i := 1368) (by decide +kernel)) rfl
theorem k_1369 : Cond.fieldLink RX11 390 RX11 "coats" "I" ∈ BIG := mB (List.mem_of_getElem? (i := 1369) (by decide +kernel)) rfl
theorem k_1370 : Cond.fieldLink RX11 84 RX11 "easy" "I" ∈ BIG := mB (List.mem_of_getElem? (i := 1370) (by decide +kernel)) rfl
theorem k_1371 : Cond.fieldLink RX11 87 RX11 "bolt" "I" ∈ BIG := mB (List.mem_of_getElem? (i := 1371) (by decide +kernel)) rfl
theorem k_1372 : Cond.fieldLink RX11 90 RX11 "like" "I" ∈ BIG := mB (List.mem_of_getElem? (i := 1372) (by decide +kernel)) rfl
theorem k_1373 : Cond.fieldLink RX11 393 RX11 "rain" "I" ∈ BIG := mB (List.mem_of_getElem? (i := 1373) (by decide +kernel)) rfl
theorem k_1374 : Cond.fieldLink RX11 351 RX11 "nHasEasy" "Z" ∈ BIG := mB (List.mem_of_getElem? (i := 1374) (by decide +kernel)) rfl
theorem k_1375 : Cond.fieldLink RX11 357 RX11 "nHasBolt" "Z" ∈ BIG := mB (List.mem_of_getElem? (i := 1375) (by decide +kernel)) rfl
theorem k_1376 : Cond.fieldLink RX11 363 RX11 "nHasLike" "Z" ∈ BIG := mB (List.mem_of_getElem? (i := 1376) (by decide +kernel)) rfl
end
section
theorem k_1377 : Cond.fieldLink RX11 369 RX11 "nHasRain" "Z" ∈ BIG := mB (List.mem_of_getElem? (i := 1377) (by decide +kernel)) rfl
theorem k_1378 : Cond.fieldLink RX11 375 RX11 "nHasDraw" "Z" ∈ BIG := mB (List.mem_of_getElem? (i := 1378) (by decide +kernel)) rfl
theorem k_1379 : Cond.fieldLink RX11 93 RX11 "now" "[I" ∈ BIG := mB (List.mem_of_getElem? (i := 1379) (by decide +kernel)) rfl
theorem k_1380 : Cond.fieldLink RX11 96 RX11 "air" "[I" ∈ BIG := mB (List.mem_of_getElem? (i := 1380) (by decide +kernel)) rfl
theorem k_1381 : Cond.fieldLink RX11 99 RX11 "were" "[I" ∈ BIG := mB (List.mem_of_getElem? (i := 1381) (by decide +kernel)) rfl
theorem k_1382 : Cond.fieldLink RX11 405 RX11 "acts" "I" ∈ BIG := mB (List.mem_of_getElem? (i := 1382) (by decide +kernel)) rfl
theorem k_1383 : Cond.fieldLink RX11 408 RX11 "undone" "I" ∈ BIG := mB (List.mem_of_getElem? (i := 1383) (by decide +kernel)) rfl
theorem k_1384 : Cond.fieldLink RX11 102 RX11 "lies" "[I" ∈ BIG := mB (List.mem_of_getElem? (i := 1384) (by decide +kernel)) rfl
theorem k_1385 : Cond.fieldLink RX11 105 RX11 "row" "[I" ∈ BIG := mB (List.mem_of_getElem? (i := 1385) (by decide +kernel)) rfl
theorem k_1386 : Cond.fieldLink RX11 108 RX11 "ills" "[I" ∈ BIG := mB (List.mem_of_getElem? (i := 1386) (by decide +kernel)) rfl
theorem k_1387 : Cond.fieldLink RX11 414 RX11 "lain" "I" ∈ BIG := mB (List.mem_of_getElem? (i := 1387) (by decide +kernel)) rfl
theorem k_1388 : Cond.fieldLink RX11 111 RX11 "lengths" "[I" ∈ BIG := mB (List.mem_of_getElem? (i := 1388) (by decide +kernel)) rfl
theorem k_1389 : Cond.fieldLink RX11 114 RX11 "sightDays" "[I" ∈ BIG := mB (List.mem_of_getElem? (i := 1389) (by decide +kernel)) rfl
theorem k_1390 : Cond.fieldLink RX11 117 RX11 "sightTold" "[I" ∈ BIG := mB (List.mem_of_getElem? (i := 1390) (by decide +kernel)) rfl
theorem k_1391 : Cond.fieldLink RX11 120 RX11 "sightUntold" "[I" ∈ BIG := mB (List.mem_of_getElem? (i := 1391) (by decide +kernel)) rfl
theorem k_1392 : Cond.fieldLink RX11 123 RX11 "sightIs" "[Z" ∈ BIG := mB (List.mem_of_getElem? (i := 1392) (by decide +kernel)) rfl
theorem k_1393 : Cond.fieldLink RX11 411 RX11 "sights" "I" ∈ BIG := mB (List.mem_of_getElem? (i := 1393) (by decide +kernel)) rfl
theorem k_1394 : Cond.fieldLink RX11 527 RX11 "time" "I" ∈ BIG := mB (List.mem_of_getElem? (i := 1394) (by decide +kernel)) rfl
theorem k_1395 : Cond.fieldLink RX11 127 RX11 "was" "[Z" ∈ BIG := mB (List.mem_of_getElem? (i := 1395) (by decide +kernel)) rfl
theorem k_1396 : Cond.fieldLink RX11 130 RX11 "isFit" "[Z" ∈ BIG := mB (List.mem_of_getElem? (i := 1396) (by decide +kernel)) rfl
theorem k_1397 : Cond.fieldLink RX11 133 RX11 "hasBox" "[Z" ∈ BIG := mB (List.mem_of_getElem? (i := 1397) (by decide +kernel)) rfl
theorem k_1398 : Cond.fieldLink RX11 136 RX11 "boxes" "[I" ∈ BIG := mB (List.mem_of_getElem? (i := 1398) (by decide +kernel)) rfl
theorem k_1558 : Cond.arrayClass .long ∈ BIG := mB (List.mem_of_getElem? (i := 1558) (by decide +kernel)) rfl
theorem k_1559 : Cond.methodLink RL 17 yX11_feed ∈ BIG := mB (List.mem_of_getElem? (i := 1559) (by decide +kernel)) rfl
theorem k_1560 : Cond.instanceMethod yX11_feed ∈ BIG := mB (List.mem_of_getElem? (i := 1560) (by decide +kernel)) rfl
theorem k_1561 : Cond.selects RX11 yX11_feed yX11_feed ∈ BIG := mB (List.mem_of_getElem? (i := 1561) (by decide +kernel)) rfl
theorem k_1562 : Cond.code yX11_feed cX11_feed 6 (some .int) ∈ BIG := mB (List.mem_of_getElem? (i := 1562) (by decide +kernel)) rfl
theorem k_1563 : Cond.methodLink RX11 142 yX11_four ∈ BIG := mB (List.mem_of_getElem? (i := 1563) (by decide +kernel)) rfl
theorem k_1565 : Cond.instanceMethod yX11_four ∈ BIG := mB (List.mem_of_getElem? (i := 1565) (by decide +kernel)) rfl
theorem k_1566 : Cond.code yX11_four cX11_four 3 none ∈ BIG := mB (List.mem_of_getElem? (i := 1566) (by decide +kernel)) rfl
theorem k_1567 : Cond.methodLink RL 22 yX11_end ∈ BIG := mB (List.mem_of_getElem? (i := 1567) (by decide +kernel)) rfl
theorem k_1568 : Cond.instanceMethod yX11_end ∈ BIG := mB (List.mem_of_getElem? (i := 1568) (by decide +kernel)) rfl
theorem k_1569 : Cond.selects RX11 yX11_end yX11_end ∈ BIG := mB (List.mem_of_getElem? (i := 1569) (by decide +kernel)) rfl
theorem k_1570 : Cond.code yX11_end cX11_end 2 (some .int) ∈ BIG := mB (List.mem_of_getElem? (i := 1570) (by decide +kernel)) rfl
theorem k_1571 : Cond.methodLink RL 27 yX11_regiment ∈ BIG := mB (List.mem_of_getElem? (i := 1571) (by decide +kernel)) rfl
theorem k_1572 : Cond.instanceMethod yX11_regiment ∈ BIG := mB (List.mem_of_getElem? (i := 1572) (by decide +kernel)) rfl
theorem k_1573 : Cond.selects RX11 yX11_regiment yX11_regiment ∈ BIG := mB (List.mem_of_getElem? (i := 1573) (by decide +kernel)) rfl
theorem k_1574 : Cond.code yX11_regiment cX11_regiment 2 (some .int) ∈ BIG := mB (List.mem_of_getElem? (i := 1574) (by decide +kernel)) rfl
theorem k_1575 : Cond.methodLink RX11 384 yX11_readAll ∈ BIG := mB (List.mem_of_getElem? (i := 1575) (by decide +kernel)) rfl
theorem k_1577 : Cond.instanceMethod yX11_readAll ∈ BIG := mB (List.mem_of_getElem? (i := 1577) (by decide +kernel)) rfl
theorem k_1578 : Cond.code yX11_readAll cX11_readAll 1 none ∈ BIG := mB (List.mem_of_getElem? (i := 1578) (by decide +kernel)) rfl
theorem k_1579 : Cond.methodLink RX11 235 yX11_token ∈ BIG := mB (List.mem_of_getElem? (i := 1579) (by decide +kernel)) rfl
theorem k_1581 : Cond.instanceMethod yX11_token ∈ BIG := mB (List.mem_of_getElem? (i := 1581) (by decide +kernel)) rfl
theorem k_1582 : Cond.code yX11_token cX11_token 3 none ∈ BIG := mB (List.mem_of_getElem? (i := 1582) (by decide +kernel)) rfl
theorem k_1583 : Cond.methodLink RX11 152 yX11_here ∈ BIG := mB (List.mem_of_getElem? (i := 1583) (by decide +kernel)) rfl
theorem k_1585 : Cond.instanceMethod yX11_here ∈ BIG := mB (List.mem_of_getElem? (i := 1585) (by decide +kernel)) rfl
theorem k_1586 : Cond.code yX11_here cX11_here 2 (some .int) ∈ BIG := mB (List.mem_of_getElem? (i := 1586) (by decide +kernel)) rfl
theorem k_1716 : Cond.methodLink RX11 399 yX11_begin ∈ BIG := mB (List.mem_of_getElem? (i := 1716) (by decide +kernel)) rfl
theorem k_1718 : Cond.instanceMethod yX11_begin ∈ BIG := mB (List.mem_of_getElem? (i := 1718) (by decide +kernel)) rfl
theorem k_1719 : Cond.code yX11_begin cX11_begin 2 none ∈ BIG := mB (List.mem_of_getElem? (i := 1719) (by decide +kernel)) rfl
theorem k_1720 : Cond.methodLink RX11 402 yX11_keepAir ∈ BIG := mB (List.mem_of_getElem? (i := 1720) (by decide +kernel)) rfl
theorem k_1722 : Cond.instanceMethod yX11_keepAir ∈ BIG := mB (List.mem_of_getElem? (i := 1722) (by decide +kernel)) rfl
theorem k_1723 : Cond.code yX11_keepAir cX11_keepAir 2 none ∈ BIG := mB (List.mem_of_getElem? (i := 1723) (by decide +kernel)) rfl
theorem k_1724 : Cond.methodLink RL 31 yX11_fault ∈ BIG := mB (List.mem_of_getElem? (i := 1724) (by decide +kernel)) rfl
theorem k_1725 : Cond.instanceMethod yX11_fault ∈ BIG := mB (List.mem_of_getElem? (i := 1725) (by decide +kernel)) rfl
theorem k_1726 : Cond.selects RX11 yX11_fault yX11_fault ∈ BIG := mB (List.mem_of_getElem? (i := 1726) (by decide +kernel)) rfl
theorem k_1727 : Cond.code yX11_fault cX11_fault 2 (some .int) ∈ BIG := mB (List.mem_of_getElem? (i := 1727) (by decide +kernel)) rfl
theorem k_1728 : Cond.methodLink RL 36 yX11_man ∈ BIG := mB (List.mem_of_getElem? (i := 1728) (by decide +kernel)) rfl
theorem k_1729 : Cond.instanceMethod yX11_man ∈ BIG := mB (List.mem_of_getElem? (i := 1729) (by decide +kernel)) rfl
theorem k_1730 : Cond.selects RX11 yX11_man yX11_man ∈ BIG := mB (List.mem_of_getElem? (i := 1730) (by decide +kernel)) rfl
theorem k_1731 : Cond.code yX11_man cX11_man 3 (some .int) ∈ BIG := mB (List.mem_of_getElem? (i := 1731) (by decide +kernel)) rfl
theorem k_1732 : Cond.methodLink RX11 446 yX11_isMan ∈ BIG := mB (List.mem_of_getElem? (i := 1732) (by decide +kernel)) rfl
theorem k_1734 : Cond.instanceMethod yX11_isMan ∈ BIG := mB (List.mem_of_getElem? (i := 1734) (by decide +kernel)) rfl
theorem k_1735 : Cond.code yX11_isMan cX11_isMan 2 (some .boolean) ∈ BIG := mB (List.mem_of_getElem? (i := 1735) (by decide +kernel)) rfl
theorem k_1736 : Cond.methodLink RX11 417 yX11_isIn ∈ BIG := mB (List.mem_of_getElem? (i := 1736) (by decide +kernel)) rfl
theorem k_1737 : Cond.static yX11_isIn ∈ BIG := mB (List.mem_of_getElem? (i := 1737) (by decide +kernel)) rfl
theorem k_1738 : Cond.code yX11_isIn cX11_isIn 3 (some .boolean) ∈ BIG := mB (List.mem_of_getElem? (i := 1738) (by decide +kernel)) rfl
theorem k_1739 : Cond.methodLink RX11 449 yX11_fill ∈ BIG := mB (List.mem_of_getElem? (i := 1739) (by decide +kernel)) rfl
theorem k_1741 : Cond.instanceMethod yX11_fill ∈ BIG := mB (List.mem_of_getElem? (i := 1741) (by decide +kernel)) rfl
theorem k_1742 : Cond.code yX11_fill cX11_fill 2 none ∈ BIG := mB (List.mem_of_getElem? (i := 1742) (by decide +kernel)) rfl
theorem k_1767 : Cond.methodLink RL 40 yX11_coat ∈ BIG := mB (List.mem_of_getElem? (i := 1767) (by decide +kernel)) rfl
theorem k_1768 : Cond.instanceMethod yX11_coat ∈ BIG := mB (List.mem_of_getElem? (i := 1768) (by decide +kernel)) rfl
theorem k_1769 : Cond.selects RX11 yX11_coat yX11_coat ∈ BIG := mB (List.mem_of_getElem? (i := 1769) (by decide +kernel)) rfl
theorem k_1770 : Cond.code yX11_coat cX11_coat 3 (some .int) ∈ BIG := mB (List.mem_of_getElem? (i := 1770) (by decide +kernel)) rfl
theorem k_1771 : Cond.methodLink RX11 455 yX11_isCoat ∈ BIG := mB (List.mem_of_getElem? (i := 1771) (by decide +kernel)) rfl
theorem k_1773 : Cond.instanceMethod yX11_isCoat ∈ BIG := mB (List.mem_of_getElem? (i := 1773) (by decide +kernel)) rfl
theorem k_1774 : Cond.code yX11_isCoat cX11_isCoat 2 (some .boolean) ∈ BIG := mB (List.mem_of_getElem? (i := 1774) (by decide +kernel)) rfl
theorem k_1779 : Cond.methodLink RL 44 yX11_misfit ∈ BIG := mB (List.mem_of_getElem? (i := 1779) (by decide +kernel)) rfl
theorem k_1780 : Cond.instanceMethod yX11_misfit ∈ BIG := mB (List.mem_of_getElem? (i := 1780) (by decide +kernel)) rfl
theorem k_1781 : Cond.selects RX11 yX11_misfit yX11_misfit ∈ BIG := mB (List.mem_of_getElem? (i := 1781) (by decide +kernel)) rfl
theorem k_1782 : Cond.code yX11_misfit cX11_misfit 3 (some .int) ∈ BIG := mB (List.mem_of_getElem? (i := 1782) (by decide +kernel)) rfl
theorem k_1783 : Cond.methodLink RL 48 yX11_day ∈ BIG := mB (List.mem_of_getElem? (i := 1783) (by decide +kernel)) rfl
theorem k_1784 : Cond.instanceMethod yX11_day ∈ BIG := mB (List.mem_of_getElem? (i := 1784) (by decide +kernel)) rfl
theorem k_1785 : Cond.selects RX11 yX11_day yX11_day ∈ BIG := mB (List.mem_of_getElem? (i := 1785) (by decide +kernel)) rfl
theorem k_1786 : Cond.code yX11_day cX11_day 3 (some .int) ∈ BIG := mB (List.mem_of_getElem? (i := 1786) (by decide +kernel)) rfl
theorem k_1787 : Cond.methodLink RX11 458 yX11_act ∈ BIG := mB (List.mem_of_getElem? (i := 1787) (by decide +kernel)) rfl
theorem k_1789 : Cond.instanceMethod yX11_act ∈ BIG := mB (List.mem_of_getElem? (i := 1789) (by decide +kernel)) rfl
theorem k_1790 : Cond.code yX11_act cX11_act 2 none ∈ BIG := mB (List.mem_of_getElem? (i := 1790) (by decide +kernel)) rfl
theorem k_1791 : Cond.methodLink RX11 461 yX11_drawRain ∈ BIG := mB (List.mem_of_getElem? (i := 1791) (by decide +kernel)) rfl
theorem k_1793 : Cond.instanceMethod yX11_drawRain ∈ BIG := mB (List.mem_of_getElem? (i := 1793) (by decide +kernel)) rfl
theorem k_1794 : Cond.code yX11_drawRain cX11_drawRain 1 (some .boolean) ∈ BIG := mB (List.mem_of_getElem? (i := 1794) (by decide +kernel)) rfl
theorem k_1795 : Cond.methodLink RX11 464 yX11_goDay ∈ BIG := mB (List.mem_of_getElem? (i := 1795) (by decide +kernel)) rfl
theorem k_1797 : Cond.instanceMethod yX11_goDay ∈ BIG := mB (List.mem_of_getElem? (i := 1797) (by decide +kernel)) rfl
theorem k_1798 : Cond.code yX11_goDay cX11_goDay 4 (some .int) ∈ BIG := mB (List.mem_of_getElem? (i := 1798) (by decide +kernel)) rfl
theorem k_1805 : Cond.methodLink RX11 440 yX11_wearers ∈ BIG := mB (List.mem_of_getElem? (i := 1805) (by decide +kernel)) rfl
theorem k_1807 : Cond.instanceMethod yX11_wearers ∈ BIG := mB (List.mem_of_getElem? (i := 1807) (by decide +kernel)) rfl
theorem k_1808 : Cond.code yX11_wearers cX11_wearers 3 (some .int) ∈ BIG := mB (List.mem_of_getElem? (i := 1808) (by decide +kernel)) rfl
theorem k_1809 : Cond.methodLink RX11 443 yX11_fittedOnes ∈ BIG := mB (List.mem_of_getElem? (i := 1809) (by decide +kernel)) rfl
theorem k_1811 : Cond.instanceMethod yX11_fittedOnes ∈ BIG := mB (List.mem_of_getElem? (i := 1811) (by decide +kernel)) rfl
theorem k_1812 : Cond.code yX11_fittedOnes cX11_fittedOnes 3 (some .int) ∈ BIG := mB (List.mem_of_getElem? (i := 1812) (by decide +kernel)) rfl
theorem k_1817 : Cond.methodLink RL 52 yX11_don ∈ BIG := mB (List.mem_of_getElem? (i := 1817) (by decide +kernel)) rfl
theorem k_1818 : Cond.instanceMethod yX11_don ∈ BIG := mB (List.mem_of_getElem? (i := 1818) (by decide +kernel)) rfl
theorem k_1819 : Cond.selects RX11 yX11_don yX11_don ∈ BIG := mB (List.mem_of_getElem? (i := 1819) (by decide +kernel)) rfl
theorem k_1820 : Cond.code yX11_don cX11_don 4 (some .int) ∈ BIG := mB (List.mem_of_getElem? (i := 1820) (by decide +kernel)) rfl
theorem k_1821 : Cond.methodLink RL 56 yX11_doff ∈ BIG := mB (List.mem_of_getElem? (i := 1821) (by decide +kernel)) rfl
theorem k_1822 : Cond.instanceMethod yX11_doff ∈ BIG := mB (List.mem_of_getElem? (i := 1822) (by decide +kernel)) rfl
theorem k_1823 : Cond.selects RX11 yX11_doff yX11_doff ∈ BIG := mB (List.mem_of_getElem? (i := 1823) (by decide +kernel)) rfl
theorem k_1824 : Cond.code yX11_doff cX11_doff 3 (some .int) ∈ BIG := mB (List.mem_of_getElem? (i := 1824) (by decide +kernel)) rfl
theorem k_1825 : Cond.methodLink RL 60 yX11_letout ∈ BIG := mB (List.mem_of_getElem? (i := 1825) (by decide +kernel)) rfl
theorem k_1826 : Cond.instanceMethod yX11_letout ∈ BIG := mB (List.mem_of_getElem? (i := 1826) (by decide +kernel)) rfl
theorem k_1827 : Cond.selects RX11 yX11_letout yX11_letout ∈ BIG := mB (List.mem_of_getElem? (i := 1827) (by decide +kernel)) rfl
theorem k_1828 : Cond.code yX11_letout cX11_letout 3 (some .int) ∈ BIG := mB (List.mem_of_getElem? (i := 1828) (by decide +kernel)) rfl
theorem k_1829 : Cond.methodLink RL 64 yX11_takein ∈ BIG := mB (List.mem_of_getElem? (i := 1829) (by decide +kernel)) rfl
theorem k_1830 : Cond.instanceMethod yX11_takein ∈ BIG := mB (List.mem_of_getElem? (i := 1830) (by decide +kernel)) rfl
theorem k_1831 : Cond.selects RX11 yX11_takein yX11_takein ∈ BIG := mB (List.mem_of_getElem? (i := 1831) (by decide +kernel)) rfl
theorem k_1832 : Cond.code yX11_takein cX11_takein 3 (some .int) ∈ BIG := mB (List.mem_of_getElem? (i := 1832) (by decide +kernel)) rfl
theorem k_1833 : Cond.methodLink RL 68 yX11_hem ∈ BIG := mB (List.mem_of_getElem? (i := 1833) (by decide +kernel)) rfl
theorem k_1834 : Cond.instanceMethod yX11_hem ∈ BIG := mB (List.mem_of_getElem? (i := 1834) (by decide +kernel)) rfl
theorem k_1835 : Cond.selects RX11 yX11_hem yX11_hem ∈ BIG := mB (List.mem_of_getElem? (i := 1835) (by decide +kernel)) rfl
theorem k_1836 : Cond.code yX11_hem cX11_hem 3 (some .int) ∈ BIG := mB (List.mem_of_getElem? (i := 1836) (by decide +kernel)) rfl
theorem k_1837 : Cond.methodLink RL 72 yX11_turn ∈ BIG := mB (List.mem_of_getElem? (i := 1837) (by decide +kernel)) rfl
theorem k_1838 : Cond.instanceMethod yX11_turn ∈ BIG := mB (List.mem_of_getElem? (i := 1838) (by decide +kernel)) rfl
theorem k_1839 : Cond.selects RX11 yX11_turn yX11_turn ∈ BIG := mB (List.mem_of_getElem? (i := 1839) (by decide +kernel)) rfl
theorem k_1840 : Cond.code yX11_turn cX11_turn 3 (some .int) ∈ BIG := mB (List.mem_of_getElem? (i := 1840) (by decide +kernel)) rfl
theorem k_1841 : Cond.methodLink RL 77 yX11_undo ∈ BIG := mB (List.mem_of_getElem? (i := 1841) (by decide +kernel)) rfl
theorem k_1842 : Cond.instanceMethod yX11_undo ∈ BIG := mB (List.mem_of_getElem? (i := 1842) (by decide +kernel)) rfl
theorem k_1843 : Cond.selects RX11 yX11_undo yX11_undo ∈ BIG := mB (List.mem_of_getElem? (i := 1843) (by decide +kernel)) rfl
theorem k_1844 : Cond.code yX11_undo cX11_undo 1 (some .boolean) ∈ BIG := mB (List.mem_of_getElem? (i := 1844) (by decide +kernel)) rfl
theorem k_1849 : Cond.methodLink RL 81 yX11_redo ∈ BIG := mB (List.mem_of_getElem? (i := 1849) (by decide +kernel)) rfl
theorem k_1850 : Cond.instanceMethod yX11_redo ∈ BIG := mB (List.mem_of_getElem? (i := 1850) (by decide +kernel)) rfl
theorem k_1851 : Cond.selects RX11 yX11_redo yX11_redo ∈ BIG := mB (List.mem_of_getElem? (i := 1851) (by decide +kernel)) rfl
theorem k_1852 : Cond.code yX11_redo cX11_redo 1 (some .boolean) ∈ BIG := mB (List.mem_of_getElem? (i := 1852) (by decide +kernel)) rfl
theorem k_1853 : Cond.methodLink RL 86 yX11_will ∈ BIG := mB (List.mem_of_getElem? (i := 1853) (by decide +kernel)) rfl
theorem k_1854 : Cond.instanceMethod yX11_will ∈ BIG := mB (List.mem_of_getElem? (i := 1854) (by decide +kernel)) rfl
theorem k_1855 : Cond.selects RX11 yX11_will yX11_will ∈ BIG := mB (List.mem_of_getElem? (i := 1855) (by decide +kernel)) rfl
theorem k_1856 : Cond.code yX11_will cX11_will 5 (some .int) ∈ BIG := mB (List.mem_of_getElem? (i := 1856) (by decide +kernel)) rfl
theorem k_1857 : Cond.methodLink RL 90 yX11_out ∈ BIG := mB (List.mem_of_getElem? (i := 1857) (by decide +kernel)) rfl
theorem k_1858 : Cond.instanceMethod yX11_out ∈ BIG := mB (List.mem_of_getElem? (i := 1858) (by decide +kernel)) rfl
theorem k_1859 : Cond.selects RX11 yX11_out yX11_out ∈ BIG := mB (List.mem_of_getElem? (i := 1859) (by decide +kernel)) rfl
theorem k_1860 : Cond.code yX11_out cX11_out 3 (some .int) ∈ BIG := mB (List.mem_of_getElem? (i := 1860) (by decide +kernel)) rfl
theorem k_1861 : Cond.methodLink RL 162 yX11_rout ∈ BIG := mB (List.mem_of_getElem? (i := 1861) (by decide +kernel)) rfl
theorem k_1862 : Cond.instanceMethod yX11_rout ∈ BIG := mB (List.mem_of_getElem? (i := 1862) (by decide +kernel)) rfl
theorem k_1863 : Cond.selects RX11 yX11_rout yX11_rout ∈ BIG := mB (List.mem_of_getElem? (i := 1863) (by decide +kernel)) rfl
theorem k_1864 : Cond.code yX11_rout cX11_rout 2 (some .int) ∈ BIG := mB (List.mem_of_getElem? (i := 1864) (by decide +kernel)) rfl
theorem k_1865 : Cond.methodLink RL 94 yX11_fitted ∈ BIG := mB (List.mem_of_getElem? (i := 1865) (by decide +kernel)) rfl
theorem k_1866 : Cond.instanceMethod yX11_fitted ∈ BIG := mB (List.mem_of_getElem? (i := 1866) (by decide +kernel)) rfl
theorem k_1867 : Cond.selects RX11 yX11_fitted yX11_fitted ∈ BIG := mB (List.mem_of_getElem? (i := 1867) (by decide +kernel)) rfl
theorem k_1868 : Cond.code yX11_fitted cX11_fitted 1 (some .int) ∈ BIG := mB (List.mem_of_getElem? (i := 1868) (by decide +kernel)) rfl
theorem k_1869 : Cond.methodLink RL 98 yX11_dress ∈ BIG := mB (List.mem_of_getElem? (i := 1869) (by decide +kernel)) rfl
theorem k_1870 : Cond.instanceMethod yX11_dress ∈ BIG := mB (List.mem_of_getElem? (i := 1870) (by decide +kernel)) rfl
theorem k_1871 : Cond.selects RX11 yX11_dress yX11_dress ∈ BIG := mB (List.mem_of_getElem? (i := 1871) (by decide +kernel)) rfl
theorem k_1872 : Cond.code yX11_dress cX11_dress 7 (some .int) ∈ BIG := mB (List.mem_of_getElem? (i := 1872) (by decide +kernel)) rfl
theorem k_1873 : Cond.methodLink RX11 470 yX11_layIlls ∈ BIG := mB (List.mem_of_getElem? (i := 1873) (by decide +kernel)) rfl
theorem k_1875 : Cond.instanceMethod yX11_layIlls ∈ BIG := mB (List.mem_of_getElem? (i := 1875) (by decide +kernel)) rfl
theorem k_1876 : Cond.code yX11_layIlls cX11_layIlls 3 none ∈ BIG := mB (List.mem_of_getElem? (i := 1876) (by decide +kernel)) rfl
theorem k_1877 : Cond.methodLink RX11 473 yX11_power ∈ BIG := mB (List.mem_of_getElem? (i := 1877) (by decide +kernel)) rfl
theorem k_1878 : Cond.static yX11_power ∈ BIG := mB (List.mem_of_getElem? (i := 1878) (by decide +kernel)) rfl
theorem k_1879 : Cond.code yX11_power cX11_power 4 (some .int) ∈ BIG := mB (List.mem_of_getElem? (i := 1879) (by decide +kernel)) rfl
theorem k_1880 : Cond.methodLink RX11 476 yX11_layDress ∈ BIG := mB (List.mem_of_getElem? (i := 1880) (by decide +kernel)) rfl
theorem k_1882 : Cond.instanceMethod yX11_layDress ∈ BIG := mB (List.mem_of_getElem? (i := 1882) (by decide +kernel)) rfl
theorem k_1883 : Cond.code yX11_layDress cX11_layDress 7 (some .int) ∈ BIG := mB (List.mem_of_getElem? (i := 1883) (by decide +kernel)) rfl
theorem k_1884 : Cond.methodLink RX11 479 yX11_illOfRow ∈ BIG := mB (List.mem_of_getElem? (i := 1884) (by decide +kernel)) rfl
theorem k_1886 : Cond.instanceMethod yX11_illOfRow ∈ BIG := mB (List.mem_of_getElem? (i := 1886) (by decide +kernel)) rfl
theorem k_1887 : Cond.code yX11_illOfRow cX11_illOfRow 3 (some .int) ∈ BIG := mB (List.mem_of_getElem? (i := 1887) (by decide +kernel)) rfl
theorem k_1888 : Cond.methodLink RL 102 yX11_sewing ∈ BIG := mB (List.mem_of_getElem? (i := 1888) (by decide +kernel)) rfl
theorem k_1889 : Cond.instanceMethod yX11_sewing ∈ BIG := mB (List.mem_of_getElem? (i := 1889) (by decide +kernel)) rfl
theorem k_1890 : Cond.selects RX11 yX11_sewing yX11_sewing ∈ BIG := mB (List.mem_of_getElem? (i := 1890) (by decide +kernel)) rfl
theorem k_1891 : Cond.code yX11_sewing cX11_sewing 10 (some .int) ∈ BIG := mB (List.mem_of_getElem? (i := 1891) (by decide +kernel)) rfl
theorem k_1896 : Cond.methodLink RL 106 yX11_rota ∈ BIG := mB (List.mem_of_getElem? (i := 1896) (by decide +kernel)) rfl
theorem k_1897 : Cond.instanceMethod yX11_rota ∈ BIG := mB (List.mem_of_getElem? (i := 1897) (by decide +kernel)) rfl
theorem k_1898 : Cond.selects RX11 yX11_rota yX11_rota ∈ BIG := mB (List.mem_of_getElem? (i := 1898) (by decide +kernel)) rfl
theorem k_1899 : Cond.code yX11_rota cX11_rota 6 (some .int) ∈ BIG := mB (List.mem_of_getElem? (i := 1899) (by decide +kernel)) rfl
theorem k_1900 : Cond.methodLink RX11 486 yX11_members ∈ BIG := mB (List.mem_of_getElem? (i := 1900) (by decide +kernel)) rfl
theorem k_1901 : Cond.static yX11_members ∈ BIG := mB (List.mem_of_getElem? (i := 1901) (by decide +kernel)) rfl
theorem k_1902 : Cond.code yX11_members cX11_members 3 (some .int) ∈ BIG := mB (List.mem_of_getElem? (i := 1902) (by decide +kernel)) rfl
theorem k_1903 : Cond.methodLink RL 110 yX11_change ∈ BIG := mB (List.mem_of_getElem? (i := 1903) (by decide +kernel)) rfl
theorem k_1904 : Cond.instanceMethod yX11_change ∈ BIG := mB (List.mem_of_getElem? (i := 1904) (by decide +kernel)) rfl
theorem k_1905 : Cond.selects RX11 yX11_change yX11_change ∈ BIG := mB (List.mem_of_getElem? (i := 1905) (by decide +kernel)) rfl
theorem k_1906 : Cond.code yX11_change cX11_change 7 (some .int) ∈ BIG := mB (List.mem_of_getElem? (i := 1906) (by decide +kernel)) rfl
theorem k_1907 : Cond.methodLink RX11 489 yX11_fitted ∈ BIG := mB (List.mem_of_getElem? (i := 1907) (by decide +kernel)) rfl
theorem k_1908 : Cond.methodLink RL 114 yX11_front ∈ BIG := mB (List.mem_of_getElem? (i := 1908) (by decide +kernel)) rfl
theorem k_1909 : Cond.instanceMethod yX11_front ∈ BIG := mB (List.mem_of_getElem? (i := 1909) (by decide +kernel)) rfl
theorem k_1910 : Cond.selects RX11 yX11_front yX11_front ∈ BIG := mB (List.mem_of_getElem? (i := 1910) (by decide +kernel)) rfl
theorem k_1911 : Cond.code yX11_front cX11_front 6 (some .int) ∈ BIG := mB (List.mem_of_getElem? (i := 1911) (by decide +kernel)) rfl
theorem k_1912 : Cond.methodLink RX11 492 yX11_wideOf ∈ BIG := mB (List.mem_of_getElem? (i := 1912) (by decide +kernel)) rfl
theorem k_1914 : Cond.instanceMethod yX11_wideOf ∈ BIG := mB (List.mem_of_getElem? (i := 1914) (by decide +kernel)) rfl
theorem k_1915 : Cond.code yX11_wideOf cX11_wideOf 4 (some .int) ∈ BIG := mB (List.mem_of_getElem? (i := 1915) (by decide +kernel)) rfl
theorem k_1916 : Cond.methodLink RL 118 yX11_wings ∈ BIG := mB (List.mem_of_getElem? (i := 1916) (by decide +kernel)) rfl
theorem k_1917 : Cond.instanceMethod yX11_wings ∈ BIG := mB (List.mem_of_getElem? (i := 1917) (by decide +kernel)) rfl
theorem k_1918 : Cond.selects RX11 yX11_wings yX11_wings ∈ BIG := mB (List.mem_of_getElem? (i := 1918) (by decide +kernel)) rfl
theorem k_1919 : Cond.code yX11_wings cX11_wings 8 (some .int) ∈ BIG := mB (List.mem_of_getElem? (i := 1919) (by decide +kernel)) rfl
theorem k_1920 : Cond.methodLink RX11 495 yX11_plain ∈ BIG := mB (List.mem_of_getElem? (i := 1920) (by decide +kernel)) rfl
theorem k_1921 : Cond.static yX11_plain ∈ BIG := mB (List.mem_of_getElem? (i := 1921) (by decide +kernel)) rfl
theorem k_1922 : Cond.code yX11_plain cX11_plain 1 (some .int) ∈ BIG := mB (List.mem_of_getElem? (i := 1922) (by decide +kernel)) rfl
theorem k_1923 : Cond.methodLink RL 122 yX11_cloth ∈ BIG := mB (List.mem_of_getElem? (i := 1923) (by decide +kernel)) rfl
theorem k_1924 : Cond.instanceMethod yX11_cloth ∈ BIG := mB (List.mem_of_getElem? (i := 1924) (by decide +kernel)) rfl
theorem k_1925 : Cond.selects RX11 yX11_cloth yX11_cloth ∈ BIG := mB (List.mem_of_getElem? (i := 1925) (by decide +kernel)) rfl
theorem k_1926 : Cond.code yX11_cloth cX11_cloth 3 (some .int) ∈ BIG := mB (List.mem_of_getElem? (i := 1926) (by decide +kernel)) rfl
theorem k_1927 : Cond.constant RX11 498 1000000 ∈ BIG := mB (List.mem_of_getElem? (i := 1927) (by decide +kernel)) rfl
theorem k_1932 : Cond.methodLink RL 126 yX11_buttons ∈ BIG := mB (List.mem_of_getElem? (i := 1932) (by decide +kernel)) rfl
theorem k_1933 : Cond.instanceMethod yX11_buttons ∈ BIG := mB (List.mem_of_getElem? (i := 1933) (by decide +kernel)) rfl
theorem k_1934 : Cond.selects RX11 yX11_buttons yX11_buttons ∈ BIG := mB (List.mem_of_getElem? (i := 1934) (by decide +kernel)) rfl
theorem k_1935 : Cond.code yX11_buttons cX11_buttons 4 (some .int) ∈ BIG := mB (List.mem_of_getElem? (i := 1935) (by decide +kernel)) rfl
theorem k_1944 : Cond.methodLink RL 130 yX11_reach ∈ BIG := mB (List.mem_of_getElem? (i := 1944) (by decide +kernel)) rfl
theorem k_1945 : Cond.instanceMethod yX11_reach ∈ BIG := mB (List.mem_of_getElem? (i := 1945) (by decide +kernel)) rfl
theorem k_1946 : Cond.selects RX11 yX11_reach yX11_reach ∈ BIG := mB (List.mem_of_getElem? (i := 1946) (by decide +kernel)) rfl
theorem k_1947 : Cond.code yX11_reach cX11_reach 7 (some .int) ∈ BIG := mB (List.mem_of_getElem? (i := 1947) (by decide +kernel)) rfl
theorem k_1948 : Cond.methodLink RX11 511 yX11_freeCoats ∈ BIG := mB (List.mem_of_getElem? (i := 1948) (by decide +kernel)) rfl
theorem k_1950 : Cond.instanceMethod yX11_freeCoats ∈ BIG := mB (List.mem_of_getElem? (i := 1950) (by decide +kernel)) rfl
theorem k_1951 : Cond.code yX11_freeCoats cX11_freeCoats 3 (some .int) ∈ BIG := mB (List.mem_of_getElem? (i := 1951) (by decide +kernel)) rfl
theorem k_1960 : Cond.methodLink RL 134 yX11_turning ∈ BIG := mB (List.mem_of_getElem? (i := 1960) (by decide +kernel)) rfl
theorem k_1961 : Cond.instanceMethod yX11_turning ∈ BIG := mB (List.mem_of_getElem? (i := 1961) (by decide +kernel)) rfl
theorem k_1962 : Cond.selects RX11 yX11_turning yX11_turning ∈ BIG := mB (List.mem_of_getElem? (i := 1962) (by decide +kernel)) rfl
theorem k_1963 : Cond.code yX11_turning cX11_turning 5 (some .int) ∈ BIG := mB (List.mem_of_getElem? (i := 1963) (by decide +kernel)) rfl
theorem k_1964 : Cond.methodLink RL 138 yX11_rags ∈ BIG := mB (List.mem_of_getElem? (i := 1964) (by decide +kernel)) rfl
theorem k_1965 : Cond.instanceMethod yX11_rags ∈ BIG := mB (List.mem_of_getElem? (i := 1965) (by decide +kernel)) rfl
theorem k_1966 : Cond.selects RX11 yX11_rags yX11_rags ∈ BIG := mB (List.mem_of_getElem? (i := 1966) (by decide +kernel)) rfl
theorem k_1967 : Cond.code yX11_rags cX11_rags 3 (some .int) ∈ BIG := mB (List.mem_of_getElem? (i := 1967) (by decide +kernel)) rfl
theorem k_1972 : Cond.methodLink RL 142 yX11_naked ∈ BIG := mB (List.mem_of_getElem? (i := 1972) (by decide +kernel)) rfl
theorem k_1973 : Cond.instanceMethod yX11_naked ∈ BIG := mB (List.mem_of_getElem? (i := 1973) (by decide +kernel)) rfl
theorem k_1974 : Cond.selects RX11 yX11_naked yX11_naked ∈ BIG := mB (List.mem_of_getElem? (i := 1974) (by decide +kernel)) rfl
theorem k_1975 : Cond.code yX11_naked cX11_naked 3 (some .int) ∈ BIG := mB (List.mem_of_getElem? (i := 1975) (by decide +kernel)) rfl
theorem k_1976 : Cond.methodLink RL 146 yX11_popular ∈ BIG := mB (List.mem_of_getElem? (i := 1976) (by decide +kernel)) rfl
theorem k_1977 : Cond.instanceMethod yX11_popular ∈ BIG := mB (List.mem_of_getElem? (i := 1977) (by decide +kernel)) rfl
theorem k_1978 : Cond.selects RX11 yX11_popular yX11_popular ∈ BIG := mB (List.mem_of_getElem? (i := 1978) (by decide +kernel)) rfl
theorem k_1979 : Cond.code yX11_popular cX11_popular 2 (some .int) ∈ BIG := mB (List.mem_of_getElem? (i := 1979) (by decide +kernel)) rfl
theorem k_1980 : Cond.methodLink RL 150 yX11_law ∈ BIG := mB (List.mem_of_getElem? (i := 1980) (by decide +kernel)) rfl
theorem k_1981 : Cond.instanceMethod yX11_law ∈ BIG := mB (List.mem_of_getElem? (i := 1981) (by decide +kernel)) rfl
theorem k_1982 : Cond.selects RX11 yX11_law yX11_law ∈ BIG := mB (List.mem_of_getElem? (i := 1982) (by decide +kernel)) rfl
theorem k_1983 : Cond.code yX11_law cX11_law 4 (some .int) ∈ BIG := mB (List.mem_of_getElem? (i := 1983) (by decide +kernel)) rfl
theorem k_1988 : Cond.methodLink RL 154 yX11_ease ∈ BIG := mB (List.mem_of_getElem? (i := 1988) (by decide +kernel)) rfl
theorem k_1989 : Cond.instanceMethod yX11_ease ∈ BIG := mB (List.mem_of_getElem? (i := 1989) (by decide +kernel)) rfl
theorem k_1990 : Cond.selects RX11 yX11_ease yX11_ease ∈ BIG := mB (List.mem_of_getElem? (i := 1990) (by decide +kernel)) rfl
theorem k_1991 : Cond.code yX11_ease cX11_ease 3 (some .int) ∈ BIG := mB (List.mem_of_getElem? (i := 1991) (by decide +kernel)) rfl
theorem k_1992 : Cond.methodLink RL 158 yX11_breadth ∈ BIG := mB (List.mem_of_getElem? (i := 1992) (by decide +kernel)) rfl
theorem k_1993 : Cond.instanceMethod yX11_breadth ∈ BIG := mB (List.mem_of_getElem? (i := 1993) (by decide +kernel)) rfl
theorem k_1994 : Cond.selects RX11 yX11_breadth yX11_breadth ∈ BIG := mB (List.mem_of_getElem? (i := 1994) (by decide +kernel)) rfl
theorem k_1995 : Cond.code yX11_breadth cX11_breadth 1 (some .int) ∈ BIG := mB (List.mem_of_getElem? (i := 1995) (by decide +kernel)) rfl
theorem k_1996 : Cond.methodLink RL 166 yX11_odds ∈ BIG := mB (List.mem_of_getElem? (i := 1996) (by decide +kernel)) rfl
theorem k_1997 : Cond.instanceMethod yX11_odds ∈ BIG := mB (List.mem_of_getElem? (i := 1997) (by decide +kernel)) rfl
theorem k_1998 : Cond.selects RX11 yX11_odds yX11_odds ∈ BIG := mB (List.mem_of_getElem? (i := 1998) (by decide +kernel)) rfl
theorem k_1999 : Cond.code yX11_odds cX11_odds 6 (some .int) ∈ BIG := mB (List.mem_of_getElem? (i := 1999) (by decide +kernel)) rfl
theorem k_2000 : Cond.methodLink RX11 524 yX11_divisor ∈ BIG := mB (List.mem_of_getElem? (i := 2000) (by decide +kernel)) rfl
theorem k_2001 : Cond.static yX11_divisor ∈ BIG := mB (List.mem_of_getElem? (i := 2001) (by decide +kernel)) rfl
theorem k_2002 : Cond.code yX11_divisor cX11_divisor 5 (some .int) ∈ BIG := mB (List.mem_of_getElem? (i := 2002) (by decide +kernel)) rfl
theorem k_2003 : Cond.methodLink RL 170 yX11_lies ∈ BIG := mB (List.mem_of_getElem? (i := 2003) (by decide +kernel)) rfl
theorem k_2004 : Cond.instanceMethod yX11_lies ∈ BIG := mB (List.mem_of_getElem? (i := 2004) (by decide +kernel)) rfl
theorem k_2005 : Cond.selects RX11 yX11_lies yX11_lies ∈ BIG := mB (List.mem_of_getElem? (i := 2005) (by decide +kernel)) rfl
theorem k_2006 : Cond.code yX11_lies cX11_lies 2 (some .int) ∈ BIG := mB (List.mem_of_getElem? (i := 2006) (by decide +kernel)) rfl
theorem k_2007 : Cond.methodLink RL 175 yX11_seen ∈ BIG := mB (List.mem_of_getElem? (i := 2007) (by decide +kernel)) rfl
theorem k_2008 : Cond.instanceMethod yX11_seen ∈ BIG := mB (List.mem_of_getElem? (i := 2008) (by decide +kernel)) rfl
theorem k_2009 : Cond.selects RX11 yX11_seen yX11_seen ∈ BIG := mB (List.mem_of_getElem? (i := 2009) (by decide +kernel)) rfl
theorem k_2010 : Cond.code yX11_seen cX11_seen 3 (some .int) ∈ BIG := mB (List.mem_of_getElem? (i := 2010) (by decide +kernel)) rfl
theorem k_2011 : Cond.methodLink RL 180 yX11_untell ∈ BIG := mB (List.mem_of_getElem? (i := 2011) (by decide +kernel)) rfl
theorem k_2012 : Cond.instanceMethod yX11_untell ∈ BIG := mB (List.mem_of_getElem? (i := 2012) (by decide +kernel)) rfl
theorem k_2013 : Cond.selects RX11 yX11_untell yX11_untell ∈ BIG := mB (List.mem_of_getElem? (i := 2013) (by decide +kernel)) rfl
theorem k_2014 : Cond.code yX11_untell cX11_untell 2 (some .boolean) ∈ BIG := mB (List.mem_of_getElem? (i := 2014) (by decide +kernel)) rfl
theorem k_2015 : Cond.methodLink RL 184 yX11_later ∈ BIG := mB (List.mem_of_getElem? (i := 2015) (by decide +kernel)) rfl
theorem k_2016 : Cond.instanceMethod yX11_later ∈ BIG := mB (List.mem_of_getElem? (i := 2016) (by decide +kernel)) rfl
theorem k_2017 : Cond.selects RX11 yX11_later yX11_later ∈ BIG := mB (List.mem_of_getElem? (i := 2017) (by decide +kernel)) rfl
theorem k_2018 : Cond.code yX11_later cX11_later 2 (some .int) ∈ BIG := mB (List.mem_of_getElem? (i := 2018) (by decide +kernel)) rfl
theorem k_2019 : Cond.constant RX11 530 100000 ∈ BIG := mB (List.mem_of_getElem? (i := 2019) (by decide +kernel)) rfl
theorem k_2020 : Cond.methodLink RL 188 yX11_growths ∈ BIG := mB (List.mem_of_getElem? (i := 2020) (by decide +kernel)) rfl
theorem k_2021 : Cond.instanceMethod yX11_growths ∈ BIG := mB (List.mem_of_getElem? (i := 2021) (by decide +kernel)) rfl
theorem k_2022 : Cond.selects RX11 yX11_growths yX11_growths ∈ BIG := mB (List.mem_of_getElem? (i := 2022) (by decide +kernel)) rfl
theorem k_2023 : Cond.code yX11_growths cX11_growths 2 (some .int) ∈ BIG := mB (List.mem_of_getElem? (i := 2023) (by decide +kernel)) rfl
theorem k_2024 : Cond.methodLink RX11 534 yX11_layGrowths ∈ BIG := mB (List.mem_of_getElem? (i := 2024) (by decide +kernel)) rfl
theorem k_2026 : Cond.instanceMethod yX11_layGrowths ∈ BIG := mB (List.mem_of_getElem? (i := 2026) (by decide +kernel)) rfl
theorem k_2027 : Cond.code yX11_layGrowths cX11_layGrowths 5 (some .int) ∈ BIG := mB (List.mem_of_getElem? (i := 2027) (by decide +kernel)) rfl
theorem k_2032 : Cond.methodLink RL 192 yX11_sure ∈ BIG := mB (List.mem_of_getElem? (i := 2032) (by decide +kernel)) rfl
theorem k_2033 : Cond.instanceMethod yX11_sure ∈ BIG := mB (List.mem_of_getElem? (i := 2033) (by decide +kernel)) rfl
theorem k_2034 : Cond.selects RX11 yX11_sure yX11_sure ∈ BIG := mB (List.mem_of_getElem? (i := 2034) (by decide +kernel)) rfl
theorem k_2035 : Cond.code yX11_sure cX11_sure 5 (some .int) ∈ BIG := mB (List.mem_of_getElem? (i := 2035) (by decide +kernel)) rfl
theorem k_2036 : Cond.methodLink RL 196 yX11_ask ∈ BIG := mB (List.mem_of_getElem? (i := 2036) (by decide +kernel)) rfl
theorem k_2037 : Cond.instanceMethod yX11_ask ∈ BIG := mB (List.mem_of_getElem? (i := 2037) (by decide +kernel)) rfl
theorem k_2038 : Cond.selects RX11 yX11_ask yX11_ask ∈ BIG := mB (List.mem_of_getElem? (i := 2038) (by decide +kernel)) rfl
theorem k_2039 : Cond.code yX11_ask cX11_ask 6 (some .int) ∈ BIG := mB (List.mem_of_getElem? (i := 2039) (by decide +kernel)) rfl
theorem k_2044 : Cond.methodLink RL 200 yX11_image ∈ BIG := mB (List.mem_of_getElem? (i := 2044) (by decide +kernel)) rfl
theorem k_2045 : Cond.instanceMethod yX11_image ∈ BIG := mB (List.mem_of_getElem? (i := 2045) (by decide +kernel)) rfl
theorem k_2046 : Cond.selects RX11 yX11_image yX11_image ∈ BIG := mB (List.mem_of_getElem? (i := 2046) (by decide +kernel)) rfl
theorem k_2047 : Cond.code yX11_image cX11_image 3 (some .int) ∈ BIG := mB (List.mem_of_getElem? (i := 2047) (by decide +kernel)) rfl
theorem k_2048 : Cond.methodLink RX11 540 yX11_isBox ∈ BIG := mB (List.mem_of_getElem? (i := 2048) (by decide +kernel)) rfl
theorem k_2049 : Cond.static yX11_isBox ∈ BIG := mB (List.mem_of_getElem? (i := 2049) (by decide +kernel)) rfl
theorem k_2050 : Cond.code yX11_isBox cX11_isBox 1 (some .boolean) ∈ BIG := mB (List.mem_of_getElem? (i := 2050) (by decide +kernel)) rfl
theorem k_2051 : Cond.methodLink RL 204 yX11_back ∈ BIG := mB (List.mem_of_getElem? (i := 2051) (by decide +kernel)) rfl
theorem k_2052 : Cond.instanceMethod yX11_back ∈ BIG := mB (List.mem_of_getElem? (i := 2052) (by decide +kernel)) rfl
theorem k_2053 : Cond.selects RX11 yX11_back yX11_back ∈ BIG := mB (List.mem_of_getElem? (i := 2053) (by decide +kernel)) rfl
theorem k_2054 : Cond.code yX11_back cX11_back 3 (some .int) ∈ BIG := mB (List.mem_of_getElem? (i := 2054) (by decide +kernel)) rfl
theorem k_2055 : Cond.methodLink RL 208 yX11_about ∈ BIG := mB (List.mem_of_getElem? (i := 2055) (by decide +kernel)) rfl
theorem k_2056 : Cond.instanceMethod yX11_about ∈ BIG := mB (List.mem_of_getElem? (i := 2056) (by decide +kernel)) rfl
theorem k_2057 : Cond.selects RX11 yX11_about yX11_about ∈ BIG := mB (List.mem_of_getElem? (i := 2057) (by decide +kernel)) rfl
theorem k_2058 : Cond.code yX11_about cX11_about 2 (some .int) ∈ BIG := mB (List.mem_of_getElem? (i := 2058) (by decide +kernel)) rfl
end
