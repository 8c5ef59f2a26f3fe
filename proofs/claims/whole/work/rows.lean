section
-- ===== PART A: goes FIRST, ahead of the names: the tables' words, and 'selects' of the private methods out of them =====
/-- a private method of a class that the tables say can be made, by its rows of tables_1 -/
def lw_okq (q : MethodName × Nat) : Prop := (q.1.cls ≠ "java/lang/invoke/MethodHandle" ∧ q.1.cls ≠ "java/lang/invoke/VarHandle") ∧ Cond.instantiable q.1.cls q.2 ∈ tables_1 ∧ Cond.privateMethod q.1 ∈ tables_1 ∧ Cond.instanceMethod q.1 ∈ tables_1
theorem lw_p0 : lw_okq (⟨"OneIsOut", "rowRefusal", "(I)I"⟩, 6) := ⟨⟨by decide +kernel, by decide +kernel⟩, List.mem_of_getElem? (i := 21) (by decide +kernel), List.mem_of_getElem? (i := 159) (by decide +kernel), List.mem_of_getElem? (i := 160) (by decide +kernel)⟩
theorem lw_p1 : lw_okq (⟨"OneIsOut$Lights", "renew", "(III)V"⟩, 11) := ⟨⟨by decide +kernel, by decide +kernel⟩, List.mem_of_getElem? (i := 29) (by decide +kernel), List.mem_of_getElem? (i := 210) (by decide +kernel), List.mem_of_getElem? (i := 211) (by decide +kernel)⟩
theorem lw_p2 : lw_okq (⟨"OneIsOut$Lights", "spend", "(I)V"⟩, 11) := ⟨⟨by decide +kernel, by decide +kernel⟩, List.mem_of_getElem? (i := 29) (by decide +kernel), List.mem_of_getElem? (i := 243) (by decide +kernel), List.mem_of_getElem? (i := 244) (by decide +kernel)⟩
theorem lw_p3 : lw_okq (⟨"OneIsOut$Lights", "tells", "(III)Z"⟩, 11) := ⟨⟨by decide +kernel, by decide +kernel⟩, List.mem_of_getElem? (i := 29) (by decide +kernel), List.mem_of_getElem? (i := 250) (by decide +kernel), List.mem_of_getElem? (i := 251) (by decide +kernel)⟩
theorem lw_p4 : lw_okq (⟨"OneIsOut$Lights", "wear", "(III)V"⟩, 11) := ⟨⟨by decide +kernel, by decide +kernel⟩, List.mem_of_getElem? (i := 29) (by decide +kernel), List.mem_of_getElem? (i := 292) (by decide +kernel), List.mem_of_getElem? (i := 293) (by decide +kernel)⟩
theorem lw_p5 : lw_okq (⟨"OneIsOut$Lights", "unseatLoose", "()V"⟩, 11) := ⟨⟨by decide +kernel, by decide +kernel⟩, List.mem_of_getElem? (i := 29) (by decide +kernel), List.mem_of_getElem? (i := 307) (by decide +kernel), List.mem_of_getElem? (i := 308) (by decide +kernel)⟩
theorem lw_p6 : lw_okq (⟨"OneIsOut", "bulbRefusal", "(I)I"⟩, 6) := ⟨⟨by decide +kernel, by decide +kernel⟩, List.mem_of_getElem? (i := 21) (by decide +kernel), List.mem_of_getElem? (i := 341) (by decide +kernel), List.mem_of_getElem? (i := 342) (by decide +kernel)⟩
theorem lw_p7 : lw_okq (⟨"OneIsOut$Halving", "worstOf", "(II)I"⟩, 1) := ⟨⟨by decide +kernel, by decide +kernel⟩, List.mem_of_getElem? (i := 91) (by decide +kernel), List.mem_of_getElem? (i := 454) (by decide +kernel), List.mem_of_getElem? (i := 455) (by decide +kernel)⟩
theorem lw_p8 : lw_okq (⟨"OneIsOut$Halving", "worstByCut", "(III)I"⟩, 1) := ⟨⟨by decide +kernel, by decide +kernel⟩, List.mem_of_getElem? (i := 91) (by decide +kernel), List.mem_of_getElem? (i := 459) (by decide +kernel), List.mem_of_getElem? (i := 460) (by decide +kernel)⟩
theorem lw_p9 : lw_okq (⟨"OneIsOut$Halving", "bestOf", "(II)I"⟩, 1) := ⟨⟨by decide +kernel, by decide +kernel⟩, List.mem_of_getElem? (i := 91) (by decide +kernel), List.mem_of_getElem? (i := 464) (by decide +kernel), List.mem_of_getElem? (i := 465) (by decide +kernel)⟩
theorem lw_p10 : lw_okq (⟨"OneIsOut$Halving", "weighedOf", "(LOneIsOut$Lights;II)I"⟩, 1) := ⟨⟨by decide +kernel, by decide +kernel⟩, List.mem_of_getElem? (i := 91) (by decide +kernel), List.mem_of_getElem? (i := 490) (by decide +kernel), List.mem_of_getElem? (i := 491) (by decide +kernel)⟩
theorem lw_p11 : lw_okq (⟨"OneIsOut", "lightOfCut", "(II)I"⟩, 6) := ⟨⟨by decide +kernel, by decide +kernel⟩, List.mem_of_getElem? (i := 21) (by decide +kernel), List.mem_of_getElem? (i := 571) (by decide +kernel), List.mem_of_getElem? (i := 572) (by decide +kernel)⟩
theorem lw_p12 : lw_okq (⟨"OneIsOut$Lights", "partHour", "(II)I"⟩, 11) := ⟨⟨by decide +kernel, by decide +kernel⟩, List.mem_of_getElem? (i := 29) (by decide +kernel), List.mem_of_getElem? (i := 579) (by decide +kernel), List.mem_of_getElem? (i := 580) (by decide +kernel)⟩
theorem lw_p13 : lw_okq (⟨"OneIsOut", "sortsByRow", "(LOneIsOut$Shelf;I)I"⟩, 6) := ⟨⟨by decide +kernel, by decide +kernel⟩, List.mem_of_getElem? (i := 21) (by decide +kernel), List.mem_of_getElem? (i := 604) (by decide +kernel), List.mem_of_getElem? (i := 605) (by decide +kernel)⟩
theorem lw_p14 : lw_okq (⟨"OneIsOut", "figuresByRow", "(LOneIsOut$Shelf;I)I"⟩, 6) := ⟨⟨by decide +kernel, by decide +kernel⟩, List.mem_of_getElem? (i := 21) (by decide +kernel), List.mem_of_getElem? (i := 622) (by decide +kernel), List.mem_of_getElem? (i := 623) (by decide +kernel)⟩
theorem lw_p15 : lw_okq (⟨"java/lang/Throwable", "fillInStackTrace", "(I)Ljava/lang/Throwable;"⟩, 6) := ⟨⟨by decide +kernel, by decide +kernel⟩, List.mem_of_getElem? (i := 779) (by decide +kernel), List.mem_of_getElem? (i := 777) (by decide +kernel), List.mem_of_getElem? (i := 778) (by decide +kernel)⟩
def lw_privs_1 : List (MethodName × Nat) := [(⟨"OneIsOut", "rowRefusal", "(I)I"⟩, 6), (⟨"OneIsOut$Lights", "renew", "(III)V"⟩, 11), (⟨"OneIsOut$Lights", "spend", "(I)V"⟩, 11), (⟨"OneIsOut$Lights", "tells", "(III)Z"⟩, 11), (⟨"OneIsOut$Lights", "wear", "(III)V"⟩, 11), (⟨"OneIsOut$Lights", "unseatLoose", "()V"⟩, 11), (⟨"OneIsOut", "bulbRefusal", "(I)I"⟩, 6), (⟨"OneIsOut$Halving", "worstOf", "(II)I"⟩, 1), (⟨"OneIsOut$Halving", "worstByCut", "(III)I"⟩, 1), (⟨"OneIsOut$Halving", "bestOf", "(II)I"⟩, 1), (⟨"OneIsOut$Halving", "weighedOf", "(LOneIsOut$Lights;II)I"⟩, 1), (⟨"OneIsOut", "lightOfCut", "(II)I"⟩, 6), (⟨"OneIsOut$Lights", "partHour", "(II)I"⟩, 11), (⟨"OneIsOut", "sortsByRow", "(LOneIsOut$Shelf;I)I"⟩, 6), (⟨"OneIsOut", "figuresByRow", "(LOneIsOut$Shelf;I)I"⟩, 6), (⟨"java/lang/Throwable", "fillInStackTrace", "(I)Ljava/lang/Throwable;"⟩, 6)]
theorem lw_r1 : ∀ q ∈ lw_privs_1, lw_okq q := List.forall_mem_cons.mpr ⟨lw_p0, List.forall_mem_cons.mpr ⟨lw_p1, List.forall_mem_cons.mpr ⟨lw_p2, List.forall_mem_cons.mpr ⟨lw_p3, List.forall_mem_cons.mpr ⟨lw_p4, List.forall_mem_cons.mpr ⟨lw_p5, List.forall_mem_cons.mpr ⟨lw_p6, List.forall_mem_cons.mpr ⟨lw_p7, List.forall_mem_cons.mpr ⟨lw_p8, List.forall_mem_cons.mpr ⟨lw_p9, List.forall_mem_cons.mpr ⟨lw_p10, List.forall_mem_cons.mpr ⟨lw_p11, List.forall_mem_cons.mpr ⟨lw_p12, List.forall_mem_cons.mpr ⟨lw_p13, List.forall_mem_cons.mpr ⟨lw_p14, List.forall_mem_cons.mpr ⟨lw_p15, fun _ h => absurd h List.not_mem_nil⟩⟩⟩⟩⟩⟩⟩⟩⟩⟩⟩⟩⟩⟩⟩⟩
theorem lw_p16 : lw_okq (⟨"OneIsOutModel", "wrongRow", "(I)I"⟩, 41) := ⟨⟨by decide +kernel, by decide +kernel⟩, List.mem_of_getElem? (i := 826) (by decide +kernel), List.mem_of_getElem? (i := 965) (by decide +kernel), List.mem_of_getElem? (i := 966) (by decide +kernel)⟩
theorem lw_p17 : lw_okq (⟨"OneIsOutModel", "readStatement", "()V"⟩, 41) := ⟨⟨by decide +kernel, by decide +kernel⟩, List.mem_of_getElem? (i := 826) (by decide +kernel), List.mem_of_getElem? (i := 973) (by decide +kernel), List.mem_of_getElem? (i := 974) (by decide +kernel)⟩
theorem lw_p18 : lw_okq (⟨"OneIsOutModel", "here", "()I"⟩, 41) := ⟨⟨by decide +kernel, by decide +kernel⟩, List.mem_of_getElem? (i := 826) (by decide +kernel), List.mem_of_getElem? (i := 977) (by decide +kernel), List.mem_of_getElem? (i := 978) (by decide +kernel)⟩
theorem lw_p19 : lw_okq (⟨"OneIsOutModel", "readNumbers", "(II)V"⟩, 41) := ⟨⟨by decide +kernel, by decide +kernel⟩, List.mem_of_getElem? (i := 826) (by decide +kernel), List.mem_of_getElem? (i := 984) (by decide +kernel), List.mem_of_getElem? (i := 985) (by decide +kernel)⟩
theorem lw_p20 : lw_okq (⟨"OneIsOutModel", "readDigits", "(I)I"⟩, 41) := ⟨⟨by decide +kernel, by decide +kernel⟩, List.mem_of_getElem? (i := 826) (by decide +kernel), List.mem_of_getElem? (i := 988) (by decide +kernel), List.mem_of_getElem? (i := 989) (by decide +kernel)⟩
theorem lw_p21 : lw_okq (⟨"OneIsOutModel", "think", "()V"⟩, 41) := ⟨⟨by decide +kernel, by decide +kernel⟩, List.mem_of_getElem? (i := 826) (by decide +kernel), List.mem_of_getElem? (i := 994) (by decide +kernel), List.mem_of_getElem? (i := 995) (by decide +kernel)⟩
theorem lw_p22 : lw_okq (⟨"OneIsOutModel", "carryAll", "([IZ)V"⟩, 41) := ⟨⟨by decide +kernel, by decide +kernel⟩, List.mem_of_getElem? (i := 826) (by decide +kernel), List.mem_of_getElem? (i := 998) (by decide +kernel), List.mem_of_getElem? (i := 999) (by decide +kernel)⟩
theorem lw_p23 : lw_okq (⟨"OneIsOutModel", "carry", "(I)I"⟩, 41) := ⟨⟨by decide +kernel, by decide +kernel⟩, List.mem_of_getElem? (i := 826) (by decide +kernel), List.mem_of_getElem? (i := 1002) (by decide +kernel), List.mem_of_getElem? (i := 1003) (by decide +kernel)⟩
theorem lw_p24 : lw_okq (⟨"OneIsOutModel", "comesTold", "(I)Z"⟩, 41) := ⟨⟨by decide +kernel, by decide +kernel⟩, List.mem_of_getElem? (i := 826) (by decide +kernel), List.mem_of_getElem? (i := 1006) (by decide +kernel), List.mem_of_getElem? (i := 1007) (by decide +kernel)⟩
theorem lw_p25 : lw_okq (⟨"OneIsOutModel", "bulbComes", "(II)Z"⟩, 41) := ⟨⟨by decide +kernel, by decide +kernel⟩, List.mem_of_getElem? (i := 826) (by decide +kernel), List.mem_of_getElem? (i := 1010) (by decide +kernel), List.mem_of_getElem? (i := 1011) (by decide +kernel)⟩
theorem lw_p26 : lw_okq (⟨"OneIsOutModel", "toolComes", "(III)Z"⟩, 41) := ⟨⟨by decide +kernel, by decide +kernel⟩, List.mem_of_getElem? (i := 826) (by decide +kernel), List.mem_of_getElem? (i := 1014) (by decide +kernel), List.mem_of_getElem? (i := 1015) (by decide +kernel)⟩
theorem lw_p27 : lw_okq (⟨"OneIsOutModel", "isBulb", "(I)Z"⟩, 41) := ⟨⟨by decide +kernel, by decide +kernel⟩, List.mem_of_getElem? (i := 826) (by decide +kernel), List.mem_of_getElem? (i := 1018) (by decide +kernel), List.mem_of_getElem? (i := 1019) (by decide +kernel)⟩
theorem lw_p28 : lw_okq (⟨"OneIsOutModel", "usedOn", "(III)I"⟩, 41) := ⟨⟨by decide +kernel, by decide +kernel⟩, List.mem_of_getElem? (i := 826) (by decide +kernel), List.mem_of_getElem? (i := 1022) (by decide +kernel), List.mem_of_getElem? (i := 1023) (by decide +kernel)⟩
theorem lw_p29 : lw_okq (⟨"OneIsOutModel", "tellsBy", "(III)Z"⟩, 41) := ⟨⟨by decide +kernel, by decide +kernel⟩, List.mem_of_getElem? (i := 826) (by decide +kernel), List.mem_of_getElem? (i := 1035) (by decide +kernel), List.mem_of_getElem? (i := 1036) (by decide +kernel)⟩
theorem lw_p30 : lw_okq (⟨"OneIsOutModel", "isBrown", "(I)Z"⟩, 41) := ⟨⟨by decide +kernel, by decide +kernel⟩, List.mem_of_getElem? (i := 826) (by decide +kernel), List.mem_of_getElem? (i := 1039) (by decide +kernel), List.mem_of_getElem? (i := 1040) (by decide +kernel)⟩
theorem lw_p31 : lw_okq (⟨"OneIsOutModel", "lifeOf", "(I)I"⟩, 41) := ⟨⟨by decide +kernel, by decide +kernel⟩, List.mem_of_getElem? (i := 826) (by decide +kernel), List.mem_of_getElem? (i := 1043) (by decide +kernel), List.mem_of_getElem? (i := 1044) (by decide +kernel)⟩
def lw_privs_2 : List (MethodName × Nat) := [(⟨"OneIsOutModel", "wrongRow", "(I)I"⟩, 41), (⟨"OneIsOutModel", "readStatement", "()V"⟩, 41), (⟨"OneIsOutModel", "here", "()I"⟩, 41), (⟨"OneIsOutModel", "readNumbers", "(II)V"⟩, 41), (⟨"OneIsOutModel", "readDigits", "(I)I"⟩, 41), (⟨"OneIsOutModel", "think", "()V"⟩, 41), (⟨"OneIsOutModel", "carryAll", "([IZ)V"⟩, 41), (⟨"OneIsOutModel", "carry", "(I)I"⟩, 41), (⟨"OneIsOutModel", "comesTold", "(I)Z"⟩, 41), (⟨"OneIsOutModel", "bulbComes", "(II)Z"⟩, 41), (⟨"OneIsOutModel", "toolComes", "(III)Z"⟩, 41), (⟨"OneIsOutModel", "isBulb", "(I)Z"⟩, 41), (⟨"OneIsOutModel", "usedOn", "(III)I"⟩, 41), (⟨"OneIsOutModel", "tellsBy", "(III)Z"⟩, 41), (⟨"OneIsOutModel", "isBrown", "(I)Z"⟩, 41), (⟨"OneIsOutModel", "lifeOf", "(I)I"⟩, 41)]
theorem lw_r2 : ∀ q ∈ lw_privs_2, lw_okq q := List.forall_mem_cons.mpr ⟨lw_p16, List.forall_mem_cons.mpr ⟨lw_p17, List.forall_mem_cons.mpr ⟨lw_p18, List.forall_mem_cons.mpr ⟨lw_p19, List.forall_mem_cons.mpr ⟨lw_p20, List.forall_mem_cons.mpr ⟨lw_p21, List.forall_mem_cons.mpr ⟨lw_p22, List.forall_mem_cons.mpr ⟨lw_p23, List.forall_mem_cons.mpr ⟨lw_p24, List.forall_mem_cons.mpr ⟨lw_p25, List.forall_mem_cons.mpr ⟨lw_p26, List.forall_mem_cons.mpr ⟨lw_p27, List.forall_mem_cons.mpr ⟨lw_p28, List.forall_mem_cons.mpr ⟨lw_p29, List.forall_mem_cons.mpr ⟨lw_p30, List.forall_mem_cons.mpr ⟨lw_p31, fun _ h => absurd h List.not_mem_nil⟩⟩⟩⟩⟩⟩⟩⟩⟩⟩⟩⟩⟩⟩⟩⟩
theorem lw_p32 : lw_okq (⟨"OneIsOutModel", "allLead", "(III)Z"⟩, 41) := ⟨⟨by decide +kernel, by decide +kernel⟩, List.mem_of_getElem? (i := 826) (by decide +kernel), List.mem_of_getElem? (i := 1047) (by decide +kernel), List.mem_of_getElem? (i := 1048) (by decide +kernel)⟩
theorem lw_p33 : lw_okq (⟨"OneIsOutModel", "leads", "(II)Z"⟩, 41) := ⟨⟨by decide +kernel, by decide +kernel⟩, List.mem_of_getElem? (i := 826) (by decide +kernel), List.mem_of_getElem? (i := 1051) (by decide +kernel), List.mem_of_getElem? (i := 1052) (by decide +kernel)⟩
theorem lw_p34 : lw_okq (⟨"OneIsOutModel", "hoursCome", "(I)Z"⟩, 41) := ⟨⟨by decide +kernel, by decide +kernel⟩, List.mem_of_getElem? (i := 826) (by decide +kernel), List.mem_of_getElem? (i := 1058) (by decide +kernel), List.mem_of_getElem? (i := 1059) (by decide +kernel)⟩
theorem lw_p35 : lw_okq (⟨"OneIsOutModel", "goHours", "(I)V"⟩, 41) := ⟨⟨by decide +kernel, by decide +kernel⟩, List.mem_of_getElem? (i := 826) (by decide +kernel), List.mem_of_getElem? (i := 1063) (by decide +kernel), List.mem_of_getElem? (i := 1064) (by decide +kernel)⟩
theorem lw_p36 : lw_okq (⟨"OneIsOutModel", "hourOn", "()Z"⟩, 41) := ⟨⟨by decide +kernel, by decide +kernel⟩, List.mem_of_getElem? (i := 826) (by decide +kernel), List.mem_of_getElem? (i := 1067) (by decide +kernel), List.mem_of_getElem? (i := 1068) (by decide +kernel)⟩
theorem lw_p37 : lw_okq (⟨"OneIsOutModel", "burns", "(II)Z"⟩, 41) := ⟨⟨by decide +kernel, by decide +kernel⟩, List.mem_of_getElem? (i := 826) (by decide +kernel), List.mem_of_getElem? (i := 1071) (by decide +kernel), List.mem_of_getElem? (i := 1072) (by decide +kernel)⟩
theorem lw_p38 : lw_okq (⟨"OneIsOutModel", "wholeOf", "(II)I"⟩, 41) := ⟨⟨by decide +kernel, by decide +kernel⟩, List.mem_of_getElem? (i := 826) (by decide +kernel), List.mem_of_getElem? (i := 1075) (by decide +kernel), List.mem_of_getElem? (i := 1076) (by decide +kernel)⟩
theorem lw_p39 : lw_okq (⟨"OneIsOutModel", "glowOf", "(I)I"⟩, 41) := ⟨⟨by decide +kernel, by decide +kernel⟩, List.mem_of_getElem? (i := 826) (by decide +kernel), List.mem_of_getElem? (i := 1079) (by decide +kernel), List.mem_of_getElem? (i := 1080) (by decide +kernel)⟩
theorem lw_p40 : lw_okq (⟨"OneIsOutModel", "ofBulb", "(III)Z"⟩, 41) := ⟨⟨by decide +kernel, by decide +kernel⟩, List.mem_of_getElem? (i := 826) (by decide +kernel), List.mem_of_getElem? (i := 1083) (by decide +kernel), List.mem_of_getElem? (i := 1084) (by decide +kernel)⟩
theorem lw_p41 : lw_okq (⟨"OneIsOutModel", "twisted", "(I)I"⟩, 41) := ⟨⟨by decide +kernel, by decide +kernel⟩, List.mem_of_getElem? (i := 826) (by decide +kernel), List.mem_of_getElem? (i := 1087) (by decide +kernel), List.mem_of_getElem? (i := 1088) (by decide +kernel)⟩
theorem lw_p42 : lw_okq (⟨"OneIsOutModel", "becomesSpare", "(I)V"⟩, 41) := ⟨⟨by decide +kernel, by decide +kernel⟩, List.mem_of_getElem? (i := 826) (by decide +kernel), List.mem_of_getElem? (i := 1091) (by decide +kernel), List.mem_of_getElem? (i := 1092) (by decide +kernel)⟩
theorem lw_p43 : lw_okq (⟨"OneIsOutModel", "again", "()V"⟩, 41) := ⟨⟨by decide +kernel, by decide +kernel⟩, List.mem_of_getElem? (i := 826) (by decide +kernel), List.mem_of_getElem? (i := 1095) (by decide +kernel), List.mem_of_getElem? (i := 1096) (by decide +kernel)⟩
theorem lw_p44 : lw_okq (⟨"OneIsOutModel", "wrongKept", "(I)I"⟩, 41) := ⟨⟨by decide +kernel, by decide +kernel⟩, List.mem_of_getElem? (i := 826) (by decide +kernel), List.mem_of_getElem? (i := 1115) (by decide +kernel), List.mem_of_getElem? (i := 1116) (by decide +kernel)⟩
theorem lw_p45 : lw_okq (⟨"OneIsOutModel", "isUse", "(III)Z"⟩, 41) := ⟨⟨by decide +kernel, by decide +kernel⟩, List.mem_of_getElem? (i := 826) (by decide +kernel), List.mem_of_getElem? (i := 1141) (by decide +kernel), List.mem_of_getElem? (i := 1142) (by decide +kernel)⟩
theorem lw_p46 : lw_okq (⟨"OneIsOutModel", "allWorn", "()I"⟩, 41) := ⟨⟨by decide +kernel, by decide +kernel⟩, List.mem_of_getElem? (i := 826) (by decide +kernel), List.mem_of_getElem? (i := 1155) (by decide +kernel), List.mem_of_getElem? (i := 1156) (by decide +kernel)⟩
theorem lw_p47 : lw_okq (⟨"OneIsOutModel", "goesIn", "(I)I"⟩, 41) := ⟨⟨by decide +kernel, by decide +kernel⟩, List.mem_of_getElem? (i := 826) (by decide +kernel), List.mem_of_getElem? (i := 1168) (by decide +kernel), List.mem_of_getElem? (i := 1169) (by decide +kernel)⟩
def lw_privs_3 : List (MethodName × Nat) := [(⟨"OneIsOutModel", "allLead", "(III)Z"⟩, 41), (⟨"OneIsOutModel", "leads", "(II)Z"⟩, 41), (⟨"OneIsOutModel", "hoursCome", "(I)Z"⟩, 41), (⟨"OneIsOutModel", "goHours", "(I)V"⟩, 41), (⟨"OneIsOutModel", "hourOn", "()Z"⟩, 41), (⟨"OneIsOutModel", "burns", "(II)Z"⟩, 41), (⟨"OneIsOutModel", "wholeOf", "(II)I"⟩, 41), (⟨"OneIsOutModel", "glowOf", "(I)I"⟩, 41), (⟨"OneIsOutModel", "ofBulb", "(III)Z"⟩, 41), (⟨"OneIsOutModel", "twisted", "(I)I"⟩, 41), (⟨"OneIsOutModel", "becomesSpare", "(I)V"⟩, 41), (⟨"OneIsOutModel", "again", "()V"⟩, 41), (⟨"OneIsOutModel", "wrongKept", "(I)I"⟩, 41), (⟨"OneIsOutModel", "isUse", "(III)Z"⟩, 41), (⟨"OneIsOutModel", "allWorn", "()I"⟩, 41), (⟨"OneIsOutModel", "goesIn", "(I)I"⟩, 41)]
theorem lw_r3 : ∀ q ∈ lw_privs_3, lw_okq q := List.forall_mem_cons.mpr ⟨lw_p32, List.forall_mem_cons.mpr ⟨lw_p33, List.forall_mem_cons.mpr ⟨lw_p34, List.forall_mem_cons.mpr ⟨lw_p35, List.forall_mem_cons.mpr ⟨lw_p36, List.forall_mem_cons.mpr ⟨lw_p37, List.forall_mem_cons.mpr ⟨lw_p38, List.forall_mem_cons.mpr ⟨lw_p39, List.forall_mem_cons.mpr ⟨lw_p40, List.forall_mem_cons.mpr ⟨lw_p41, List.forall_mem_cons.mpr ⟨lw_p42, List.forall_mem_cons.mpr ⟨lw_p43, List.forall_mem_cons.mpr ⟨lw_p44, List.forall_mem_cons.mpr ⟨lw_p45, List.forall_mem_cons.mpr ⟨lw_p46, List.forall_mem_cons.mpr ⟨lw_p47, fun _ h => absurd h List.not_mem_nil⟩⟩⟩⟩⟩⟩⟩⟩⟩⟩⟩⟩⟩⟩⟩⟩
theorem lw_p48 : lw_okq (⟨"OneIsOutModel", "faults", "()I"⟩, 41) := ⟨⟨by decide +kernel, by decide +kernel⟩, List.mem_of_getElem? (i := 826) (by decide +kernel), List.mem_of_getElem? (i := 1180) (by decide +kernel), List.mem_of_getElem? (i := 1181) (by decide +kernel)⟩
theorem lw_p49 : lw_okq (⟨"OneIsOutModel", "browns", "()I"⟩, 41) := ⟨⟨by decide +kernel, by decide +kernel⟩, List.mem_of_getElem? (i := 826) (by decide +kernel), List.mem_of_getElem? (i := 1184) (by decide +kernel), List.mem_of_getElem? (i := 1185) (by decide +kernel)⟩
theorem lw_p50 : lw_okq (⟨"OneIsOutModel", "longest", "()I"⟩, 41) := ⟨⟨by decide +kernel, by decide +kernel⟩, List.mem_of_getElem? (i := 826) (by decide +kernel), List.mem_of_getElem? (i := 1188) (by decide +kernel), List.mem_of_getElem? (i := 1189) (by decide +kernel)⟩
theorem lw_p51 : lw_okq (⟨"OneIsOutModel", "weakest", "()I"⟩, 41) := ⟨⟨by decide +kernel, by decide +kernel⟩, List.mem_of_getElem? (i := 826) (by decide +kernel), List.mem_of_getElem? (i := 1192) (by decide +kernel), List.mem_of_getElem? (i := 1193) (by decide +kernel)⟩
theorem lw_p52 : lw_okq (⟨"OneIsOutModel", "isStretch", "(II)Z"⟩, 41) := ⟨⟨by decide +kernel, by decide +kernel⟩, List.mem_of_getElem? (i := 826) (by decide +kernel), List.mem_of_getElem? (i := 1204) (by decide +kernel), List.mem_of_getElem? (i := 1205) (by decide +kernel)⟩
theorem lw_p53 : lw_okq (⟨"OneIsOutModel", "layHalves", "()V"⟩, 41) := ⟨⟨by decide +kernel, by decide +kernel⟩, List.mem_of_getElem? (i := 826) (by decide +kernel), List.mem_of_getElem? (i := 1208) (by decide +kernel), List.mem_of_getElem? (i := 1209) (by decide +kernel)⟩
theorem lw_p54 : lw_okq (⟨"OneIsOutModel", "layStretch", "(II)V"⟩, 41) := ⟨⟨by decide +kernel, by decide +kernel⟩, List.mem_of_getElem? (i := 826) (by decide +kernel), List.mem_of_getElem? (i := 1212) (by decide +kernel), List.mem_of_getElem? (i := 1213) (by decide +kernel)⟩
theorem lw_p55 : lw_okq (⟨"OneIsOutModel", "oddsOf", "(II)I"⟩, 41) := ⟨⟨by decide +kernel, by decide +kernel⟩, List.mem_of_getElem? (i := 826) (by decide +kernel), List.mem_of_getElem? (i := 1216) (by decide +kernel), List.mem_of_getElem? (i := 1217) (by decide +kernel)⟩
theorem lw_p56 : lw_okq (⟨"OneIsOutModel", "layOrder", "(II)I"⟩, 41) := ⟨⟨by decide +kernel, by decide +kernel⟩, List.mem_of_getElem? (i := 826) (by decide +kernel), List.mem_of_getElem? (i := 1238) (by decide +kernel), List.mem_of_getElem? (i := 1239) (by decide +kernel)⟩
theorem lw_p57 : lw_okq (⟨"OneIsOutModel", "secondsOf", "(I)I"⟩, 41) := ⟨⟨by decide +kernel, by decide +kernel⟩, List.mem_of_getElem? (i := 826) (by decide +kernel), List.mem_of_getElem? (i := 1242) (by decide +kernel), List.mem_of_getElem? (i := 1243) (by decide +kernel)⟩
theorem lw_p58 : lw_okq (⟨"OneIsOutModel", "numberOf", "(I)I"⟩, 41) := ⟨⟨by decide +kernel, by decide +kernel⟩, List.mem_of_getElem? (i := 826) (by decide +kernel), List.mem_of_getElem? (i := 1246) (by decide +kernel), List.mem_of_getElem? (i := 1247) (by decide +kernel)⟩
theorem lw_p59 : lw_okq (⟨"OneIsOutModel", "wrongThrees", "(I)I"⟩, 41) := ⟨⟨by decide +kernel, by decide +kernel⟩, List.mem_of_getElem? (i := 826) (by decide +kernel), List.mem_of_getElem? (i := 1254) (by decide +kernel), List.mem_of_getElem? (i := 1255) (by decide +kernel)⟩
theorem lw_p60 : lw_okq (⟨"OneIsOutModel", "isSuspect", "(II)Z"⟩, 41) := ⟨⟨by decide +kernel, by decide +kernel⟩, List.mem_of_getElem? (i := 826) (by decide +kernel), List.mem_of_getElem? (i := 1258) (by decide +kernel), List.mem_of_getElem? (i := 1259) (by decide +kernel)⟩
theorem lw_p61 : lw_okq (⟨"OneIsOutModel", "changeOut", "(I)I"⟩, 41) := ⟨⟨by decide +kernel, by decide +kernel⟩, List.mem_of_getElem? (i := 826) (by decide +kernel), List.mem_of_getElem? (i := 1266) (by decide +kernel), List.mem_of_getElem? (i := 1267) (by decide +kernel)⟩
theorem lw_p62 : lw_okq (⟨"OneIsOutModel", "lightOf", "(II)I"⟩, 41) := ⟨⟨by decide +kernel, by decide +kernel⟩, List.mem_of_getElem? (i := 826) (by decide +kernel), List.mem_of_getElem? (i := 1275) (by decide +kernel), List.mem_of_getElem? (i := 1276) (by decide +kernel)⟩
theorem lw_p63 : lw_okq (⟨"OneIsOutModel", "isWornRow", "(III)Z"⟩, 41) := ⟨⟨by decide +kernel, by decide +kernel⟩, List.mem_of_getElem? (i := 826) (by decide +kernel), List.mem_of_getElem? (i := 1295) (by decide +kernel), List.mem_of_getElem? (i := 1296) (by decide +kernel)⟩
def lw_privs_4 : List (MethodName × Nat) := [(⟨"OneIsOutModel", "faults", "()I"⟩, 41), (⟨"OneIsOutModel", "browns", "()I"⟩, 41), (⟨"OneIsOutModel", "longest", "()I"⟩, 41), (⟨"OneIsOutModel", "weakest", "()I"⟩, 41), (⟨"OneIsOutModel", "isStretch", "(II)Z"⟩, 41), (⟨"OneIsOutModel", "layHalves", "()V"⟩, 41), (⟨"OneIsOutModel", "layStretch", "(II)V"⟩, 41), (⟨"OneIsOutModel", "oddsOf", "(II)I"⟩, 41), (⟨"OneIsOutModel", "layOrder", "(II)I"⟩, 41), (⟨"OneIsOutModel", "secondsOf", "(I)I"⟩, 41), (⟨"OneIsOutModel", "numberOf", "(I)I"⟩, 41), (⟨"OneIsOutModel", "wrongThrees", "(I)I"⟩, 41), (⟨"OneIsOutModel", "isSuspect", "(II)Z"⟩, 41), (⟨"OneIsOutModel", "changeOut", "(I)I"⟩, 41), (⟨"OneIsOutModel", "lightOf", "(II)I"⟩, 41), (⟨"OneIsOutModel", "isWornRow", "(III)Z"⟩, 41)]
theorem lw_r4 : ∀ q ∈ lw_privs_4, lw_okq q := List.forall_mem_cons.mpr ⟨lw_p48, List.forall_mem_cons.mpr ⟨lw_p49, List.forall_mem_cons.mpr ⟨lw_p50, List.forall_mem_cons.mpr ⟨lw_p51, List.forall_mem_cons.mpr ⟨lw_p52, List.forall_mem_cons.mpr ⟨lw_p53, List.forall_mem_cons.mpr ⟨lw_p54, List.forall_mem_cons.mpr ⟨lw_p55, List.forall_mem_cons.mpr ⟨lw_p56, List.forall_mem_cons.mpr ⟨lw_p57, List.forall_mem_cons.mpr ⟨lw_p58, List.forall_mem_cons.mpr ⟨lw_p59, List.forall_mem_cons.mpr ⟨lw_p60, List.forall_mem_cons.mpr ⟨lw_p61, List.forall_mem_cons.mpr ⟨lw_p62, List.forall_mem_cons.mpr ⟨lw_p63, fun _ h => absurd h List.not_mem_nil⟩⟩⟩⟩⟩⟩⟩⟩⟩⟩⟩⟩⟩⟩⟩⟩
theorem lw_p64 : lw_okq (⟨"OneIsOutModel", "isSkipped", "(II)Z"⟩, 41) := ⟨⟨by decide +kernel, by decide +kernel⟩, List.mem_of_getElem? (i := 826) (by decide +kernel), List.mem_of_getElem? (i := 1299) (by decide +kernel), List.mem_of_getElem? (i := 1300) (by decide +kernel)⟩
theorem lw_p65 : lw_okq (⟨"OneIsOutModel", "drawBelow", "(I)I"⟩, 41) := ⟨⟨by decide +kernel, by decide +kernel⟩, List.mem_of_getElem? (i := 826) (by decide +kernel), List.mem_of_getElem? (i := 1334) (by decide +kernel), List.mem_of_getElem? (i := 1335) (by decide +kernel)⟩
def lw_privs_5 : List (MethodName × Nat) := [(⟨"OneIsOutModel", "isSkipped", "(II)Z"⟩, 41), (⟨"OneIsOutModel", "drawBelow", "(I)I"⟩, 41)]
theorem lw_r5 : ∀ q ∈ lw_privs_5, lw_okq q := List.forall_mem_cons.mpr ⟨lw_p64, List.forall_mem_cons.mpr ⟨lw_p65, fun _ h => absurd h List.not_mem_nil⟩⟩
def lw_privs : List (MethodName × Nat) := lw_privs_1 ++ (lw_privs_2 ++ (lw_privs_3 ++ (lw_privs_4 ++ (lw_privs_5))))
def lw_tbl : List Cond := k2_sels lw_privs ++ tables_1
theorem lw_privs_ok : ∀ q ∈ lw_privs, lw_okq q := by
  show ∀ q ∈ lw_privs_1 ++ (lw_privs_2 ++ (lw_privs_3 ++ (lw_privs_4 ++ (lw_privs_5)))), lw_okq q
  exact List.forall_mem_append.mpr ⟨lw_r1, List.forall_mem_append.mpr ⟨lw_r2, List.forall_mem_append.mpr ⟨lw_r3, List.forall_mem_append.mpr ⟨lw_r4, lw_r5⟩⟩⟩⟩
end
section
def RX0 : String := "OneIsOut$Ahead"
def TX0 : u_T := fun k => match k with
  | _ => ("", "", "", false)
def tyX0 : Nat → FieldType := fun k => match k with
  | _ => .int
abbrev wsX00 : List Cond := u_ws RX0 TX0 0
theorem nmX0 : ∀ a, a < 0 → ∀ b, b < 0 → a ≠ b → (TX0 a).2.1 ≠ (TX0 b).2.1 := by decide +kernel
theorem tyX0_ok : ∀ k, k < 0 → parseFieldDescriptor (TX0 k).2.2.1 = some (tyX0 k) := by decide +kernel
abbrev cX0_hoursTillOut : ByteArray := prog_2_method_2_code
def yX0_hoursTillOut : MethodName := ⟨RX0, "hoursTillOut", "(LOneIsOut$Lights;I)I"⟩
abbrev cX0_nextOut : ByteArray := prog_2_method_3_code
def yX0_nextOut : MethodName := ⟨RX0, "nextOut", "(LOneIsOut$Lights;)I"⟩
abbrev cX0_leastOf : ByteArray := prog_2_method_4_code
def yX0_leastOf : MethodName := ⟨RX0, "leastOf", "(I)I"⟩
abbrev cX0_firstDark : ByteArray := prog_2_method_5_code
def yX0_firstDark : MethodName := ⟨RX0, "firstDark", "(LOneIsOut$Lights;)I"⟩
abbrev cX0_longest : ByteArray := prog_2_method_6_code
def yX0_longest : MethodName := ⟨RX0, "longest", "(LOneIsOut$Lights;)I"⟩
abbrev cX0_hoursBurnt : ByteArray := prog_2_method_7_code
def yX0_hoursBurnt : MethodName := ⟨RX0, "hoursBurnt", "(LOneIsOut$Lights;I)I"⟩
abbrev cX0_burnsWithSpares : ByteArray := prog_2_method_8_code
def yX0_burnsWithSpares : MethodName := ⟨RX0, "burnsWithSpares", "(LOneIsOut$Lights;I)Z"⟩
abbrev cX0_wearsAsTold : ByteArray := prog_2_method_9_code
def yX0_wearsAsTold : MethodName := ⟨RX0, "wearsAsTold", "(LOneIsOut$Lights;ILOneIsOut$Shelf;I)Z"⟩
abbrev cX0_firstMiscount : ByteArray := prog_2_method_10_code
def yX0_firstMiscount : MethodName := ⟨RX0, "firstMiscount", "(LOneIsOut$Lights;LOneIsOut$Shelf;)I"⟩
def RX1 : String := "OneIsOut$Halving"
def TX1 : u_T := fun k => match k with
  | _ => ("OneIsOut$Halving", "best", "[I", true)
def tyX1 : Nat → FieldType := fun k => match k with
  | _ => .array .int
abbrev wsX10 : List Cond := u_ws RX1 TX1 1
theorem nmX1 : ∀ a, a < 1 → ∀ b, b < 1 → a ≠ b → (TX1 a).2.1 ≠ (TX1 b).2.1 := by decide +kernel
theorem tyX1_ok : ∀ k, k < 1 → parseFieldDescriptor (TX1 k).2.2.1 = some (tyX1 k) := by decide +kernel
abbrev cX1_init : ByteArray := prog_3_method_1_code
def yX1_init : MethodName := ⟨RX1, "<init>", "()V"⟩
abbrev cX1_wireSeconds : ByteArray := prog_3_method_2_code
def yX1_wireSeconds : MethodName := ⟨RX1, "wireSeconds", "(II)I"⟩
abbrev cX1_bestOf : ByteArray := prog_3_method_3_code
def yX1_bestOf : MethodName := ⟨RX1, "bestOf", "(II)I"⟩
abbrev cX1_worstByCut : ByteArray := prog_3_method_4_code
def yX1_worstByCut : MethodName := ⟨RX1, "worstByCut", "(III)I"⟩
abbrev cX1_worstOf : ByteArray := prog_3_method_5_code
def yX1_worstOf : MethodName := ⟨RX1, "worstOf", "(II)I"⟩
abbrev cX1_weighedOf : ByteArray := prog_3_method_6_code
def yX1_weighedOf : MethodName := ⟨RX1, "weighedOf", "(LOneIsOut$Lights;II)I"⟩
abbrev cX1_worst : ByteArray := prog_3_method_7_code
def yX1_worst : MethodName := ⟨RX1, "worst", "(II)I"⟩
abbrev cX1_cut : ByteArray := prog_3_method_8_code
def yX1_cut : MethodName := ⟨RX1, "cut", "(II)I"⟩
abbrev cX1_weighed : ByteArray := prog_3_method_9_code
def yX1_weighed : MethodName := ⟨RX1, "weighed", "(LOneIsOut$Lights;II)I"⟩
def RX2 : String := "OneIsOut$Lights"
def TX2 : u_T := fun k => match k with
  | 0 => ("OneIsOut$Lights", "sort", "[I", true)
  | 1 => ("OneIsOut$Lights", "figure", "[I", true)
  | 2 => ("OneIsOut$Lights", "worn", "[I", true)
  | 3 => ("OneIsOut$Lights", "bulbs", "I", false)
  | 4 => ("OneIsOut$Lights", "whole", "I", false)
  | 5 => ("OneIsOut$Lights", "seated", "I", false)
  | 6 => ("OneIsOut$Lights", "spares", "I", false)
  | 7 => ("OneIsOut$Lights", "hour", "I", false)
  | 8 => ("OneIsOut$Lights", "lit", "I", false)
  | 9 => ("OneIsOut$Lights", "hand", "I", false)
  | _ => ("OneIsOut$Lights", "seconds", "I", false)
def tyX2 : Nat → FieldType := fun k => match k with
  | 0 => .array .int
  | 1 => .array .int
  | 2 => .array .int
  | 3 => .int
  | 4 => .int
  | 5 => .int
  | 6 => .int
  | 7 => .int
  | 8 => .int
  | 9 => .int
  | _ => .int
abbrev wsX20 : List Cond := u_ws RX2 TX2 11
theorem nmX2 : ∀ a, a < 11 → ∀ b, b < 11 → a ≠ b → (TX2 a).2.1 ≠ (TX2 b).2.1 := by decide +kernel
theorem tyX2_ok : ∀ k, k < 11 → parseFieldDescriptor (TX2 k).2.2.1 = some (tyX2 k) := by decide +kernel
abbrev cX2_init : ByteArray := prog_4_method_1_code
def yX2_init : MethodName := ⟨RX2, "<init>", "()V"⟩
abbrev cX2_becomes : ByteArray := prog_4_method_2_code
def yX2_becomes : MethodName := ⟨RX2, "becomes", "(LOneIsOut$Lights;)V"⟩
abbrev cX2_has : ByteArray := prog_4_method_3_code
def yX2_has : MethodName := ⟨RX2, "has", "(I)Z"⟩
abbrev cX2_isStretch : ByteArray := prog_4_method_4_code
def yX2_isStretch : MethodName := ⟨RX2, "isStretch", "(II)Z"⟩
abbrev cX2_isSet : ByteArray := prog_4_method_5_code
def yX2_isSet : MethodName := ⟨RX2, "isSet", "(I)Z"⟩
abbrev cX2_isFull : ByteArray := prog_4_method_6_code
def yX2_isFull : MethodName := ⟨RX2, "isFull", "()Z"⟩
abbrev cX2_isWhole : ByteArray := prog_4_method_7_code
def yX2_isWhole : MethodName := ⟨RX2, "isWhole", "(I)Z"⟩
abbrev cX2_isSeated : ByteArray := prog_4_method_8_code
def yX2_isSeated : MethodName := ⟨RX2, "isSeated", "(I)Z"⟩
abbrev cX2_lifeOf : ByteArray := prog_4_method_9_code
def yX2_lifeOf : MethodName := ⟨RX2, "lifeOf", "(I)I"⟩
abbrev cX2_isBrown : ByteArray := prog_4_method_10_code
def yX2_isBrown : MethodName := ⟨RX2, "isBrown", "(I)Z"⟩
abbrev cX2_oddsOf : ByteArray := prog_4_method_11_code
def yX2_oddsOf : MethodName := ⟨RX2, "oddsOf", "(I)I"⟩
abbrev cX2_oddsOf_ : ByteArray := prog_4_method_12_code
def yX2_oddsOf_ : MethodName := ⟨RX2, "oddsOf", "(II)I"⟩
abbrev cX2_hang : ByteArray := prog_4_method_13_code
def yX2_hang : MethodName := ⟨RX2, "hang", "(II)V"⟩
abbrev cX2_renew : ByteArray := prog_4_method_14_code
def yX2_renew : MethodName := ⟨RX2, "renew", "(III)V"⟩
abbrev cX2_breakOrMend : ByteArray := prog_4_method_15_code
def yX2_breakOrMend : MethodName := ⟨RX2, "breakOrMend", "(I)V"⟩
abbrev cX2_putSpare : ByteArray := prog_4_method_16_code
def yX2_putSpare : MethodName := ⟨RX2, "putSpare", "(I)V"⟩
abbrev cX2_twistIn : ByteArray := prog_4_method_17_code
def yX2_twistIn : MethodName := ⟨RX2, "twistIn", "(I)I"⟩
abbrev cX2_trySeconds : ByteArray := prog_4_method_18_code
def yX2_trySeconds : MethodName := ⟨RX2, "trySeconds", "(II)I"⟩
abbrev cX2_spend : ByteArray := prog_4_method_19_code
def yX2_spend : MethodName := ⟨RX2, "spend", "(I)V"⟩
abbrev cX2_divides : ByteArray := prog_4_method_20_code
def yX2_divides : MethodName := ⟨RX2, "divides", "(II)Z"⟩
abbrev cX2_leads : ByteArray := prog_4_method_21_code
def yX2_leads : MethodName := ⟨RX2, "leads", "(II)Z"⟩
abbrev cX2_allLead : ByteArray := prog_4_method_22_code
def yX2_allLead : MethodName := ⟨RX2, "allLead", "(III)Z"⟩
abbrev cX2_burns : ByteArray := prog_4_method_23_code
def yX2_burns : MethodName := ⟨RX2, "burns", "(I)Z"⟩
abbrev cX2_wholeOnes : ByteArray := prog_4_method_24_code
def yX2_wholeOnes : MethodName := ⟨RX2, "wholeOnes", "(II)I"⟩
abbrev cX2_wear : ByteArray := prog_4_method_25_code
def yX2_wear : MethodName := ⟨RX2, "wear", "(III)V"⟩
abbrev cX2_unseatLoose : ByteArray := prog_4_method_26_code
def yX2_unseatLoose : MethodName := ⟨RX2, "unseatLoose", "()V"⟩
abbrev cX2_passHour : ByteArray := prog_4_method_27_code
def yX2_passHour : MethodName := ⟨RX2, "passHour", "(I)Z"⟩
abbrev cX2_pass : ByteArray := prog_4_method_28_code
def yX2_pass : MethodName := ⟨RX2, "pass", "(I)V"⟩
abbrev cX2_passes : ByteArray := prog_4_method_29_code
def yX2_passes : MethodName := ⟨RX2, "passes", "(I)Z"⟩
abbrev cX2_passFrosts : ByteArray := prog_4_method_30_code
def yX2_passFrosts : MethodName := ⟨RX2, "passFrosts", "(II)V"⟩
abbrev cX2_cutHour : ByteArray := prog_4_method_31_code
def yX2_cutHour : MethodName := ⟨RX2, "cutHour", "(I)I"⟩
abbrev cX2_partHour : ByteArray := prog_4_method_32_code
def yX2_partHour : MethodName := ⟨RX2, "partHour", "(II)I"⟩
abbrev cX2_wornOfAll : ByteArray := prog_4_method_33_code
def yX2_wornOfAll : MethodName := ⟨RX2, "wornOfAll", "()I"⟩
abbrev cX2_faults : ByteArray := prog_4_method_34_code
def yX2_faults : MethodName := ⟨RX2, "faults", "()I"⟩
abbrev cX2_brown : ByteArray := prog_4_method_35_code
def yX2_brown : MethodName := ⟨RX2, "brown", "()I"⟩
abbrev cX2_weakest : ByteArray := prog_4_method_36_code
def yX2_weakest : MethodName := ⟨RX2, "weakest", "()I"⟩
abbrev cX2_canUse : ByteArray := prog_4_method_37_code
def yX2_canUse : MethodName := ⟨RX2, "canUse", "(III)Z"⟩
abbrev cX2_toolSeconds : ByteArray := prog_4_method_38_code
def yX2_toolSeconds : MethodName := ⟨RX2, "toolSeconds", "(III)I"⟩
abbrev cX2_tells : ByteArray := prog_4_method_39_code
def yX2_tells : MethodName := ⟨RX2, "tells", "(III)Z"⟩
abbrev cX2_useTool : ByteArray := prog_4_method_40_code
def yX2_useTool : MethodName := ⟨RX2, "useTool", "(III)Z"⟩
abbrev cX2_drawFigures : ByteArray := prog_4_method_41_code
def yX2_drawFigures : MethodName := ⟨RX2, "drawFigures", "(I)I"⟩
def RX3 : String := "OneIsOut$Odds"
def TX3 : u_T := fun k => match k with
  | _ => ("", "", "", false)
def tyX3 : Nat → FieldType := fun k => match k with
  | _ => .int
abbrev wsX30 : List Cond := u_ws RX3 TX3 0
theorem nmX3 : ∀ a, a < 0 → ∀ b, b < 0 → a ≠ b → (TX3 a).2.1 ≠ (TX3 b).2.1 := by decide +kernel
theorem tyX3_ok : ∀ k, k < 0 → parseFieldDescriptor (TX3 k).2.2.1 = some (tyX3 k) := by decide +kernel
abbrev cX3_power : ByteArray := prog_5_method_2_code
def yX3_power : MethodName := ⟨RX3, "power", "(JI)J"⟩
abbrev cX3_commonDivisor : ByteArray := prog_5_method_3_code
def yX3_commonDivisor : MethodName := ⟨RX3, "commonDivisor", "(JJ)J"⟩
abbrev cX3_leastTerms : ByteArray := prog_5_method_4_code
def yX3_leastTerms : MethodName := ⟨RX3, "leastTerms", "(JJI)J"⟩
def RX4 : String := "OneIsOut$Shelf"
def TX4 : u_T := fun k => match k with
  | 0 => ("OneIsOut$Shelf", "holds", "I", false)
  | 1 => ("OneIsOut$Shelf", "sort", "I", false)
  | 2 => ("OneIsOut$Shelf", "figure", "I", false)
  | 3 => ("OneIsOut$Shelf", "kind", "I", false)
  | 4 => ("OneIsOut$Shelf", "size", "I", false)
  | _ => ("OneIsOut$Shelf", "cells", "[I", true)
def tyX4 : Nat → FieldType := fun k => match k with
  | 0 => .int
  | 1 => .int
  | 2 => .int
  | 3 => .int
  | 4 => .int
  | _ => .array .int
abbrev wsX40 : List Cond := u_ws RX4 TX4 6
theorem nmX4 : ∀ a, a < 6 → ∀ b, b < 6 → a ≠ b → (TX4 a).2.1 ≠ (TX4 b).2.1 := by decide +kernel
theorem tyX4_ok : ∀ k, k < 6 → parseFieldDescriptor (TX4 k).2.2.1 = some (tyX4 k) := by decide +kernel
abbrev cX4_init : ByteArray := prog_6_method_1_code
def yX4_init : MethodName := ⟨RX4, "<init>", "()V"⟩
abbrev cX4_getNothing : ByteArray := prog_6_method_2_code
def yX4_getNothing : MethodName := ⟨RX4, "getNothing", "()V"⟩
abbrev cX4_getBulb : ByteArray := prog_6_method_3_code
def yX4_getBulb : MethodName := ⟨RX4, "getBulb", "(II)V"⟩
abbrev cX4_getRow : ByteArray := prog_6_method_4_code
def yX4_getRow : MethodName := ⟨RX4, "getRow", "(II)V"⟩
abbrev cX4_hasPlace : ByteArray := prog_6_method_5_code
def yX4_hasPlace : MethodName := ⟨RX4, "hasPlace", "(I)Z"⟩
abbrev cX4_hasStretch : ByteArray := prog_6_method_6_code
def yX4_hasStretch : MethodName := ⟨RX4, "hasStretch", "(II)Z"⟩
abbrev cX4_set : ByteArray := prog_6_method_7_code
def yX4_set : MethodName := ⟨RX4, "set", "(II)V"⟩
abbrev cX4_isSkipped : ByteArray := prog_6_method_8_code
def yX4_isSkipped : MethodName := ⟨RX4, "isSkipped", "(I)Z"⟩
abbrev cX4_toldSize : ByteArray := prog_6_method_9_code
def yX4_toldSize : MethodName := ⟨RX4, "toldSize", "()I"⟩
def RX5 : String := "OneIsOut$Sorts"
def TX5 : u_T := fun k => match k with
  | _ => ("", "", "", false)
def tyX5 : Nat → FieldType := fun k => match k with
  | _ => .int
abbrev wsX50 : List Cond := u_ws RX5 TX5 0
theorem nmX5 : ∀ a, a < 0 → ∀ b, b < 0 → a ≠ b → (TX5 a).2.1 ≠ (TX5 b).2.1 := by decide +kernel
theorem tyX5_ok : ∀ k, k < 0 → parseFieldDescriptor (TX5 k).2.2.1 = some (tyX5 k) := by decide +kernel
abbrev cX5_life : ByteArray := prog_7_method_2_code
def yX5_life : MethodName := ⟨RX5, "life", "(II)I"⟩
abbrev cX5_glow : ByteArray := prog_7_method_3_code
def yX5_glow : MethodName := ⟨RX5, "glow", "(II)I"⟩
abbrev cX5_price : ByteArray := prog_7_method_4_code
def yX5_price : MethodName := ⟨RX5, "price", "(II)I"⟩
abbrev cX5_failure : ByteArray := prog_7_method_5_code
def yX5_failure : MethodName := ⟨RX5, "failure", "(II)I"⟩
def RX6 : String := "OneIsOut$Text"
def TX6 : u_T := fun k => match k with
  | _ => ("", "", "", false)
def tyX6 : Nat → FieldType := fun k => match k with
  | _ => .int
abbrev wsX60 : List Cond := u_ws RX6 TX6 0
theorem nmX6 : ∀ a, a < 0 → ∀ b, b < 0 → a ≠ b → (TX6 a).2.1 ≠ (TX6 b).2.1 := by decide +kernel
theorem tyX6_ok : ∀ k, k < 0 → parseFieldDescriptor (TX6 k).2.2.1 = some (tyX6 k) := by decide +kernel
abbrev cX6_comes : ByteArray := prog_8_method_2_code
def yX6_comes : MethodName := ⟨RX6, "comes", "(LOneIsOut$Shelf;LOneIsOut$Lights;)I"⟩
abbrev cX6_digitsBehind : ByteArray := prog_8_method_3_code
def yX6_digitsBehind : MethodName := ⟨RX6, "digitsBehind", "(I)I"⟩
abbrev cX6_firstWrong : ByteArray := prog_8_method_4_code
def yX6_firstWrong : MethodName := ⟨RX6, "firstWrong", "(LOneIsOut$Shelf;)I"⟩
abbrev cX6_isDigit : ByteArray := prog_8_method_5_code
def yX6_isDigit : MethodName := ⟨RX6, "isDigit", "(LOneIsOut$Shelf;I)Z"⟩
abbrev cX6_number : ByteArray := prog_8_method_6_code
def yX6_number : MethodName := ⟨RX6, "number", "(LOneIsOut$Shelf;II)I"⟩
abbrev cX6_isDone : ByteArray := prog_8_method_7_code
def yX6_isDone : MethodName := ⟨RX6, "isDone", "(LOneIsOut$Shelf;ILOneIsOut$Lights;)Z"⟩
abbrev cX6_isHung : ByteArray := prog_8_method_8_code
def yX6_isHung : MethodName := ⟨RX6, "isHung", "(LOneIsOut$Lights;II)Z"⟩
abbrev cX6_isDoneTo : ByteArray := prog_8_method_9_code
def yX6_isDoneTo : MethodName := ⟨RX6, "isDoneTo", "(LOneIsOut$Lights;III)Z"⟩
def RX7 : String := "OneIsOut$Tries"
def TX7 : u_T := fun k => match k with
  | _ => ("", "", "", false)
def tyX7 : Nat → FieldType := fun k => match k with
  | _ => .int
abbrev wsX70 : List Cond := u_ws RX7 TX7 0
theorem nmX7 : ∀ a, a < 0 → ∀ b, b < 0 → a ≠ b → (TX7 a).2.1 ≠ (TX7 b).2.1 := by decide +kernel
theorem tyX7_ok : ∀ k, k < 0 → parseFieldDescriptor (TX7 k).2.2.1 = some (tyX7 k) := by decide +kernel
abbrev cX7_seconds : ByteArray := prog_9_method_2_code
def yX7_seconds : MethodName := ⟨RX7, "seconds", "(LOneIsOut$Lights;I)I"⟩
abbrev cX7_fewest : ByteArray := prog_9_method_3_code
def yX7_fewest : MethodName := ⟨RX7, "fewest", "(LOneIsOut$Lights;III)I"⟩
abbrev cX7_fewestBy : ByteArray := prog_9_method_4_code
def yX7_fewestBy : MethodName := ⟨RX7, "fewestBy", "(LOneIsOut$Lights;IIII)I"⟩
abbrev cX7_number : ByteArray := prog_9_method_5_code
def yX7_number : MethodName := ⟨RX7, "number", "(LOneIsOut$Lights;I)I"⟩
abbrev cX7_firstBest : ByteArray := prog_9_method_6_code
def yX7_firstBest : MethodName := ⟨RX7, "firstBest", "(LOneIsOut$Lights;III)I"⟩
def RX8 : String := "OneIsOut$Wires"
def TX8 : u_T := fun k => match k with
  | _ => ("", "", "", false)
def tyX8 : Nat → FieldType := fun k => match k with
  | _ => .int
abbrev wsX80 : List Cond := u_ws RX8 TX8 0
theorem nmX8 : ∀ a, a < 0 → ∀ b, b < 0 → a ≠ b → (TX8 a).2.1 ≠ (TX8 b).2.1 := by decide +kernel
theorem tyX8_ok : ∀ k, k < 0 → parseFieldDescriptor (TX8 k).2.2.1 = some (tyX8 k) := by decide +kernel
abbrev cX8_areTold : ByteArray := prog_10_method_2_code
def yX8_areTold : MethodName := ⟨RX8, "areTold", "(LOneIsOut$Shelf;LOneIsOut$Lights;)Z"⟩
abbrev cX8_ones : ByteArray := prog_10_method_3_code
def yX8_ones : MethodName := ⟨RX8, "ones", "(LOneIsOut$Shelf;I)I"⟩
abbrev cX8_twos : ByteArray := prog_10_method_4_code
def yX8_twos : MethodName := ⟨RX8, "twos", "(LOneIsOut$Shelf;I)I"⟩
abbrev cX8_isSo : ByteArray := prog_10_method_5_code
def yX8_isSo : MethodName := ⟨RX8, "isSo", "(LOneIsOut$Shelf;II)Z"⟩
def RX9 : String := "OneIsOut"
def TX9 : u_T := fun k => match k with
  | 0 => ("OneIsOut", "now", "LOneIsOut$Lights;", true)
  | 1 => ("OneIsOut", "mind", "LOneIsOut$Lights;", true)
  | 2 => ("OneIsOut", "taken", "LOneIsOut$Lights;", true)
  | 3 => ("OneIsOut", "imageTaken", "Z", false)
  | 4 => ("OneIsOut", "shelves", "[LOneIsOut$Shelf;", true)
  | _ => ("OneIsOut", "halving", "LOneIsOut$Halving;", true)
def tyX9 : Nat → FieldType := fun k => match k with
  | 0 => .object "OneIsOut$Lights"
  | 1 => .object "OneIsOut$Lights"
  | 2 => .object "OneIsOut$Lights"
  | 3 => .boolean
  | 4 => .array (.object "OneIsOut$Shelf")
  | _ => .object "OneIsOut$Halving"
abbrev wsX90 : List Cond := u_ws RX9 TX9 6
theorem nmX9 : ∀ a, a < 6 → ∀ b, b < 6 → a ≠ b → (TX9 a).2.1 ≠ (TX9 b).2.1 := by decide +kernel
theorem tyX9_ok : ∀ k, k < 6 → parseFieldDescriptor (TX9 k).2.2.1 = some (tyX9 k) := by decide +kernel
abbrev cX9_init : ByteArray := prog_1_method_1_code
def yX9_init : MethodName := ⟨RX9, "<init>", "()V"⟩
abbrev cX9_string : ByteArray := prog_1_method_2_code
def yX9_string : MethodName := ⟨RX9, "string", "(I)I"⟩
abbrev cX9_bulb : ByteArray := prog_1_method_3_code
def yX9_bulb : MethodName := ⟨RX9, "bulb", "(II)I"⟩
abbrev cX9_hangs : ByteArray := prog_1_method_4_code
def yX9_hangs : MethodName := ⟨RX9, "hangs", "(I)I"⟩
abbrev cX9_wears : ByteArray := prog_1_method_5_code
def yX9_wears : MethodName := ⟨RX9, "wears", "(II)I"⟩
abbrev cX9_breaks : ByteArray := prog_1_method_6_code
def yX9_breaks : MethodName := ⟨RX9, "breaks", "(I)I"⟩
abbrev cX9_spares : ByteArray := prog_1_method_7_code
def yX9_spares : MethodName := ⟨RX9, "spares", "(I)I"⟩
abbrev cX9_twist : ByteArray := prog_1_method_8_code
def yX9_twist : MethodName := ⟨RX9, "twist", "(I)I"⟩
abbrev cX9_use : ByteArray := prog_1_method_9_code
def yX9_use : MethodName := ⟨RX9, "use", "(III)I"⟩
abbrev cX9_hours : ByteArray := prog_1_method_10_code
def yX9_hours : MethodName := ⟨RX9, "hours", "(I)I"⟩
abbrev cX9_then : ByteArray := prog_1_method_11_code
def yX9_then : MethodName := ⟨RX9, "then", "(II)I"⟩
abbrev cX9_wornThen : ByteArray := prog_1_method_12_code
def yX9_wornThen : MethodName := ⟨RX9, "wornThen", "(II)I"⟩
abbrev cX9_goes : ByteArray := prog_1_method_13_code
def yX9_goes : MethodName := ⟨RX9, "goes", "(I)I"⟩
abbrev cX9_dark : ByteArray := prog_1_method_14_code
def yX9_dark : MethodName := ⟨RX9, "dark", "()I"⟩
abbrev cX9_lights : ByteArray := prog_1_method_15_code
def yX9_lights : MethodName := ⟨RX9, "lights", "(I)I"⟩
abbrev cX9_tool : ByteArray := prog_1_method_16_code
def yX9_tool : MethodName := ⟨RX9, "tool", "(IIII)I"⟩
abbrev cX9_halves : ByteArray := prog_1_method_17_code
def yX9_halves : MethodName := ⟨RX9, "halves", "(III)I"⟩
abbrev cX9_mean : ByteArray := prog_1_method_18_code
def yX9_mean : MethodName := ⟨RX9, "mean", "(III)J"⟩
abbrev cX9_order : ByteArray := prog_1_method_19_code
def yX9_order : MethodName := ⟨RX9, "order", "(II)I"⟩
abbrev cX9_suspects : ByteArray := prog_1_method_20_code
def yX9_suspects : MethodName := ⟨RX9, "suspects", "(II)I"⟩
abbrev cX9_buy : ByteArray := prog_1_method_21_code
def yX9_buy : MethodName := ⟨RX9, "buy", "(I)I"⟩
abbrev cX9_light : ByteArray := prog_1_method_22_code
def yX9_light : MethodName := ⟨RX9, "light", "(II)I"⟩
abbrev cX9_split : ByteArray := prog_1_method_23_code
def yX9_split : MethodName := ⟨RX9, "split", "(II)I"⟩
abbrev cX9_beat : ByteArray := prog_1_method_24_code
def yX9_beat : MethodName := ⟨RX9, "beat", "(III)I"⟩
abbrev cX9_end : ByteArray := prog_1_method_25_code
def yX9_end : MethodName := ⟨RX9, "end", "(I)I"⟩
abbrev cX9_whatIs : ByteArray := prog_1_method_26_code
def yX9_whatIs : MethodName := ⟨RX9, "whatIs", "(III)I"⟩
abbrev cX9_wornFrom : ByteArray := prog_1_method_27_code
def yX9_wornFrom : MethodName := ⟨RX9, "wornFrom", "(III)I"⟩
abbrev cX9_frost : ByteArray := prog_1_method_28_code
def yX9_frost : MethodName := ⟨RX9, "frost", "(IIII)J"⟩
abbrev cX9_share : ByteArray := prog_1_method_29_code
def yX9_share : MethodName := ⟨RX9, "share", "(II)J"⟩
abbrev cX9_forged : ByteArray := prog_1_method_30_code
def yX9_forged : MethodName := ⟨RX9, "forged", "(I)I"⟩
abbrev cX9_judge : ByteArray := prog_1_method_31_code
def yX9_judge : MethodName := ⟨RX9, "judge", "(I)I"⟩
abbrev cX9_winters : ByteArray := prog_1_method_32_code
def yX9_winters : MethodName := ⟨RX9, "winters", "(III)I"⟩
abbrev cX9_image : ByteArray := prog_1_method_33_code
def yX9_image : MethodName := ⟨RX9, "image", "()I"⟩
abbrev cX9_restore : ByteArray := prog_1_method_34_code
def yX9_restore : MethodName := ⟨RX9, "restore", "()I"⟩
abbrev cX9_count : ByteArray := prog_1_method_35_code
def yX9_count : MethodName := ⟨RX9, "count", "(I)I"⟩
abbrev cX9_keep : ByteArray := prog_1_method_36_code
def yX9_keep : MethodName := ⟨RX9, "keep", "(IIII)I"⟩
abbrev cX9_row : ByteArray := prog_1_method_37_code
def yX9_row : MethodName := ⟨RX9, "row", "(III)I"⟩
abbrev cX9_put : ByteArray := prog_1_method_38_code
def yX9_put : MethodName := ⟨RX9, "put", "(III)I"⟩
abbrev cX9_element : ByteArray := prog_1_method_39_code
def yX9_element : MethodName := ⟨RX9, "element", "(II)J"⟩
abbrev cX9_copy : ByteArray := prog_1_method_40_code
def yX9_copy : MethodName := ⟨RX9, "copy", "(IIIII)I"⟩
abbrev cX9_cost : ByteArray := prog_1_method_41_code
def yX9_cost : MethodName := ⟨RX9, "cost", "(I)I"⟩
abbrev cX9_toss : ByteArray := prog_1_method_42_code
def yX9_toss : MethodName := ⟨RX9, "toss", "(I)I"⟩
abbrev cX9_within : ByteArray := prog_1_method_43_code
def yX9_within : MethodName := ⟨RX9, "within", "(III)Z"⟩
abbrev cX9_isPart : ByteArray := prog_1_method_44_code
def yX9_isPart : MethodName := ⟨RX9, "isPart", "(I)Z"⟩
abbrev cX9_isShelf : ByteArray := prog_1_method_45_code
def yX9_isShelf : MethodName := ⟨RX9, "isShelf", "(I)Z"⟩
abbrev cX9_bit : ByteArray := prog_1_method_46_code
def yX9_bit : MethodName := ⟨RX9, "bit", "(Z)I"⟩
abbrev cX9_longRefusal : ByteArray := prog_1_method_47_code
def yX9_longRefusal : MethodName := ⟨RX9, "longRefusal", "(I)J"⟩
abbrev cX9_rowRefusal : ByteArray := prog_1_method_48_code
def yX9_rowRefusal : MethodName := ⟨RX9, "rowRefusal", "(I)I"⟩
abbrev cX9_bulbRefusal : ByteArray := prog_1_method_49_code
def yX9_bulbRefusal : MethodName := ⟨RX9, "bulbRefusal", "(I)I"⟩
abbrev cX9_lightOfCut : ByteArray := prog_1_method_50_code
def yX9_lightOfCut : MethodName := ⟨RX9, "lightOfCut", "(II)I"⟩
abbrev cX9_sortsByRow : ByteArray := prog_1_method_51_code
def yX9_sortsByRow : MethodName := ⟨RX9, "sortsByRow", "(LOneIsOut$Shelf;I)I"⟩
abbrev cX9_figuresByRow : ByteArray := prog_1_method_52_code
def yX9_figuresByRow : MethodName := ⟨RX9, "figuresByRow", "(LOneIsOut$Shelf;I)I"⟩
def RX10 : String := "OneIsOutModel"
def TX10 : u_T := fun k => match k with
  | 0 => ("OneIsOutModel", "many", "I", false)
  | 1 => ("OneIsOutModel", "sorts", "[I", true)
  | 2 => ("OneIsOutModel", "figures", "[I", true)
  | 3 => ("OneIsOutModel", "worn", "[I", true)
  | 4 => ("OneIsOutModel", "whole", "I", false)
  | 5 => ("OneIsOutModel", "seated", "I", false)
  | 6 => ("OneIsOutModel", "sparesLeft", "I", false)
  | 7 => ("OneIsOutModel", "hour", "I", false)
  | 8 => ("OneIsOutModel", "lit", "I", false)
  | 9 => ("OneIsOutModel", "hand", "I", false)
  | 10 => ("OneIsOutModel", "seconds", "I", false)
  | 11 => ("OneIsOutModel", "cutAt", "I", false)
  | 12 => ("OneIsOutModel", "hard", "I", false)
  | 13 => ("OneIsOutModel", "gave", "I", false)
  | 14 => ("OneIsOutModel", "holdsWhat", "[I", true)
  | 15 => ("OneIsOutModel", "keptKind", "[I", true)
  | 16 => ("OneIsOutModel", "keptFigure", "[I", true)
  | 17 => ("OneIsOutModel", "rowSort", "[I", true)
  | 18 => ("OneIsOutModel", "rowMany", "[I", true)
  | 19 => ("OneIsOutModel", "rows", "[J", true)
  | 20 => ("OneIsOutModel", "thrown", "I", false)
  | 21 => ("OneIsOutModel", "reading", "I", false)
  | 22 => ("OneIsOutModel", "place", "I", false)
  | 23 => ("OneIsOutModel", "isBad", "Z", false)
  | 24 => ("OneIsOutModel", "statements", "I", false)
  | 25 => ("OneIsOutModel", "placeIn", "[I", true)
  | 26 => ("OneIsOutModel", "letterOf", "[I", true)
  | 27 => ("OneIsOutModel", "told", "[I", true)
  | 28 => ("OneIsOutModel", "kept", "[I", true)
  | 29 => ("OneIsOutModel", "imaged", "[I", true)
  | 30 => ("OneIsOutModel", "hasImage", "Z", false)
  | 31 => ("OneIsOutModel", "place0", "I", false)
  | 32 => ("OneIsOutModel", "isTaking", "Z", false)
  | 33 => ("OneIsOutModel", "keptIn", "[I", false)
  | 34 => ("OneIsOutModel", "worst", "[I", true)
  | 35 => ("OneIsOutModel", "cuts", "[I", true)
  | 36 => ("OneIsOutModel", "means", "[J", true)
  | 37 => ("OneIsOutModel", "left", "[I", true)
  | 38 => ("OneIsOutModel", "row5", "[I", true)
  | 39 => ("OneIsOutModel", "seed", "I", false)
  | _ => ("OneIsOutModel", "between", "[J", true)
def tyX10 : Nat → FieldType := fun k => match k with
  | 0 => .int
  | 1 => .array .int
  | 2 => .array .int
  | 3 => .array .int
  | 4 => .int
  | 5 => .int
  | 6 => .int
  | 7 => .int
  | 8 => .int
  | 9 => .int
  | 10 => .int
  | 11 => .int
  | 12 => .int
  | 13 => .int
  | 14 => .array .int
  | 15 => .array .int
  | 16 => .array .int
  | 17 => .array .int
  | 18 => .array .int
  | 19 => .array .long
  | 20 => .int
  | 21 => .int
  | 22 => .int
  | 23 => .boolean
  | 24 => .int
  | 25 => .array .int
  | 26 => .array .int
  | 27 => .array .int
  | 28 => .array .int
  | 29 => .array .int
  | 30 => .boolean
  | 31 => .int
  | 32 => .boolean
  | 33 => .array .int
  | 34 => .array .int
  | 35 => .array .int
  | 36 => .array .long
  | 37 => .array .int
  | 38 => .array .int
  | 39 => .int
  | _ => .array .long
abbrev wsX100 : List Cond := u_ws RX10 TX10 41
theorem nmX10 : ∀ a, a < 41 → ∀ b, b < 41 → a ≠ b → (TX10 a).2.1 ≠ (TX10 b).2.1 := by decide +kernel
theorem tyX10_ok : ∀ k, k < 41 → parseFieldDescriptor (TX10 k).2.2.1 = some (tyX10 k) := by decide +kernel
abbrev cX10_init : ByteArray := prog_12_method_1_code
def yX10_init : MethodName := ⟨RX10, "<init>", "()V"⟩
abbrev cX10_thrown : ByteArray := prog_12_method_2_code
def yX10_thrown : MethodName := ⟨RX10, "thrown", "()I"⟩
abbrev cX10_in : ByteArray := prog_12_method_3_code
def yX10_in : MethodName := ⟨RX10, "in", "(JJJ)Z"⟩
abbrev cX10_hasBit : ByteArray := prog_12_method_4_code
def yX10_hasBit : MethodName := ⟨RX10, "hasBit", "(II)Z"⟩
abbrev cX10_onesOf : ByteArray := prog_12_method_5_code
def yX10_onesOf : MethodName := ⟨RX10, "onesOf", "(I)I"⟩
abbrev cX10_held : ByteArray := prog_12_method_6_code
def yX10_held : MethodName := ⟨RX10, "held", "(II)I"⟩
abbrev cX10_far : ByteArray := prog_12_method_7_code
def yX10_far : MethodName := ⟨RX10, "far", "(II)I"⟩
abbrev cX10_isBulb : ByteArray := prog_12_method_8_code
def yX10_isBulb : MethodName := ⟨RX10, "isBulb", "(I)Z"⟩
abbrev cX10_leads : ByteArray := prog_12_method_9_code
def yX10_leads : MethodName := ⟨RX10, "leads", "(II)Z"⟩
abbrev cX10_lifeOf : ByteArray := prog_12_method_10_code
def yX10_lifeOf : MethodName := ⟨RX10, "lifeOf", "(I)I"⟩
abbrev cX10_glowOf : ByteArray := prog_12_method_11_code
def yX10_glowOf : MethodName := ⟨RX10, "glowOf", "(I)I"⟩
abbrev cX10_isBrown : ByteArray := prog_12_method_12_code
def yX10_isBrown : MethodName := ⟨RX10, "isBrown", "(I)Z"⟩
abbrev cX10_allLead : ByteArray := prog_12_method_13_code
def yX10_allLead : MethodName := ⟨RX10, "allLead", "(III)Z"⟩
abbrev cX10_wholeOf : ByteArray := prog_12_method_14_code
def yX10_wholeOf : MethodName := ⟨RX10, "wholeOf", "(II)I"⟩
abbrev cX10_burns : ByteArray := prog_12_method_15_code
def yX10_burns : MethodName := ⟨RX10, "burns", "(II)Z"⟩
abbrev cX10_hourOn : ByteArray := prog_12_method_16_code
def yX10_hourOn : MethodName := ⟨RX10, "hourOn", "()Z"⟩
abbrev cX10_goHours : ByteArray := prog_12_method_17_code
def yX10_goHours : MethodName := ⟨RX10, "goHours", "(I)V"⟩
abbrev cX10_allWorn : ByteArray := prog_12_method_18_code
def yX10_allWorn : MethodName := ⟨RX10, "allWorn", "()I"⟩
abbrev cX10_tookBy : ByteArray := prog_12_method_19_code
def yX10_tookBy : MethodName := ⟨RX10, "tookBy", "(III)I"⟩
abbrev cX10_tellsBy : ByteArray := prog_12_method_20_code
def yX10_tellsBy : MethodName := ⟨RX10, "tellsBy", "(III)Z"⟩
abbrev cX10_usedOn : ByteArray := prog_12_method_21_code
def yX10_usedOn : MethodName := ⟨RX10, "usedOn", "(III)I"⟩
abbrev cX10_becomesSpare : ByteArray := prog_12_method_22_code
def yX10_becomesSpare : MethodName := ⟨RX10, "becomesSpare", "(I)V"⟩
abbrev cX10_twisted : ByteArray := prog_12_method_23_code
def yX10_twisted : MethodName := ⟨RX10, "twisted", "(I)I"⟩
abbrev cX10_here : ByteArray := prog_12_method_24_code
def yX10_here : MethodName := ⟨RX10, "here", "()I"⟩
abbrev cX10_readDigits : ByteArray := prog_12_method_25_code
def yX10_readDigits : MethodName := ⟨RX10, "readDigits", "(I)I"⟩
abbrev cX10_isLetter : ByteArray := prog_12_method_26_code
def yX10_isLetter : MethodName := ⟨RX10, "isLetter", "(I)Z"⟩
abbrev cX10_readNumbers : ByteArray := prog_12_method_27_code
def yX10_readNumbers : MethodName := ⟨RX10, "readNumbers", "(II)V"⟩
abbrev cX10_readStatement : ByteArray := prog_12_method_28_code
def yX10_readStatement : MethodName := ⟨RX10, "readStatement", "()V"⟩
abbrev cX10_bulbComes : ByteArray := prog_12_method_29_code
def yX10_bulbComes : MethodName := ⟨RX10, "bulbComes", "(II)Z"⟩
abbrev cX10_ofBulb : ByteArray := prog_12_method_30_code
def yX10_ofBulb : MethodName := ⟨RX10, "ofBulb", "(III)Z"⟩
abbrev cX10_toolComes : ByteArray := prog_12_method_31_code
def yX10_toolComes : MethodName := ⟨RX10, "toolComes", "(III)Z"⟩
abbrev cX10_hoursCome : ByteArray := prog_12_method_32_code
def yX10_hoursCome : MethodName := ⟨RX10, "hoursCome", "(I)Z"⟩
abbrev cX10_comesTold : ByteArray := prog_12_method_33_code
def yX10_comesTold : MethodName := ⟨RX10, "comesTold", "(I)Z"⟩
abbrev cX10_string : ByteArray := prog_12_method_34_code
def yX10_string : MethodName := ⟨RX10, "string", "(I)I"⟩
abbrev cX10_carry : ByteArray := prog_12_method_35_code
def yX10_carry : MethodName := ⟨RX10, "carry", "(I)I"⟩
abbrev cX10_carryAll : ByteArray := prog_12_method_36_code
def yX10_carryAll : MethodName := ⟨RX10, "carryAll", "([IZ)V"⟩
abbrev cX10_think : ByteArray := prog_12_method_37_code
def yX10_think : MethodName := ⟨RX10, "think", "()V"⟩
abbrev cX10_again : ByteArray := prog_12_method_38_code
def yX10_again : MethodName := ⟨RX10, "again", "()V"⟩
abbrev cX10_image : ByteArray := prog_12_method_39_code
def yX10_image : MethodName := ⟨RX10, "image", "()I"⟩
abbrev cX10_restore : ByteArray := prog_12_method_40_code
def yX10_restore : MethodName := ⟨RX10, "restore", "()I"⟩
abbrev cX10_bulb : ByteArray := prog_12_method_41_code
def yX10_bulb : MethodName := ⟨RX10, "bulb", "(II)I"⟩
abbrev cX10_hangs : ByteArray := prog_12_method_42_code
def yX10_hangs : MethodName := ⟨RX10, "hangs", "(I)I"⟩
abbrev cX10_wears : ByteArray := prog_12_method_43_code
def yX10_wears : MethodName := ⟨RX10, "wears", "(II)I"⟩
abbrev cX10_breaks : ByteArray := prog_12_method_44_code
def yX10_breaks : MethodName := ⟨RX10, "breaks", "(I)I"⟩
abbrev cX10_spares : ByteArray := prog_12_method_45_code
def yX10_spares : MethodName := ⟨RX10, "spares", "(I)I"⟩
abbrev cX10_twist : ByteArray := prog_12_method_46_code
def yX10_twist : MethodName := ⟨RX10, "twist", "(I)I"⟩
abbrev cX10_isUse : ByteArray := prog_12_method_47_code
def yX10_isUse : MethodName := ⟨RX10, "isUse", "(III)Z"⟩
abbrev cX10_use : ByteArray := prog_12_method_48_code
def yX10_use : MethodName := ⟨RX10, "use", "(III)I"⟩
abbrev cX10_hours : ByteArray := prog_12_method_49_code
def yX10_hours : MethodName := ⟨RX10, "hours", "(I)I"⟩
abbrev cX10_then : ByteArray := prog_12_method_50_code
def yX10_then : MethodName := ⟨RX10, "then", "(II)I"⟩
abbrev cX10_wornThen : ByteArray := prog_12_method_51_code
def yX10_wornThen : MethodName := ⟨RX10, "wornThen", "(II)I"⟩
abbrev cX10_goesIn : ByteArray := prog_12_method_52_code
def yX10_goesIn : MethodName := ⟨RX10, "goesIn", "(I)I"⟩
abbrev cX10_goes : ByteArray := prog_12_method_53_code
def yX10_goes : MethodName := ⟨RX10, "goes", "(I)I"⟩
abbrev cX10_dark : ByteArray := prog_12_method_54_code
def yX10_dark : MethodName := ⟨RX10, "dark", "()I"⟩
abbrev cX10_faults : ByteArray := prog_12_method_55_code
def yX10_faults : MethodName := ⟨RX10, "faults", "()I"⟩
abbrev cX10_browns : ByteArray := prog_12_method_56_code
def yX10_browns : MethodName := ⟨RX10, "browns", "()I"⟩
abbrev cX10_longest : ByteArray := prog_12_method_57_code
def yX10_longest : MethodName := ⟨RX10, "longest", "()I"⟩
abbrev cX10_weakest : ByteArray := prog_12_method_58_code
def yX10_weakest : MethodName := ⟨RX10, "weakest", "()I"⟩
abbrev cX10_lights : ByteArray := prog_12_method_59_code
def yX10_lights : MethodName := ⟨RX10, "lights", "(I)I"⟩
abbrev cX10_tool : ByteArray := prog_12_method_60_code
def yX10_tool : MethodName := ⟨RX10, "tool", "(IIII)I"⟩
abbrev cX10_oddsOf : ByteArray := prog_12_method_61_code
def yX10_oddsOf : MethodName := ⟨RX10, "oddsOf", "(II)I"⟩
abbrev cX10_layStretch : ByteArray := prog_12_method_62_code
def yX10_layStretch : MethodName := ⟨RX10, "layStretch", "(II)V"⟩
abbrev cX10_layHalves : ByteArray := prog_12_method_63_code
def yX10_layHalves : MethodName := ⟨RX10, "layHalves", "()V"⟩
abbrev cX10_isStretch : ByteArray := prog_12_method_64_code
def yX10_isStretch : MethodName := ⟨RX10, "isStretch", "(II)Z"⟩
abbrev cX10_halves : ByteArray := prog_12_method_65_code
def yX10_halves : MethodName := ⟨RX10, "halves", "(III)I"⟩
abbrev cX10_divisor : ByteArray := prog_12_method_66_code
def yX10_divisor : MethodName := ⟨RX10, "divisor", "(JJ)J"⟩
abbrev cX10_partOf : ByteArray := prog_12_method_67_code
def yX10_partOf : MethodName := ⟨RX10, "partOf", "(JJI)J"⟩
abbrev cX10_mean : ByteArray := prog_12_method_68_code
def yX10_mean : MethodName := ⟨RX10, "mean", "(III)J"⟩
abbrev cX10_layOrder : ByteArray := prog_12_method_69_code
def yX10_layOrder : MethodName := ⟨RX10, "layOrder", "(II)I"⟩
abbrev cX10_secondsOf : ByteArray := prog_12_method_70_code
def yX10_secondsOf : MethodName := ⟨RX10, "secondsOf", "(I)I"⟩
abbrev cX10_numberOf : ByteArray := prog_12_method_71_code
def yX10_numberOf : MethodName := ⟨RX10, "numberOf", "(I)I"⟩
abbrev cX10_order : ByteArray := prog_12_method_72_code
def yX10_order : MethodName := ⟨RX10, "order", "(II)I"⟩
abbrev cX10_wrongThrees : ByteArray := prog_12_method_73_code
def yX10_wrongThrees : MethodName := ⟨RX10, "wrongThrees", "(I)I"⟩
abbrev cX10_isSuspect : ByteArray := prog_12_method_74_code
def yX10_isSuspect : MethodName := ⟨RX10, "isSuspect", "(II)Z"⟩
abbrev cX10_suspects : ByteArray := prog_12_method_75_code
def yX10_suspects : MethodName := ⟨RX10, "suspects", "(II)I"⟩
abbrev cX10_changeOut : ByteArray := prog_12_method_76_code
def yX10_changeOut : MethodName := ⟨RX10, "changeOut", "(I)I"⟩
abbrev cX10_buy : ByteArray := prog_12_method_77_code
def yX10_buy : MethodName := ⟨RX10, "buy", "(I)I"⟩
abbrev cX10_lightOf : ByteArray := prog_12_method_78_code
def yX10_lightOf : MethodName := ⟨RX10, "lightOf", "(II)I"⟩
abbrev cX10_light : ByteArray := prog_12_method_79_code
def yX10_light : MethodName := ⟨RX10, "light", "(II)I"⟩
abbrev cX10_split : ByteArray := prog_12_method_80_code
def yX10_split : MethodName := ⟨RX10, "split", "(II)I"⟩
abbrev cX10_beat : ByteArray := prog_12_method_81_code
def yX10_beat : MethodName := ⟨RX10, "beat", "(III)I"⟩
abbrev cX10_end : ByteArray := prog_12_method_82_code
def yX10_end : MethodName := ⟨RX10, "end", "(I)I"⟩
abbrev cX10_leastOf : ByteArray := prog_12_method_83_code
def yX10_leastOf : MethodName := ⟨RX10, "leastOf", "(I)J"⟩
abbrev cX10_isSkipped : ByteArray := prog_12_method_84_code
def yX10_isSkipped : MethodName := ⟨RX10, "isSkipped", "(II)Z"⟩
abbrev cX10_isWornRow : ByteArray := prog_12_method_85_code
def yX10_isWornRow : MethodName := ⟨RX10, "isWornRow", "(III)Z"⟩
abbrev cX10_whatIs : ByteArray := prog_12_method_86_code
def yX10_whatIs : MethodName := ⟨RX10, "whatIs", "(III)I"⟩
abbrev cX10_wornFrom : ByteArray := prog_12_method_87_code
def yX10_wornFrom : MethodName := ⟨RX10, "wornFrom", "(III)I"⟩
abbrev cX10_frost : ByteArray := prog_12_method_88_code
def yX10_frost : MethodName := ⟨RX10, "frost", "(IIII)J"⟩
abbrev cX10_share : ByteArray := prog_12_method_89_code
def yX10_share : MethodName := ⟨RX10, "share", "(II)J"⟩
abbrev cX10_forged : ByteArray := prog_12_method_90_code
def yX10_forged : MethodName := ⟨RX10, "forged", "(I)I"⟩
abbrev cX10_judge : ByteArray := prog_12_method_91_code
def yX10_judge : MethodName := ⟨RX10, "judge", "(I)I"⟩
abbrev cX10_drawBelow : ByteArray := prog_12_method_92_code
def yX10_drawBelow : MethodName := ⟨RX10, "drawBelow", "(I)I"⟩
abbrev cX10_winters : ByteArray := prog_12_method_93_code
def yX10_winters : MethodName := ⟨RX10, "winters", "(III)I"⟩
abbrev cX10_count : ByteArray := prog_12_method_94_code
def yX10_count : MethodName := ⟨RX10, "count", "(I)I"⟩
abbrev cX10_wrongKept : ByteArray := prog_12_method_95_code
def yX10_wrongKept : MethodName := ⟨RX10, "wrongKept", "(I)I"⟩
abbrev cX10_keep : ByteArray := prog_12_method_96_code
def yX10_keep : MethodName := ⟨RX10, "keep", "(IIII)I"⟩
abbrev cX10_wrongRow : ByteArray := prog_12_method_97_code
def yX10_wrongRow : MethodName := ⟨RX10, "wrongRow", "(I)I"⟩
abbrev cX10_narrowed : ByteArray := prog_12_method_98_code
def yX10_narrowed : MethodName := ⟨RX10, "narrowed", "(II)J"⟩
abbrev cX10_row : ByteArray := prog_12_method_99_code
def yX10_row : MethodName := ⟨RX10, "row", "(III)I"⟩
abbrev cX10_put : ByteArray := prog_12_method_100_code
def yX10_put : MethodName := ⟨RX10, "put", "(III)I"⟩
abbrev cX10_element : ByteArray := prog_12_method_101_code
def yX10_element : MethodName := ⟨RX10, "element", "(II)J"⟩
abbrev cX10_copy : ByteArray := prog_12_method_102_code
def yX10_copy : MethodName := ⟨RX10, "copy", "(IIIII)I"⟩
abbrev cX10_costOf : ByteArray := prog_12_method_103_code
def yX10_costOf : MethodName := ⟨RX10, "costOf", "(II)I"⟩
abbrev cX10_cost : ByteArray := prog_12_method_104_code
def yX10_cost : MethodName := ⟨RX10, "cost", "(I)I"⟩
abbrev cX10_toss : ByteArray := prog_12_method_105_code
def yX10_toss : MethodName := ⟨RX10, "toss", "(I)I"⟩
def RJ6 : String := "java/lang/Integer"
def TJ6 : u_T := fun k => match k with
  | _ => ("", "", "", false)
def tyJ6 : Nat → FieldType := fun k => match k with
  | _ => .int
abbrev wsJ60 : List Cond := u_ws RJ6 TJ6 0
theorem nmJ6 : ∀ a, a < 0 → ∀ b, b < 0 → a ≠ b → (TJ6 a).2.1 ≠ (TJ6 b).2.1 := by decide +kernel
theorem tyJ6_ok : ∀ k, k < 0 → parseFieldDescriptor (TJ6 k).2.2.1 = some (tyJ6 k) := by decide +kernel
abbrev cJ6_bitCount_0f7a4 : ByteArray := prog_16_method_49_code
def yJ6_bitCount_0f7a4 : MethodName := ⟨RJ6, "bitCount", "(I)I"⟩
def RJ9 : String := "java/lang/Math"
def TJ9 : u_T := fun k => match k with
  | _ => ("", "", "", false)
def tyJ9 : Nat → FieldType := fun k => match k with
  | _ => .int
abbrev wsJ90 : List Cond := u_ws RJ9 TJ9 0
theorem nmJ9 : ∀ a, a < 0 → ∀ b, b < 0 → a ≠ b → (TJ9 a).2.1 ≠ (TJ9 b).2.1 := by decide +kernel
theorem tyJ9_ok : ∀ k, k < 0 → parseFieldDescriptor (TJ9 k).2.2.1 = some (tyJ9 k) := by decide +kernel
abbrev cJ9_abs_0f7a4 : ByteArray := prog_17_method_59_code
def yJ9_abs_0f7a4 : MethodName := ⟨RJ9, "abs", "(I)I"⟩
abbrev cJ9_max_7cf53 : ByteArray := prog_17_method_65_code
def yJ9_max_7cf53 : MethodName := ⟨RJ9, "max", "(II)I"⟩
abbrev cJ9_min_7cf53 : ByteArray := prog_17_method_69_code
def yJ9_min_7cf53 : MethodName := ⟨RJ9, "min", "(II)I"⟩
def RJ0 : String := "java/lang/String"
def TJ0 : u_T := fun k => match k with
  | _ => ("", "", "", false)
def tyJ0 : Nat → FieldType := fun k => match k with
  | _ => .int
abbrev wsJ00 : List Cond := u_ws RJ0 TJ0 0
theorem nmJ0 : ∀ a, a < 0 → ∀ b, b < 0 → a ≠ b → (TJ0 a).2.1 ≠ (TJ0 b).2.1 := by decide +kernel
theorem tyJ0_ok : ∀ k, k < 0 → parseFieldDescriptor (TJ0 k).2.2.1 = some (tyJ0 k) := by decide +kernel
def RJ10 : String := "java/lang/System"
def TJ10 : u_T := fun k => match k with
  | _ => ("", "", "", false)
def tyJ10 : Nat → FieldType := fun k => match k with
  | _ => .int
abbrev wsJ100 : List Cond := u_ws RJ10 TJ10 0
theorem nmJ10 : ∀ a, a < 0 → ∀ b, b < 0 → a ≠ b → (TJ10 a).2.1 ≠ (TJ10 b).2.1 := by decide +kernel
theorem tyJ10_ok : ∀ k, k < 0 → parseFieldDescriptor (TJ10 k).2.2.1 = some (tyJ10 k) := by decide +kernel
def RL : String := "OneIsOutLaw"
abbrev cL_element : ByteArray := method_3_code
def yL_element : MethodName := ⟨RL, "element", "(LOneIsOut;II[J)I"⟩
abbrev cL_law : ByteArray := code
def yL_law : MethodName := ⟨RL, "law", "([I)Z"⟩
abbrev vwCl : List vw_C := [(RX1, TX1, 1), (RX2, TX2, 11), (RX4, TX4, 6), (RX9, TX9, 6), (RX10, TX10, 41)]
end
section
theorem dX0_hoursTillOut_0 : decode cX0_hoursTillOut 0 = .ok (.aload_n 0, 1) := by decide +kernel
theorem dX0_hoursTillOut_1 : decode cX0_hoursTillOut 1 = .ok (.iload_n 1, 1) := by decide +kernel
theorem dX0_hoursTillOut_2 : decode cX0_hoursTillOut 2 = .ok (.invokevirtual 9, 3) := by decide +kernel
theorem dX0_hoursTillOut_5 : decode cX0_hoursTillOut 5 = .ok (.ifCond .ne 5, 3) := by decide +kernel
theorem dX0_hoursTillOut_8 : decode cX0_hoursTillOut 8 = .ok (.iconst 0, 1) := by decide +kernel
theorem dX0_hoursTillOut_9 : decode cX0_hoursTillOut 9 = .ok (.ireturn, 1) := by decide +kernel
theorem dX0_hoursTillOut_10 : decode cX0_hoursTillOut 10 = .ok (.iconst 1, 1) := by decide +kernel
theorem dX0_hoursTillOut_11 : decode cX0_hoursTillOut 11 = .ok (.istore_n 2, 1) := by decide +kernel
theorem dX0_hoursTillOut_12 : decode cX0_hoursTillOut 12 = .ok (.iload_n 2, 1) := by decide +kernel
theorem dX0_hoursTillOut_13 : decode cX0_hoursTillOut 13 = .ok (.bipush 60, 2) := by decide +kernel
theorem dX0_hoursTillOut_15 : decode cX0_hoursTillOut 15 = .ok (.if_icmp .gt 25, 3) := by decide +kernel
theorem dX0_hoursTillOut_18 : decode cX0_hoursTillOut 18 = .ok (.aload_n 0, 1) := by decide +kernel
theorem dX0_hoursTillOut_19 : decode cX0_hoursTillOut 19 = .ok (.iconst 1, 1) := by decide +kernel
theorem dX0_hoursTillOut_20 : decode cX0_hoursTillOut 20 = .ok (.invokevirtual 15, 3) := by decide +kernel
theorem dX0_hoursTillOut_23 : decode cX0_hoursTillOut 23 = .ok (.pop, 1) := by decide +kernel
theorem dX0_hoursTillOut_24 : decode cX0_hoursTillOut 24 = .ok (.aload_n 0, 1) := by decide +kernel
theorem dX0_hoursTillOut_25 : decode cX0_hoursTillOut 25 = .ok (.iload_n 1, 1) := by decide +kernel
theorem dX0_hoursTillOut_26 : decode cX0_hoursTillOut 26 = .ok (.invokevirtual 9, 3) := by decide +kernel
theorem dX0_hoursTillOut_29 : decode cX0_hoursTillOut 29 = .ok (.ifCond .ne 5, 3) := by decide +kernel
theorem dX0_hoursTillOut_32 : decode cX0_hoursTillOut 32 = .ok (.iload_n 2, 1) := by decide +kernel
theorem dX0_hoursTillOut_33 : decode cX0_hoursTillOut 33 = .ok (.ireturn, 1) := by decide +kernel
theorem dX0_hoursTillOut_34 : decode cX0_hoursTillOut 34 = .ok (.iinc 2 1, 3) := by decide +kernel
theorem dX0_hoursTillOut_37 : decode cX0_hoursTillOut 37 = .ok (.goto (-25), 3) := by decide +kernel
theorem dX0_hoursTillOut_40 : decode cX0_hoursTillOut 40 = .ok (.bipush (-4), 2) := by decide +kernel
theorem dX0_hoursTillOut_42 : decode cX0_hoursTillOut 42 = .ok (.ireturn, 1) := by decide +kernel
theorem dX0_nextOut_0 : decode cX0_nextOut 0 = .ok (.aload_n 0, 1) := by decide +kernel
theorem dX0_nextOut_1 : decode cX0_nextOut 1 = .ok (.getfield 18, 3) := by decide +kernel
theorem dX0_nextOut_4 : decode cX0_nextOut 4 = .ok (.istore_n 1, 1) := by decide +kernel
theorem dX0_nextOut_5 : decode cX0_nextOut 5 = .ok (.iconst 0, 1) := by decide +kernel
theorem dX0_nextOut_6 : decode cX0_nextOut 6 = .ok (.istore_n 2, 1) := by decide +kernel
theorem dX0_nextOut_7 : decode cX0_nextOut 7 = .ok (.iload_n 2, 1) := by decide +kernel
theorem dX0_nextOut_8 : decode cX0_nextOut 8 = .ok (.bipush 60, 2) := by decide +kernel
theorem dX0_nextOut_10 : decode cX0_nextOut 10 = .ok (.if_icmp .ge 33, 3) := by decide +kernel
theorem dX0_nextOut_13 : decode cX0_nextOut 13 = .ok (.aload_n 0, 1) := by decide +kernel
theorem dX0_nextOut_14 : decode cX0_nextOut 14 = .ok (.iconst 1, 1) := by decide +kernel
theorem dX0_nextOut_15 : decode cX0_nextOut 15 = .ok (.invokevirtual 15, 3) := by decide +kernel
theorem dX0_nextOut_18 : decode cX0_nextOut 18 = .ok (.pop, 1) := by decide +kernel
theorem dX0_nextOut_19 : decode cX0_nextOut 19 = .ok (.iload_n 1, 1) := by decide +kernel
theorem dX0_nextOut_20 : decode cX0_nextOut 20 = .ok (.aload_n 0, 1) := by decide +kernel
theorem dX0_nextOut_21 : decode cX0_nextOut 21 = .ok (.getfield 18, 3) := by decide +kernel
theorem dX0_nextOut_24 : decode cX0_nextOut 24 = .ok (.iconst (-1), 1) := by decide +kernel
theorem dX0_nextOut_25 : decode cX0_nextOut 25 = .ok (.ixor, 1) := by decide +kernel
theorem dX0_nextOut_26 : decode cX0_nextOut 26 = .ok (.iand, 1) := by decide +kernel
theorem dX0_nextOut_27 : decode cX0_nextOut 27 = .ok (.istore_n 3, 1) := by decide +kernel
theorem dX0_nextOut_28 : decode cX0_nextOut 28 = .ok (.iload_n 3, 1) := by decide +kernel
theorem dX0_nextOut_29 : decode cX0_nextOut 29 = .ok (.ifCond .eq 8, 3) := by decide +kernel
theorem dX0_nextOut_32 : decode cX0_nextOut 32 = .ok (.iload_n 3, 1) := by decide +kernel
theorem dX0_nextOut_33 : decode cX0_nextOut 33 = .ok (.invokestatic 22, 3) := by decide +kernel
theorem dX0_nextOut_36 : decode cX0_nextOut 36 = .ok (.ireturn, 1) := by decide +kernel
theorem dX0_nextOut_37 : decode cX0_nextOut 37 = .ok (.iinc 2 1, 3) := by decide +kernel
theorem dX0_nextOut_40 : decode cX0_nextOut 40 = .ok (.goto (-33), 3) := by decide +kernel
theorem dX0_nextOut_43 : decode cX0_nextOut 43 = .ok (.bipush (-4), 2) := by decide +kernel
theorem dX0_nextOut_45 : decode cX0_nextOut 45 = .ok (.ireturn, 1) := by decide +kernel
theorem dX0_leastOf_0 : decode cX0_leastOf 0 = .ok (.iconst 0, 1) := by decide +kernel
theorem dX0_leastOf_1 : decode cX0_leastOf 1 = .ok (.istore_n 1, 1) := by decide +kernel
theorem dX0_leastOf_2 : decode cX0_leastOf 2 = .ok (.iload_n 1, 1) := by decide +kernel
theorem dX0_leastOf_3 : decode cX0_leastOf 3 = .ok (.bipush 10, 2) := by decide +kernel
theorem dX0_leastOf_5 : decode cX0_leastOf 5 = .ok (.if_icmp .ge 20, 3) := by decide +kernel
theorem dX0_leastOf_8 : decode cX0_leastOf 8 = .ok (.iload_n 0, 1) := by decide +kernel
theorem dX0_leastOf_9 : decode cX0_leastOf 9 = .ok (.iload_n 1, 1) := by decide +kernel
theorem dX0_leastOf_10 : decode cX0_leastOf 10 = .ok (.ishr, 1) := by decide +kernel
theorem dX0_leastOf_11 : decode cX0_leastOf 11 = .ok (.iconst 1, 1) := by decide +kernel
theorem dX0_leastOf_12 : decode cX0_leastOf 12 = .ok (.iand, 1) := by decide +kernel
theorem dX0_leastOf_13 : decode cX0_leastOf 13 = .ok (.iconst 1, 1) := by decide +kernel
theorem dX0_leastOf_14 : decode cX0_leastOf 14 = .ok (.if_icmp .ne 5, 3) := by decide +kernel
theorem dX0_leastOf_17 : decode cX0_leastOf 17 = .ok (.iload_n 1, 1) := by decide +kernel
theorem dX0_leastOf_18 : decode cX0_leastOf 18 = .ok (.ireturn, 1) := by decide +kernel
theorem dX0_leastOf_19 : decode cX0_leastOf 19 = .ok (.iinc 1 1, 3) := by decide +kernel
theorem dX0_leastOf_22 : decode cX0_leastOf 22 = .ok (.goto (-20), 3) := by decide +kernel
theorem dX0_leastOf_25 : decode cX0_leastOf 25 = .ok (.bipush (-4), 2) := by decide +kernel
theorem dX0_leastOf_27 : decode cX0_leastOf 27 = .ok (.ireturn, 1) := by decide +kernel
theorem dX0_firstDark_0 : decode cX0_firstDark 0 = .ok (.iconst 1, 1) := by decide +kernel
theorem dX0_firstDark_1 : decode cX0_firstDark 1 = .ok (.istore_n 1, 1) := by decide +kernel
theorem dX0_firstDark_2 : decode cX0_firstDark 2 = .ok (.iload_n 1, 1) := by decide +kernel
theorem dX0_firstDark_3 : decode cX0_firstDark 3 = .ok (.bipush 60, 2) := by decide +kernel
theorem dX0_firstDark_5 : decode cX0_firstDark 5 = .ok (.if_icmp .gt 19, 3) := by decide +kernel
theorem dX0_firstDark_8 : decode cX0_firstDark 8 = .ok (.aload_n 0, 1) := by decide +kernel
theorem dX0_firstDark_9 : decode cX0_firstDark 9 = .ok (.iconst 1, 1) := by decide +kernel
theorem dX0_firstDark_10 : decode cX0_firstDark 10 = .ok (.invokevirtual 15, 3) := by decide +kernel
theorem dX0_firstDark_13 : decode cX0_firstDark 13 = .ok (.ifCond .ne 5, 3) := by decide +kernel
theorem dX0_firstDark_16 : decode cX0_firstDark 16 = .ok (.iload_n 1, 1) := by decide +kernel
theorem dX0_firstDark_17 : decode cX0_firstDark 17 = .ok (.ireturn, 1) := by decide +kernel
theorem dX0_firstDark_18 : decode cX0_firstDark 18 = .ok (.iinc 1 1, 3) := by decide +kernel
theorem dX0_firstDark_21 : decode cX0_firstDark 21 = .ok (.goto (-19), 3) := by decide +kernel
theorem dX0_firstDark_24 : decode cX0_firstDark 24 = .ok (.bipush (-4), 2) := by decide +kernel
theorem dX0_firstDark_26 : decode cX0_firstDark 26 = .ok (.ireturn, 1) := by decide +kernel
theorem dX0_longest_0 : decode cX0_longest 0 = .ok (.iconst 0, 1) := by decide +kernel
theorem dX0_longest_1 : decode cX0_longest 1 = .ok (.istore_n 1, 1) := by decide +kernel
theorem dX0_longest_2 : decode cX0_longest 2 = .ok (.iconst 0, 1) := by decide +kernel
theorem dX0_longest_3 : decode cX0_longest 3 = .ok (.istore_n 2, 1) := by decide +kernel
theorem dX0_longest_4 : decode cX0_longest 4 = .ok (.iconst 0, 1) := by decide +kernel
theorem dX0_longest_5 : decode cX0_longest 5 = .ok (.istore_n 3, 1) := by decide +kernel
theorem dX0_longest_6 : decode cX0_longest 6 = .ok (.iload_n 3, 1) := by decide +kernel
theorem dX0_longest_7 : decode cX0_longest 7 = .ok (.bipush 60, 2) := by decide +kernel
theorem dX0_longest_9 : decode cX0_longest 9 = .ok (.if_icmp .ge 31, 3) := by decide +kernel
theorem dX0_longest_12 : decode cX0_longest 12 = .ok (.aload_n 0, 1) := by decide +kernel
theorem dX0_longest_13 : decode cX0_longest 13 = .ok (.iconst 1, 1) := by decide +kernel
theorem dX0_longest_14 : decode cX0_longest 14 = .ok (.invokevirtual 15, 3) := by decide +kernel
theorem dX0_longest_17 : decode cX0_longest 17 = .ok (.ifCond .eq 9, 3) := by decide +kernel
theorem dX0_longest_20 : decode cX0_longest 20 = .ok (.iload_n 2, 1) := by decide +kernel
theorem dX0_longest_21 : decode cX0_longest 21 = .ok (.iconst 1, 1) := by decide +kernel
theorem dX0_longest_22 : decode cX0_longest 22 = .ok (.iadd, 1) := by decide +kernel
theorem dX0_longest_23 : decode cX0_longest 23 = .ok (.goto 4, 3) := by decide +kernel
theorem dX0_longest_26 : decode cX0_longest 26 = .ok (.iconst 0, 1) := by decide +kernel
theorem dX0_longest_27 : decode cX0_longest 27 = .ok (.istore_n 2, 1) := by decide +kernel
theorem dX0_longest_28 : decode cX0_longest 28 = .ok (.iload_n 1, 1) := by decide +kernel
theorem dX0_longest_29 : decode cX0_longest 29 = .ok (.iload_n 2, 1) := by decide +kernel
theorem dX0_longest_30 : decode cX0_longest 30 = .ok (.invokestatic 28, 3) := by decide +kernel
theorem dX0_longest_33 : decode cX0_longest 33 = .ok (.istore_n 1, 1) := by decide +kernel
theorem dX0_longest_34 : decode cX0_longest 34 = .ok (.iinc 3 1, 3) := by decide +kernel
theorem dX0_longest_37 : decode cX0_longest 37 = .ok (.goto (-31), 3) := by decide +kernel
theorem dX0_longest_40 : decode cX0_longest 40 = .ok (.iload_n 1, 1) := by decide +kernel
theorem dX0_longest_41 : decode cX0_longest 41 = .ok (.ireturn, 1) := by decide +kernel
theorem dX0_hoursBurnt_0 : decode cX0_hoursBurnt 0 = .ok (.iconst 0, 1) := by decide +kernel
theorem dX0_hoursBurnt_1 : decode cX0_hoursBurnt 1 = .ok (.istore_n 2, 1) := by decide +kernel
theorem dX0_hoursBurnt_2 : decode cX0_hoursBurnt 2 = .ok (.iconst 0, 1) := by decide +kernel
theorem dX0_hoursBurnt_3 : decode cX0_hoursBurnt 3 = .ok (.istore_n 3, 1) := by decide +kernel
theorem dX0_hoursBurnt_4 : decode cX0_hoursBurnt 4 = .ok (.iload_n 3, 1) := by decide +kernel
theorem dX0_hoursBurnt_5 : decode cX0_hoursBurnt 5 = .ok (.iload_n 1, 1) := by decide +kernel
theorem dX0_hoursBurnt_6 : decode cX0_hoursBurnt 6 = .ok (.if_icmp .ge 20, 3) := by decide +kernel
theorem dX0_hoursBurnt_9 : decode cX0_hoursBurnt 9 = .ok (.aload_n 0, 1) := by decide +kernel
theorem dX0_hoursBurnt_10 : decode cX0_hoursBurnt 10 = .ok (.iconst 1, 1) := by decide +kernel
theorem dX0_hoursBurnt_11 : decode cX0_hoursBurnt 11 = .ok (.invokevirtual 15, 3) := by decide +kernel
theorem dX0_hoursBurnt_14 : decode cX0_hoursBurnt 14 = .ok (.ifCond .eq 6, 3) := by decide +kernel
theorem dX0_hoursBurnt_17 : decode cX0_hoursBurnt 17 = .ok (.iinc 2 1, 3) := by decide +kernel
theorem dX0_hoursBurnt_20 : decode cX0_hoursBurnt 20 = .ok (.iinc 3 1, 3) := by decide +kernel
theorem dX0_hoursBurnt_23 : decode cX0_hoursBurnt 23 = .ok (.goto (-19), 3) := by decide +kernel
theorem dX0_hoursBurnt_26 : decode cX0_hoursBurnt 26 = .ok (.iload_n 2, 1) := by decide +kernel
theorem dX0_hoursBurnt_27 : decode cX0_hoursBurnt 27 = .ok (.ireturn, 1) := by decide +kernel
theorem dX0_burnsWithSpares_0 : decode cX0_burnsWithSpares 0 = .ok (.iconst 0, 1) := by decide +kernel
theorem dX0_burnsWithSpares_1 : decode cX0_burnsWithSpares 1 = .ok (.istore_n 2, 1) := by decide +kernel
theorem dX0_burnsWithSpares_2 : decode cX0_burnsWithSpares 2 = .ok (.iload_n 2, 1) := by decide +kernel
theorem dX0_burnsWithSpares_3 : decode cX0_burnsWithSpares 3 = .ok (.iload_n 1, 1) := by decide +kernel
theorem dX0_burnsWithSpares_4 : decode cX0_burnsWithSpares 4 = .ok (.if_icmp .ge 55, 3) := by decide +kernel
theorem dX0_burnsWithSpares_7 : decode cX0_burnsWithSpares 7 = .ok (.iconst 0, 1) := by decide +kernel
theorem dX0_burnsWithSpares_8 : decode cX0_burnsWithSpares 8 = .ok (.istore_n 3, 1) := by decide +kernel
theorem dX0_burnsWithSpares_9 : decode cX0_burnsWithSpares 9 = .ok (.iload_n 3, 1) := by decide +kernel
theorem dX0_burnsWithSpares_10 : decode cX0_burnsWithSpares 10 = .ok (.aload_n 0, 1) := by decide +kernel
theorem dX0_burnsWithSpares_11 : decode cX0_burnsWithSpares 11 = .ok (.getfield 34, 3) := by decide +kernel
theorem dX0_burnsWithSpares_14 : decode cX0_burnsWithSpares 14 = .ok (.if_icmp .ge 29, 3) := by decide +kernel
theorem dX0_burnsWithSpares_17 : decode cX0_burnsWithSpares 17 = .ok (.aload_n 0, 1) := by decide +kernel
theorem dX0_burnsWithSpares_18 : decode cX0_burnsWithSpares 18 = .ok (.iload_n 3, 1) := by decide +kernel
theorem dX0_burnsWithSpares_19 : decode cX0_burnsWithSpares 19 = .ok (.invokevirtual 9, 3) := by decide +kernel
theorem dX0_burnsWithSpares_22 : decode cX0_burnsWithSpares 22 = .ok (.ifCond .ne 15, 3) := by decide +kernel
theorem dX0_burnsWithSpares_25 : decode cX0_burnsWithSpares 25 = .ok (.aload_n 0, 1) := by decide +kernel
theorem dX0_burnsWithSpares_26 : decode cX0_burnsWithSpares 26 = .ok (.getfield 37, 3) := by decide +kernel
theorem dX0_burnsWithSpares_29 : decode cX0_burnsWithSpares 29 = .ok (.ifCond .le 8, 3) := by decide +kernel
theorem dX0_burnsWithSpares_32 : decode cX0_burnsWithSpares 32 = .ok (.aload_n 0, 1) := by decide +kernel
theorem dX0_burnsWithSpares_33 : decode cX0_burnsWithSpares 33 = .ok (.iload_n 3, 1) := by decide +kernel
theorem dX0_burnsWithSpares_34 : decode cX0_burnsWithSpares 34 = .ok (.invokevirtual 40, 3) := by decide +kernel
theorem dX0_burnsWithSpares_37 : decode cX0_burnsWithSpares 37 = .ok (.iinc 3 1, 3) := by decide +kernel
theorem dX0_burnsWithSpares_40 : decode cX0_burnsWithSpares 40 = .ok (.goto (-31), 3) := by decide +kernel
theorem dX0_burnsWithSpares_43 : decode cX0_burnsWithSpares 43 = .ok (.aload_n 0, 1) := by decide +kernel
theorem dX0_burnsWithSpares_44 : decode cX0_burnsWithSpares 44 = .ok (.iconst 1, 1) := by decide +kernel
theorem dX0_burnsWithSpares_45 : decode cX0_burnsWithSpares 45 = .ok (.invokevirtual 15, 3) := by decide +kernel
theorem dX0_burnsWithSpares_48 : decode cX0_burnsWithSpares 48 = .ok (.ifCond .ne 5, 3) := by decide +kernel
theorem dX0_burnsWithSpares_51 : decode cX0_burnsWithSpares 51 = .ok (.iconst 0, 1) := by decide +kernel
theorem dX0_burnsWithSpares_52 : decode cX0_burnsWithSpares 52 = .ok (.ireturn, 1) := by decide +kernel
theorem dX0_burnsWithSpares_53 : decode cX0_burnsWithSpares 53 = .ok (.iinc 2 1, 3) := by decide +kernel
theorem dX0_burnsWithSpares_56 : decode cX0_burnsWithSpares 56 = .ok (.goto (-54), 3) := by decide +kernel
theorem dX0_burnsWithSpares_59 : decode cX0_burnsWithSpares 59 = .ok (.iconst 1, 1) := by decide +kernel
theorem dX0_burnsWithSpares_60 : decode cX0_burnsWithSpares 60 = .ok (.ireturn, 1) := by decide +kernel
theorem dX0_wearsAsTold_0 : decode cX0_wearsAsTold 0 = .ok (.aload_n 0, 1) := by decide +kernel
theorem dX0_wearsAsTold_1 : decode cX0_wearsAsTold 1 = .ok (.iload_n 3, 1) := by decide +kernel
theorem dX0_wearsAsTold_2 : decode cX0_wearsAsTold 2 = .ok (.invokevirtual 44, 3) := by decide +kernel
theorem dX0_wearsAsTold_5 : decode cX0_wearsAsTold 5 = .ok (.aload_n 2, 1) := by decide +kernel
theorem dX0_wearsAsTold_6 : decode cX0_wearsAsTold 6 = .ok (.invokevirtual 47, 3) := by decide +kernel
theorem dX0_wearsAsTold_9 : decode cX0_wearsAsTold 9 = .ok (.istore 4, 2) := by decide +kernel
theorem dX0_wearsAsTold_11 : decode cX0_wearsAsTold 11 = .ok (.iconst 0, 1) := by decide +kernel
theorem dX0_wearsAsTold_12 : decode cX0_wearsAsTold 12 = .ok (.istore 5, 2) := by decide +kernel
theorem dX0_wearsAsTold_14 : decode cX0_wearsAsTold 14 = .ok (.iload 5, 2) := by decide +kernel
theorem dX0_wearsAsTold_16 : decode cX0_wearsAsTold 16 = .ok (.iload 4, 2) := by decide +kernel
theorem dX0_wearsAsTold_18 : decode cX0_wearsAsTold 18 = .ok (.if_icmp .ge 47, 3) := by decide +kernel
theorem dX0_wearsAsTold_21 : decode cX0_wearsAsTold 21 = .ok (.iload 5, 2) := by decide +kernel
theorem dX0_wearsAsTold_23 : decode cX0_wearsAsTold 23 = .ok (.ifCond .le 9, 3) := by decide +kernel
theorem dX0_wearsAsTold_26 : decode cX0_wearsAsTold 26 = .ok (.aload_n 0, 1) := by decide +kernel
theorem dX0_wearsAsTold_27 : decode cX0_wearsAsTold 27 = .ok (.iconst 1, 1) := by decide +kernel
theorem dX0_wearsAsTold_28 : decode cX0_wearsAsTold 28 = .ok (.invokevirtual 15, 3) := by decide +kernel
theorem dX0_wearsAsTold_31 : decode cX0_wearsAsTold 31 = .ok (.pop, 1) := by decide +kernel
theorem dX0_wearsAsTold_32 : decode cX0_wearsAsTold 32 = .ok (.aload_n 2, 1) := by decide +kernel
theorem dX0_wearsAsTold_33 : decode cX0_wearsAsTold 33 = .ok (.iload 5, 2) := by decide +kernel
theorem dX0_wearsAsTold_35 : decode cX0_wearsAsTold 35 = .ok (.invokevirtual 53, 3) := by decide +kernel
theorem dX0_wearsAsTold_38 : decode cX0_wearsAsTold 38 = .ok (.ifCond .ne 21, 3) := by decide +kernel
theorem dX0_wearsAsTold_41 : decode cX0_wearsAsTold 41 = .ok (.aload_n 2, 1) := by decide +kernel
theorem dX0_wearsAsTold_42 : decode cX0_wearsAsTold 42 = .ok (.getfield 56, 3) := by decide +kernel
theorem dX0_wearsAsTold_45 : decode cX0_wearsAsTold 45 = .ok (.iload 5, 2) := by decide +kernel
theorem dX0_wearsAsTold_47 : decode cX0_wearsAsTold 47 = .ok (.iaload, 1) := by decide +kernel
theorem dX0_wearsAsTold_48 : decode cX0_wearsAsTold 48 = .ok (.aload_n 0, 1) := by decide +kernel
theorem dX0_wearsAsTold_49 : decode cX0_wearsAsTold 49 = .ok (.getfield 60, 3) := by decide +kernel
theorem dX0_wearsAsTold_52 : decode cX0_wearsAsTold 52 = .ok (.iload_n 1, 1) := by decide +kernel
theorem dX0_wearsAsTold_53 : decode cX0_wearsAsTold 53 = .ok (.iaload, 1) := by decide +kernel
theorem dX0_wearsAsTold_54 : decode cX0_wearsAsTold 54 = .ok (.if_icmp .eq 5, 3) := by decide +kernel
theorem dX0_wearsAsTold_57 : decode cX0_wearsAsTold 57 = .ok (.iconst 0, 1) := by decide +kernel
theorem dX0_wearsAsTold_58 : decode cX0_wearsAsTold 58 = .ok (.ireturn, 1) := by decide +kernel
theorem dX0_wearsAsTold_59 : decode cX0_wearsAsTold 59 = .ok (.iinc 5 1, 3) := by decide +kernel
theorem dX0_wearsAsTold_62 : decode cX0_wearsAsTold 62 = .ok (.goto (-48), 3) := by decide +kernel
theorem dX0_wearsAsTold_65 : decode cX0_wearsAsTold 65 = .ok (.iconst 1, 1) := by decide +kernel
theorem dX0_wearsAsTold_66 : decode cX0_wearsAsTold 66 = .ok (.ireturn, 1) := by decide +kernel
theorem dX0_firstMiscount_0 : decode cX0_firstMiscount 0 = .ok (.aload_n 1, 1) := by decide +kernel
theorem dX0_firstMiscount_1 : decode cX0_firstMiscount 1 = .ok (.invokevirtual 47, 3) := by decide +kernel
theorem dX0_firstMiscount_4 : decode cX0_firstMiscount 4 = .ok (.istore_n 2, 1) := by decide +kernel
theorem dX0_firstMiscount_5 : decode cX0_firstMiscount 5 = .ok (.iconst 0, 1) := by decide +kernel
theorem dX0_firstMiscount_6 : decode cX0_firstMiscount 6 = .ok (.istore_n 3, 1) := by decide +kernel
theorem dX0_firstMiscount_7 : decode cX0_firstMiscount 7 = .ok (.iload_n 3, 1) := by decide +kernel
theorem dX0_firstMiscount_8 : decode cX0_firstMiscount 8 = .ok (.iload_n 2, 1) := by decide +kernel
theorem dX0_firstMiscount_9 : decode cX0_firstMiscount 9 = .ok (.if_icmp .ge 45, 3) := by decide +kernel
theorem dX0_firstMiscount_12 : decode cX0_firstMiscount 12 = .ok (.iload_n 3, 1) := by decide +kernel
theorem dX0_firstMiscount_13 : decode cX0_firstMiscount 13 = .ok (.ifCond .le 9, 3) := by decide +kernel
theorem dX0_firstMiscount_16 : decode cX0_firstMiscount 16 = .ok (.aload_n 0, 1) := by decide +kernel
theorem dX0_firstMiscount_17 : decode cX0_firstMiscount 17 = .ok (.iconst 1, 1) := by decide +kernel
theorem dX0_firstMiscount_18 : decode cX0_firstMiscount 18 = .ok (.invokevirtual 15, 3) := by decide +kernel
theorem dX0_firstMiscount_21 : decode cX0_firstMiscount 21 = .ok (.pop, 1) := by decide +kernel
theorem dX0_firstMiscount_22 : decode cX0_firstMiscount 22 = .ok (.aload_n 1, 1) := by decide +kernel
theorem dX0_firstMiscount_23 : decode cX0_firstMiscount 23 = .ok (.iload_n 3, 1) := by decide +kernel
theorem dX0_firstMiscount_24 : decode cX0_firstMiscount 24 = .ok (.invokevirtual 53, 3) := by decide +kernel
theorem dX0_firstMiscount_27 : decode cX0_firstMiscount 27 = .ok (.ifCond .ne 21, 3) := by decide +kernel
theorem dX0_firstMiscount_30 : decode cX0_firstMiscount 30 = .ok (.aload_n 1, 1) := by decide +kernel
theorem dX0_firstMiscount_31 : decode cX0_firstMiscount 31 = .ok (.getfield 56, 3) := by decide +kernel
theorem dX0_firstMiscount_34 : decode cX0_firstMiscount 34 = .ok (.iload_n 3, 1) := by decide +kernel
theorem dX0_firstMiscount_35 : decode cX0_firstMiscount 35 = .ok (.iaload, 1) := by decide +kernel
theorem dX0_firstMiscount_36 : decode cX0_firstMiscount 36 = .ok (.aload_n 0, 1) := by decide +kernel
theorem dX0_firstMiscount_37 : decode cX0_firstMiscount 37 = .ok (.getfield 18, 3) := by decide +kernel
theorem dX0_firstMiscount_40 : decode cX0_firstMiscount 40 = .ok (.invokestatic 63, 3) := by decide +kernel
theorem dX0_firstMiscount_43 : decode cX0_firstMiscount 43 = .ok (.if_icmp .eq 5, 3) := by decide +kernel
theorem dX0_firstMiscount_46 : decode cX0_firstMiscount 46 = .ok (.iload_n 3, 1) := by decide +kernel
theorem dX0_firstMiscount_47 : decode cX0_firstMiscount 47 = .ok (.ireturn, 1) := by decide +kernel
theorem dX0_firstMiscount_48 : decode cX0_firstMiscount 48 = .ok (.iinc 3 1, 3) := by decide +kernel
theorem dX0_firstMiscount_51 : decode cX0_firstMiscount 51 = .ok (.goto (-44), 3) := by decide +kernel
theorem dX0_firstMiscount_54 : decode cX0_firstMiscount 54 = .ok (.bipush (-4), 2) := by decide +kernel
theorem dX0_firstMiscount_56 : decode cX0_firstMiscount 56 = .ok (.ireturn, 1) := by decide +kernel
theorem dX1_init_0 : decode cX1_init 0 = .ok (.aload_n 0, 1) := by decide +kernel
theorem dX1_init_1 : decode cX1_init 1 = .ok (.invokespecial 3, 3) := by decide +kernel
theorem dX1_init_4 : decode cX1_init 4 = .ok (.aload_n 0, 1) := by decide +kernel
theorem dX1_init_5 : decode cX1_init 5 = .ok (.bipush 100, 2) := by decide +kernel
theorem dX1_init_7 : decode cX1_init 7 = .ok (.newarray .int, 2) := by decide +kernel
theorem dX1_init_9 : decode cX1_init 9 = .ok (.putfield 9, 3) := by decide +kernel
theorem dX1_init_12 : decode cX1_init 12 = .ok (.return_, 1) := by decide +kernel
theorem dX1_wireSeconds_0 : decode cX1_wireSeconds 0 = .ok (.bipush 6, 2) := by decide +kernel
theorem dX1_wireSeconds_2 : decode cX1_wireSeconds 2 = .ok (.iconst 2, 1) := by decide +kernel
theorem dX1_wireSeconds_3 : decode cX1_wireSeconds 3 = .ok (.iload_n 1, 1) := by decide +kernel
theorem dX1_wireSeconds_4 : decode cX1_wireSeconds 4 = .ok (.iload_n 0, 1) := by decide +kernel
theorem dX1_wireSeconds_5 : decode cX1_wireSeconds 5 = .ok (.isub, 1) := by decide +kernel
theorem dX1_wireSeconds_6 : decode cX1_wireSeconds 6 = .ok (.imul, 1) := by decide +kernel
theorem dX1_wireSeconds_7 : decode cX1_wireSeconds 7 = .ok (.iadd, 1) := by decide +kernel
theorem dX1_wireSeconds_8 : decode cX1_wireSeconds 8 = .ok (.ireturn, 1) := by decide +kernel
theorem dX1_bestOf_0 : decode cX1_bestOf 0 = .ok (.aload_n 0, 1) := by decide +kernel
theorem dX1_bestOf_1 : decode cX1_bestOf 1 = .ok (.getfield 9, 3) := by decide +kernel
theorem dX1_bestOf_4 : decode cX1_bestOf 4 = .ok (.iload_n 1, 1) := by decide +kernel
theorem dX1_bestOf_5 : decode cX1_bestOf 5 = .ok (.bipush 10, 2) := by decide +kernel
theorem dX1_bestOf_7 : decode cX1_bestOf 7 = .ok (.imul, 1) := by decide +kernel
theorem dX1_bestOf_8 : decode cX1_bestOf 8 = .ok (.iload_n 2, 1) := by decide +kernel
theorem dX1_bestOf_9 : decode cX1_bestOf 9 = .ok (.iadd, 1) := by decide +kernel
theorem dX1_bestOf_10 : decode cX1_bestOf 10 = .ok (.iaload, 1) := by decide +kernel
theorem dX1_bestOf_11 : decode cX1_bestOf 11 = .ok (.ireturn, 1) := by decide +kernel
theorem dX1_worstByCut_0 : decode cX1_worstByCut 0 = .ok (.iload_n 1, 1) := by decide +kernel
theorem dX1_worstByCut_1 : decode cX1_worstByCut 1 = .ok (.iload_n 3, 1) := by decide +kernel
theorem dX1_worstByCut_2 : decode cX1_worstByCut 2 = .ok (.invokestatic 15, 3) := by decide +kernel
theorem dX1_worstByCut_5 : decode cX1_worstByCut 5 = .ok (.aload_n 0, 1) := by decide +kernel
theorem dX1_worstByCut_6 : decode cX1_worstByCut 6 = .ok (.iload_n 1, 1) := by decide +kernel
theorem dX1_worstByCut_7 : decode cX1_worstByCut 7 = .ok (.iload_n 3, 1) := by decide +kernel
theorem dX1_worstByCut_8 : decode cX1_worstByCut 8 = .ok (.invokevirtual 19, 3) := by decide +kernel
theorem dX1_worstByCut_11 : decode cX1_worstByCut 11 = .ok (.aload_n 0, 1) := by decide +kernel
theorem dX1_worstByCut_12 : decode cX1_worstByCut 12 = .ok (.iload_n 3, 1) := by decide +kernel
theorem dX1_worstByCut_13 : decode cX1_worstByCut 13 = .ok (.iconst 1, 1) := by decide +kernel
theorem dX1_worstByCut_14 : decode cX1_worstByCut 14 = .ok (.iadd, 1) := by decide +kernel
theorem dX1_worstByCut_15 : decode cX1_worstByCut 15 = .ok (.iload_n 2, 1) := by decide +kernel
theorem dX1_worstByCut_16 : decode cX1_worstByCut 16 = .ok (.invokevirtual 19, 3) := by decide +kernel
theorem dX1_worstByCut_19 : decode cX1_worstByCut 19 = .ok (.invokestatic 22, 3) := by decide +kernel
theorem dX1_worstByCut_22 : decode cX1_worstByCut 22 = .ok (.iadd, 1) := by decide +kernel
theorem dX1_worstByCut_23 : decode cX1_worstByCut 23 = .ok (.ireturn, 1) := by decide +kernel
theorem dX1_worstOf_0 : decode cX1_worstOf 0 = .ok (.ldc 27, 2) := by decide +kernel
theorem dX1_worstOf_2 : decode cX1_worstOf 2 = .ok (.istore_n 3, 1) := by decide +kernel
theorem dX1_worstOf_3 : decode cX1_worstOf 3 = .ok (.iload_n 1, 1) := by decide +kernel
theorem dX1_worstOf_4 : decode cX1_worstOf 4 = .ok (.istore 4, 2) := by decide +kernel
theorem dX1_worstOf_6 : decode cX1_worstOf 6 = .ok (.iload 4, 2) := by decide +kernel
theorem dX1_worstOf_8 : decode cX1_worstOf 8 = .ok (.iload_n 2, 1) := by decide +kernel
theorem dX1_worstOf_9 : decode cX1_worstOf 9 = .ok (.if_icmp .ge 22, 3) := by decide +kernel
theorem dX1_worstOf_12 : decode cX1_worstOf 12 = .ok (.iload_n 3, 1) := by decide +kernel
theorem dX1_worstOf_13 : decode cX1_worstOf 13 = .ok (.aload_n 0, 1) := by decide +kernel
theorem dX1_worstOf_14 : decode cX1_worstOf 14 = .ok (.iload_n 1, 1) := by decide +kernel
theorem dX1_worstOf_15 : decode cX1_worstOf 15 = .ok (.iload_n 2, 1) := by decide +kernel
theorem dX1_worstOf_16 : decode cX1_worstOf 16 = .ok (.iload 4, 2) := by decide +kernel
theorem dX1_worstOf_18 : decode cX1_worstOf 18 = .ok (.invokevirtual 28, 3) := by decide +kernel
theorem dX1_worstOf_21 : decode cX1_worstOf 21 = .ok (.invokestatic 32, 3) := by decide +kernel
theorem dX1_worstOf_24 : decode cX1_worstOf 24 = .ok (.istore_n 3, 1) := by decide +kernel
theorem dX1_worstOf_25 : decode cX1_worstOf 25 = .ok (.iinc 4 1, 3) := by decide +kernel
theorem dX1_worstOf_28 : decode cX1_worstOf 28 = .ok (.goto (-22), 3) := by decide +kernel
theorem dX1_worstOf_31 : decode cX1_worstOf 31 = .ok (.iload_n 3, 1) := by decide +kernel
theorem dX1_worstOf_32 : decode cX1_worstOf 32 = .ok (.ireturn, 1) := by decide +kernel
theorem dX1_weighedOf_0 : decode cX1_weighedOf 0 = .ok (.aload_n 1, 1) := by decide +kernel
theorem dX1_weighedOf_1 : decode cX1_weighedOf 1 = .ok (.iload_n 2, 1) := by decide +kernel
theorem dX1_weighedOf_2 : decode cX1_weighedOf 2 = .ok (.iload_n 3, 1) := by decide +kernel
theorem dX1_weighedOf_3 : decode cX1_weighedOf 3 = .ok (.invokevirtual 35, 3) := by decide +kernel
theorem dX1_weighedOf_6 : decode cX1_weighedOf 6 = .ok (.istore 4, 2) := by decide +kernel
theorem dX1_weighedOf_8 : decode cX1_weighedOf 8 = .ok (.ldc 27, 2) := by decide +kernel
theorem dX1_weighedOf_10 : decode cX1_weighedOf 10 = .ok (.istore 5, 2) := by decide +kernel
theorem dX1_weighedOf_12 : decode cX1_weighedOf 12 = .ok (.iload_n 2, 1) := by decide +kernel
theorem dX1_weighedOf_13 : decode cX1_weighedOf 13 = .ok (.istore 6, 2) := by decide +kernel
theorem dX1_weighedOf_15 : decode cX1_weighedOf 15 = .ok (.iload 6, 2) := by decide +kernel
theorem dX1_weighedOf_17 : decode cX1_weighedOf 17 = .ok (.iload_n 3, 1) := by decide +kernel
theorem dX1_weighedOf_18 : decode cX1_weighedOf 18 = .ok (.if_icmp .ge 47, 3) := by decide +kernel
theorem dX1_weighedOf_21 : decode cX1_weighedOf 21 = .ok (.iload_n 2, 1) := by decide +kernel
theorem dX1_weighedOf_22 : decode cX1_weighedOf 22 = .ok (.iload 6, 2) := by decide +kernel
theorem dX1_weighedOf_24 : decode cX1_weighedOf 24 = .ok (.invokestatic 15, 3) := by decide +kernel
theorem dX1_weighedOf_27 : decode cX1_weighedOf 27 = .ok (.iload 4, 2) := by decide +kernel
theorem dX1_weighedOf_29 : decode cX1_weighedOf 29 = .ok (.imul, 1) := by decide +kernel
theorem dX1_weighedOf_30 : decode cX1_weighedOf 30 = .ok (.aload_n 0, 1) := by decide +kernel
theorem dX1_weighedOf_31 : decode cX1_weighedOf 31 = .ok (.iload_n 2, 1) := by decide +kernel
theorem dX1_weighedOf_32 : decode cX1_weighedOf 32 = .ok (.iload 6, 2) := by decide +kernel
theorem dX1_weighedOf_34 : decode cX1_weighedOf 34 = .ok (.invokevirtual 19, 3) := by decide +kernel
theorem dX1_weighedOf_37 : decode cX1_weighedOf 37 = .ok (.iadd, 1) := by decide +kernel
theorem dX1_weighedOf_38 : decode cX1_weighedOf 38 = .ok (.aload_n 0, 1) := by decide +kernel
theorem dX1_weighedOf_39 : decode cX1_weighedOf 39 = .ok (.iload 6, 2) := by decide +kernel
theorem dX1_weighedOf_41 : decode cX1_weighedOf 41 = .ok (.iconst 1, 1) := by decide +kernel
theorem dX1_weighedOf_42 : decode cX1_weighedOf 42 = .ok (.iadd, 1) := by decide +kernel
theorem dX1_weighedOf_43 : decode cX1_weighedOf 43 = .ok (.iload_n 3, 1) := by decide +kernel
theorem dX1_weighedOf_44 : decode cX1_weighedOf 44 = .ok (.invokevirtual 19, 3) := by decide +kernel
theorem dX1_weighedOf_47 : decode cX1_weighedOf 47 = .ok (.iadd, 1) := by decide +kernel
theorem dX1_weighedOf_48 : decode cX1_weighedOf 48 = .ok (.istore 7, 2) := by decide +kernel
theorem dX1_weighedOf_50 : decode cX1_weighedOf 50 = .ok (.iload 5, 2) := by decide +kernel
theorem dX1_weighedOf_52 : decode cX1_weighedOf 52 = .ok (.iload 7, 2) := by decide +kernel
theorem dX1_weighedOf_54 : decode cX1_weighedOf 54 = .ok (.invokestatic 32, 3) := by decide +kernel
theorem dX1_weighedOf_57 : decode cX1_weighedOf 57 = .ok (.istore 5, 2) := by decide +kernel
theorem dX1_weighedOf_59 : decode cX1_weighedOf 59 = .ok (.iinc 6 1, 3) := by decide +kernel
theorem dX1_weighedOf_62 : decode cX1_weighedOf 62 = .ok (.goto (-47), 3) := by decide +kernel
theorem dX1_weighedOf_65 : decode cX1_weighedOf 65 = .ok (.iload 5, 2) := by decide +kernel
theorem dX1_weighedOf_67 : decode cX1_weighedOf 67 = .ok (.ireturn, 1) := by decide +kernel
theorem dX1_worst_0 : decode cX1_worst 0 = .ok (.iconst 1, 1) := by decide +kernel
theorem dX1_worst_1 : decode cX1_worst 1 = .ok (.istore_n 3, 1) := by decide +kernel
theorem dX1_worst_2 : decode cX1_worst 2 = .ok (.iload_n 3, 1) := by decide +kernel
theorem dX1_worst_3 : decode cX1_worst 3 = .ok (.iload_n 2, 1) := by decide +kernel
theorem dX1_worst_4 : decode cX1_worst 4 = .ok (.iload_n 1, 1) := by decide +kernel
theorem dX1_worst_5 : decode cX1_worst 5 = .ok (.isub, 1) := by decide +kernel
theorem dX1_worst_6 : decode cX1_worst 6 = .ok (.if_icmp .gt 51, 3) := by decide +kernel
theorem dX1_worst_9 : decode cX1_worst 9 = .ok (.iload_n 1, 1) := by decide +kernel
theorem dX1_worst_10 : decode cX1_worst 10 = .ok (.istore 4, 2) := by decide +kernel
theorem dX1_worst_12 : decode cX1_worst 12 = .ok (.iload 4, 2) := by decide +kernel
theorem dX1_worst_14 : decode cX1_worst 14 = .ok (.iload_n 3, 1) := by decide +kernel
theorem dX1_worst_15 : decode cX1_worst 15 = .ok (.iadd, 1) := by decide +kernel
theorem dX1_worst_16 : decode cX1_worst 16 = .ok (.iload_n 2, 1) := by decide +kernel
theorem dX1_worst_17 : decode cX1_worst 17 = .ok (.if_icmp .gt 34, 3) := by decide +kernel
theorem dX1_worst_20 : decode cX1_worst 20 = .ok (.aload_n 0, 1) := by decide +kernel
theorem dX1_worst_21 : decode cX1_worst 21 = .ok (.getfield 9, 3) := by decide +kernel
theorem dX1_worst_24 : decode cX1_worst 24 = .ok (.iload 4, 2) := by decide +kernel
theorem dX1_worst_26 : decode cX1_worst 26 = .ok (.bipush 10, 2) := by decide +kernel
theorem dX1_worst_28 : decode cX1_worst 28 = .ok (.imul, 1) := by decide +kernel
theorem dX1_worst_29 : decode cX1_worst 29 = .ok (.iload 4, 2) := by decide +kernel
theorem dX1_worst_31 : decode cX1_worst 31 = .ok (.iadd, 1) := by decide +kernel
theorem dX1_worst_32 : decode cX1_worst 32 = .ok (.iload_n 3, 1) := by decide +kernel
theorem dX1_worst_33 : decode cX1_worst 33 = .ok (.iadd, 1) := by decide +kernel
theorem dX1_worst_34 : decode cX1_worst 34 = .ok (.aload_n 0, 1) := by decide +kernel
theorem dX1_worst_35 : decode cX1_worst 35 = .ok (.iload 4, 2) := by decide +kernel
theorem dX1_worst_37 : decode cX1_worst 37 = .ok (.iload 4, 2) := by decide +kernel
theorem dX1_worst_39 : decode cX1_worst 39 = .ok (.iload_n 3, 1) := by decide +kernel
theorem dX1_worst_40 : decode cX1_worst 40 = .ok (.iadd, 1) := by decide +kernel
theorem dX1_worst_41 : decode cX1_worst 41 = .ok (.invokevirtual 40, 3) := by decide +kernel
theorem dX1_worst_44 : decode cX1_worst 44 = .ok (.iastore, 1) := by decide +kernel
theorem dX1_worst_45 : decode cX1_worst 45 = .ok (.iinc 4 1, 3) := by decide +kernel
theorem dX1_worst_48 : decode cX1_worst 48 = .ok (.goto (-36), 3) := by decide +kernel
theorem dX1_worst_51 : decode cX1_worst 51 = .ok (.iinc 3 1, 3) := by decide +kernel
theorem dX1_worst_54 : decode cX1_worst 54 = .ok (.goto (-52), 3) := by decide +kernel
theorem dX1_worst_57 : decode cX1_worst 57 = .ok (.aload_n 0, 1) := by decide +kernel
theorem dX1_worst_58 : decode cX1_worst 58 = .ok (.iload_n 1, 1) := by decide +kernel
theorem dX1_worst_59 : decode cX1_worst 59 = .ok (.iload_n 2, 1) := by decide +kernel
theorem dX1_worst_60 : decode cX1_worst 60 = .ok (.invokevirtual 19, 3) := by decide +kernel
theorem dX1_worst_63 : decode cX1_worst 63 = .ok (.ireturn, 1) := by decide +kernel
theorem dX1_cut_0 : decode cX1_cut 0 = .ok (.aload_n 0, 1) := by decide +kernel
theorem dX1_cut_1 : decode cX1_cut 1 = .ok (.iload_n 1, 1) := by decide +kernel
theorem dX1_cut_2 : decode cX1_cut 2 = .ok (.iload_n 2, 1) := by decide +kernel
theorem dX1_cut_3 : decode cX1_cut 3 = .ok (.invokevirtual 43, 3) := by decide +kernel
theorem dX1_cut_6 : decode cX1_cut 6 = .ok (.istore_n 3, 1) := by decide +kernel
theorem dX1_cut_7 : decode cX1_cut 7 = .ok (.iload_n 1, 1) := by decide +kernel
theorem dX1_cut_8 : decode cX1_cut 8 = .ok (.istore 4, 2) := by decide +kernel
theorem dX1_cut_10 : decode cX1_cut 10 = .ok (.iload 4, 2) := by decide +kernel
theorem dX1_cut_12 : decode cX1_cut 12 = .ok (.iload_n 2, 1) := by decide +kernel
theorem dX1_cut_13 : decode cX1_cut 13 = .ok (.if_icmp .ge 24, 3) := by decide +kernel
theorem dX1_cut_16 : decode cX1_cut 16 = .ok (.aload_n 0, 1) := by decide +kernel
theorem dX1_cut_17 : decode cX1_cut 17 = .ok (.iload_n 1, 1) := by decide +kernel
theorem dX1_cut_18 : decode cX1_cut 18 = .ok (.iload_n 2, 1) := by decide +kernel
theorem dX1_cut_19 : decode cX1_cut 19 = .ok (.iload 4, 2) := by decide +kernel
theorem dX1_cut_21 : decode cX1_cut 21 = .ok (.invokevirtual 28, 3) := by decide +kernel
theorem dX1_cut_24 : decode cX1_cut 24 = .ok (.iload_n 3, 1) := by decide +kernel
theorem dX1_cut_25 : decode cX1_cut 25 = .ok (.if_icmp .ne 6, 3) := by decide +kernel
theorem dX1_cut_28 : decode cX1_cut 28 = .ok (.iload 4, 2) := by decide +kernel
theorem dX1_cut_30 : decode cX1_cut 30 = .ok (.ireturn, 1) := by decide +kernel
theorem dX1_cut_31 : decode cX1_cut 31 = .ok (.iinc 4 1, 3) := by decide +kernel
theorem dX1_cut_34 : decode cX1_cut 34 = .ok (.goto (-24), 3) := by decide +kernel
theorem dX1_cut_37 : decode cX1_cut 37 = .ok (.bipush (-4), 2) := by decide +kernel
theorem dX1_cut_39 : decode cX1_cut 39 = .ok (.ireturn, 1) := by decide +kernel
theorem dX1_weighed_0 : decode cX1_weighed 0 = .ok (.iconst 1, 1) := by decide +kernel
theorem dX1_weighed_1 : decode cX1_weighed 1 = .ok (.istore 4, 2) := by decide +kernel
theorem dX1_weighed_3 : decode cX1_weighed 3 = .ok (.iload 4, 2) := by decide +kernel
theorem dX1_weighed_5 : decode cX1_weighed 5 = .ok (.iload_n 3, 1) := by decide +kernel
theorem dX1_weighed_6 : decode cX1_weighed 6 = .ok (.iload_n 2, 1) := by decide +kernel
theorem dX1_weighed_7 : decode cX1_weighed 7 = .ok (.isub, 1) := by decide +kernel
theorem dX1_weighed_8 : decode cX1_weighed 8 = .ok (.if_icmp .gt 55, 3) := by decide +kernel
theorem dX1_weighed_11 : decode cX1_weighed 11 = .ok (.iload_n 2, 1) := by decide +kernel
theorem dX1_weighed_12 : decode cX1_weighed 12 = .ok (.istore 5, 2) := by decide +kernel
theorem dX1_weighed_14 : decode cX1_weighed 14 = .ok (.iload 5, 2) := by decide +kernel
theorem dX1_weighed_16 : decode cX1_weighed 16 = .ok (.iload 4, 2) := by decide +kernel
theorem dX1_weighed_18 : decode cX1_weighed 18 = .ok (.iadd, 1) := by decide +kernel
theorem dX1_weighed_19 : decode cX1_weighed 19 = .ok (.iload_n 3, 1) := by decide +kernel
theorem dX1_weighed_20 : decode cX1_weighed 20 = .ok (.if_icmp .gt 37, 3) := by decide +kernel
theorem dX1_weighed_23 : decode cX1_weighed 23 = .ok (.aload_n 0, 1) := by decide +kernel
theorem dX1_weighed_24 : decode cX1_weighed 24 = .ok (.getfield 9, 3) := by decide +kernel
theorem dX1_weighed_27 : decode cX1_weighed 27 = .ok (.iload 5, 2) := by decide +kernel
theorem dX1_weighed_29 : decode cX1_weighed 29 = .ok (.bipush 10, 2) := by decide +kernel
theorem dX1_weighed_31 : decode cX1_weighed 31 = .ok (.imul, 1) := by decide +kernel
theorem dX1_weighed_32 : decode cX1_weighed 32 = .ok (.iload 5, 2) := by decide +kernel
theorem dX1_weighed_34 : decode cX1_weighed 34 = .ok (.iadd, 1) := by decide +kernel
theorem dX1_weighed_35 : decode cX1_weighed 35 = .ok (.iload 4, 2) := by decide +kernel
theorem dX1_weighed_37 : decode cX1_weighed 37 = .ok (.iadd, 1) := by decide +kernel
theorem dX1_weighed_38 : decode cX1_weighed 38 = .ok (.aload_n 0, 1) := by decide +kernel
theorem dX1_weighed_39 : decode cX1_weighed 39 = .ok (.aload_n 1, 1) := by decide +kernel
theorem dX1_weighed_40 : decode cX1_weighed 40 = .ok (.iload 5, 2) := by decide +kernel
theorem dX1_weighed_42 : decode cX1_weighed 42 = .ok (.iload 5, 2) := by decide +kernel
theorem dX1_weighed_44 : decode cX1_weighed 44 = .ok (.iload 4, 2) := by decide +kernel
theorem dX1_weighed_46 : decode cX1_weighed 46 = .ok (.iadd, 1) := by decide +kernel
theorem dX1_weighed_47 : decode cX1_weighed 47 = .ok (.invokevirtual 46, 3) := by decide +kernel
theorem dX1_weighed_50 : decode cX1_weighed 50 = .ok (.iastore, 1) := by decide +kernel
theorem dX1_weighed_51 : decode cX1_weighed 51 = .ok (.iinc 5 1, 3) := by decide +kernel
theorem dX1_weighed_54 : decode cX1_weighed 54 = .ok (.goto (-40), 3) := by decide +kernel
theorem dX1_weighed_57 : decode cX1_weighed 57 = .ok (.iinc 4 1, 3) := by decide +kernel
theorem dX1_weighed_60 : decode cX1_weighed 60 = .ok (.goto (-57), 3) := by decide +kernel
theorem dX1_weighed_63 : decode cX1_weighed 63 = .ok (.aload_n 0, 1) := by decide +kernel
theorem dX1_weighed_64 : decode cX1_weighed 64 = .ok (.iload_n 2, 1) := by decide +kernel
theorem dX1_weighed_65 : decode cX1_weighed 65 = .ok (.iload_n 3, 1) := by decide +kernel
theorem dX1_weighed_66 : decode cX1_weighed 66 = .ok (.invokevirtual 19, 3) := by decide +kernel
theorem dX1_weighed_69 : decode cX1_weighed 69 = .ok (.ireturn, 1) := by decide +kernel
theorem dX2_init_0 : decode cX2_init 0 = .ok (.aload_n 0, 1) := by decide +kernel
theorem dX2_init_1 : decode cX2_init 1 = .ok (.invokespecial 3, 3) := by decide +kernel
theorem dX2_init_4 : decode cX2_init 4 = .ok (.aload_n 0, 1) := by decide +kernel
theorem dX2_init_5 : decode cX2_init 5 = .ok (.bipush 10, 2) := by decide +kernel
theorem dX2_init_7 : decode cX2_init 7 = .ok (.newarray .int, 2) := by decide +kernel
theorem dX2_init_9 : decode cX2_init 9 = .ok (.putfield 9, 3) := by decide +kernel
theorem dX2_init_12 : decode cX2_init 12 = .ok (.aload_n 0, 1) := by decide +kernel
theorem dX2_init_13 : decode cX2_init 13 = .ok (.bipush 10, 2) := by decide +kernel
theorem dX2_init_15 : decode cX2_init 15 = .ok (.newarray .int, 2) := by decide +kernel
theorem dX2_init_17 : decode cX2_init 17 = .ok (.putfield 15, 3) := by decide +kernel
theorem dX2_init_20 : decode cX2_init 20 = .ok (.aload_n 0, 1) := by decide +kernel
theorem dX2_init_21 : decode cX2_init 21 = .ok (.bipush 10, 2) := by decide +kernel
theorem dX2_init_23 : decode cX2_init 23 = .ok (.newarray .int, 2) := by decide +kernel
theorem dX2_init_25 : decode cX2_init 25 = .ok (.putfield 18, 3) := by decide +kernel
theorem dX2_init_28 : decode cX2_init 28 = .ok (.aload_n 0, 1) := by decide +kernel
theorem dX2_init_29 : decode cX2_init 29 = .ok (.iconst 1, 1) := by decide +kernel
theorem dX2_init_30 : decode cX2_init 30 = .ok (.putfield 21, 3) := by decide +kernel
theorem dX2_init_33 : decode cX2_init 33 = .ok (.return_, 1) := by decide +kernel
theorem dX2_becomes_0 : decode cX2_becomes 0 = .ok (.aload_n 1, 1) := by decide +kernel
theorem dX2_becomes_1 : decode cX2_becomes 1 = .ok (.getfield 9, 3) := by decide +kernel
theorem dX2_becomes_4 : decode cX2_becomes 4 = .ok (.iconst 0, 1) := by decide +kernel
theorem dX2_becomes_5 : decode cX2_becomes 5 = .ok (.aload_n 0, 1) := by decide +kernel
theorem dX2_becomes_6 : decode cX2_becomes 6 = .ok (.getfield 9, 3) := by decide +kernel
theorem dX2_becomes_9 : decode cX2_becomes 9 = .ok (.iconst 0, 1) := by decide +kernel
theorem dX2_becomes_10 : decode cX2_becomes 10 = .ok (.bipush 10, 2) := by decide +kernel
theorem dX2_becomes_12 : decode cX2_becomes 12 = .ok (.invokestatic 25, 3) := by decide +kernel
theorem dX2_becomes_15 : decode cX2_becomes 15 = .ok (.aload_n 1, 1) := by decide +kernel
theorem dX2_becomes_16 : decode cX2_becomes 16 = .ok (.getfield 15, 3) := by decide +kernel
theorem dX2_becomes_19 : decode cX2_becomes 19 = .ok (.iconst 0, 1) := by decide +kernel
theorem dX2_becomes_20 : decode cX2_becomes 20 = .ok (.aload_n 0, 1) := by decide +kernel
theorem dX2_becomes_21 : decode cX2_becomes 21 = .ok (.getfield 15, 3) := by decide +kernel
theorem dX2_becomes_24 : decode cX2_becomes 24 = .ok (.iconst 0, 1) := by decide +kernel
theorem dX2_becomes_25 : decode cX2_becomes 25 = .ok (.bipush 10, 2) := by decide +kernel
theorem dX2_becomes_27 : decode cX2_becomes 27 = .ok (.invokestatic 25, 3) := by decide +kernel
theorem dX2_becomes_30 : decode cX2_becomes 30 = .ok (.aload_n 1, 1) := by decide +kernel
theorem dX2_becomes_31 : decode cX2_becomes 31 = .ok (.getfield 18, 3) := by decide +kernel
theorem dX2_becomes_34 : decode cX2_becomes 34 = .ok (.iconst 0, 1) := by decide +kernel
theorem dX2_becomes_35 : decode cX2_becomes 35 = .ok (.aload_n 0, 1) := by decide +kernel
theorem dX2_becomes_36 : decode cX2_becomes 36 = .ok (.getfield 18, 3) := by decide +kernel
theorem dX2_becomes_39 : decode cX2_becomes 39 = .ok (.iconst 0, 1) := by decide +kernel
theorem dX2_becomes_40 : decode cX2_becomes 40 = .ok (.bipush 10, 2) := by decide +kernel
theorem dX2_becomes_42 : decode cX2_becomes 42 = .ok (.invokestatic 25, 3) := by decide +kernel
theorem dX2_becomes_45 : decode cX2_becomes 45 = .ok (.aload_n 0, 1) := by decide +kernel
theorem dX2_becomes_46 : decode cX2_becomes 46 = .ok (.aload_n 1, 1) := by decide +kernel
theorem dX2_becomes_47 : decode cX2_becomes 47 = .ok (.getfield 31, 3) := by decide +kernel
theorem dX2_becomes_50 : decode cX2_becomes 50 = .ok (.putfield 31, 3) := by decide +kernel
theorem dX2_becomes_53 : decode cX2_becomes 53 = .ok (.aload_n 0, 1) := by decide +kernel
theorem dX2_becomes_54 : decode cX2_becomes 54 = .ok (.aload_n 1, 1) := by decide +kernel
theorem dX2_becomes_55 : decode cX2_becomes 55 = .ok (.getfield 34, 3) := by decide +kernel
theorem dX2_becomes_58 : decode cX2_becomes 58 = .ok (.putfield 34, 3) := by decide +kernel
theorem dX2_becomes_61 : decode cX2_becomes 61 = .ok (.aload_n 0, 1) := by decide +kernel
theorem dX2_becomes_62 : decode cX2_becomes 62 = .ok (.aload_n 1, 1) := by decide +kernel
theorem dX2_becomes_63 : decode cX2_becomes 63 = .ok (.getfield 37, 3) := by decide +kernel
theorem dX2_becomes_66 : decode cX2_becomes 66 = .ok (.putfield 37, 3) := by decide +kernel
theorem dX2_becomes_69 : decode cX2_becomes 69 = .ok (.aload_n 0, 1) := by decide +kernel
theorem dX2_becomes_70 : decode cX2_becomes 70 = .ok (.aload_n 1, 1) := by decide +kernel
theorem dX2_becomes_71 : decode cX2_becomes 71 = .ok (.getfield 21, 3) := by decide +kernel
theorem dX2_becomes_74 : decode cX2_becomes 74 = .ok (.putfield 21, 3) := by decide +kernel
theorem dX2_becomes_77 : decode cX2_becomes 77 = .ok (.aload_n 0, 1) := by decide +kernel
theorem dX2_becomes_78 : decode cX2_becomes 78 = .ok (.aload_n 1, 1) := by decide +kernel
theorem dX2_becomes_79 : decode cX2_becomes 79 = .ok (.getfield 40, 3) := by decide +kernel
theorem dX2_becomes_82 : decode cX2_becomes 82 = .ok (.putfield 40, 3) := by decide +kernel
theorem dX2_becomes_85 : decode cX2_becomes 85 = .ok (.aload_n 0, 1) := by decide +kernel
theorem dX2_becomes_86 : decode cX2_becomes 86 = .ok (.aload_n 1, 1) := by decide +kernel
theorem dX2_becomes_87 : decode cX2_becomes 87 = .ok (.getfield 43, 3) := by decide +kernel
theorem dX2_becomes_90 : decode cX2_becomes 90 = .ok (.putfield 43, 3) := by decide +kernel
theorem dX2_becomes_93 : decode cX2_becomes 93 = .ok (.aload_n 0, 1) := by decide +kernel
theorem dX2_becomes_94 : decode cX2_becomes 94 = .ok (.aload_n 1, 1) := by decide +kernel
theorem dX2_becomes_95 : decode cX2_becomes 95 = .ok (.getfield 46, 3) := by decide +kernel
theorem dX2_becomes_98 : decode cX2_becomes 98 = .ok (.putfield 46, 3) := by decide +kernel
theorem dX2_becomes_101 : decode cX2_becomes 101 = .ok (.aload_n 0, 1) := by decide +kernel
theorem dX2_becomes_102 : decode cX2_becomes 102 = .ok (.aload_n 1, 1) := by decide +kernel
theorem dX2_becomes_103 : decode cX2_becomes 103 = .ok (.getfield 49, 3) := by decide +kernel
theorem dX2_becomes_106 : decode cX2_becomes 106 = .ok (.putfield 49, 3) := by decide +kernel
theorem dX2_becomes_109 : decode cX2_becomes 109 = .ok (.return_, 1) := by decide +kernel
theorem dX2_has_0 : decode cX2_has 0 = .ok (.iload_n 1, 1) := by decide +kernel
theorem dX2_has_1 : decode cX2_has 1 = .ok (.ifCond .lt 15, 3) := by decide +kernel
theorem dX2_has_4 : decode cX2_has 4 = .ok (.iload_n 1, 1) := by decide +kernel
theorem dX2_has_5 : decode cX2_has 5 = .ok (.aload_n 0, 1) := by decide +kernel
theorem dX2_has_6 : decode cX2_has 6 = .ok (.getfield 31, 3) := by decide +kernel
theorem dX2_has_9 : decode cX2_has 9 = .ok (.if_icmp .ge 7, 3) := by decide +kernel
theorem dX2_has_12 : decode cX2_has 12 = .ok (.iconst 1, 1) := by decide +kernel
theorem dX2_has_13 : decode cX2_has 13 = .ok (.goto 4, 3) := by decide +kernel
theorem dX2_has_16 : decode cX2_has 16 = .ok (.iconst 0, 1) := by decide +kernel
theorem dX2_has_17 : decode cX2_has 17 = .ok (.ireturn, 1) := by decide +kernel
theorem dX2_isStretch_0 : decode cX2_isStretch 0 = .ok (.aload_n 0, 1) := by decide +kernel
theorem dX2_isStretch_1 : decode cX2_isStretch 1 = .ok (.iload_n 1, 1) := by decide +kernel
theorem dX2_isStretch_2 : decode cX2_isStretch 2 = .ok (.invokevirtual 52, 3) := by decide +kernel
theorem dX2_isStretch_5 : decode cX2_isStretch 5 = .ok (.ifCond .eq 20, 3) := by decide +kernel
theorem dX2_isStretch_8 : decode cX2_isStretch 8 = .ok (.aload_n 0, 1) := by decide +kernel
theorem dX2_isStretch_9 : decode cX2_isStretch 9 = .ok (.iload_n 2, 1) := by decide +kernel
theorem dX2_isStretch_10 : decode cX2_isStretch 10 = .ok (.invokevirtual 52, 3) := by decide +kernel
theorem dX2_isStretch_13 : decode cX2_isStretch 13 = .ok (.ifCond .eq 12, 3) := by decide +kernel
theorem dX2_isStretch_16 : decode cX2_isStretch 16 = .ok (.iload_n 1, 1) := by decide +kernel
theorem dX2_isStretch_17 : decode cX2_isStretch 17 = .ok (.iload_n 2, 1) := by decide +kernel
theorem dX2_isStretch_18 : decode cX2_isStretch 18 = .ok (.if_icmp .gt 7, 3) := by decide +kernel
theorem dX2_isStretch_21 : decode cX2_isStretch 21 = .ok (.iconst 1, 1) := by decide +kernel
theorem dX2_isStretch_22 : decode cX2_isStretch 22 = .ok (.goto 4, 3) := by decide +kernel
theorem dX2_isStretch_25 : decode cX2_isStretch 25 = .ok (.iconst 0, 1) := by decide +kernel
theorem dX2_isStretch_26 : decode cX2_isStretch 26 = .ok (.ireturn, 1) := by decide +kernel
theorem dX2_isSet_0 : decode cX2_isSet 0 = .ok (.iload_n 1, 1) := by decide +kernel
theorem dX2_isSet_1 : decode cX2_isSet 1 = .ok (.ifCond .lt 17, 3) := by decide +kernel
theorem dX2_isSet_4 : decode cX2_isSet 4 = .ok (.iload_n 1, 1) := by decide +kernel
theorem dX2_isSet_5 : decode cX2_isSet 5 = .ok (.iconst 1, 1) := by decide +kernel
theorem dX2_isSet_6 : decode cX2_isSet 6 = .ok (.aload_n 0, 1) := by decide +kernel
theorem dX2_isSet_7 : decode cX2_isSet 7 = .ok (.getfield 31, 3) := by decide +kernel
theorem dX2_isSet_10 : decode cX2_isSet 10 = .ok (.ishl, 1) := by decide +kernel
theorem dX2_isSet_11 : decode cX2_isSet 11 = .ok (.if_icmp .ge 7, 3) := by decide +kernel
theorem dX2_isSet_14 : decode cX2_isSet 14 = .ok (.iconst 1, 1) := by decide +kernel
theorem dX2_isSet_15 : decode cX2_isSet 15 = .ok (.goto 4, 3) := by decide +kernel
theorem dX2_isSet_18 : decode cX2_isSet 18 = .ok (.iconst 0, 1) := by decide +kernel
theorem dX2_isSet_19 : decode cX2_isSet 19 = .ok (.ireturn, 1) := by decide +kernel
theorem dX2_isFull_0 : decode cX2_isFull 0 = .ok (.aload_n 0, 1) := by decide +kernel
theorem dX2_isFull_1 : decode cX2_isFull 1 = .ok (.getfield 31, 3) := by decide +kernel
theorem dX2_isFull_4 : decode cX2_isFull 4 = .ok (.bipush 10, 2) := by decide +kernel
theorem dX2_isFull_6 : decode cX2_isFull 6 = .ok (.if_icmp .lt 7, 3) := by decide +kernel
theorem dX2_isFull_9 : decode cX2_isFull 9 = .ok (.iconst 1, 1) := by decide +kernel
theorem dX2_isFull_10 : decode cX2_isFull 10 = .ok (.goto 4, 3) := by decide +kernel
theorem dX2_isFull_13 : decode cX2_isFull 13 = .ok (.iconst 0, 1) := by decide +kernel
theorem dX2_isFull_14 : decode cX2_isFull 14 = .ok (.ireturn, 1) := by decide +kernel
theorem dX2_isWhole_0 : decode cX2_isWhole 0 = .ok (.aload_n 0, 1) := by decide +kernel
theorem dX2_isWhole_1 : decode cX2_isWhole 1 = .ok (.getfield 34, 3) := by decide +kernel
theorem dX2_isWhole_4 : decode cX2_isWhole 4 = .ok (.iload_n 1, 1) := by decide +kernel
theorem dX2_isWhole_5 : decode cX2_isWhole 5 = .ok (.ishr, 1) := by decide +kernel
theorem dX2_isWhole_6 : decode cX2_isWhole 6 = .ok (.iconst 1, 1) := by decide +kernel
theorem dX2_isWhole_7 : decode cX2_isWhole 7 = .ok (.iand, 1) := by decide +kernel
theorem dX2_isWhole_8 : decode cX2_isWhole 8 = .ok (.iconst 1, 1) := by decide +kernel
theorem dX2_isWhole_9 : decode cX2_isWhole 9 = .ok (.if_icmp .ne 7, 3) := by decide +kernel
theorem dX2_isWhole_12 : decode cX2_isWhole 12 = .ok (.iconst 1, 1) := by decide +kernel
theorem dX2_isWhole_13 : decode cX2_isWhole 13 = .ok (.goto 4, 3) := by decide +kernel
theorem dX2_isWhole_16 : decode cX2_isWhole 16 = .ok (.iconst 0, 1) := by decide +kernel
theorem dX2_isWhole_17 : decode cX2_isWhole 17 = .ok (.ireturn, 1) := by decide +kernel
theorem dX2_isSeated_0 : decode cX2_isSeated 0 = .ok (.aload_n 0, 1) := by decide +kernel
theorem dX2_isSeated_1 : decode cX2_isSeated 1 = .ok (.getfield 37, 3) := by decide +kernel
theorem dX2_isSeated_4 : decode cX2_isSeated 4 = .ok (.iload_n 1, 1) := by decide +kernel
theorem dX2_isSeated_5 : decode cX2_isSeated 5 = .ok (.ishr, 1) := by decide +kernel
theorem dX2_isSeated_6 : decode cX2_isSeated 6 = .ok (.iconst 1, 1) := by decide +kernel
theorem dX2_isSeated_7 : decode cX2_isSeated 7 = .ok (.iand, 1) := by decide +kernel
theorem dX2_isSeated_8 : decode cX2_isSeated 8 = .ok (.iconst 1, 1) := by decide +kernel
theorem dX2_isSeated_9 : decode cX2_isSeated 9 = .ok (.if_icmp .ne 7, 3) := by decide +kernel
theorem dX2_isSeated_12 : decode cX2_isSeated 12 = .ok (.iconst 1, 1) := by decide +kernel
theorem dX2_isSeated_13 : decode cX2_isSeated 13 = .ok (.goto 4, 3) := by decide +kernel
theorem dX2_isSeated_16 : decode cX2_isSeated 16 = .ok (.iconst 0, 1) := by decide +kernel
theorem dX2_isSeated_17 : decode cX2_isSeated 17 = .ok (.ireturn, 1) := by decide +kernel
theorem dX2_lifeOf_0 : decode cX2_lifeOf 0 = .ok (.aload_n 0, 1) := by decide +kernel
theorem dX2_lifeOf_1 : decode cX2_lifeOf 1 = .ok (.getfield 9, 3) := by decide +kernel
theorem dX2_lifeOf_4 : decode cX2_lifeOf 4 = .ok (.iload_n 1, 1) := by decide +kernel
theorem dX2_lifeOf_5 : decode cX2_lifeOf 5 = .ok (.iaload, 1) := by decide +kernel
theorem dX2_lifeOf_6 : decode cX2_lifeOf 6 = .ok (.aload_n 0, 1) := by decide +kernel
theorem dX2_lifeOf_7 : decode cX2_lifeOf 7 = .ok (.getfield 15, 3) := by decide +kernel
theorem dX2_lifeOf_10 : decode cX2_lifeOf 10 = .ok (.iload_n 1, 1) := by decide +kernel
theorem dX2_lifeOf_11 : decode cX2_lifeOf 11 = .ok (.iaload, 1) := by decide +kernel
theorem dX2_lifeOf_12 : decode cX2_lifeOf 12 = .ok (.invokestatic 56, 3) := by decide +kernel
theorem dX2_lifeOf_15 : decode cX2_lifeOf 15 = .ok (.ireturn, 1) := by decide +kernel
theorem dX2_isBrown_0 : decode cX2_isBrown 0 = .ok (.aload_n 0, 1) := by decide +kernel
theorem dX2_isBrown_1 : decode cX2_isBrown 1 = .ok (.getfield 18, 3) := by decide +kernel
theorem dX2_isBrown_4 : decode cX2_isBrown 4 = .ok (.iload_n 1, 1) := by decide +kernel
theorem dX2_isBrown_5 : decode cX2_isBrown 5 = .ok (.iaload, 1) := by decide +kernel
theorem dX2_isBrown_6 : decode cX2_isBrown 6 = .ok (.aload_n 0, 1) := by decide +kernel
theorem dX2_isBrown_7 : decode cX2_isBrown 7 = .ok (.iload_n 1, 1) := by decide +kernel
theorem dX2_isBrown_8 : decode cX2_isBrown 8 = .ok (.invokevirtual 62, 3) := by decide +kernel
theorem dX2_isBrown_11 : decode cX2_isBrown 11 = .ok (.iconst 2, 1) := by decide +kernel
theorem dX2_isBrown_12 : decode cX2_isBrown 12 = .ok (.idiv, 1) := by decide +kernel
theorem dX2_isBrown_13 : decode cX2_isBrown 13 = .ok (.if_icmp .lt 7, 3) := by decide +kernel
theorem dX2_isBrown_16 : decode cX2_isBrown 16 = .ok (.iconst 1, 1) := by decide +kernel
theorem dX2_isBrown_17 : decode cX2_isBrown 17 = .ok (.goto 4, 3) := by decide +kernel
theorem dX2_isBrown_20 : decode cX2_isBrown 20 = .ok (.iconst 0, 1) := by decide +kernel
theorem dX2_isBrown_21 : decode cX2_isBrown 21 = .ok (.ireturn, 1) := by decide +kernel
theorem dX2_oddsOf_0 : decode cX2_oddsOf 0 = .ok (.aload_n 0, 1) := by decide +kernel
theorem dX2_oddsOf_1 : decode cX2_oddsOf 1 = .ok (.getfield 18, 3) := by decide +kernel
theorem dX2_oddsOf_4 : decode cX2_oddsOf 4 = .ok (.iload_n 1, 1) := by decide +kernel
theorem dX2_oddsOf_5 : decode cX2_oddsOf 5 = .ok (.iaload, 1) := by decide +kernel
theorem dX2_oddsOf_6 : decode cX2_oddsOf 6 = .ok (.iconst 1, 1) := by decide +kernel
theorem dX2_oddsOf_7 : decode cX2_oddsOf 7 = .ok (.iadd, 1) := by decide +kernel
theorem dX2_oddsOf_8 : decode cX2_oddsOf 8 = .ok (.ireturn, 1) := by decide +kernel
theorem dX2_oddsOf__0 : decode cX2_oddsOf_ 0 = .ok (.iconst 0, 1) := by decide +kernel
theorem dX2_oddsOf__1 : decode cX2_oddsOf_ 1 = .ok (.istore_n 3, 1) := by decide +kernel
theorem dX2_oddsOf__2 : decode cX2_oddsOf_ 2 = .ok (.iload_n 1, 1) := by decide +kernel
theorem dX2_oddsOf__3 : decode cX2_oddsOf_ 3 = .ok (.istore 4, 2) := by decide +kernel
theorem dX2_oddsOf__5 : decode cX2_oddsOf_ 5 = .ok (.iload 4, 2) := by decide +kernel
theorem dX2_oddsOf__7 : decode cX2_oddsOf_ 7 = .ok (.iload_n 2, 1) := by decide +kernel
theorem dX2_oddsOf__8 : decode cX2_oddsOf_ 8 = .ok (.if_icmp .gt 18, 3) := by decide +kernel
theorem dX2_oddsOf__11 : decode cX2_oddsOf_ 11 = .ok (.iload_n 3, 1) := by decide +kernel
theorem dX2_oddsOf__12 : decode cX2_oddsOf_ 12 = .ok (.aload_n 0, 1) := by decide +kernel
theorem dX2_oddsOf__13 : decode cX2_oddsOf_ 13 = .ok (.iload 4, 2) := by decide +kernel
theorem dX2_oddsOf__15 : decode cX2_oddsOf_ 15 = .ok (.invokevirtual 66, 3) := by decide +kernel
theorem dX2_oddsOf__18 : decode cX2_oddsOf_ 18 = .ok (.iadd, 1) := by decide +kernel
theorem dX2_oddsOf__19 : decode cX2_oddsOf_ 19 = .ok (.istore_n 3, 1) := by decide +kernel
theorem dX2_oddsOf__20 : decode cX2_oddsOf_ 20 = .ok (.iinc 4 1, 3) := by decide +kernel
theorem dX2_oddsOf__23 : decode cX2_oddsOf_ 23 = .ok (.goto (-18), 3) := by decide +kernel
theorem dX2_oddsOf__26 : decode cX2_oddsOf_ 26 = .ok (.iload_n 3, 1) := by decide +kernel
theorem dX2_oddsOf__27 : decode cX2_oddsOf_ 27 = .ok (.ireturn, 1) := by decide +kernel
theorem dX2_hang_0 : decode cX2_hang 0 = .ok (.aload_n 0, 1) := by decide +kernel
theorem dX2_hang_1 : decode cX2_hang 1 = .ok (.invokevirtual 69, 3) := by decide +kernel
theorem dX2_hang_4 : decode cX2_hang 4 = .ok (.ifCond .eq 4, 3) := by decide +kernel
theorem dX2_hang_7 : decode cX2_hang 7 = .ok (.return_, 1) := by decide +kernel
theorem dX2_hang_8 : decode cX2_hang 8 = .ok (.aload_n 0, 1) := by decide +kernel
theorem dX2_hang_9 : decode cX2_hang 9 = .ok (.dup, 1) := by decide +kernel
theorem dX2_hang_10 : decode cX2_hang 10 = .ok (.getfield 31, 3) := by decide +kernel
theorem dX2_hang_13 : decode cX2_hang 13 = .ok (.iconst 1, 1) := by decide +kernel
theorem dX2_hang_14 : decode cX2_hang 14 = .ok (.iadd, 1) := by decide +kernel
theorem dX2_hang_15 : decode cX2_hang 15 = .ok (.putfield 31, 3) := by decide +kernel
theorem dX2_hang_18 : decode cX2_hang 18 = .ok (.aload_n 0, 1) := by decide +kernel
theorem dX2_hang_19 : decode cX2_hang 19 = .ok (.aload_n 0, 1) := by decide +kernel
theorem dX2_hang_20 : decode cX2_hang 20 = .ok (.getfield 31, 3) := by decide +kernel
theorem dX2_hang_23 : decode cX2_hang 23 = .ok (.iconst 1, 1) := by decide +kernel
theorem dX2_hang_24 : decode cX2_hang 24 = .ok (.isub, 1) := by decide +kernel
theorem dX2_hang_25 : decode cX2_hang 25 = .ok (.iload_n 1, 1) := by decide +kernel
theorem dX2_hang_26 : decode cX2_hang 26 = .ok (.iload_n 2, 1) := by decide +kernel
theorem dX2_hang_27 : decode cX2_hang 27 = .ok (.invokevirtual 73, 3) := by decide +kernel
theorem dX2_hang_30 : decode cX2_hang 30 = .ok (.return_, 1) := by decide +kernel
theorem dX2_renew_0 : decode cX2_renew 0 = .ok (.aload_n 0, 1) := by decide +kernel
theorem dX2_renew_1 : decode cX2_renew 1 = .ok (.getfield 9, 3) := by decide +kernel
theorem dX2_renew_4 : decode cX2_renew 4 = .ok (.iload_n 1, 1) := by decide +kernel
theorem dX2_renew_5 : decode cX2_renew 5 = .ok (.iload_n 2, 1) := by decide +kernel
theorem dX2_renew_6 : decode cX2_renew 6 = .ok (.iastore, 1) := by decide +kernel
theorem dX2_renew_7 : decode cX2_renew 7 = .ok (.aload_n 0, 1) := by decide +kernel
theorem dX2_renew_8 : decode cX2_renew 8 = .ok (.getfield 15, 3) := by decide +kernel
theorem dX2_renew_11 : decode cX2_renew 11 = .ok (.iload_n 1, 1) := by decide +kernel
theorem dX2_renew_12 : decode cX2_renew 12 = .ok (.iload_n 3, 1) := by decide +kernel
theorem dX2_renew_13 : decode cX2_renew 13 = .ok (.iastore, 1) := by decide +kernel
theorem dX2_renew_14 : decode cX2_renew 14 = .ok (.aload_n 0, 1) := by decide +kernel
theorem dX2_renew_15 : decode cX2_renew 15 = .ok (.getfield 18, 3) := by decide +kernel
theorem dX2_renew_18 : decode cX2_renew 18 = .ok (.iload_n 1, 1) := by decide +kernel
theorem dX2_renew_19 : decode cX2_renew 19 = .ok (.iconst 0, 1) := by decide +kernel
theorem dX2_renew_20 : decode cX2_renew 20 = .ok (.iastore, 1) := by decide +kernel
theorem dX2_renew_21 : decode cX2_renew 21 = .ok (.aload_n 0, 1) := by decide +kernel
theorem dX2_renew_22 : decode cX2_renew 22 = .ok (.dup, 1) := by decide +kernel
theorem dX2_renew_23 : decode cX2_renew 23 = .ok (.getfield 34, 3) := by decide +kernel
theorem dX2_renew_26 : decode cX2_renew 26 = .ok (.iconst 1, 1) := by decide +kernel
theorem dX2_renew_27 : decode cX2_renew 27 = .ok (.iload_n 1, 1) := by decide +kernel
theorem dX2_renew_28 : decode cX2_renew 28 = .ok (.ishl, 1) := by decide +kernel
theorem dX2_renew_29 : decode cX2_renew 29 = .ok (.ior, 1) := by decide +kernel
theorem dX2_renew_30 : decode cX2_renew 30 = .ok (.putfield 34, 3) := by decide +kernel
theorem dX2_renew_33 : decode cX2_renew 33 = .ok (.aload_n 0, 1) := by decide +kernel
theorem dX2_renew_34 : decode cX2_renew 34 = .ok (.dup, 1) := by decide +kernel
theorem dX2_renew_35 : decode cX2_renew 35 = .ok (.getfield 37, 3) := by decide +kernel
theorem dX2_renew_38 : decode cX2_renew 38 = .ok (.iconst 1, 1) := by decide +kernel
theorem dX2_renew_39 : decode cX2_renew 39 = .ok (.iload_n 1, 1) := by decide +kernel
theorem dX2_renew_40 : decode cX2_renew 40 = .ok (.ishl, 1) := by decide +kernel
theorem dX2_renew_41 : decode cX2_renew 41 = .ok (.ior, 1) := by decide +kernel
theorem dX2_renew_42 : decode cX2_renew 42 = .ok (.putfield 37, 3) := by decide +kernel
theorem dX2_renew_45 : decode cX2_renew 45 = .ok (.return_, 1) := by decide +kernel
theorem dX2_breakOrMend_0 : decode cX2_breakOrMend 0 = .ok (.aload_n 0, 1) := by decide +kernel
theorem dX2_breakOrMend_1 : decode cX2_breakOrMend 1 = .ok (.dup, 1) := by decide +kernel
theorem dX2_breakOrMend_2 : decode cX2_breakOrMend 2 = .ok (.getfield 34, 3) := by decide +kernel
theorem dX2_breakOrMend_5 : decode cX2_breakOrMend 5 = .ok (.iconst 1, 1) := by decide +kernel
theorem dX2_breakOrMend_6 : decode cX2_breakOrMend 6 = .ok (.iload_n 1, 1) := by decide +kernel
theorem dX2_breakOrMend_7 : decode cX2_breakOrMend 7 = .ok (.ishl, 1) := by decide +kernel
theorem dX2_breakOrMend_8 : decode cX2_breakOrMend 8 = .ok (.ixor, 1) := by decide +kernel
theorem dX2_breakOrMend_9 : decode cX2_breakOrMend 9 = .ok (.putfield 34, 3) := by decide +kernel
theorem dX2_breakOrMend_12 : decode cX2_breakOrMend 12 = .ok (.return_, 1) := by decide +kernel
theorem dX2_putSpare_0 : decode cX2_putSpare 0 = .ok (.aload_n 0, 1) := by decide +kernel
theorem dX2_putSpare_1 : decode cX2_putSpare 1 = .ok (.iload_n 1, 1) := by decide +kernel
theorem dX2_putSpare_2 : decode cX2_putSpare 2 = .ok (.bipush 6, 2) := by decide +kernel
theorem dX2_putSpare_4 : decode cX2_putSpare 4 = .ok (.iconst 5, 1) := by decide +kernel
theorem dX2_putSpare_5 : decode cX2_putSpare 5 = .ok (.invokevirtual 73, 3) := by decide +kernel
theorem dX2_putSpare_8 : decode cX2_putSpare 8 = .ok (.aload_n 0, 1) := by decide +kernel
theorem dX2_putSpare_9 : decode cX2_putSpare 9 = .ok (.dup, 1) := by decide +kernel
theorem dX2_putSpare_10 : decode cX2_putSpare 10 = .ok (.getfield 21, 3) := by decide +kernel
theorem dX2_putSpare_13 : decode cX2_putSpare 13 = .ok (.iconst 1, 1) := by decide +kernel
theorem dX2_putSpare_14 : decode cX2_putSpare 14 = .ok (.isub, 1) := by decide +kernel
theorem dX2_putSpare_15 : decode cX2_putSpare 15 = .ok (.putfield 21, 3) := by decide +kernel
theorem dX2_putSpare_18 : decode cX2_putSpare 18 = .ok (.return_, 1) := by decide +kernel
theorem dX2_twistIn_0 : decode cX2_twistIn 0 = .ok (.aload_n 0, 1) := by decide +kernel
theorem dX2_twistIn_1 : decode cX2_twistIn 1 = .ok (.getfield 46, 3) := by decide +kernel
theorem dX2_twistIn_4 : decode cX2_twistIn 4 = .ok (.iload_n 1, 1) := by decide +kernel
theorem dX2_twistIn_5 : decode cX2_twistIn 5 = .ok (.invokestatic 77, 3) := by decide +kernel
theorem dX2_twistIn_8 : decode cX2_twistIn 8 = .ok (.istore_n 2, 1) := by decide +kernel
theorem dX2_twistIn_9 : decode cX2_twistIn 9 = .ok (.aload_n 0, 1) := by decide +kernel
theorem dX2_twistIn_10 : decode cX2_twistIn 10 = .ok (.iload_n 2, 1) := by decide +kernel
theorem dX2_twistIn_11 : decode cX2_twistIn 11 = .ok (.invokevirtual 80, 3) := by decide +kernel
theorem dX2_twistIn_14 : decode cX2_twistIn 14 = .ok (.aload_n 0, 1) := by decide +kernel
theorem dX2_twistIn_15 : decode cX2_twistIn 15 = .ok (.iload_n 1, 1) := by decide +kernel
theorem dX2_twistIn_16 : decode cX2_twistIn 16 = .ok (.putfield 46, 3) := by decide +kernel
theorem dX2_twistIn_19 : decode cX2_twistIn 19 = .ok (.aload_n 0, 1) := by decide +kernel
theorem dX2_twistIn_20 : decode cX2_twistIn 20 = .ok (.iload_n 1, 1) := by decide +kernel
theorem dX2_twistIn_21 : decode cX2_twistIn 21 = .ok (.invokevirtual 84, 3) := by decide +kernel
theorem dX2_twistIn_24 : decode cX2_twistIn 24 = .ok (.iload_n 2, 1) := by decide +kernel
theorem dX2_twistIn_25 : decode cX2_twistIn 25 = .ok (.ireturn, 1) := by decide +kernel
theorem dX2_trySeconds_0 : decode cX2_trySeconds 0 = .ok (.bipush 8, 2) := by decide +kernel
theorem dX2_trySeconds_2 : decode cX2_trySeconds 2 = .ok (.iload_n 0, 1) := by decide +kernel
theorem dX2_trySeconds_3 : decode cX2_trySeconds 3 = .ok (.iload_n 1, 1) := by decide +kernel
theorem dX2_trySeconds_4 : decode cX2_trySeconds 4 = .ok (.isub, 1) := by decide +kernel
theorem dX2_trySeconds_5 : decode cX2_trySeconds 5 = .ok (.invokestatic 87, 3) := by decide +kernel
theorem dX2_trySeconds_8 : decode cX2_trySeconds 8 = .ok (.iadd, 1) := by decide +kernel
theorem dX2_trySeconds_9 : decode cX2_trySeconds 9 = .ok (.ireturn, 1) := by decide +kernel
theorem dX2_spend_0 : decode cX2_spend 0 = .ok (.aload_n 0, 1) := by decide +kernel
theorem dX2_spend_1 : decode cX2_spend 1 = .ok (.aload_n 0, 1) := by decide +kernel
theorem dX2_spend_2 : decode cX2_spend 2 = .ok (.getfield 49, 3) := by decide +kernel
theorem dX2_spend_5 : decode cX2_spend 5 = .ok (.iload_n 1, 1) := by decide +kernel
theorem dX2_spend_6 : decode cX2_spend 6 = .ok (.iadd, 1) := by decide +kernel
theorem dX2_spend_7 : decode cX2_spend 7 = .ok (.sipush 9999, 3) := by decide +kernel
theorem dX2_spend_10 : decode cX2_spend 10 = .ok (.invokestatic 92, 3) := by decide +kernel
theorem dX2_spend_13 : decode cX2_spend 13 = .ok (.putfield 49, 3) := by decide +kernel
theorem dX2_spend_16 : decode cX2_spend 16 = .ok (.return_, 1) := by decide +kernel
theorem dX2_divides_0 : decode cX2_divides 0 = .ok (.iload_n 0, 1) := by decide +kernel
theorem dX2_divides_1 : decode cX2_divides 1 = .ok (.ifCond .le 13, 3) := by decide +kernel
theorem dX2_divides_4 : decode cX2_divides 4 = .ok (.iload_n 1, 1) := by decide +kernel
theorem dX2_divides_5 : decode cX2_divides 5 = .ok (.iload_n 0, 1) := by decide +kernel
theorem dX2_divides_6 : decode cX2_divides 6 = .ok (.irem, 1) := by decide +kernel
theorem dX2_divides_7 : decode cX2_divides 7 = .ok (.ifCond .ne 7, 3) := by decide +kernel
theorem dX2_divides_10 : decode cX2_divides 10 = .ok (.iconst 1, 1) := by decide +kernel
theorem dX2_divides_11 : decode cX2_divides 11 = .ok (.goto 4, 3) := by decide +kernel
theorem dX2_divides_14 : decode cX2_divides 14 = .ok (.iconst 0, 1) := by decide +kernel
theorem dX2_divides_15 : decode cX2_divides 15 = .ok (.ireturn, 1) := by decide +kernel
theorem dX2_leads_0 : decode cX2_leads 0 = .ok (.aload_n 0, 1) := by decide +kernel
theorem dX2_leads_1 : decode cX2_leads 1 = .ok (.getfield 9, 3) := by decide +kernel
theorem dX2_leads_4 : decode cX2_leads 4 = .ok (.iload_n 1, 1) := by decide +kernel
theorem dX2_leads_5 : decode cX2_leads 5 = .ok (.iaload, 1) := by decide +kernel
theorem dX2_leads_6 : decode cX2_leads 6 = .ok (.tableswitch 123 1 4 #[30, 52, 92, 94], 30) := by decide +kernel
theorem dX2_leads_36 : decode cX2_leads 36 = .ok (.aload_n 0, 1) := by decide +kernel
theorem dX2_leads_37 : decode cX2_leads 37 = .ok (.iload_n 1, 1) := by decide +kernel
theorem dX2_leads_38 : decode cX2_leads 38 = .ok (.invokevirtual 95, 3) := by decide +kernel
theorem dX2_leads_41 : decode cX2_leads 41 = .ok (.ifCond .eq 15, 3) := by decide +kernel
theorem dX2_leads_44 : decode cX2_leads 44 = .ok (.aload_n 0, 1) := by decide +kernel
theorem dX2_leads_45 : decode cX2_leads 45 = .ok (.iload_n 1, 1) := by decide +kernel
theorem dX2_leads_46 : decode cX2_leads 46 = .ok (.invokevirtual 98, 3) := by decide +kernel
theorem dX2_leads_49 : decode cX2_leads 49 = .ok (.ifCond .eq 7, 3) := by decide +kernel
theorem dX2_leads_52 : decode cX2_leads 52 = .ok (.iconst 1, 1) := by decide +kernel
theorem dX2_leads_53 : decode cX2_leads 53 = .ok (.goto 4, 3) := by decide +kernel
theorem dX2_leads_56 : decode cX2_leads 56 = .ok (.iconst 0, 1) := by decide +kernel
theorem dX2_leads_57 : decode cX2_leads 57 = .ok (.ireturn, 1) := by decide +kernel
theorem dX2_leads_58 : decode cX2_leads 58 = .ok (.aload_n 0, 1) := by decide +kernel
theorem dX2_leads_59 : decode cX2_leads 59 = .ok (.iload_n 1, 1) := by decide +kernel
theorem dX2_leads_60 : decode cX2_leads 60 = .ok (.invokevirtual 95, 3) := by decide +kernel
theorem dX2_leads_63 : decode cX2_leads 63 = .ok (.ifCond .eq 33, 3) := by decide +kernel
theorem dX2_leads_66 : decode cX2_leads 66 = .ok (.aload_n 0, 1) := by decide +kernel
theorem dX2_leads_67 : decode cX2_leads 67 = .ok (.getfield 18, 3) := by decide +kernel
theorem dX2_leads_70 : decode cX2_leads 70 = .ok (.iload_n 1, 1) := by decide +kernel
theorem dX2_leads_71 : decode cX2_leads 71 = .ok (.iaload, 1) := by decide +kernel
theorem dX2_leads_72 : decode cX2_leads 72 = .ok (.bipush 10, 2) := by decide +kernel
theorem dX2_leads_74 : decode cX2_leads 74 = .ok (.aload_n 0, 1) := by decide +kernel
theorem dX2_leads_75 : decode cX2_leads 75 = .ok (.getfield 15, 3) := by decide +kernel
theorem dX2_leads_78 : decode cX2_leads 78 = .ok (.iload_n 1, 1) := by decide +kernel
theorem dX2_leads_79 : decode cX2_leads 79 = .ok (.iaload, 1) := by decide +kernel
theorem dX2_leads_80 : decode cX2_leads 80 = .ok (.imul, 1) := by decide +kernel
theorem dX2_leads_81 : decode cX2_leads 81 = .ok (.if_icmp .lt 11, 3) := by decide +kernel
theorem dX2_leads_84 : decode cX2_leads 84 = .ok (.iconst 2, 1) := by decide +kernel
theorem dX2_leads_85 : decode cX2_leads 85 = .ok (.iload_n 2, 1) := by decide +kernel
theorem dX2_leads_86 : decode cX2_leads 86 = .ok (.invokestatic 101, 3) := by decide +kernel
theorem dX2_leads_89 : decode cX2_leads 89 = .ok (.ifCond .eq 7, 3) := by decide +kernel
theorem dX2_leads_92 : decode cX2_leads 92 = .ok (.iconst 1, 1) := by decide +kernel
theorem dX2_leads_93 : decode cX2_leads 93 = .ok (.goto 4, 3) := by decide +kernel
theorem dX2_leads_96 : decode cX2_leads 96 = .ok (.iconst 0, 1) := by decide +kernel
theorem dX2_leads_97 : decode cX2_leads 97 = .ok (.ireturn, 1) := by decide +kernel
theorem dX2_leads_98 : decode cX2_leads 98 = .ok (.iconst 1, 1) := by decide +kernel
theorem dX2_leads_99 : decode cX2_leads 99 = .ok (.ireturn, 1) := by decide +kernel
theorem dX2_leads_100 : decode cX2_leads 100 = .ok (.aload_n 0, 1) := by decide +kernel
theorem dX2_leads_101 : decode cX2_leads 101 = .ok (.iload_n 1, 1) := by decide +kernel
theorem dX2_leads_102 : decode cX2_leads 102 = .ok (.invokevirtual 95, 3) := by decide +kernel
theorem dX2_leads_105 : decode cX2_leads 105 = .ok (.ifCond .eq 22, 3) := by decide +kernel
theorem dX2_leads_108 : decode cX2_leads 108 = .ok (.aload_n 0, 1) := by decide +kernel
theorem dX2_leads_109 : decode cX2_leads 109 = .ok (.getfield 15, 3) := by decide +kernel
theorem dX2_leads_112 : decode cX2_leads 112 = .ok (.iload_n 1, 1) := by decide +kernel
theorem dX2_leads_113 : decode cX2_leads 113 = .ok (.iaload, 1) := by decide +kernel
theorem dX2_leads_114 : decode cX2_leads 114 = .ok (.iconst 2, 1) := by decide +kernel
theorem dX2_leads_115 : decode cX2_leads 115 = .ok (.iadd, 1) := by decide +kernel
theorem dX2_leads_116 : decode cX2_leads 116 = .ok (.iload_n 2, 1) := by decide +kernel
theorem dX2_leads_117 : decode cX2_leads 117 = .ok (.invokestatic 101, 3) := by decide +kernel
theorem dX2_leads_120 : decode cX2_leads 120 = .ok (.ifCond .ne 7, 3) := by decide +kernel
theorem dX2_leads_123 : decode cX2_leads 123 = .ok (.iconst 1, 1) := by decide +kernel
theorem dX2_leads_124 : decode cX2_leads 124 = .ok (.goto 4, 3) := by decide +kernel
theorem dX2_leads_127 : decode cX2_leads 127 = .ok (.iconst 0, 1) := by decide +kernel
theorem dX2_leads_128 : decode cX2_leads 128 = .ok (.ireturn, 1) := by decide +kernel
theorem dX2_leads_129 : decode cX2_leads 129 = .ok (.aload_n 0, 1) := by decide +kernel
theorem dX2_leads_130 : decode cX2_leads 130 = .ok (.iload_n 1, 1) := by decide +kernel
theorem dX2_leads_131 : decode cX2_leads 131 = .ok (.invokevirtual 95, 3) := by decide +kernel
theorem dX2_leads_134 : decode cX2_leads 134 = .ok (.ireturn, 1) := by decide +kernel
theorem dX2_allLead_0 : decode cX2_allLead 0 = .ok (.iload_n 1, 1) := by decide +kernel
theorem dX2_allLead_1 : decode cX2_allLead 1 = .ok (.istore 4, 2) := by decide +kernel
theorem dX2_allLead_3 : decode cX2_allLead 3 = .ok (.iload 4, 2) := by decide +kernel
theorem dX2_allLead_5 : decode cX2_allLead 5 = .ok (.iload_n 2, 1) := by decide +kernel
theorem dX2_allLead_6 : decode cX2_allLead 6 = .ok (.if_icmp .ge 21, 3) := by decide +kernel
theorem dX2_allLead_9 : decode cX2_allLead 9 = .ok (.aload_n 0, 1) := by decide +kernel
theorem dX2_allLead_10 : decode cX2_allLead 10 = .ok (.iload 4, 2) := by decide +kernel
theorem dX2_allLead_12 : decode cX2_allLead 12 = .ok (.iload_n 3, 1) := by decide +kernel
theorem dX2_allLead_13 : decode cX2_allLead 13 = .ok (.invokevirtual 105, 3) := by decide +kernel
theorem dX2_allLead_16 : decode cX2_allLead 16 = .ok (.ifCond .ne 5, 3) := by decide +kernel
theorem dX2_allLead_19 : decode cX2_allLead 19 = .ok (.iconst 0, 1) := by decide +kernel
theorem dX2_allLead_20 : decode cX2_allLead 20 = .ok (.ireturn, 1) := by decide +kernel
theorem dX2_allLead_21 : decode cX2_allLead 21 = .ok (.iinc 4 1, 3) := by decide +kernel
theorem dX2_allLead_24 : decode cX2_allLead 24 = .ok (.goto (-21), 3) := by decide +kernel
theorem dX2_allLead_27 : decode cX2_allLead 27 = .ok (.iconst 1, 1) := by decide +kernel
theorem dX2_allLead_28 : decode cX2_allLead 28 = .ok (.ireturn, 1) := by decide +kernel
theorem dX2_burns_0 : decode cX2_burns 0 = .ok (.aload_n 0, 1) := by decide +kernel
theorem dX2_burns_1 : decode cX2_burns 1 = .ok (.getfield 31, 3) := by decide +kernel
theorem dX2_burns_4 : decode cX2_burns 4 = .ok (.ifCond .le 20, 3) := by decide +kernel
theorem dX2_burns_7 : decode cX2_burns 7 = .ok (.aload_n 0, 1) := by decide +kernel
theorem dX2_burns_8 : decode cX2_burns 8 = .ok (.iconst 0, 1) := by decide +kernel
theorem dX2_burns_9 : decode cX2_burns 9 = .ok (.aload_n 0, 1) := by decide +kernel
theorem dX2_burns_10 : decode cX2_burns 10 = .ok (.getfield 31, 3) := by decide +kernel
theorem dX2_burns_13 : decode cX2_burns 13 = .ok (.iload_n 1, 1) := by decide +kernel
theorem dX2_burns_14 : decode cX2_burns 14 = .ok (.invokevirtual 108, 3) := by decide +kernel
theorem dX2_burns_17 : decode cX2_burns 17 = .ok (.ifCond .eq 7, 3) := by decide +kernel
theorem dX2_burns_20 : decode cX2_burns 20 = .ok (.iconst 1, 1) := by decide +kernel
theorem dX2_burns_21 : decode cX2_burns 21 = .ok (.goto 4, 3) := by decide +kernel
theorem dX2_burns_24 : decode cX2_burns 24 = .ok (.iconst 0, 1) := by decide +kernel
theorem dX2_burns_25 : decode cX2_burns 25 = .ok (.ireturn, 1) := by decide +kernel
theorem dX2_wholeOnes_0 : decode cX2_wholeOnes 0 = .ok (.iconst 0, 1) := by decide +kernel
theorem dX2_wholeOnes_1 : decode cX2_wholeOnes 1 = .ok (.istore_n 3, 1) := by decide +kernel
theorem dX2_wholeOnes_2 : decode cX2_wholeOnes 2 = .ok (.iload_n 1, 1) := by decide +kernel
theorem dX2_wholeOnes_3 : decode cX2_wholeOnes 3 = .ok (.istore 4, 2) := by decide +kernel
theorem dX2_wholeOnes_5 : decode cX2_wholeOnes 5 = .ok (.iload 4, 2) := by decide +kernel
theorem dX2_wholeOnes_7 : decode cX2_wholeOnes 7 = .ok (.iload_n 2, 1) := by decide +kernel
theorem dX2_wholeOnes_8 : decode cX2_wholeOnes 8 = .ok (.if_icmp .ge 21, 3) := by decide +kernel
theorem dX2_wholeOnes_11 : decode cX2_wholeOnes 11 = .ok (.aload_n 0, 1) := by decide +kernel
theorem dX2_wholeOnes_12 : decode cX2_wholeOnes 12 = .ok (.iload 4, 2) := by decide +kernel
theorem dX2_wholeOnes_14 : decode cX2_wholeOnes 14 = .ok (.invokevirtual 95, 3) := by decide +kernel
theorem dX2_wholeOnes_17 : decode cX2_wholeOnes 17 = .ok (.ifCond .eq 6, 3) := by decide +kernel
theorem dX2_wholeOnes_20 : decode cX2_wholeOnes 20 = .ok (.iinc 3 1, 3) := by decide +kernel
theorem dX2_wholeOnes_23 : decode cX2_wholeOnes 23 = .ok (.iinc 4 1, 3) := by decide +kernel
theorem dX2_wholeOnes_26 : decode cX2_wholeOnes 26 = .ok (.goto (-21), 3) := by decide +kernel
theorem dX2_wholeOnes_29 : decode cX2_wholeOnes 29 = .ok (.iload_n 3, 1) := by decide +kernel
theorem dX2_wholeOnes_30 : decode cX2_wholeOnes 30 = .ok (.ireturn, 1) := by decide +kernel
theorem dX2_wear_0 : decode cX2_wear 0 = .ok (.aload_n 0, 1) := by decide +kernel
theorem dX2_wear_1 : decode cX2_wear 1 = .ok (.iload_n 1, 1) := by decide +kernel
theorem dX2_wear_2 : decode cX2_wear 2 = .ok (.iload_n 2, 1) := by decide +kernel
theorem dX2_wear_3 : decode cX2_wear 3 = .ok (.invokevirtual 112, 3) := by decide +kernel
theorem dX2_wear_6 : decode cX2_wear 6 = .ok (.istore 4, 2) := by decide +kernel
theorem dX2_wear_8 : decode cX2_wear 8 = .ok (.iload 4, 2) := by decide +kernel
theorem dX2_wear_10 : decode cX2_wear 10 = .ok (.ifCond .le 13, 3) := by decide +kernel
theorem dX2_wear_13 : decode cX2_wear 13 = .ok (.bipush 60, 2) := by decide +kernel
theorem dX2_wear_15 : decode cX2_wear 15 = .ok (.iload 4, 2) := by decide +kernel
theorem dX2_wear_17 : decode cX2_wear 17 = .ok (.idiv, 1) := by decide +kernel
theorem dX2_wear_18 : decode cX2_wear 18 = .ok (.iload_n 3, 1) := by decide +kernel
theorem dX2_wear_19 : decode cX2_wear 19 = .ok (.imul, 1) := by decide +kernel
theorem dX2_wear_20 : decode cX2_wear 20 = .ok (.goto 4, 3) := by decide +kernel
theorem dX2_wear_23 : decode cX2_wear 23 = .ok (.iconst 0, 1) := by decide +kernel
theorem dX2_wear_24 : decode cX2_wear 24 = .ok (.istore 5, 2) := by decide +kernel
theorem dX2_wear_26 : decode cX2_wear 26 = .ok (.iload_n 1, 1) := by decide +kernel
theorem dX2_wear_27 : decode cX2_wear 27 = .ok (.istore 6, 2) := by decide +kernel
theorem dX2_wear_29 : decode cX2_wear 29 = .ok (.iload 6, 2) := by decide +kernel
theorem dX2_wear_31 : decode cX2_wear 31 = .ok (.iload_n 2, 1) := by decide +kernel
theorem dX2_wear_32 : decode cX2_wear 32 = .ok (.if_icmp .ge 84, 3) := by decide +kernel
theorem dX2_wear_35 : decode cX2_wear 35 = .ok (.aload_n 0, 1) := by decide +kernel
theorem dX2_wear_36 : decode cX2_wear 36 = .ok (.iload 6, 2) := by decide +kernel
theorem dX2_wear_38 : decode cX2_wear 38 = .ok (.invokevirtual 95, 3) := by decide +kernel
theorem dX2_wear_41 : decode cX2_wear 41 = .ok (.ifCond .ne 6, 3) := by decide +kernel
theorem dX2_wear_44 : decode cX2_wear 44 = .ok (.goto 66, 3) := by decide +kernel
theorem dX2_wear_47 : decode cX2_wear 47 = .ok (.aload_n 0, 1) := by decide +kernel
theorem dX2_wear_48 : decode cX2_wear 48 = .ok (.getfield 18, 3) := by decide +kernel
theorem dX2_wear_51 : decode cX2_wear 51 = .ok (.iload 6, 2) := by decide +kernel
theorem dX2_wear_53 : decode cX2_wear 53 = .ok (.aload_n 0, 1) := by decide +kernel
theorem dX2_wear_54 : decode cX2_wear 54 = .ok (.getfield 18, 3) := by decide +kernel
theorem dX2_wear_57 : decode cX2_wear 57 = .ok (.iload 6, 2) := by decide +kernel
theorem dX2_wear_59 : decode cX2_wear 59 = .ok (.iaload, 1) := by decide +kernel
theorem dX2_wear_60 : decode cX2_wear 60 = .ok (.aload_n 0, 1) := by decide +kernel
theorem dX2_wear_61 : decode cX2_wear 61 = .ok (.getfield 9, 3) := by decide +kernel
theorem dX2_wear_64 : decode cX2_wear 64 = .ok (.iload 6, 2) := by decide +kernel
theorem dX2_wear_66 : decode cX2_wear 66 = .ok (.iaload, 1) := by decide +kernel
theorem dX2_wear_67 : decode cX2_wear 67 = .ok (.aload_n 0, 1) := by decide +kernel
theorem dX2_wear_68 : decode cX2_wear 68 = .ok (.getfield 15, 3) := by decide +kernel
theorem dX2_wear_71 : decode cX2_wear 71 = .ok (.iload 6, 2) := by decide +kernel
theorem dX2_wear_73 : decode cX2_wear 73 = .ok (.iaload, 1) := by decide +kernel
theorem dX2_wear_74 : decode cX2_wear 74 = .ok (.invokestatic 115, 3) := by decide +kernel
theorem dX2_wear_77 : decode cX2_wear 77 = .ok (.iadd, 1) := by decide +kernel
theorem dX2_wear_78 : decode cX2_wear 78 = .ok (.iload 5, 2) := by decide +kernel
theorem dX2_wear_80 : decode cX2_wear 80 = .ok (.iadd, 1) := by decide +kernel
theorem dX2_wear_81 : decode cX2_wear 81 = .ok (.sipush 999, 3) := by decide +kernel
theorem dX2_wear_84 : decode cX2_wear 84 = .ok (.invokestatic 92, 3) := by decide +kernel
theorem dX2_wear_87 : decode cX2_wear 87 = .ok (.iastore, 1) := by decide +kernel
theorem dX2_wear_88 : decode cX2_wear 88 = .ok (.aload_n 0, 1) := by decide +kernel
theorem dX2_wear_89 : decode cX2_wear 89 = .ok (.getfield 18, 3) := by decide +kernel
theorem dX2_wear_92 : decode cX2_wear 92 = .ok (.iload 6, 2) := by decide +kernel
theorem dX2_wear_94 : decode cX2_wear 94 = .ok (.iaload, 1) := by decide +kernel
theorem dX2_wear_95 : decode cX2_wear 95 = .ok (.aload_n 0, 1) := by decide +kernel
theorem dX2_wear_96 : decode cX2_wear 96 = .ok (.iload 6, 2) := by decide +kernel
theorem dX2_wear_98 : decode cX2_wear 98 = .ok (.invokevirtual 62, 3) := by decide +kernel
theorem dX2_wear_101 : decode cX2_wear 101 = .ok (.if_icmp .lt 9, 3) := by decide +kernel
theorem dX2_wear_104 : decode cX2_wear 104 = .ok (.aload_n 0, 1) := by decide +kernel
theorem dX2_wear_105 : decode cX2_wear 105 = .ok (.iload 6, 2) := by decide +kernel
theorem dX2_wear_107 : decode cX2_wear 107 = .ok (.invokevirtual 118, 3) := by decide +kernel
theorem dX2_wear_110 : decode cX2_wear 110 = .ok (.iinc 6 1, 3) := by decide +kernel
theorem dX2_wear_113 : decode cX2_wear 113 = .ok (.goto (-84), 3) := by decide +kernel
theorem dX2_wear_116 : decode cX2_wear 116 = .ok (.return_, 1) := by decide +kernel
theorem dX2_unseatLoose_0 : decode cX2_unseatLoose 0 = .ok (.iconst 0, 1) := by decide +kernel
theorem dX2_unseatLoose_1 : decode cX2_unseatLoose 1 = .ok (.istore_n 1, 1) := by decide +kernel
theorem dX2_unseatLoose_2 : decode cX2_unseatLoose 2 = .ok (.iload_n 1, 1) := by decide +kernel
theorem dX2_unseatLoose_3 : decode cX2_unseatLoose 3 = .ok (.aload_n 0, 1) := by decide +kernel
theorem dX2_unseatLoose_4 : decode cX2_unseatLoose 4 = .ok (.getfield 31, 3) := by decide +kernel
theorem dX2_unseatLoose_7 : decode cX2_unseatLoose 7 = .ok (.if_icmp .ge 51, 3) := by decide +kernel
theorem dX2_unseatLoose_10 : decode cX2_unseatLoose 10 = .ok (.aload_n 0, 1) := by decide +kernel
theorem dX2_unseatLoose_11 : decode cX2_unseatLoose 11 = .ok (.getfield 9, 3) := by decide +kernel
theorem dX2_unseatLoose_14 : decode cX2_unseatLoose 14 = .ok (.iload_n 1, 1) := by decide +kernel
theorem dX2_unseatLoose_15 : decode cX2_unseatLoose 15 = .ok (.iaload, 1) := by decide +kernel
theorem dX2_unseatLoose_16 : decode cX2_unseatLoose 16 = .ok (.iconst 1, 1) := by decide +kernel
theorem dX2_unseatLoose_17 : decode cX2_unseatLoose 17 = .ok (.if_icmp .ne 35, 3) := by decide +kernel
theorem dX2_unseatLoose_20 : decode cX2_unseatLoose 20 = .ok (.aload_n 0, 1) := by decide +kernel
theorem dX2_unseatLoose_21 : decode cX2_unseatLoose 21 = .ok (.getfield 15, 3) := by decide +kernel
theorem dX2_unseatLoose_24 : decode cX2_unseatLoose 24 = .ok (.iload_n 1, 1) := by decide +kernel
theorem dX2_unseatLoose_25 : decode cX2_unseatLoose 25 = .ok (.iaload, 1) := by decide +kernel
theorem dX2_unseatLoose_26 : decode cX2_unseatLoose 26 = .ok (.iconst 3, 1) := by decide +kernel
theorem dX2_unseatLoose_27 : decode cX2_unseatLoose 27 = .ok (.iadd, 1) := by decide +kernel
theorem dX2_unseatLoose_28 : decode cX2_unseatLoose 28 = .ok (.aload_n 0, 1) := by decide +kernel
theorem dX2_unseatLoose_29 : decode cX2_unseatLoose 29 = .ok (.getfield 40, 3) := by decide +kernel
theorem dX2_unseatLoose_32 : decode cX2_unseatLoose 32 = .ok (.invokestatic 101, 3) := by decide +kernel
theorem dX2_unseatLoose_35 : decode cX2_unseatLoose 35 = .ok (.ifCond .eq 17, 3) := by decide +kernel
theorem dX2_unseatLoose_38 : decode cX2_unseatLoose 38 = .ok (.aload_n 0, 1) := by decide +kernel
theorem dX2_unseatLoose_39 : decode cX2_unseatLoose 39 = .ok (.dup, 1) := by decide +kernel
theorem dX2_unseatLoose_40 : decode cX2_unseatLoose 40 = .ok (.getfield 37, 3) := by decide +kernel
theorem dX2_unseatLoose_43 : decode cX2_unseatLoose 43 = .ok (.iconst 1, 1) := by decide +kernel
theorem dX2_unseatLoose_44 : decode cX2_unseatLoose 44 = .ok (.iload_n 1, 1) := by decide +kernel
theorem dX2_unseatLoose_45 : decode cX2_unseatLoose 45 = .ok (.ishl, 1) := by decide +kernel
theorem dX2_unseatLoose_46 : decode cX2_unseatLoose 46 = .ok (.iconst (-1), 1) := by decide +kernel
theorem dX2_unseatLoose_47 : decode cX2_unseatLoose 47 = .ok (.ixor, 1) := by decide +kernel
theorem dX2_unseatLoose_48 : decode cX2_unseatLoose 48 = .ok (.iand, 1) := by decide +kernel
theorem dX2_unseatLoose_49 : decode cX2_unseatLoose 49 = .ok (.putfield 37, 3) := by decide +kernel
theorem dX2_unseatLoose_52 : decode cX2_unseatLoose 52 = .ok (.iinc 1 1, 3) := by decide +kernel
theorem dX2_unseatLoose_55 : decode cX2_unseatLoose 55 = .ok (.goto (-53), 3) := by decide +kernel
theorem dX2_unseatLoose_58 : decode cX2_unseatLoose 58 = .ok (.return_, 1) := by decide +kernel
theorem dX2_passHour_0 : decode cX2_passHour 0 = .ok (.aload_n 0, 1) := by decide +kernel
theorem dX2_passHour_1 : decode cX2_passHour 1 = .ok (.dup, 1) := by decide +kernel
theorem dX2_passHour_2 : decode cX2_passHour 2 = .ok (.getfield 40, 3) := by decide +kernel
theorem dX2_passHour_5 : decode cX2_passHour 5 = .ok (.iconst 1, 1) := by decide +kernel
theorem dX2_passHour_6 : decode cX2_passHour 6 = .ok (.iadd, 1) := by decide +kernel
theorem dX2_passHour_7 : decode cX2_passHour 7 = .ok (.putfield 40, 3) := by decide +kernel
theorem dX2_passHour_10 : decode cX2_passHour 10 = .ok (.aload_n 0, 1) := by decide +kernel
theorem dX2_passHour_11 : decode cX2_passHour 11 = .ok (.getfield 31, 3) := by decide +kernel
theorem dX2_passHour_14 : decode cX2_passHour 14 = .ok (.ifCond .le 23, 3) := by decide +kernel
theorem dX2_passHour_17 : decode cX2_passHour 17 = .ok (.aload_n 0, 1) := by decide +kernel
theorem dX2_passHour_18 : decode cX2_passHour 18 = .ok (.iconst 0, 1) := by decide +kernel
theorem dX2_passHour_19 : decode cX2_passHour 19 = .ok (.aload_n 0, 1) := by decide +kernel
theorem dX2_passHour_20 : decode cX2_passHour 20 = .ok (.getfield 31, 3) := by decide +kernel
theorem dX2_passHour_23 : decode cX2_passHour 23 = .ok (.aload_n 0, 1) := by decide +kernel
theorem dX2_passHour_24 : decode cX2_passHour 24 = .ok (.getfield 40, 3) := by decide +kernel
theorem dX2_passHour_27 : decode cX2_passHour 27 = .ok (.invokevirtual 108, 3) := by decide +kernel
theorem dX2_passHour_30 : decode cX2_passHour 30 = .ok (.ifCond .eq 7, 3) := by decide +kernel
theorem dX2_passHour_33 : decode cX2_passHour 33 = .ok (.iconst 1, 1) := by decide +kernel
theorem dX2_passHour_34 : decode cX2_passHour 34 = .ok (.goto 4, 3) := by decide +kernel
theorem dX2_passHour_37 : decode cX2_passHour 37 = .ok (.iconst 0, 1) := by decide +kernel
theorem dX2_passHour_38 : decode cX2_passHour 38 = .ok (.istore_n 2, 1) := by decide +kernel
theorem dX2_passHour_39 : decode cX2_passHour 39 = .ok (.iload_n 2, 1) := by decide +kernel
theorem dX2_passHour_40 : decode cX2_passHour 40 = .ok (.ifCond .eq 29, 3) := by decide +kernel
theorem dX2_passHour_43 : decode cX2_passHour 43 = .ok (.aload_n 0, 1) := by decide +kernel
theorem dX2_passHour_44 : decode cX2_passHour 44 = .ok (.aload_n 0, 1) := by decide +kernel
theorem dX2_passHour_45 : decode cX2_passHour 45 = .ok (.getfield 43, 3) := by decide +kernel
theorem dX2_passHour_48 : decode cX2_passHour 48 = .ok (.iconst 1, 1) := by decide +kernel
theorem dX2_passHour_49 : decode cX2_passHour 49 = .ok (.iadd, 1) := by decide +kernel
theorem dX2_passHour_50 : decode cX2_passHour 50 = .ok (.sipush 999, 3) := by decide +kernel
theorem dX2_passHour_53 : decode cX2_passHour 53 = .ok (.invokestatic 92, 3) := by decide +kernel
theorem dX2_passHour_56 : decode cX2_passHour 56 = .ok (.putfield 43, 3) := by decide +kernel
theorem dX2_passHour_59 : decode cX2_passHour 59 = .ok (.aload_n 0, 1) := by decide +kernel
theorem dX2_passHour_60 : decode cX2_passHour 60 = .ok (.iconst 0, 1) := by decide +kernel
theorem dX2_passHour_61 : decode cX2_passHour 61 = .ok (.aload_n 0, 1) := by decide +kernel
theorem dX2_passHour_62 : decode cX2_passHour 62 = .ok (.getfield 31, 3) := by decide +kernel
theorem dX2_passHour_65 : decode cX2_passHour 65 = .ok (.iload_n 1, 1) := by decide +kernel
theorem dX2_passHour_66 : decode cX2_passHour 66 = .ok (.invokevirtual 121, 3) := by decide +kernel
theorem dX2_passHour_69 : decode cX2_passHour 69 = .ok (.aload_n 0, 1) := by decide +kernel
theorem dX2_passHour_70 : decode cX2_passHour 70 = .ok (.invokevirtual 124, 3) := by decide +kernel
theorem dX2_passHour_73 : decode cX2_passHour 73 = .ok (.iload_n 2, 1) := by decide +kernel
theorem dX2_passHour_74 : decode cX2_passHour 74 = .ok (.ireturn, 1) := by decide +kernel
theorem dX2_pass_0 : decode cX2_pass 0 = .ok (.iconst 0, 1) := by decide +kernel
theorem dX2_pass_1 : decode cX2_pass 1 = .ok (.istore_n 2, 1) := by decide +kernel
theorem dX2_pass_2 : decode cX2_pass 2 = .ok (.iload_n 2, 1) := by decide +kernel
theorem dX2_pass_3 : decode cX2_pass 3 = .ok (.iload_n 1, 1) := by decide +kernel
theorem dX2_pass_4 : decode cX2_pass 4 = .ok (.if_icmp .ge 15, 3) := by decide +kernel
theorem dX2_pass_7 : decode cX2_pass 7 = .ok (.aload_n 0, 1) := by decide +kernel
theorem dX2_pass_8 : decode cX2_pass 8 = .ok (.iconst 1, 1) := by decide +kernel
theorem dX2_pass_9 : decode cX2_pass 9 = .ok (.invokevirtual 127, 3) := by decide +kernel
theorem dX2_pass_12 : decode cX2_pass 12 = .ok (.pop, 1) := by decide +kernel
theorem dX2_pass_13 : decode cX2_pass 13 = .ok (.iinc 2 1, 3) := by decide +kernel
theorem dX2_pass_16 : decode cX2_pass 16 = .ok (.goto (-14), 3) := by decide +kernel
theorem dX2_pass_19 : decode cX2_pass 19 = .ok (.return_, 1) := by decide +kernel
theorem dX2_passes_0 : decode cX2_passes 0 = .ok (.iload_n 1, 1) := by decide +kernel
theorem dX2_passes_1 : decode cX2_passes 1 = .ok (.iconst 1, 1) := by decide +kernel
theorem dX2_passes_2 : decode cX2_passes 2 = .ok (.if_icmp .lt 21, 3) := by decide +kernel
theorem dX2_passes_5 : decode cX2_passes 5 = .ok (.iload_n 1, 1) := by decide +kernel
theorem dX2_passes_6 : decode cX2_passes 6 = .ok (.bipush 60, 2) := by decide +kernel
theorem dX2_passes_8 : decode cX2_passes 8 = .ok (.if_icmp .gt 15, 3) := by decide +kernel
theorem dX2_passes_11 : decode cX2_passes 11 = .ok (.aload_n 0, 1) := by decide +kernel
theorem dX2_passes_12 : decode cX2_passes 12 = .ok (.getfield 40, 3) := by decide +kernel
theorem dX2_passes_15 : decode cX2_passes 15 = .ok (.iload_n 1, 1) := by decide +kernel
theorem dX2_passes_16 : decode cX2_passes 16 = .ok (.iadd, 1) := by decide +kernel
theorem dX2_passes_17 : decode cX2_passes 17 = .ok (.sipush 999, 3) := by decide +kernel
theorem dX2_passes_20 : decode cX2_passes 20 = .ok (.if_icmp .le 5, 3) := by decide +kernel
theorem dX2_passes_23 : decode cX2_passes 23 = .ok (.iconst 0, 1) := by decide +kernel
theorem dX2_passes_24 : decode cX2_passes 24 = .ok (.ireturn, 1) := by decide +kernel
theorem dX2_passes_25 : decode cX2_passes 25 = .ok (.iconst 0, 1) := by decide +kernel
theorem dX2_passes_26 : decode cX2_passes 26 = .ok (.istore_n 2, 1) := by decide +kernel
theorem dX2_passes_27 : decode cX2_passes 27 = .ok (.iload_n 2, 1) := by decide +kernel
theorem dX2_passes_28 : decode cX2_passes 28 = .ok (.iload_n 1, 1) := by decide +kernel
theorem dX2_passes_29 : decode cX2_passes 29 = .ok (.if_icmp .ge 15, 3) := by decide +kernel
theorem dX2_passes_32 : decode cX2_passes 32 = .ok (.aload_n 0, 1) := by decide +kernel
theorem dX2_passes_33 : decode cX2_passes 33 = .ok (.iconst 1, 1) := by decide +kernel
theorem dX2_passes_34 : decode cX2_passes 34 = .ok (.invokevirtual 127, 3) := by decide +kernel
theorem dX2_passes_37 : decode cX2_passes 37 = .ok (.pop, 1) := by decide +kernel
theorem dX2_passes_38 : decode cX2_passes 38 = .ok (.iinc 2 1, 3) := by decide +kernel
theorem dX2_passes_41 : decode cX2_passes 41 = .ok (.goto (-14), 3) := by decide +kernel
theorem dX2_passes_44 : decode cX2_passes 44 = .ok (.iconst 1, 1) := by decide +kernel
theorem dX2_passes_45 : decode cX2_passes 45 = .ok (.ireturn, 1) := by decide +kernel
theorem dX2_passFrosts_0 : decode cX2_passFrosts 0 = .ok (.iconst 0, 1) := by decide +kernel
theorem dX2_passFrosts_1 : decode cX2_passFrosts 1 = .ok (.istore_n 3, 1) := by decide +kernel
theorem dX2_passFrosts_2 : decode cX2_passFrosts 2 = .ok (.iload_n 3, 1) := by decide +kernel
theorem dX2_passFrosts_3 : decode cX2_passFrosts 3 = .ok (.iload_n 1, 1) := by decide +kernel
theorem dX2_passFrosts_4 : decode cX2_passFrosts 4 = .ok (.if_icmp .ge 28, 3) := by decide +kernel
theorem dX2_passFrosts_7 : decode cX2_passFrosts 7 = .ok (.aload_n 0, 1) := by decide +kernel
theorem dX2_passFrosts_8 : decode cX2_passFrosts 8 = .ok (.iload_n 2, 1) := by decide +kernel
theorem dX2_passFrosts_9 : decode cX2_passFrosts 9 = .ok (.iload_n 3, 1) := by decide +kernel
theorem dX2_passFrosts_10 : decode cX2_passFrosts 10 = .ok (.ishr, 1) := by decide +kernel
theorem dX2_passFrosts_11 : decode cX2_passFrosts 11 = .ok (.iconst 1, 1) := by decide +kernel
theorem dX2_passFrosts_12 : decode cX2_passFrosts 12 = .ok (.iand, 1) := by decide +kernel
theorem dX2_passFrosts_13 : decode cX2_passFrosts 13 = .ok (.iconst 1, 1) := by decide +kernel
theorem dX2_passFrosts_14 : decode cX2_passFrosts 14 = .ok (.if_icmp .ne 7, 3) := by decide +kernel
theorem dX2_passFrosts_17 : decode cX2_passFrosts 17 = .ok (.iconst 2, 1) := by decide +kernel
theorem dX2_passFrosts_18 : decode cX2_passFrosts 18 = .ok (.goto 4, 3) := by decide +kernel
theorem dX2_passFrosts_21 : decode cX2_passFrosts 21 = .ok (.iconst 1, 1) := by decide +kernel
theorem dX2_passFrosts_22 : decode cX2_passFrosts 22 = .ok (.invokevirtual 127, 3) := by decide +kernel
theorem dX2_passFrosts_25 : decode cX2_passFrosts 25 = .ok (.pop, 1) := by decide +kernel
theorem dX2_passFrosts_26 : decode cX2_passFrosts 26 = .ok (.iinc 3 1, 3) := by decide +kernel
theorem dX2_passFrosts_29 : decode cX2_passFrosts 29 = .ok (.goto (-27), 3) := by decide +kernel
theorem dX2_passFrosts_32 : decode cX2_passFrosts 32 = .ok (.return_, 1) := by decide +kernel
theorem dX2_cutHour_0 : decode cX2_cutHour 0 = .ok (.aload_n 0, 1) := by decide +kernel
theorem dX2_cutHour_1 : decode cX2_cutHour 1 = .ok (.dup, 1) := by decide +kernel
theorem dX2_cutHour_2 : decode cX2_cutHour 2 = .ok (.getfield 40, 3) := by decide +kernel
theorem dX2_cutHour_5 : decode cX2_cutHour 5 = .ok (.iconst 1, 1) := by decide +kernel
theorem dX2_cutHour_6 : decode cX2_cutHour 6 = .ok (.iadd, 1) := by decide +kernel
theorem dX2_cutHour_7 : decode cX2_cutHour 7 = .ok (.putfield 40, 3) := by decide +kernel
theorem dX2_cutHour_10 : decode cX2_cutHour 10 = .ok (.aload_n 0, 1) := by decide +kernel
theorem dX2_cutHour_11 : decode cX2_cutHour 11 = .ok (.iconst 0, 1) := by decide +kernel
theorem dX2_cutHour_12 : decode cX2_cutHour 12 = .ok (.iload_n 1, 1) := by decide +kernel
theorem dX2_cutHour_13 : decode cX2_cutHour 13 = .ok (.invokevirtual 130, 3) := by decide +kernel
theorem dX2_cutHour_16 : decode cX2_cutHour 16 = .ok (.aload_n 0, 1) := by decide +kernel
theorem dX2_cutHour_17 : decode cX2_cutHour 17 = .ok (.iload_n 1, 1) := by decide +kernel
theorem dX2_cutHour_18 : decode cX2_cutHour 18 = .ok (.aload_n 0, 1) := by decide +kernel
theorem dX2_cutHour_19 : decode cX2_cutHour 19 = .ok (.getfield 31, 3) := by decide +kernel
theorem dX2_cutHour_22 : decode cX2_cutHour 22 = .ok (.invokevirtual 130, 3) := by decide +kernel
theorem dX2_cutHour_25 : decode cX2_cutHour 25 = .ok (.iadd, 1) := by decide +kernel
theorem dX2_cutHour_26 : decode cX2_cutHour 26 = .ok (.istore_n 2, 1) := by decide +kernel
theorem dX2_cutHour_27 : decode cX2_cutHour 27 = .ok (.aload_n 0, 1) := by decide +kernel
theorem dX2_cutHour_28 : decode cX2_cutHour 28 = .ok (.invokevirtual 124, 3) := by decide +kernel
theorem dX2_cutHour_31 : decode cX2_cutHour 31 = .ok (.iload_n 2, 1) := by decide +kernel
theorem dX2_cutHour_32 : decode cX2_cutHour 32 = .ok (.ireturn, 1) := by decide +kernel
theorem dX2_partHour_0 : decode cX2_partHour 0 = .ok (.aload_n 0, 1) := by decide +kernel
theorem dX2_partHour_1 : decode cX2_partHour 1 = .ok (.iload_n 1, 1) := by decide +kernel
theorem dX2_partHour_2 : decode cX2_partHour 2 = .ok (.iload_n 2, 1) := by decide +kernel
theorem dX2_partHour_3 : decode cX2_partHour 3 = .ok (.aload_n 0, 1) := by decide +kernel
theorem dX2_partHour_4 : decode cX2_partHour 4 = .ok (.getfield 40, 3) := by decide +kernel
theorem dX2_partHour_7 : decode cX2_partHour 7 = .ok (.invokevirtual 108, 3) := by decide +kernel
theorem dX2_partHour_10 : decode cX2_partHour 10 = .ok (.ifCond .ne 5, 3) := by decide +kernel
theorem dX2_partHour_13 : decode cX2_partHour 13 = .ok (.iconst 0, 1) := by decide +kernel
theorem dX2_partHour_14 : decode cX2_partHour 14 = .ok (.ireturn, 1) := by decide +kernel
theorem dX2_partHour_15 : decode cX2_partHour 15 = .ok (.aload_n 0, 1) := by decide +kernel
theorem dX2_partHour_16 : decode cX2_partHour 16 = .ok (.iload_n 1, 1) := by decide +kernel
theorem dX2_partHour_17 : decode cX2_partHour 17 = .ok (.iload_n 2, 1) := by decide +kernel
theorem dX2_partHour_18 : decode cX2_partHour 18 = .ok (.invokevirtual 112, 3) := by decide +kernel
theorem dX2_partHour_21 : decode cX2_partHour 21 = .ok (.istore_n 3, 1) := by decide +kernel
theorem dX2_partHour_22 : decode cX2_partHour 22 = .ok (.aload_n 0, 1) := by decide +kernel
theorem dX2_partHour_23 : decode cX2_partHour 23 = .ok (.iload_n 1, 1) := by decide +kernel
theorem dX2_partHour_24 : decode cX2_partHour 24 = .ok (.iload_n 2, 1) := by decide +kernel
theorem dX2_partHour_25 : decode cX2_partHour 25 = .ok (.iconst 1, 1) := by decide +kernel
theorem dX2_partHour_26 : decode cX2_partHour 26 = .ok (.invokevirtual 121, 3) := by decide +kernel
theorem dX2_partHour_29 : decode cX2_partHour 29 = .ok (.iload_n 3, 1) := by decide +kernel
theorem dX2_partHour_30 : decode cX2_partHour 30 = .ok (.ireturn, 1) := by decide +kernel
theorem dX2_wornOfAll_0 : decode cX2_wornOfAll 0 = .ok (.iconst 0, 1) := by decide +kernel
theorem dX2_wornOfAll_1 : decode cX2_wornOfAll 1 = .ok (.istore_n 1, 1) := by decide +kernel
theorem dX2_wornOfAll_2 : decode cX2_wornOfAll 2 = .ok (.iconst 0, 1) := by decide +kernel
theorem dX2_wornOfAll_3 : decode cX2_wornOfAll 3 = .ok (.istore_n 2, 1) := by decide +kernel
theorem dX2_wornOfAll_4 : decode cX2_wornOfAll 4 = .ok (.iload_n 2, 1) := by decide +kernel
theorem dX2_wornOfAll_5 : decode cX2_wornOfAll 5 = .ok (.aload_n 0, 1) := by decide +kernel
theorem dX2_wornOfAll_6 : decode cX2_wornOfAll 6 = .ok (.getfield 31, 3) := by decide +kernel
theorem dX2_wornOfAll_9 : decode cX2_wornOfAll 9 = .ok (.if_icmp .ge 18, 3) := by decide +kernel
theorem dX2_wornOfAll_12 : decode cX2_wornOfAll 12 = .ok (.iload_n 1, 1) := by decide +kernel
theorem dX2_wornOfAll_13 : decode cX2_wornOfAll 13 = .ok (.aload_n 0, 1) := by decide +kernel
theorem dX2_wornOfAll_14 : decode cX2_wornOfAll 14 = .ok (.getfield 18, 3) := by decide +kernel
theorem dX2_wornOfAll_17 : decode cX2_wornOfAll 17 = .ok (.iload_n 2, 1) := by decide +kernel
theorem dX2_wornOfAll_18 : decode cX2_wornOfAll 18 = .ok (.iaload, 1) := by decide +kernel
theorem dX2_wornOfAll_19 : decode cX2_wornOfAll 19 = .ok (.iadd, 1) := by decide +kernel
theorem dX2_wornOfAll_20 : decode cX2_wornOfAll 20 = .ok (.istore_n 1, 1) := by decide +kernel
theorem dX2_wornOfAll_21 : decode cX2_wornOfAll 21 = .ok (.iinc 2 1, 3) := by decide +kernel
theorem dX2_wornOfAll_24 : decode cX2_wornOfAll 24 = .ok (.goto (-20), 3) := by decide +kernel
theorem dX2_wornOfAll_27 : decode cX2_wornOfAll 27 = .ok (.iload_n 1, 1) := by decide +kernel
theorem dX2_wornOfAll_28 : decode cX2_wornOfAll 28 = .ok (.ireturn, 1) := by decide +kernel
theorem dX2_faults_0 : decode cX2_faults 0 = .ok (.iconst 0, 1) := by decide +kernel
theorem dX2_faults_1 : decode cX2_faults 1 = .ok (.istore_n 1, 1) := by decide +kernel
theorem dX2_faults_2 : decode cX2_faults 2 = .ok (.iconst 0, 1) := by decide +kernel
theorem dX2_faults_3 : decode cX2_faults 3 = .ok (.istore_n 2, 1) := by decide +kernel
theorem dX2_faults_4 : decode cX2_faults 4 = .ok (.iload_n 2, 1) := by decide +kernel
theorem dX2_faults_5 : decode cX2_faults 5 = .ok (.aload_n 0, 1) := by decide +kernel
theorem dX2_faults_6 : decode cX2_faults 6 = .ok (.getfield 31, 3) := by decide +kernel
theorem dX2_faults_9 : decode cX2_faults 9 = .ok (.if_icmp .ge 29, 3) := by decide +kernel
theorem dX2_faults_12 : decode cX2_faults 12 = .ok (.aload_n 0, 1) := by decide +kernel
theorem dX2_faults_13 : decode cX2_faults 13 = .ok (.iload_n 2, 1) := by decide +kernel
theorem dX2_faults_14 : decode cX2_faults 14 = .ok (.aload_n 0, 1) := by decide +kernel
theorem dX2_faults_15 : decode cX2_faults 15 = .ok (.getfield 40, 3) := by decide +kernel
theorem dX2_faults_18 : decode cX2_faults 18 = .ok (.iconst 1, 1) := by decide +kernel
theorem dX2_faults_19 : decode cX2_faults 19 = .ok (.iadd, 1) := by decide +kernel
theorem dX2_faults_20 : decode cX2_faults 20 = .ok (.invokevirtual 105, 3) := by decide +kernel
theorem dX2_faults_23 : decode cX2_faults 23 = .ok (.ifCond .ne 9, 3) := by decide +kernel
theorem dX2_faults_26 : decode cX2_faults 26 = .ok (.iload_n 1, 1) := by decide +kernel
theorem dX2_faults_27 : decode cX2_faults 27 = .ok (.iconst 1, 1) := by decide +kernel
theorem dX2_faults_28 : decode cX2_faults 28 = .ok (.iload_n 2, 1) := by decide +kernel
theorem dX2_faults_29 : decode cX2_faults 29 = .ok (.ishl, 1) := by decide +kernel
theorem dX2_faults_30 : decode cX2_faults 30 = .ok (.ior, 1) := by decide +kernel
theorem dX2_faults_31 : decode cX2_faults 31 = .ok (.istore_n 1, 1) := by decide +kernel
theorem dX2_faults_32 : decode cX2_faults 32 = .ok (.iinc 2 1, 3) := by decide +kernel
theorem dX2_faults_35 : decode cX2_faults 35 = .ok (.goto (-31), 3) := by decide +kernel
theorem dX2_faults_38 : decode cX2_faults 38 = .ok (.iload_n 1, 1) := by decide +kernel
theorem dX2_faults_39 : decode cX2_faults 39 = .ok (.ireturn, 1) := by decide +kernel
theorem dX2_brown_0 : decode cX2_brown 0 = .ok (.iconst 0, 1) := by decide +kernel
theorem dX2_brown_1 : decode cX2_brown 1 = .ok (.istore_n 1, 1) := by decide +kernel
theorem dX2_brown_2 : decode cX2_brown 2 = .ok (.iconst 0, 1) := by decide +kernel
theorem dX2_brown_3 : decode cX2_brown 3 = .ok (.istore_n 2, 1) := by decide +kernel
theorem dX2_brown_4 : decode cX2_brown 4 = .ok (.iload_n 2, 1) := by decide +kernel
theorem dX2_brown_5 : decode cX2_brown 5 = .ok (.aload_n 0, 1) := by decide +kernel
theorem dX2_brown_6 : decode cX2_brown 6 = .ok (.getfield 31, 3) := by decide +kernel
theorem dX2_brown_9 : decode cX2_brown 9 = .ok (.if_icmp .ge 23, 3) := by decide +kernel
theorem dX2_brown_12 : decode cX2_brown 12 = .ok (.aload_n 0, 1) := by decide +kernel
theorem dX2_brown_13 : decode cX2_brown 13 = .ok (.iload_n 2, 1) := by decide +kernel
theorem dX2_brown_14 : decode cX2_brown 14 = .ok (.invokevirtual 133, 3) := by decide +kernel
theorem dX2_brown_17 : decode cX2_brown 17 = .ok (.ifCond .eq 9, 3) := by decide +kernel
theorem dX2_brown_20 : decode cX2_brown 20 = .ok (.iload_n 1, 1) := by decide +kernel
theorem dX2_brown_21 : decode cX2_brown 21 = .ok (.iconst 1, 1) := by decide +kernel
theorem dX2_brown_22 : decode cX2_brown 22 = .ok (.iload_n 2, 1) := by decide +kernel
theorem dX2_brown_23 : decode cX2_brown 23 = .ok (.ishl, 1) := by decide +kernel
theorem dX2_brown_24 : decode cX2_brown 24 = .ok (.ior, 1) := by decide +kernel
theorem dX2_brown_25 : decode cX2_brown 25 = .ok (.istore_n 1, 1) := by decide +kernel
theorem dX2_brown_26 : decode cX2_brown 26 = .ok (.iinc 2 1, 3) := by decide +kernel
theorem dX2_brown_29 : decode cX2_brown 29 = .ok (.goto (-25), 3) := by decide +kernel
theorem dX2_brown_32 : decode cX2_brown 32 = .ok (.iload_n 1, 1) := by decide +kernel
theorem dX2_brown_33 : decode cX2_brown 33 = .ok (.ireturn, 1) := by decide +kernel
theorem dX2_weakest_0 : decode cX2_weakest 0 = .ok (.bipush (-4), 2) := by decide +kernel
theorem dX2_weakest_2 : decode cX2_weakest 2 = .ok (.istore_n 1, 1) := by decide +kernel
theorem dX2_weakest_3 : decode cX2_weakest 3 = .ok (.iconst 0, 1) := by decide +kernel
theorem dX2_weakest_4 : decode cX2_weakest 4 = .ok (.istore_n 2, 1) := by decide +kernel
theorem dX2_weakest_5 : decode cX2_weakest 5 = .ok (.iconst 0, 1) := by decide +kernel
theorem dX2_weakest_6 : decode cX2_weakest 6 = .ok (.istore_n 3, 1) := by decide +kernel
theorem dX2_weakest_7 : decode cX2_weakest 7 = .ok (.iload_n 3, 1) := by decide +kernel
theorem dX2_weakest_8 : decode cX2_weakest 8 = .ok (.aload_n 0, 1) := by decide +kernel
theorem dX2_weakest_9 : decode cX2_weakest 9 = .ok (.getfield 31, 3) := by decide +kernel
theorem dX2_weakest_12 : decode cX2_weakest 12 = .ok (.if_icmp .ge 48, 3) := by decide +kernel
theorem dX2_weakest_15 : decode cX2_weakest 15 = .ok (.aload_n 0, 1) := by decide +kernel
theorem dX2_weakest_16 : decode cX2_weakest 16 = .ok (.iload_n 3, 1) := by decide +kernel
theorem dX2_weakest_17 : decode cX2_weakest 17 = .ok (.invokevirtual 62, 3) := by decide +kernel
theorem dX2_weakest_20 : decode cX2_weakest 20 = .ok (.aload_n 0, 1) := by decide +kernel
theorem dX2_weakest_21 : decode cX2_weakest 21 = .ok (.getfield 18, 3) := by decide +kernel
theorem dX2_weakest_24 : decode cX2_weakest 24 = .ok (.iload_n 3, 1) := by decide +kernel
theorem dX2_weakest_25 : decode cX2_weakest 25 = .ok (.iaload, 1) := by decide +kernel
theorem dX2_weakest_26 : decode cX2_weakest 26 = .ok (.isub, 1) := by decide +kernel
theorem dX2_weakest_27 : decode cX2_weakest 27 = .ok (.istore 4, 2) := by decide +kernel
theorem dX2_weakest_29 : decode cX2_weakest 29 = .ok (.aload_n 0, 1) := by decide +kernel
theorem dX2_weakest_30 : decode cX2_weakest 30 = .ok (.iload_n 3, 1) := by decide +kernel
theorem dX2_weakest_31 : decode cX2_weakest 31 = .ok (.invokevirtual 95, 3) := by decide +kernel
theorem dX2_weakest_34 : decode cX2_weakest 34 = .ok (.ifCond .eq 20, 3) := by decide +kernel
theorem dX2_weakest_37 : decode cX2_weakest 37 = .ok (.iload_n 1, 1) := by decide +kernel
theorem dX2_weakest_38 : decode cX2_weakest 38 = .ok (.bipush (-4), 2) := by decide +kernel
theorem dX2_weakest_40 : decode cX2_weakest 40 = .ok (.if_icmp .eq 9, 3) := by decide +kernel
theorem dX2_weakest_43 : decode cX2_weakest 43 = .ok (.iload 4, 2) := by decide +kernel
theorem dX2_weakest_45 : decode cX2_weakest 45 = .ok (.iload_n 2, 1) := by decide +kernel
theorem dX2_weakest_46 : decode cX2_weakest 46 = .ok (.if_icmp .ge 8, 3) := by decide +kernel
theorem dX2_weakest_49 : decode cX2_weakest 49 = .ok (.iload_n 3, 1) := by decide +kernel
theorem dX2_weakest_50 : decode cX2_weakest 50 = .ok (.istore_n 1, 1) := by decide +kernel
theorem dX2_weakest_51 : decode cX2_weakest 51 = .ok (.iload 4, 2) := by decide +kernel
theorem dX2_weakest_53 : decode cX2_weakest 53 = .ok (.istore_n 2, 1) := by decide +kernel
theorem dX2_weakest_54 : decode cX2_weakest 54 = .ok (.iinc 3 1, 3) := by decide +kernel
theorem dX2_weakest_57 : decode cX2_weakest 57 = .ok (.goto (-50), 3) := by decide +kernel
theorem dX2_weakest_60 : decode cX2_weakest 60 = .ok (.iload_n 1, 1) := by decide +kernel
theorem dX2_weakest_61 : decode cX2_weakest 61 = .ok (.ireturn, 1) := by decide +kernel
theorem dX2_canUse_0 : decode cX2_canUse 0 = .ok (.iload_n 1, 1) := by decide +kernel
theorem dX2_canUse_1 : decode cX2_canUse 1 = .ok (.ifCond .lt 21, 3) := by decide +kernel
theorem dX2_canUse_4 : decode cX2_canUse 4 = .ok (.iload_n 1, 1) := by decide +kernel
theorem dX2_canUse_5 : decode cX2_canUse 5 = .ok (.iconst 4, 1) := by decide +kernel
theorem dX2_canUse_6 : decode cX2_canUse 6 = .ok (.if_icmp .gt 16, 3) := by decide +kernel
theorem dX2_canUse_9 : decode cX2_canUse 9 = .ok (.aload_n 0, 1) := by decide +kernel
theorem dX2_canUse_10 : decode cX2_canUse 10 = .ok (.iload_n 2, 1) := by decide +kernel
theorem dX2_canUse_11 : decode cX2_canUse 11 = .ok (.iload_n 3, 1) := by decide +kernel
theorem dX2_canUse_12 : decode cX2_canUse 12 = .ok (.invokevirtual 136, 3) := by decide +kernel
theorem dX2_canUse_15 : decode cX2_canUse 15 = .ok (.ifCond .eq 7, 3) := by decide +kernel
theorem dX2_canUse_18 : decode cX2_canUse 18 = .ok (.iconst 1, 1) := by decide +kernel
theorem dX2_canUse_19 : decode cX2_canUse 19 = .ok (.goto 4, 3) := by decide +kernel
theorem dX2_canUse_22 : decode cX2_canUse 22 = .ok (.iconst 0, 1) := by decide +kernel
theorem dX2_canUse_23 : decode cX2_canUse 23 = .ok (.ireturn, 1) := by decide +kernel
theorem dX2_toolSeconds_0 : decode cX2_toolSeconds 0 = .ok (.aload_n 0, 1) := by decide +kernel
theorem dX2_toolSeconds_1 : decode cX2_toolSeconds 1 = .ok (.getfield 46, 3) := by decide +kernel
theorem dX2_toolSeconds_4 : decode cX2_toolSeconds 4 = .ok (.iload_n 2, 1) := by decide +kernel
theorem dX2_toolSeconds_5 : decode cX2_toolSeconds 5 = .ok (.isub, 1) := by decide +kernel
theorem dX2_toolSeconds_6 : decode cX2_toolSeconds 6 = .ok (.invokestatic 87, 3) := by decide +kernel
theorem dX2_toolSeconds_9 : decode cX2_toolSeconds 9 = .ok (.istore 4, 2) := by decide +kernel
theorem dX2_toolSeconds_11 : decode cX2_toolSeconds 11 = .ok (.iload_n 1, 1) := by decide +kernel
theorem dX2_toolSeconds_12 : decode cX2_toolSeconds 12 = .ok (.tableswitch 60 0 3 #[32, 37, 42, 51], 32) := by decide +kernel
theorem dX2_toolSeconds_44 : decode cX2_toolSeconds 44 = .ok (.iconst 2, 1) := by decide +kernel
theorem dX2_toolSeconds_45 : decode cX2_toolSeconds 45 = .ok (.iload 4, 2) := by decide +kernel
theorem dX2_toolSeconds_47 : decode cX2_toolSeconds 47 = .ok (.iadd, 1) := by decide +kernel
theorem dX2_toolSeconds_48 : decode cX2_toolSeconds 48 = .ok (.ireturn, 1) := by decide +kernel
theorem dX2_toolSeconds_49 : decode cX2_toolSeconds 49 = .ok (.iconst 1, 1) := by decide +kernel
theorem dX2_toolSeconds_50 : decode cX2_toolSeconds 50 = .ok (.iload 4, 2) := by decide +kernel
theorem dX2_toolSeconds_52 : decode cX2_toolSeconds 52 = .ok (.iadd, 1) := by decide +kernel
theorem dX2_toolSeconds_53 : decode cX2_toolSeconds 53 = .ok (.ireturn, 1) := by decide +kernel
theorem dX2_toolSeconds_54 : decode cX2_toolSeconds 54 = .ok (.iconst 3, 1) := by decide +kernel
theorem dX2_toolSeconds_55 : decode cX2_toolSeconds 55 = .ok (.iload_n 3, 1) := by decide +kernel
theorem dX2_toolSeconds_56 : decode cX2_toolSeconds 56 = .ok (.iload_n 2, 1) := by decide +kernel
theorem dX2_toolSeconds_57 : decode cX2_toolSeconds 57 = .ok (.isub, 1) := by decide +kernel
theorem dX2_toolSeconds_58 : decode cX2_toolSeconds 58 = .ok (.iadd, 1) := by decide +kernel
theorem dX2_toolSeconds_59 : decode cX2_toolSeconds 59 = .ok (.iload 4, 2) := by decide +kernel
theorem dX2_toolSeconds_61 : decode cX2_toolSeconds 61 = .ok (.iadd, 1) := by decide +kernel
theorem dX2_toolSeconds_62 : decode cX2_toolSeconds 62 = .ok (.ireturn, 1) := by decide +kernel
theorem dX2_toolSeconds_63 : decode cX2_toolSeconds 63 = .ok (.iload_n 2, 1) := by decide +kernel
theorem dX2_toolSeconds_64 : decode cX2_toolSeconds 64 = .ok (.iload_n 3, 1) := by decide +kernel
theorem dX2_toolSeconds_65 : decode cX2_toolSeconds 65 = .ok (.invokestatic 139, 3) := by decide +kernel
theorem dX2_toolSeconds_68 : decode cX2_toolSeconds 68 = .ok (.iload 4, 2) := by decide +kernel
theorem dX2_toolSeconds_70 : decode cX2_toolSeconds 70 = .ok (.iadd, 1) := by decide +kernel
theorem dX2_toolSeconds_71 : decode cX2_toolSeconds 71 = .ok (.ireturn, 1) := by decide +kernel
theorem dX2_toolSeconds_72 : decode cX2_toolSeconds 72 = .ok (.aload_n 0, 1) := by decide +kernel
theorem dX2_toolSeconds_73 : decode cX2_toolSeconds 73 = .ok (.getfield 46, 3) := by decide +kernel
theorem dX2_toolSeconds_76 : decode cX2_toolSeconds 76 = .ok (.iload_n 2, 1) := by decide +kernel
theorem dX2_toolSeconds_77 : decode cX2_toolSeconds 77 = .ok (.invokestatic 77, 3) := by decide +kernel
theorem dX2_toolSeconds_80 : decode cX2_toolSeconds 80 = .ok (.ireturn, 1) := by decide +kernel
theorem dX2_tells_0 : decode cX2_tells 0 = .ok (.aload_n 0, 1) := by decide +kernel
theorem dX2_tells_1 : decode cX2_tells 1 = .ok (.getfield 40, 3) := by decide +kernel
theorem dX2_tells_4 : decode cX2_tells 4 = .ok (.iconst 1, 1) := by decide +kernel
theorem dX2_tells_5 : decode cX2_tells 5 = .ok (.iadd, 1) := by decide +kernel
theorem dX2_tells_6 : decode cX2_tells 6 = .ok (.istore 4, 2) := by decide +kernel
theorem dX2_tells_8 : decode cX2_tells 8 = .ok (.iload_n 1, 1) := by decide +kernel
theorem dX2_tells_9 : decode cX2_tells 9 = .ok (.tableswitch 93 0 3 #[31, 37, 49, 60], 31) := by decide +kernel
theorem dX2_tells_40 : decode cX2_tells 40 = .ok (.aload_n 0, 1) := by decide +kernel
theorem dX2_tells_41 : decode cX2_tells 41 = .ok (.iload_n 2, 1) := by decide +kernel
theorem dX2_tells_42 : decode cX2_tells 42 = .ok (.invokevirtual 133, 3) := by decide +kernel
theorem dX2_tells_45 : decode cX2_tells 45 = .ok (.ireturn, 1) := by decide +kernel
theorem dX2_tells_46 : decode cX2_tells 46 = .ok (.aload_n 0, 1) := by decide +kernel
theorem dX2_tells_47 : decode cX2_tells 47 = .ok (.iconst 0, 1) := by decide +kernel
theorem dX2_tells_48 : decode cX2_tells 48 = .ok (.aload_n 0, 1) := by decide +kernel
theorem dX2_tells_49 : decode cX2_tells 49 = .ok (.getfield 31, 3) := by decide +kernel
theorem dX2_tells_52 : decode cX2_tells 52 = .ok (.iload 4, 2) := by decide +kernel
theorem dX2_tells_54 : decode cX2_tells 54 = .ok (.invokevirtual 108, 3) := by decide +kernel
theorem dX2_tells_57 : decode cX2_tells 57 = .ok (.ireturn, 1) := by decide +kernel
theorem dX2_tells_58 : decode cX2_tells 58 = .ok (.aload_n 0, 1) := by decide +kernel
theorem dX2_tells_59 : decode cX2_tells 59 = .ok (.iload_n 2, 1) := by decide +kernel
theorem dX2_tells_60 : decode cX2_tells 60 = .ok (.iload_n 3, 1) := by decide +kernel
theorem dX2_tells_61 : decode cX2_tells 61 = .ok (.iconst 1, 1) := by decide +kernel
theorem dX2_tells_62 : decode cX2_tells 62 = .ok (.iadd, 1) := by decide +kernel
theorem dX2_tells_63 : decode cX2_tells 63 = .ok (.iload 4, 2) := by decide +kernel
theorem dX2_tells_65 : decode cX2_tells 65 = .ok (.invokevirtual 108, 3) := by decide +kernel
theorem dX2_tells_68 : decode cX2_tells 68 = .ok (.ireturn, 1) := by decide +kernel
theorem dX2_tells_69 : decode cX2_tells 69 = .ok (.aload_n 0, 1) := by decide +kernel
theorem dX2_tells_70 : decode cX2_tells 70 = .ok (.iconst 0, 1) := by decide +kernel
theorem dX2_tells_71 : decode cX2_tells 71 = .ok (.iload_n 2, 1) := by decide +kernel
theorem dX2_tells_72 : decode cX2_tells 72 = .ok (.iload 4, 2) := by decide +kernel
theorem dX2_tells_74 : decode cX2_tells 74 = .ok (.invokevirtual 108, 3) := by decide +kernel
theorem dX2_tells_77 : decode cX2_tells 77 = .ok (.ifCond .eq 23, 3) := by decide +kernel
theorem dX2_tells_80 : decode cX2_tells 80 = .ok (.aload_n 0, 1) := by decide +kernel
theorem dX2_tells_81 : decode cX2_tells 81 = .ok (.iload_n 3, 1) := by decide +kernel
theorem dX2_tells_82 : decode cX2_tells 82 = .ok (.iconst 1, 1) := by decide +kernel
theorem dX2_tells_83 : decode cX2_tells 83 = .ok (.iadd, 1) := by decide +kernel
theorem dX2_tells_84 : decode cX2_tells 84 = .ok (.aload_n 0, 1) := by decide +kernel
theorem dX2_tells_85 : decode cX2_tells 85 = .ok (.getfield 31, 3) := by decide +kernel
theorem dX2_tells_88 : decode cX2_tells 88 = .ok (.iload 4, 2) := by decide +kernel
theorem dX2_tells_90 : decode cX2_tells 90 = .ok (.invokevirtual 108, 3) := by decide +kernel
theorem dX2_tells_93 : decode cX2_tells 93 = .ok (.ifCond .eq 7, 3) := by decide +kernel
theorem dX2_tells_96 : decode cX2_tells 96 = .ok (.iconst 1, 1) := by decide +kernel
theorem dX2_tells_97 : decode cX2_tells 97 = .ok (.goto 4, 3) := by decide +kernel
theorem dX2_tells_100 : decode cX2_tells 100 = .ok (.iconst 0, 1) := by decide +kernel
theorem dX2_tells_101 : decode cX2_tells 101 = .ok (.ireturn, 1) := by decide +kernel
theorem dX2_tells_102 : decode cX2_tells 102 = .ok (.aload_n 0, 1) := by decide +kernel
theorem dX2_tells_103 : decode cX2_tells 103 = .ok (.iconst 0, 1) := by decide +kernel
theorem dX2_tells_104 : decode cX2_tells 104 = .ok (.iload_n 2, 1) := by decide +kernel
theorem dX2_tells_105 : decode cX2_tells 105 = .ok (.iload 4, 2) := by decide +kernel
theorem dX2_tells_107 : decode cX2_tells 107 = .ok (.invokevirtual 108, 3) := by decide +kernel
theorem dX2_tells_110 : decode cX2_tells 110 = .ok (.ifCond .eq 23, 3) := by decide +kernel
theorem dX2_tells_113 : decode cX2_tells 113 = .ok (.aload_n 0, 1) := by decide +kernel
theorem dX2_tells_114 : decode cX2_tells 114 = .ok (.iload_n 2, 1) := by decide +kernel
theorem dX2_tells_115 : decode cX2_tells 115 = .ok (.iconst 1, 1) := by decide +kernel
theorem dX2_tells_116 : decode cX2_tells 116 = .ok (.iadd, 1) := by decide +kernel
theorem dX2_tells_117 : decode cX2_tells 117 = .ok (.aload_n 0, 1) := by decide +kernel
theorem dX2_tells_118 : decode cX2_tells 118 = .ok (.getfield 31, 3) := by decide +kernel
theorem dX2_tells_121 : decode cX2_tells 121 = .ok (.iload 4, 2) := by decide +kernel
theorem dX2_tells_123 : decode cX2_tells 123 = .ok (.invokevirtual 108, 3) := by decide +kernel
theorem dX2_tells_126 : decode cX2_tells 126 = .ok (.ifCond .eq 7, 3) := by decide +kernel
theorem dX2_tells_129 : decode cX2_tells 129 = .ok (.iconst 1, 1) := by decide +kernel
theorem dX2_tells_130 : decode cX2_tells 130 = .ok (.goto 4, 3) := by decide +kernel
theorem dX2_tells_133 : decode cX2_tells 133 = .ok (.iconst 0, 1) := by decide +kernel
theorem dX2_tells_134 : decode cX2_tells 134 = .ok (.ireturn, 1) := by decide +kernel
theorem dX2_useTool_0 : decode cX2_useTool 0 = .ok (.aload_n 0, 1) := by decide +kernel
theorem dX2_useTool_1 : decode cX2_useTool 1 = .ok (.aload_n 0, 1) := by decide +kernel
theorem dX2_useTool_2 : decode cX2_useTool 2 = .ok (.iload_n 1, 1) := by decide +kernel
theorem dX2_useTool_3 : decode cX2_useTool 3 = .ok (.iload_n 2, 1) := by decide +kernel
theorem dX2_useTool_4 : decode cX2_useTool 4 = .ok (.iload_n 3, 1) := by decide +kernel
theorem dX2_useTool_5 : decode cX2_useTool 5 = .ok (.invokevirtual 144, 3) := by decide +kernel
theorem dX2_useTool_8 : decode cX2_useTool 8 = .ok (.invokevirtual 80, 3) := by decide +kernel
theorem dX2_useTool_11 : decode cX2_useTool 11 = .ok (.aload_n 0, 1) := by decide +kernel
theorem dX2_useTool_12 : decode cX2_useTool 12 = .ok (.iload_n 1, 1) := by decide +kernel
theorem dX2_useTool_13 : decode cX2_useTool 13 = .ok (.iconst 2, 1) := by decide +kernel
theorem dX2_useTool_14 : decode cX2_useTool 14 = .ok (.if_icmp .eq 8, 3) := by decide +kernel
theorem dX2_useTool_17 : decode cX2_useTool 17 = .ok (.iload_n 1, 1) := by decide +kernel
theorem dX2_useTool_18 : decode cX2_useTool 18 = .ok (.iconst 3, 1) := by decide +kernel
theorem dX2_useTool_19 : decode cX2_useTool 19 = .ok (.if_icmp .ne 7, 3) := by decide +kernel
theorem dX2_useTool_22 : decode cX2_useTool 22 = .ok (.iload_n 3, 1) := by decide +kernel
theorem dX2_useTool_23 : decode cX2_useTool 23 = .ok (.goto 4, 3) := by decide +kernel
theorem dX2_useTool_26 : decode cX2_useTool 26 = .ok (.iload_n 2, 1) := by decide +kernel
theorem dX2_useTool_27 : decode cX2_useTool 27 = .ok (.putfield 46, 3) := by decide +kernel
theorem dX2_useTool_30 : decode cX2_useTool 30 = .ok (.iload_n 1, 1) := by decide +kernel
theorem dX2_useTool_31 : decode cX2_useTool 31 = .ok (.iconst 1, 1) := by decide +kernel
theorem dX2_useTool_32 : decode cX2_useTool 32 = .ok (.if_icmp .ne 15, 3) := by decide +kernel
theorem dX2_useTool_35 : decode cX2_useTool 35 = .ok (.aload_n 0, 1) := by decide +kernel
theorem dX2_useTool_36 : decode cX2_useTool 36 = .ok (.dup, 1) := by decide +kernel
theorem dX2_useTool_37 : decode cX2_useTool 37 = .ok (.getfield 37, 3) := by decide +kernel
theorem dX2_useTool_40 : decode cX2_useTool 40 = .ok (.iconst 1, 1) := by decide +kernel
theorem dX2_useTool_41 : decode cX2_useTool 41 = .ok (.iload_n 2, 1) := by decide +kernel
theorem dX2_useTool_42 : decode cX2_useTool 42 = .ok (.ishl, 1) := by decide +kernel
theorem dX2_useTool_43 : decode cX2_useTool 43 = .ok (.ior, 1) := by decide +kernel
theorem dX2_useTool_44 : decode cX2_useTool 44 = .ok (.putfield 37, 3) := by decide +kernel
theorem dX2_useTool_47 : decode cX2_useTool 47 = .ok (.aload_n 0, 1) := by decide +kernel
theorem dX2_useTool_48 : decode cX2_useTool 48 = .ok (.iload_n 1, 1) := by decide +kernel
theorem dX2_useTool_49 : decode cX2_useTool 49 = .ok (.iload_n 2, 1) := by decide +kernel
theorem dX2_useTool_50 : decode cX2_useTool 50 = .ok (.iload_n 3, 1) := by decide +kernel
theorem dX2_useTool_51 : decode cX2_useTool 51 = .ok (.invokevirtual 148, 3) := by decide +kernel
theorem dX2_useTool_54 : decode cX2_useTool 54 = .ok (.ireturn, 1) := by decide +kernel
theorem dX2_drawFigures_0 : decode cX2_drawFigures 0 = .ok (.iload_n 1, 1) := by decide +kernel
theorem dX2_drawFigures_1 : decode cX2_drawFigures 1 = .ok (.istore_n 2, 1) := by decide +kernel
theorem dX2_drawFigures_2 : decode cX2_drawFigures 2 = .ok (.iconst 0, 1) := by decide +kernel
theorem dX2_drawFigures_3 : decode cX2_drawFigures 3 = .ok (.istore_n 3, 1) := by decide +kernel
theorem dX2_drawFigures_4 : decode cX2_drawFigures 4 = .ok (.iload_n 3, 1) := by decide +kernel
theorem dX2_drawFigures_5 : decode cX2_drawFigures 5 = .ok (.aload_n 0, 1) := by decide +kernel
theorem dX2_drawFigures_6 : decode cX2_drawFigures 6 = .ok (.getfield 31, 3) := by decide +kernel
theorem dX2_drawFigures_9 : decode cX2_drawFigures 9 = .ok (.if_icmp .ge 34, 3) := by decide +kernel
theorem dX2_drawFigures_12 : decode cX2_drawFigures 12 = .ok (.iload_n 2, 1) := by decide +kernel
theorem dX2_drawFigures_13 : decode cX2_drawFigures 13 = .ok (.ldc 151, 2) := by decide +kernel
theorem dX2_drawFigures_15 : decode cX2_drawFigures 15 = .ok (.imul, 1) := by decide +kernel
theorem dX2_drawFigures_16 : decode cX2_drawFigures 16 = .ok (.sipush 12345, 3) := by decide +kernel
theorem dX2_drawFigures_19 : decode cX2_drawFigures 19 = .ok (.iadd, 1) := by decide +kernel
theorem dX2_drawFigures_20 : decode cX2_drawFigures 20 = .ok (.istore_n 2, 1) := by decide +kernel
theorem dX2_drawFigures_21 : decode cX2_drawFigures 21 = .ok (.aload_n 0, 1) := by decide +kernel
theorem dX2_drawFigures_22 : decode cX2_drawFigures 22 = .ok (.getfield 15, 3) := by decide +kernel
theorem dX2_drawFigures_25 : decode cX2_drawFigures 25 = .ok (.iload_n 3, 1) := by decide +kernel
theorem dX2_drawFigures_26 : decode cX2_drawFigures 26 = .ok (.iload_n 2, 1) := by decide +kernel
theorem dX2_drawFigures_27 : decode cX2_drawFigures 27 = .ok (.ldc 152, 2) := by decide +kernel
theorem dX2_drawFigures_29 : decode cX2_drawFigures 29 = .ok (.iand, 1) := by decide +kernel
theorem dX2_drawFigures_30 : decode cX2_drawFigures 30 = .ok (.ldc 153, 2) := by decide +kernel
theorem dX2_drawFigures_32 : decode cX2_drawFigures 32 = .ok (.idiv, 1) := by decide +kernel
theorem dX2_drawFigures_33 : decode cX2_drawFigures 33 = .ok (.bipush 10, 2) := by decide +kernel
theorem dX2_drawFigures_35 : decode cX2_drawFigures 35 = .ok (.irem, 1) := by decide +kernel
theorem dX2_drawFigures_36 : decode cX2_drawFigures 36 = .ok (.iastore, 1) := by decide +kernel
theorem dX2_drawFigures_37 : decode cX2_drawFigures 37 = .ok (.iinc 3 1, 3) := by decide +kernel
theorem dX2_drawFigures_40 : decode cX2_drawFigures 40 = .ok (.goto (-36), 3) := by decide +kernel
theorem dX2_drawFigures_43 : decode cX2_drawFigures 43 = .ok (.iload_n 2, 1) := by decide +kernel
theorem dX2_drawFigures_44 : decode cX2_drawFigures 44 = .ok (.ireturn, 1) := by decide +kernel
theorem dX3_power_0 : decode cX3_power 0 = .ok (.lconst 1, 1) := by decide +kernel
theorem dX3_power_1 : decode cX3_power 1 = .ok (.lstore_n 3, 1) := by decide +kernel
theorem dX3_power_2 : decode cX3_power 2 = .ok (.iconst 0, 1) := by decide +kernel
theorem dX3_power_3 : decode cX3_power 3 = .ok (.istore 5, 2) := by decide +kernel
theorem dX3_power_5 : decode cX3_power 5 = .ok (.iload 5, 2) := by decide +kernel
theorem dX3_power_7 : decode cX3_power 7 = .ok (.iload_n 2, 1) := by decide +kernel
theorem dX3_power_8 : decode cX3_power 8 = .ok (.if_icmp .ge 13, 3) := by decide +kernel
theorem dX3_power_11 : decode cX3_power 11 = .ok (.lload_n 3, 1) := by decide +kernel
theorem dX3_power_12 : decode cX3_power 12 = .ok (.lload_n 0, 1) := by decide +kernel
theorem dX3_power_13 : decode cX3_power 13 = .ok (.lmul, 1) := by decide +kernel
theorem dX3_power_14 : decode cX3_power 14 = .ok (.lstore_n 3, 1) := by decide +kernel
theorem dX3_power_15 : decode cX3_power 15 = .ok (.iinc 5 1, 3) := by decide +kernel
theorem dX3_power_18 : decode cX3_power 18 = .ok (.goto (-13), 3) := by decide +kernel
theorem dX3_power_21 : decode cX3_power 21 = .ok (.lload_n 3, 1) := by decide +kernel
theorem dX3_power_22 : decode cX3_power 22 = .ok (.lreturn, 1) := by decide +kernel
theorem dX3_commonDivisor_0 : decode cX3_commonDivisor 0 = .ok (.lload_n 0, 1) := by decide +kernel
theorem dX3_commonDivisor_1 : decode cX3_commonDivisor 1 = .ok (.lstore 4, 2) := by decide +kernel
theorem dX3_commonDivisor_3 : decode cX3_commonDivisor 3 = .ok (.lload_n 2, 1) := by decide +kernel
theorem dX3_commonDivisor_4 : decode cX3_commonDivisor 4 = .ok (.lstore 6, 2) := by decide +kernel
theorem dX3_commonDivisor_6 : decode cX3_commonDivisor 6 = .ok (.iconst 0, 1) := by decide +kernel
theorem dX3_commonDivisor_7 : decode cX3_commonDivisor 7 = .ok (.istore 8, 2) := by decide +kernel
theorem dX3_commonDivisor_9 : decode cX3_commonDivisor 9 = .ok (.iload 8, 2) := by decide +kernel
theorem dX3_commonDivisor_11 : decode cX3_commonDivisor 11 = .ok (.bipush 100, 2) := by decide +kernel
theorem dX3_commonDivisor_13 : decode cX3_commonDivisor 13 = .ok (.if_icmp .ge 31, 3) := by decide +kernel
theorem dX3_commonDivisor_16 : decode cX3_commonDivisor 16 = .ok (.lload 6, 2) := by decide +kernel
theorem dX3_commonDivisor_18 : decode cX3_commonDivisor 18 = .ok (.lconst 0, 1) := by decide +kernel
theorem dX3_commonDivisor_19 : decode cX3_commonDivisor 19 = .ok (.lcmp, 1) := by decide +kernel
theorem dX3_commonDivisor_20 : decode cX3_commonDivisor 20 = .ok (.ifCond .eq 24, 3) := by decide +kernel
theorem dX3_commonDivisor_23 : decode cX3_commonDivisor 23 = .ok (.lload 4, 2) := by decide +kernel
theorem dX3_commonDivisor_25 : decode cX3_commonDivisor 25 = .ok (.lload 6, 2) := by decide +kernel
theorem dX3_commonDivisor_27 : decode cX3_commonDivisor 27 = .ok (.lrem, 1) := by decide +kernel
theorem dX3_commonDivisor_28 : decode cX3_commonDivisor 28 = .ok (.lstore 9, 2) := by decide +kernel
theorem dX3_commonDivisor_30 : decode cX3_commonDivisor 30 = .ok (.lload 6, 2) := by decide +kernel
theorem dX3_commonDivisor_32 : decode cX3_commonDivisor 32 = .ok (.lstore 4, 2) := by decide +kernel
theorem dX3_commonDivisor_34 : decode cX3_commonDivisor 34 = .ok (.lload 9, 2) := by decide +kernel
theorem dX3_commonDivisor_36 : decode cX3_commonDivisor 36 = .ok (.lstore 6, 2) := by decide +kernel
theorem dX3_commonDivisor_38 : decode cX3_commonDivisor 38 = .ok (.iinc 8 1, 3) := by decide +kernel
theorem dX3_commonDivisor_41 : decode cX3_commonDivisor 41 = .ok (.goto (-32), 3) := by decide +kernel
theorem dX3_commonDivisor_44 : decode cX3_commonDivisor 44 = .ok (.lload 4, 2) := by decide +kernel
theorem dX3_commonDivisor_46 : decode cX3_commonDivisor 46 = .ok (.lreturn, 1) := by decide +kernel
theorem dX3_leastTerms_0 : decode cX3_leastTerms 0 = .ok (.lload_n 0, 1) := by decide +kernel
theorem dX3_leastTerms_1 : decode cX3_leastTerms 1 = .ok (.lload_n 2, 1) := by decide +kernel
theorem dX3_leastTerms_2 : decode cX3_leastTerms 2 = .ok (.invokestatic 9, 3) := by decide +kernel
theorem dX3_leastTerms_5 : decode cX3_leastTerms 5 = .ok (.lstore 5, 2) := by decide +kernel
theorem dX3_leastTerms_7 : decode cX3_leastTerms 7 = .ok (.lload_n 2, 1) := by decide +kernel
theorem dX3_leastTerms_8 : decode cX3_leastTerms 8 = .ok (.lconst 0, 1) := by decide +kernel
theorem dX3_leastTerms_9 : decode cX3_leastTerms 9 = .ok (.lcmp, 1) := by decide +kernel
theorem dX3_leastTerms_10 : decode cX3_leastTerms 10 = .ok (.ifCond .eq 10, 3) := by decide +kernel
theorem dX3_leastTerms_13 : decode cX3_leastTerms 13 = .ok (.lload 5, 2) := by decide +kernel
theorem dX3_leastTerms_15 : decode cX3_leastTerms 15 = .ok (.lconst 0, 1) := by decide +kernel
theorem dX3_leastTerms_16 : decode cX3_leastTerms 16 = .ok (.lcmp, 1) := by decide +kernel
theorem dX3_leastTerms_17 : decode cX3_leastTerms 17 = .ok (.ifCond .ne 7, 3) := by decide +kernel
theorem dX3_leastTerms_20 : decode cX3_leastTerms 20 = .ok (.iload 4, 2) := by decide +kernel
theorem dX3_leastTerms_22 : decode cX3_leastTerms 22 = .ok (.i2l, 1) := by decide +kernel
theorem dX3_leastTerms_23 : decode cX3_leastTerms 23 = .ok (.lreturn, 1) := by decide +kernel
theorem dX3_leastTerms_24 : decode cX3_leastTerms 24 = .ok (.iload 4, 2) := by decide +kernel
theorem dX3_leastTerms_26 : decode cX3_leastTerms 26 = .ok (.ifCond .ne 10, 3) := by decide +kernel
theorem dX3_leastTerms_29 : decode cX3_leastTerms 29 = .ok (.lload_n 0, 1) := by decide +kernel
theorem dX3_leastTerms_30 : decode cX3_leastTerms 30 = .ok (.lload 5, 2) := by decide +kernel
theorem dX3_leastTerms_32 : decode cX3_leastTerms 32 = .ok (.ldiv, 1) := by decide +kernel
theorem dX3_leastTerms_33 : decode cX3_leastTerms 33 = .ok (.goto 7, 3) := by decide +kernel
theorem dX3_leastTerms_36 : decode cX3_leastTerms 36 = .ok (.lload_n 2, 1) := by decide +kernel
theorem dX3_leastTerms_37 : decode cX3_leastTerms 37 = .ok (.lload 5, 2) := by decide +kernel
theorem dX3_leastTerms_39 : decode cX3_leastTerms 39 = .ok (.ldiv, 1) := by decide +kernel
theorem dX3_leastTerms_40 : decode cX3_leastTerms 40 = .ok (.lreturn, 1) := by decide +kernel
theorem dX4_init_0 : decode cX4_init 0 = .ok (.aload_n 0, 1) := by decide +kernel
theorem dX4_init_1 : decode cX4_init 1 = .ok (.invokespecial 3, 3) := by decide +kernel
theorem dX4_init_4 : decode cX4_init 4 = .ok (.aload_n 0, 1) := by decide +kernel
theorem dX4_init_5 : decode cX4_init 5 = .ok (.iconst 0, 1) := by decide +kernel
theorem dX4_init_6 : decode cX4_init 6 = .ok (.putfield 11, 3) := by decide +kernel
theorem dX4_init_9 : decode cX4_init 9 = .ok (.aload_n 0, 1) := by decide +kernel
theorem dX4_init_10 : decode cX4_init 10 = .ok (.bipush 100, 2) := by decide +kernel
theorem dX4_init_12 : decode cX4_init 12 = .ok (.newarray .int, 2) := by decide +kernel
theorem dX4_init_14 : decode cX4_init 14 = .ok (.putfield 15, 3) := by decide +kernel
theorem dX4_init_17 : decode cX4_init 17 = .ok (.return_, 1) := by decide +kernel
theorem dX4_getNothing_0 : decode cX4_getNothing 0 = .ok (.aload_n 0, 1) := by decide +kernel
theorem dX4_getNothing_1 : decode cX4_getNothing 1 = .ok (.iconst 0, 1) := by decide +kernel
theorem dX4_getNothing_2 : decode cX4_getNothing 2 = .ok (.putfield 11, 3) := by decide +kernel
theorem dX4_getNothing_5 : decode cX4_getNothing 5 = .ok (.return_, 1) := by decide +kernel
theorem dX4_getBulb_0 : decode cX4_getBulb 0 = .ok (.aload_n 0, 1) := by decide +kernel
theorem dX4_getBulb_1 : decode cX4_getBulb 1 = .ok (.iconst 1, 1) := by decide +kernel
theorem dX4_getBulb_2 : decode cX4_getBulb 2 = .ok (.putfield 11, 3) := by decide +kernel
theorem dX4_getBulb_5 : decode cX4_getBulb 5 = .ok (.aload_n 0, 1) := by decide +kernel
theorem dX4_getBulb_6 : decode cX4_getBulb 6 = .ok (.iload_n 1, 1) := by decide +kernel
theorem dX4_getBulb_7 : decode cX4_getBulb 7 = .ok (.putfield 19, 3) := by decide +kernel
theorem dX4_getBulb_10 : decode cX4_getBulb 10 = .ok (.aload_n 0, 1) := by decide +kernel
theorem dX4_getBulb_11 : decode cX4_getBulb 11 = .ok (.iload_n 2, 1) := by decide +kernel
theorem dX4_getBulb_12 : decode cX4_getBulb 12 = .ok (.putfield 22, 3) := by decide +kernel
theorem dX4_getBulb_15 : decode cX4_getBulb 15 = .ok (.return_, 1) := by decide +kernel
theorem dX4_getRow_0 : decode cX4_getRow 0 = .ok (.aload_n 0, 1) := by decide +kernel
theorem dX4_getRow_1 : decode cX4_getRow 1 = .ok (.iconst 2, 1) := by decide +kernel
theorem dX4_getRow_2 : decode cX4_getRow 2 = .ok (.putfield 11, 3) := by decide +kernel
theorem dX4_getRow_5 : decode cX4_getRow 5 = .ok (.aload_n 0, 1) := by decide +kernel
theorem dX4_getRow_6 : decode cX4_getRow 6 = .ok (.iload_n 1, 1) := by decide +kernel
theorem dX4_getRow_7 : decode cX4_getRow 7 = .ok (.putfield 25, 3) := by decide +kernel
theorem dX4_getRow_10 : decode cX4_getRow 10 = .ok (.aload_n 0, 1) := by decide +kernel
theorem dX4_getRow_11 : decode cX4_getRow 11 = .ok (.iload_n 2, 1) := by decide +kernel
theorem dX4_getRow_12 : decode cX4_getRow 12 = .ok (.putfield 28, 3) := by decide +kernel
theorem dX4_getRow_15 : decode cX4_getRow 15 = .ok (.iconst 0, 1) := by decide +kernel
theorem dX4_getRow_16 : decode cX4_getRow 16 = .ok (.istore_n 3, 1) := by decide +kernel
theorem dX4_getRow_17 : decode cX4_getRow 17 = .ok (.iload_n 3, 1) := by decide +kernel
theorem dX4_getRow_18 : decode cX4_getRow 18 = .ok (.bipush 100, 2) := by decide +kernel
theorem dX4_getRow_20 : decode cX4_getRow 20 = .ok (.if_icmp .ge 16, 3) := by decide +kernel
theorem dX4_getRow_23 : decode cX4_getRow 23 = .ok (.aload_n 0, 1) := by decide +kernel
theorem dX4_getRow_24 : decode cX4_getRow 24 = .ok (.getfield 15, 3) := by decide +kernel
theorem dX4_getRow_27 : decode cX4_getRow 27 = .ok (.iload_n 3, 1) := by decide +kernel
theorem dX4_getRow_28 : decode cX4_getRow 28 = .ok (.iconst 0, 1) := by decide +kernel
theorem dX4_getRow_29 : decode cX4_getRow 29 = .ok (.iastore, 1) := by decide +kernel
theorem dX4_getRow_30 : decode cX4_getRow 30 = .ok (.iinc 3 1, 3) := by decide +kernel
theorem dX4_getRow_33 : decode cX4_getRow 33 = .ok (.goto (-16), 3) := by decide +kernel
theorem dX4_getRow_36 : decode cX4_getRow 36 = .ok (.return_, 1) := by decide +kernel
theorem dX4_hasPlace_0 : decode cX4_hasPlace 0 = .ok (.iload_n 1, 1) := by decide +kernel
theorem dX4_hasPlace_1 : decode cX4_hasPlace 1 = .ok (.ifCond .lt 15, 3) := by decide +kernel
theorem dX4_hasPlace_4 : decode cX4_hasPlace 4 = .ok (.iload_n 1, 1) := by decide +kernel
theorem dX4_hasPlace_5 : decode cX4_hasPlace 5 = .ok (.aload_n 0, 1) := by decide +kernel
theorem dX4_hasPlace_6 : decode cX4_hasPlace 6 = .ok (.getfield 28, 3) := by decide +kernel
theorem dX4_hasPlace_9 : decode cX4_hasPlace 9 = .ok (.if_icmp .ge 7, 3) := by decide +kernel
theorem dX4_hasPlace_12 : decode cX4_hasPlace 12 = .ok (.iconst 1, 1) := by decide +kernel
theorem dX4_hasPlace_13 : decode cX4_hasPlace 13 = .ok (.goto 4, 3) := by decide +kernel
theorem dX4_hasPlace_16 : decode cX4_hasPlace 16 = .ok (.iconst 0, 1) := by decide +kernel
theorem dX4_hasPlace_17 : decode cX4_hasPlace 17 = .ok (.ireturn, 1) := by decide +kernel
theorem dX4_hasStretch_0 : decode cX4_hasStretch 0 = .ok (.iload_n 2, 1) := by decide +kernel
theorem dX4_hasStretch_1 : decode cX4_hasStretch 1 = .ok (.ifCond .lt 29, 3) := by decide +kernel
theorem dX4_hasStretch_4 : decode cX4_hasStretch 4 = .ok (.iload_n 2, 1) := by decide +kernel
theorem dX4_hasStretch_5 : decode cX4_hasStretch 5 = .ok (.aload_n 0, 1) := by decide +kernel
theorem dX4_hasStretch_6 : decode cX4_hasStretch 6 = .ok (.getfield 28, 3) := by decide +kernel
theorem dX4_hasStretch_9 : decode cX4_hasStretch 9 = .ok (.if_icmp .gt 21, 3) := by decide +kernel
theorem dX4_hasStretch_12 : decode cX4_hasStretch 12 = .ok (.iload_n 1, 1) := by decide +kernel
theorem dX4_hasStretch_13 : decode cX4_hasStretch 13 = .ok (.ifCond .lt 17, 3) := by decide +kernel
theorem dX4_hasStretch_16 : decode cX4_hasStretch 16 = .ok (.iload_n 1, 1) := by decide +kernel
theorem dX4_hasStretch_17 : decode cX4_hasStretch 17 = .ok (.aload_n 0, 1) := by decide +kernel
theorem dX4_hasStretch_18 : decode cX4_hasStretch 18 = .ok (.getfield 28, 3) := by decide +kernel
theorem dX4_hasStretch_21 : decode cX4_hasStretch 21 = .ok (.iload_n 2, 1) := by decide +kernel
theorem dX4_hasStretch_22 : decode cX4_hasStretch 22 = .ok (.isub, 1) := by decide +kernel
theorem dX4_hasStretch_23 : decode cX4_hasStretch 23 = .ok (.if_icmp .gt 7, 3) := by decide +kernel
theorem dX4_hasStretch_26 : decode cX4_hasStretch 26 = .ok (.iconst 1, 1) := by decide +kernel
theorem dX4_hasStretch_27 : decode cX4_hasStretch 27 = .ok (.goto 4, 3) := by decide +kernel
theorem dX4_hasStretch_30 : decode cX4_hasStretch 30 = .ok (.iconst 0, 1) := by decide +kernel
theorem dX4_hasStretch_31 : decode cX4_hasStretch 31 = .ok (.ireturn, 1) := by decide +kernel
theorem dX4_set_0 : decode cX4_set 0 = .ok (.aload_n 0, 1) := by decide +kernel
theorem dX4_set_1 : decode cX4_set 1 = .ok (.getfield 25, 3) := by decide +kernel
theorem dX4_set_4 : decode cX4_set 4 = .ok (.ifCond .ne 14, 3) := by decide +kernel
theorem dX4_set_7 : decode cX4_set 7 = .ok (.aload_n 0, 1) := by decide +kernel
theorem dX4_set_8 : decode cX4_set 8 = .ok (.getfield 15, 3) := by decide +kernel
theorem dX4_set_11 : decode cX4_set 11 = .ok (.iload_n 1, 1) := by decide +kernel
theorem dX4_set_12 : decode cX4_set 12 = .ok (.iload_n 2, 1) := by decide +kernel
theorem dX4_set_13 : decode cX4_set 13 = .ok (.i2b, 1) := by decide +kernel
theorem dX4_set_14 : decode cX4_set 14 = .ok (.iastore, 1) := by decide +kernel
theorem dX4_set_15 : decode cX4_set 15 = .ok (.goto 29, 3) := by decide +kernel
theorem dX4_set_18 : decode cX4_set 18 = .ok (.aload_n 0, 1) := by decide +kernel
theorem dX4_set_19 : decode cX4_set 19 = .ok (.getfield 25, 3) := by decide +kernel
theorem dX4_set_22 : decode cX4_set 22 = .ok (.iconst 1, 1) := by decide +kernel
theorem dX4_set_23 : decode cX4_set 23 = .ok (.if_icmp .ne 14, 3) := by decide +kernel
theorem dX4_set_26 : decode cX4_set 26 = .ok (.aload_n 0, 1) := by decide +kernel
theorem dX4_set_27 : decode cX4_set 27 = .ok (.getfield 15, 3) := by decide +kernel
theorem dX4_set_30 : decode cX4_set 30 = .ok (.iload_n 1, 1) := by decide +kernel
theorem dX4_set_31 : decode cX4_set 31 = .ok (.iload_n 2, 1) := by decide +kernel
theorem dX4_set_32 : decode cX4_set 32 = .ok (.i2s, 1) := by decide +kernel
theorem dX4_set_33 : decode cX4_set 33 = .ok (.iastore, 1) := by decide +kernel
theorem dX4_set_34 : decode cX4_set 34 = .ok (.goto 10, 3) := by decide +kernel
theorem dX4_set_37 : decode cX4_set 37 = .ok (.aload_n 0, 1) := by decide +kernel
theorem dX4_set_38 : decode cX4_set 38 = .ok (.getfield 15, 3) := by decide +kernel
theorem dX4_set_41 : decode cX4_set 41 = .ok (.iload_n 1, 1) := by decide +kernel
theorem dX4_set_42 : decode cX4_set 42 = .ok (.iload_n 2, 1) := by decide +kernel
theorem dX4_set_43 : decode cX4_set 43 = .ok (.iastore, 1) := by decide +kernel
theorem dX4_set_44 : decode cX4_set 44 = .ok (.return_, 1) := by decide +kernel
theorem dX4_isSkipped_0 : decode cX4_isSkipped 0 = .ok (.aload_n 0, 1) := by decide +kernel
theorem dX4_isSkipped_1 : decode cX4_isSkipped 1 = .ok (.getfield 25, 3) := by decide +kernel
theorem dX4_isSkipped_4 : decode cX4_isSkipped 4 = .ok (.ifCond .ne 20, 3) := by decide +kernel
theorem dX4_isSkipped_7 : decode cX4_isSkipped 7 = .ok (.aload_n 0, 1) := by decide +kernel
theorem dX4_isSkipped_8 : decode cX4_isSkipped 8 = .ok (.getfield 15, 3) := by decide +kernel
theorem dX4_isSkipped_11 : decode cX4_isSkipped 11 = .ok (.iload_n 1, 1) := by decide +kernel
theorem dX4_isSkipped_12 : decode cX4_isSkipped 12 = .ok (.iaload, 1) := by decide +kernel
theorem dX4_isSkipped_13 : decode cX4_isSkipped 13 = .ok (.bipush (-128), 2) := by decide +kernel
theorem dX4_isSkipped_15 : decode cX4_isSkipped 15 = .ok (.if_icmp .ne 7, 3) := by decide +kernel
theorem dX4_isSkipped_18 : decode cX4_isSkipped 18 = .ok (.iconst 1, 1) := by decide +kernel
theorem dX4_isSkipped_19 : decode cX4_isSkipped 19 = .ok (.goto 4, 3) := by decide +kernel
theorem dX4_isSkipped_22 : decode cX4_isSkipped 22 = .ok (.iconst 0, 1) := by decide +kernel
theorem dX4_isSkipped_23 : decode cX4_isSkipped 23 = .ok (.ireturn, 1) := by decide +kernel
theorem dX4_isSkipped_24 : decode cX4_isSkipped 24 = .ok (.aload_n 0, 1) := by decide +kernel
theorem dX4_isSkipped_25 : decode cX4_isSkipped 25 = .ok (.getfield 15, 3) := by decide +kernel
theorem dX4_isSkipped_28 : decode cX4_isSkipped 28 = .ok (.iload_n 1, 1) := by decide +kernel
theorem dX4_isSkipped_29 : decode cX4_isSkipped 29 = .ok (.iaload, 1) := by decide +kernel
theorem dX4_isSkipped_30 : decode cX4_isSkipped 30 = .ok (.aload_n 0, 1) := by decide +kernel
theorem dX4_isSkipped_31 : decode cX4_isSkipped 31 = .ok (.getfield 25, 3) := by decide +kernel
theorem dX4_isSkipped_34 : decode cX4_isSkipped 34 = .ok (.iconst 1, 1) := by decide +kernel
theorem dX4_isSkipped_35 : decode cX4_isSkipped 35 = .ok (.if_icmp .ne 9, 3) := by decide +kernel
theorem dX4_isSkipped_38 : decode cX4_isSkipped 38 = .ok (.sipush (-32768), 3) := by decide +kernel
theorem dX4_isSkipped_41 : decode cX4_isSkipped 41 = .ok (.goto 5, 3) := by decide +kernel
theorem dX4_isSkipped_44 : decode cX4_isSkipped 44 = .ok (.ldc 31, 2) := by decide +kernel
theorem dX4_isSkipped_46 : decode cX4_isSkipped 46 = .ok (.if_icmp .ne 7, 3) := by decide +kernel
theorem dX4_isSkipped_49 : decode cX4_isSkipped 49 = .ok (.iconst 1, 1) := by decide +kernel
theorem dX4_isSkipped_50 : decode cX4_isSkipped 50 = .ok (.goto 4, 3) := by decide +kernel
theorem dX4_isSkipped_53 : decode cX4_isSkipped 53 = .ok (.iconst 0, 1) := by decide +kernel
theorem dX4_isSkipped_54 : decode cX4_isSkipped 54 = .ok (.ireturn, 1) := by decide +kernel
theorem dX4_toldSize_0 : decode cX4_toldSize 0 = .ok (.iconst 0, 1) := by decide +kernel
theorem dX4_toldSize_1 : decode cX4_toldSize 1 = .ok (.istore_n 1, 1) := by decide +kernel
theorem dX4_toldSize_2 : decode cX4_toldSize 2 = .ok (.iconst 0, 1) := by decide +kernel
theorem dX4_toldSize_3 : decode cX4_toldSize 3 = .ok (.istore_n 2, 1) := by decide +kernel
theorem dX4_toldSize_4 : decode cX4_toldSize 4 = .ok (.iload_n 2, 1) := by decide +kernel
theorem dX4_toldSize_5 : decode cX4_toldSize 5 = .ok (.aload_n 0, 1) := by decide +kernel
theorem dX4_toldSize_6 : decode cX4_toldSize 6 = .ok (.getfield 28, 3) := by decide +kernel
theorem dX4_toldSize_9 : decode cX4_toldSize 9 = .ok (.if_icmp .ge 21, 3) := by decide +kernel
theorem dX4_toldSize_12 : decode cX4_toldSize 12 = .ok (.aload_n 0, 1) := by decide +kernel
theorem dX4_toldSize_13 : decode cX4_toldSize 13 = .ok (.iload_n 2, 1) := by decide +kernel
theorem dX4_toldSize_14 : decode cX4_toldSize 14 = .ok (.invokevirtual 32, 3) := by decide +kernel
theorem dX4_toldSize_17 : decode cX4_toldSize 17 = .ok (.ifCond .ne 7, 3) := by decide +kernel
theorem dX4_toldSize_20 : decode cX4_toldSize 20 = .ok (.iload_n 2, 1) := by decide +kernel
theorem dX4_toldSize_21 : decode cX4_toldSize 21 = .ok (.iconst 1, 1) := by decide +kernel
theorem dX4_toldSize_22 : decode cX4_toldSize 22 = .ok (.iadd, 1) := by decide +kernel
theorem dX4_toldSize_23 : decode cX4_toldSize 23 = .ok (.istore_n 1, 1) := by decide +kernel
theorem dX4_toldSize_24 : decode cX4_toldSize 24 = .ok (.iinc 2 1, 3) := by decide +kernel
theorem dX4_toldSize_27 : decode cX4_toldSize 27 = .ok (.goto (-23), 3) := by decide +kernel
theorem dX4_toldSize_30 : decode cX4_toldSize 30 = .ok (.iload_n 1, 1) := by decide +kernel
theorem dX4_toldSize_31 : decode cX4_toldSize 31 = .ok (.ireturn, 1) := by decide +kernel
theorem dX5_life_0 : decode cX5_life 0 = .ok (.bipush 60, 2) := by decide +kernel
theorem dX5_life_2 : decode cX5_life 2 = .ok (.bipush 10, 2) := by decide +kernel
theorem dX5_life_4 : decode cX5_life 4 = .ok (.iload_n 1, 1) := by decide +kernel
theorem dX5_life_5 : decode cX5_life 5 = .ok (.imul, 1) := by decide +kernel
theorem dX5_life_6 : decode cX5_life 6 = .ok (.iadd, 1) := by decide +kernel
theorem dX5_life_7 : decode cX5_life 7 = .ok (.istore_n 2, 1) := by decide +kernel
theorem dX5_life_8 : decode cX5_life 8 = .ok (.iload_n 2, 1) := by decide +kernel
theorem dX5_life_9 : decode cX5_life 9 = .ok (.bipush 20, 2) := by decide +kernel
theorem dX5_life_11 : decode cX5_life 11 = .ok (.isub, 1) := by decide +kernel
theorem dX5_life_12 : decode cX5_life 12 = .ok (.istore_n 3, 1) := by decide +kernel
theorem dX5_life_13 : decode cX5_life 13 = .ok (.iload_n 0, 1) := by decide +kernel
theorem dX5_life_14 : decode cX5_life 14 = .ok (.tableswitch 52 2 7 #[38, 52, 52, 42, 44, 48], 38) := by decide +kernel
theorem dX5_life_52 : decode cX5_life 52 = .ok (.iload_n 2, 1) := by decide +kernel
theorem dX5_life_53 : decode cX5_life 53 = .ok (.iconst 2, 1) := by decide +kernel
theorem dX5_life_54 : decode cX5_life 54 = .ok (.idiv, 1) := by decide +kernel
theorem dX5_life_55 : decode cX5_life 55 = .ok (.ireturn, 1) := by decide +kernel
theorem dX5_life_56 : decode cX5_life 56 = .ok (.iload_n 3, 1) := by decide +kernel
theorem dX5_life_57 : decode cX5_life 57 = .ok (.ireturn, 1) := by decide +kernel
theorem dX5_life_58 : decode cX5_life 58 = .ok (.sipush 150, 3) := by decide +kernel
theorem dX5_life_61 : decode cX5_life 61 = .ok (.ireturn, 1) := by decide +kernel
theorem dX5_life_62 : decode cX5_life 62 = .ok (.iconst 2, 1) := by decide +kernel
theorem dX5_life_63 : decode cX5_life 63 = .ok (.iload_n 3, 1) := by decide +kernel
theorem dX5_life_64 : decode cX5_life 64 = .ok (.imul, 1) := by decide +kernel
theorem dX5_life_65 : decode cX5_life 65 = .ok (.ireturn, 1) := by decide +kernel
theorem dX5_life_66 : decode cX5_life 66 = .ok (.iload_n 2, 1) := by decide +kernel
theorem dX5_life_67 : decode cX5_life 67 = .ok (.ireturn, 1) := by decide +kernel
theorem dX5_glow_0 : decode cX5_glow 0 = .ok (.iconst 4, 1) := by decide +kernel
theorem dX5_glow_1 : decode cX5_glow 1 = .ok (.istore_n 2, 1) := by decide +kernel
theorem dX5_glow_2 : decode cX5_glow 2 = .ok (.iload_n 2, 1) := by decide +kernel
theorem dX5_glow_3 : decode cX5_glow 3 = .ok (.iconst 1, 1) := by decide +kernel
theorem dX5_glow_4 : decode cX5_glow 4 = .ok (.isub, 1) := by decide +kernel
theorem dX5_glow_5 : decode cX5_glow 5 = .ok (.istore_n 3, 1) := by decide +kernel
theorem dX5_glow_6 : decode cX5_glow 6 = .ok (.iload_n 0, 1) := by decide +kernel
theorem dX5_glow_7 : decode cX5_glow 7 = .ok (.tableswitch 53 2 7 #[37, 39, 53, 41, 43, 49], 37) := by decide +kernel
theorem dX5_glow_44 : decode cX5_glow 44 = .ok (.iconst 1, 1) := by decide +kernel
theorem dX5_glow_45 : decode cX5_glow 45 = .ok (.ireturn, 1) := by decide +kernel
theorem dX5_glow_46 : decode cX5_glow 46 = .ok (.iconst 0, 1) := by decide +kernel
theorem dX5_glow_47 : decode cX5_glow 47 = .ok (.ireturn, 1) := by decide +kernel
theorem dX5_glow_48 : decode cX5_glow 48 = .ok (.iload_n 3, 1) := by decide +kernel
theorem dX5_glow_49 : decode cX5_glow 49 = .ok (.ireturn, 1) := by decide +kernel
theorem dX5_glow_50 : decode cX5_glow 50 = .ok (.iload_n 2, 1) := by decide +kernel
theorem dX5_glow_51 : decode cX5_glow 51 = .ok (.iload_n 1, 1) := by decide +kernel
theorem dX5_glow_52 : decode cX5_glow 52 = .ok (.iconst 2, 1) := by decide +kernel
theorem dX5_glow_53 : decode cX5_glow 53 = .ok (.idiv, 1) := by decide +kernel
theorem dX5_glow_54 : decode cX5_glow 54 = .ok (.iadd, 1) := by decide +kernel
theorem dX5_glow_55 : decode cX5_glow 55 = .ok (.ireturn, 1) := by decide +kernel
theorem dX5_glow_56 : decode cX5_glow 56 = .ok (.iload_n 3, 1) := by decide +kernel
theorem dX5_glow_57 : decode cX5_glow 57 = .ok (.iconst 2, 1) := by decide +kernel
theorem dX5_glow_58 : decode cX5_glow 58 = .ok (.iadd, 1) := by decide +kernel
theorem dX5_glow_59 : decode cX5_glow 59 = .ok (.ireturn, 1) := by decide +kernel
theorem dX5_glow_60 : decode cX5_glow 60 = .ok (.iload_n 2, 1) := by decide +kernel
theorem dX5_glow_61 : decode cX5_glow 61 = .ok (.ireturn, 1) := by decide +kernel
theorem dX5_price_0 : decode cX5_price 0 = .ok (.iconst 2, 1) := by decide +kernel
theorem dX5_price_1 : decode cX5_price 1 = .ok (.iload_n 1, 1) := by decide +kernel
theorem dX5_price_2 : decode cX5_price 2 = .ok (.imul, 1) := by decide +kernel
theorem dX5_price_3 : decode cX5_price 3 = .ok (.istore_n 2, 1) := by decide +kernel
theorem dX5_price_4 : decode cX5_price 4 = .ok (.iload_n 0, 1) := by decide +kernel
theorem dX5_price_5 : decode cX5_price 5 = .ok (.tableswitch 62 1 7 #[43, 45, 49, 51, 54, 56, 58], 43) := by decide +kernel
theorem dX5_price_48 : decode cX5_price 48 = .ok (.iconst 1, 1) := by decide +kernel
theorem dX5_price_49 : decode cX5_price 49 = .ok (.ireturn, 1) := by decide +kernel
theorem dX5_price_50 : decode cX5_price 50 = .ok (.iload_n 1, 1) := by decide +kernel
theorem dX5_price_51 : decode cX5_price 51 = .ok (.iconst 2, 1) := by decide +kernel
theorem dX5_price_52 : decode cX5_price 52 = .ok (.iadd, 1) := by decide +kernel
theorem dX5_price_53 : decode cX5_price 53 = .ok (.ireturn, 1) := by decide +kernel
theorem dX5_price_54 : decode cX5_price 54 = .ok (.iconst 0, 1) := by decide +kernel
theorem dX5_price_55 : decode cX5_price 55 = .ok (.ireturn, 1) := by decide +kernel
theorem dX5_price_56 : decode cX5_price 56 = .ok (.bipush 7, 2) := by decide +kernel
theorem dX5_price_58 : decode cX5_price 58 = .ok (.ireturn, 1) := by decide +kernel
theorem dX5_price_59 : decode cX5_price 59 = .ok (.iload_n 2, 1) := by decide +kernel
theorem dX5_price_60 : decode cX5_price 60 = .ok (.ireturn, 1) := by decide +kernel
theorem dX5_price_61 : decode cX5_price 61 = .ok (.iconst 3, 1) := by decide +kernel
theorem dX5_price_62 : decode cX5_price 62 = .ok (.ireturn, 1) := by decide +kernel
theorem dX5_price_63 : decode cX5_price 63 = .ok (.iload_n 2, 1) := by decide +kernel
theorem dX5_price_64 : decode cX5_price 64 = .ok (.iconst 1, 1) := by decide +kernel
theorem dX5_price_65 : decode cX5_price 65 = .ok (.iadd, 1) := by decide +kernel
theorem dX5_price_66 : decode cX5_price 66 = .ok (.ireturn, 1) := by decide +kernel
theorem dX5_price_67 : decode cX5_price 67 = .ok (.iload_n 1, 1) := by decide +kernel
theorem dX5_price_68 : decode cX5_price 68 = .ok (.ireturn, 1) := by decide +kernel
theorem dX5_failure_0 : decode cX5_failure 0 = .ok (.iload_n 1, 1) := by decide +kernel
theorem dX5_failure_1 : decode cX5_failure 1 = .ok (.ifCond .ne 6, 3) := by decide +kernel
theorem dX5_failure_4 : decode cX5_failure 4 = .ok (.bipush (-15), 2) := by decide +kernel
theorem dX5_failure_6 : decode cX5_failure 6 = .ok (.ireturn, 1) := by decide +kernel
theorem dX5_failure_7 : decode cX5_failure 7 = .ok (.iload_n 0, 1) := by decide +kernel
theorem dX5_failure_8 : decode cX5_failure 8 = .ok (.tableswitch 58 2 7 #[40, 40, 43, 48, 40, 48], 40) := by decide +kernel
theorem dX5_failure_48 : decode cX5_failure 48 = .ok (.bipush (-15), 2) := by decide +kernel
theorem dX5_failure_50 : decode cX5_failure 50 = .ok (.ireturn, 1) := by decide +kernel
theorem dX5_failure_51 : decode cX5_failure 51 = .ok (.bipush 100, 2) := by decide +kernel
theorem dX5_failure_53 : decode cX5_failure 53 = .ok (.iload_n 1, 1) := by decide +kernel
theorem dX5_failure_54 : decode cX5_failure 54 = .ok (.iadd, 1) := by decide +kernel
theorem dX5_failure_55 : decode cX5_failure 55 = .ok (.ireturn, 1) := by decide +kernel
theorem dX5_failure_56 : decode cX5_failure 56 = .ok (.sipush 200, 3) := by decide +kernel
theorem dX5_failure_59 : decode cX5_failure 59 = .ok (.iload_n 0, 1) := by decide +kernel
theorem dX5_failure_60 : decode cX5_failure 60 = .ok (.iload_n 1, 1) := by decide +kernel
theorem dX5_failure_61 : decode cX5_failure 61 = .ok (.invokestatic 9, 3) := by decide +kernel
theorem dX5_failure_64 : decode cX5_failure 64 = .ok (.iadd, 1) := by decide +kernel
theorem dX5_failure_65 : decode cX5_failure 65 = .ok (.ireturn, 1) := by decide +kernel
theorem dX5_failure_66 : decode cX5_failure 66 = .ok (.iload_n 1, 1) := by decide +kernel
theorem dX5_failure_67 : decode cX5_failure 67 = .ok (.ireturn, 1) := by decide +kernel
theorem dX6_comes_0 : decode cX6_comes 0 = .ok (.aload_n 0, 1) := by decide +kernel
theorem dX6_comes_1 : decode cX6_comes 1 = .ok (.invokestatic 9, 3) := by decide +kernel
theorem dX6_comes_4 : decode cX6_comes 4 = .ok (.istore_n 2, 1) := by decide +kernel
theorem dX6_comes_5 : decode cX6_comes 5 = .ok (.iload_n 2, 1) := by decide +kernel
theorem dX6_comes_6 : decode cX6_comes 6 = .ok (.ifCond .lt 9, 3) := by decide +kernel
theorem dX6_comes_9 : decode cX6_comes 9 = .ok (.sipush (-1000), 3) := by decide +kernel
theorem dX6_comes_12 : decode cX6_comes 12 = .ok (.iload_n 2, 1) := by decide +kernel
theorem dX6_comes_13 : decode cX6_comes 13 = .ok (.isub, 1) := by decide +kernel
theorem dX6_comes_14 : decode cX6_comes 14 = .ok (.ireturn, 1) := by decide +kernel
theorem dX6_comes_15 : decode cX6_comes 15 = .ok (.iconst 0, 1) := by decide +kernel
theorem dX6_comes_16 : decode cX6_comes 16 = .ok (.istore_n 3, 1) := by decide +kernel
theorem dX6_comes_17 : decode cX6_comes 17 = .ok (.iconst 0, 1) := by decide +kernel
theorem dX6_comes_18 : decode cX6_comes 18 = .ok (.istore 4, 2) := by decide +kernel
theorem dX6_comes_20 : decode cX6_comes 20 = .ok (.iload 4, 2) := by decide +kernel
theorem dX6_comes_22 : decode cX6_comes 22 = .ok (.aload_n 0, 1) := by decide +kernel
theorem dX6_comes_23 : decode cX6_comes 23 = .ok (.getfield 15, 3) := by decide +kernel
theorem dX6_comes_26 : decode cX6_comes 26 = .ok (.if_icmp .ge 43, 3) := by decide +kernel
theorem dX6_comes_29 : decode cX6_comes 29 = .ok (.aload_n 0, 1) := by decide +kernel
theorem dX6_comes_30 : decode cX6_comes 30 = .ok (.iload 4, 2) := by decide +kernel
theorem dX6_comes_32 : decode cX6_comes 32 = .ok (.aload_n 1, 1) := by decide +kernel
theorem dX6_comes_33 : decode cX6_comes 33 = .ok (.invokestatic 21, 3) := by decide +kernel
theorem dX6_comes_36 : decode cX6_comes 36 = .ok (.ifCond .ne 10, 3) := by decide +kernel
theorem dX6_comes_39 : decode cX6_comes 39 = .ok (.sipush (-2000), 3) := by decide +kernel
theorem dX6_comes_42 : decode cX6_comes 42 = .ok (.iload 4, 2) := by decide +kernel
theorem dX6_comes_44 : decode cX6_comes 44 = .ok (.isub, 1) := by decide +kernel
theorem dX6_comes_45 : decode cX6_comes 45 = .ok (.ireturn, 1) := by decide +kernel
theorem dX6_comes_46 : decode cX6_comes 46 = .ok (.iinc 3 1, 3) := by decide +kernel
theorem dX6_comes_49 : decode cX6_comes 49 = .ok (.iload 4, 2) := by decide +kernel
theorem dX6_comes_51 : decode cX6_comes 51 = .ok (.aload_n 0, 1) := by decide +kernel
theorem dX6_comes_52 : decode cX6_comes 52 = .ok (.getfield 25, 3) := by decide +kernel
theorem dX6_comes_55 : decode cX6_comes 55 = .ok (.iload 4, 2) := by decide +kernel
theorem dX6_comes_57 : decode cX6_comes 57 = .ok (.iaload, 1) := by decide +kernel
theorem dX6_comes_58 : decode cX6_comes 58 = .ok (.invokestatic 29, 3) := by decide +kernel
theorem dX6_comes_61 : decode cX6_comes 61 = .ok (.iadd, 1) := by decide +kernel
theorem dX6_comes_62 : decode cX6_comes 62 = .ok (.iconst 2, 1) := by decide +kernel
theorem dX6_comes_63 : decode cX6_comes 63 = .ok (.iadd, 1) := by decide +kernel
theorem dX6_comes_64 : decode cX6_comes 64 = .ok (.istore 4, 2) := by decide +kernel
theorem dX6_comes_66 : decode cX6_comes 66 = .ok (.goto (-46), 3) := by decide +kernel
theorem dX6_comes_69 : decode cX6_comes 69 = .ok (.iload_n 3, 1) := by decide +kernel
theorem dX6_comes_70 : decode cX6_comes 70 = .ok (.ireturn, 1) := by decide +kernel
theorem dX6_digitsBehind_0 : decode cX6_digitsBehind 0 = .ok (.iload_n 0, 1) := by decide +kernel
theorem dX6_digitsBehind_1 : decode cX6_digitsBehind 1 = .ok (.tableswitch 111 98 119 #[105, 111, 111, 111, 111, 111, 105, 111, 111, 111, 111, 111, 111, 103, 111, 111, 111, 103, 103, 107, 111, 109], 103) := by decide +kernel
theorem dX6_digitsBehind_104 : decode cX6_digitsBehind 104 = .ok (.iconst 1, 1) := by decide +kernel
theorem dX6_digitsBehind_105 : decode cX6_digitsBehind 105 = .ok (.ireturn, 1) := by decide +kernel
theorem dX6_digitsBehind_106 : decode cX6_digitsBehind 106 = .ok (.iconst 2, 1) := by decide +kernel
theorem dX6_digitsBehind_107 : decode cX6_digitsBehind 107 = .ok (.ireturn, 1) := by decide +kernel
theorem dX6_digitsBehind_108 : decode cX6_digitsBehind 108 = .ok (.iconst 3, 1) := by decide +kernel
theorem dX6_digitsBehind_109 : decode cX6_digitsBehind 109 = .ok (.ireturn, 1) := by decide +kernel
theorem dX6_digitsBehind_110 : decode cX6_digitsBehind 110 = .ok (.iconst 4, 1) := by decide +kernel
theorem dX6_digitsBehind_111 : decode cX6_digitsBehind 111 = .ok (.ireturn, 1) := by decide +kernel
theorem dX6_digitsBehind_112 : decode cX6_digitsBehind 112 = .ok (.iconst 0, 1) := by decide +kernel
theorem dX6_digitsBehind_113 : decode cX6_digitsBehind 113 = .ok (.ireturn, 1) := by decide +kernel
theorem dX6_firstWrong_0 : decode cX6_firstWrong 0 = .ok (.iconst 0, 1) := by decide +kernel
theorem dX6_firstWrong_1 : decode cX6_firstWrong 1 = .ok (.istore_n 1, 1) := by decide +kernel
theorem dX6_firstWrong_2 : decode cX6_firstWrong 2 = .ok (.aload_n 0, 1) := by decide +kernel
theorem dX6_firstWrong_3 : decode cX6_firstWrong 3 = .ok (.iload_n 1, 1) := by decide +kernel
theorem dX6_firstWrong_4 : decode cX6_firstWrong 4 = .ok (.invokevirtual 33, 3) := by decide +kernel
theorem dX6_firstWrong_7 : decode cX6_firstWrong 7 = .ok (.ifCond .eq 15, 3) := by decide +kernel
theorem dX6_firstWrong_10 : decode cX6_firstWrong 10 = .ok (.aload_n 0, 1) := by decide +kernel
theorem dX6_firstWrong_11 : decode cX6_firstWrong 11 = .ok (.getfield 25, 3) := by decide +kernel
theorem dX6_firstWrong_14 : decode cX6_firstWrong 14 = .ok (.iload_n 1, 1) := by decide +kernel
theorem dX6_firstWrong_15 : decode cX6_firstWrong 15 = .ok (.iaload, 1) := by decide +kernel
theorem dX6_firstWrong_16 : decode cX6_firstWrong 16 = .ok (.invokestatic 29, 3) := by decide +kernel
theorem dX6_firstWrong_19 : decode cX6_firstWrong 19 = .ok (.goto 4, 3) := by decide +kernel
theorem dX6_firstWrong_22 : decode cX6_firstWrong 22 = .ok (.iconst 0, 1) := by decide +kernel
theorem dX6_firstWrong_23 : decode cX6_firstWrong 23 = .ok (.istore_n 2, 1) := by decide +kernel
theorem dX6_firstWrong_24 : decode cX6_firstWrong 24 = .ok (.iload_n 2, 1) := by decide +kernel
theorem dX6_firstWrong_25 : decode cX6_firstWrong 25 = .ok (.ifCond .ne 5, 3) := by decide +kernel
theorem dX6_firstWrong_28 : decode cX6_firstWrong 28 = .ok (.iload_n 1, 1) := by decide +kernel
theorem dX6_firstWrong_29 : decode cX6_firstWrong 29 = .ok (.ireturn, 1) := by decide +kernel
theorem dX6_firstWrong_30 : decode cX6_firstWrong 30 = .ok (.iinc 1 1, 3) := by decide +kernel
theorem dX6_firstWrong_33 : decode cX6_firstWrong 33 = .ok (.iconst 0, 1) := by decide +kernel
theorem dX6_firstWrong_34 : decode cX6_firstWrong 34 = .ok (.istore_n 3, 1) := by decide +kernel
theorem dX6_firstWrong_35 : decode cX6_firstWrong 35 = .ok (.iload_n 3, 1) := by decide +kernel
theorem dX6_firstWrong_36 : decode cX6_firstWrong 36 = .ok (.iload_n 2, 1) := by decide +kernel
theorem dX6_firstWrong_37 : decode cX6_firstWrong 37 = .ok (.if_icmp .ge 22, 3) := by decide +kernel
theorem dX6_firstWrong_40 : decode cX6_firstWrong 40 = .ok (.aload_n 0, 1) := by decide +kernel
theorem dX6_firstWrong_41 : decode cX6_firstWrong 41 = .ok (.iload_n 1, 1) := by decide +kernel
theorem dX6_firstWrong_42 : decode cX6_firstWrong 42 = .ok (.invokestatic 37, 3) := by decide +kernel
theorem dX6_firstWrong_45 : decode cX6_firstWrong 45 = .ok (.ifCond .ne 5, 3) := by decide +kernel
theorem dX6_firstWrong_48 : decode cX6_firstWrong 48 = .ok (.iload_n 1, 1) := by decide +kernel
theorem dX6_firstWrong_49 : decode cX6_firstWrong 49 = .ok (.ireturn, 1) := by decide +kernel
theorem dX6_firstWrong_50 : decode cX6_firstWrong 50 = .ok (.iinc 1 1, 3) := by decide +kernel
theorem dX6_firstWrong_53 : decode cX6_firstWrong 53 = .ok (.iinc 3 1, 3) := by decide +kernel
theorem dX6_firstWrong_56 : decode cX6_firstWrong 56 = .ok (.goto (-21), 3) := by decide +kernel
theorem dX6_firstWrong_59 : decode cX6_firstWrong 59 = .ok (.aload_n 0, 1) := by decide +kernel
theorem dX6_firstWrong_60 : decode cX6_firstWrong 60 = .ok (.iload_n 1, 1) := by decide +kernel
theorem dX6_firstWrong_61 : decode cX6_firstWrong 61 = .ok (.invokevirtual 33, 3) := by decide +kernel
theorem dX6_firstWrong_64 : decode cX6_firstWrong 64 = .ok (.ifCond .eq 14, 3) := by decide +kernel
theorem dX6_firstWrong_67 : decode cX6_firstWrong 67 = .ok (.aload_n 0, 1) := by decide +kernel
theorem dX6_firstWrong_68 : decode cX6_firstWrong 68 = .ok (.getfield 25, 3) := by decide +kernel
theorem dX6_firstWrong_71 : decode cX6_firstWrong 71 = .ok (.iload_n 1, 1) := by decide +kernel
theorem dX6_firstWrong_72 : decode cX6_firstWrong 72 = .ok (.iaload, 1) := by decide +kernel
theorem dX6_firstWrong_73 : decode cX6_firstWrong 73 = .ok (.bipush 59, 2) := by decide +kernel
theorem dX6_firstWrong_75 : decode cX6_firstWrong 75 = .ok (.if_icmp .eq 5, 3) := by decide +kernel
theorem dX6_firstWrong_78 : decode cX6_firstWrong 78 = .ok (.iload_n 1, 1) := by decide +kernel
theorem dX6_firstWrong_79 : decode cX6_firstWrong 79 = .ok (.ireturn, 1) := by decide +kernel
theorem dX6_firstWrong_80 : decode cX6_firstWrong 80 = .ok (.iinc 1 1, 3) := by decide +kernel
theorem dX6_firstWrong_83 : decode cX6_firstWrong 83 = .ok (.iload_n 1, 1) := by decide +kernel
theorem dX6_firstWrong_84 : decode cX6_firstWrong 84 = .ok (.aload_n 0, 1) := by decide +kernel
theorem dX6_firstWrong_85 : decode cX6_firstWrong 85 = .ok (.getfield 15, 3) := by decide +kernel
theorem dX6_firstWrong_88 : decode cX6_firstWrong 88 = .ok (.if_icmp .lt (-86), 3) := by decide +kernel
theorem dX6_firstWrong_91 : decode cX6_firstWrong 91 = .ok (.iconst (-1), 1) := by decide +kernel
theorem dX6_firstWrong_92 : decode cX6_firstWrong 92 = .ok (.ireturn, 1) := by decide +kernel
theorem dX6_isDigit_0 : decode cX6_isDigit 0 = .ok (.aload_n 0, 1) := by decide +kernel
theorem dX6_isDigit_1 : decode cX6_isDigit 1 = .ok (.iload_n 1, 1) := by decide +kernel
theorem dX6_isDigit_2 : decode cX6_isDigit 2 = .ok (.invokevirtual 33, 3) := by decide +kernel
theorem dX6_isDigit_5 : decode cX6_isDigit 5 = .ok (.ifCond .eq 29, 3) := by decide +kernel
theorem dX6_isDigit_8 : decode cX6_isDigit 8 = .ok (.aload_n 0, 1) := by decide +kernel
theorem dX6_isDigit_9 : decode cX6_isDigit 9 = .ok (.getfield 25, 3) := by decide +kernel
theorem dX6_isDigit_12 : decode cX6_isDigit 12 = .ok (.iload_n 1, 1) := by decide +kernel
theorem dX6_isDigit_13 : decode cX6_isDigit 13 = .ok (.iaload, 1) := by decide +kernel
theorem dX6_isDigit_14 : decode cX6_isDigit 14 = .ok (.bipush 48, 2) := by decide +kernel
theorem dX6_isDigit_16 : decode cX6_isDigit 16 = .ok (.if_icmp .lt 18, 3) := by decide +kernel
theorem dX6_isDigit_19 : decode cX6_isDigit 19 = .ok (.aload_n 0, 1) := by decide +kernel
theorem dX6_isDigit_20 : decode cX6_isDigit 20 = .ok (.getfield 25, 3) := by decide +kernel
theorem dX6_isDigit_23 : decode cX6_isDigit 23 = .ok (.iload_n 1, 1) := by decide +kernel
theorem dX6_isDigit_24 : decode cX6_isDigit 24 = .ok (.iaload, 1) := by decide +kernel
theorem dX6_isDigit_25 : decode cX6_isDigit 25 = .ok (.bipush 57, 2) := by decide +kernel
theorem dX6_isDigit_27 : decode cX6_isDigit 27 = .ok (.if_icmp .gt 7, 3) := by decide +kernel
theorem dX6_isDigit_30 : decode cX6_isDigit 30 = .ok (.iconst 1, 1) := by decide +kernel
theorem dX6_isDigit_31 : decode cX6_isDigit 31 = .ok (.goto 4, 3) := by decide +kernel
theorem dX6_isDigit_34 : decode cX6_isDigit 34 = .ok (.iconst 0, 1) := by decide +kernel
theorem dX6_isDigit_35 : decode cX6_isDigit 35 = .ok (.ireturn, 1) := by decide +kernel
theorem dX6_number_0 : decode cX6_number 0 = .ok (.iconst 0, 1) := by decide +kernel
theorem dX6_number_1 : decode cX6_number 1 = .ok (.istore_n 3, 1) := by decide +kernel
theorem dX6_number_2 : decode cX6_number 2 = .ok (.iconst 0, 1) := by decide +kernel
theorem dX6_number_3 : decode cX6_number 3 = .ok (.istore 4, 2) := by decide +kernel
theorem dX6_number_5 : decode cX6_number 5 = .ok (.iload 4, 2) := by decide +kernel
theorem dX6_number_7 : decode cX6_number 7 = .ok (.iload_n 2, 1) := by decide +kernel
theorem dX6_number_8 : decode cX6_number 8 = .ok (.if_icmp .ge 38, 3) := by decide +kernel
theorem dX6_number_11 : decode cX6_number 11 = .ok (.aload_n 0, 1) := by decide +kernel
theorem dX6_number_12 : decode cX6_number 12 = .ok (.iload_n 1, 1) := by decide +kernel
theorem dX6_number_13 : decode cX6_number 13 = .ok (.iload 4, 2) := by decide +kernel
theorem dX6_number_15 : decode cX6_number 15 = .ok (.iadd, 1) := by decide +kernel
theorem dX6_number_16 : decode cX6_number 16 = .ok (.invokestatic 37, 3) := by decide +kernel
theorem dX6_number_19 : decode cX6_number 19 = .ok (.ifCond .eq 21, 3) := by decide +kernel
theorem dX6_number_22 : decode cX6_number 22 = .ok (.bipush 10, 2) := by decide +kernel
theorem dX6_number_24 : decode cX6_number 24 = .ok (.iload_n 3, 1) := by decide +kernel
theorem dX6_number_25 : decode cX6_number 25 = .ok (.imul, 1) := by decide +kernel
theorem dX6_number_26 : decode cX6_number 26 = .ok (.aload_n 0, 1) := by decide +kernel
theorem dX6_number_27 : decode cX6_number 27 = .ok (.getfield 25, 3) := by decide +kernel
theorem dX6_number_30 : decode cX6_number 30 = .ok (.iload_n 1, 1) := by decide +kernel
theorem dX6_number_31 : decode cX6_number 31 = .ok (.iload 4, 2) := by decide +kernel
theorem dX6_number_33 : decode cX6_number 33 = .ok (.iadd, 1) := by decide +kernel
theorem dX6_number_34 : decode cX6_number 34 = .ok (.iaload, 1) := by decide +kernel
theorem dX6_number_35 : decode cX6_number 35 = .ok (.iadd, 1) := by decide +kernel
theorem dX6_number_36 : decode cX6_number 36 = .ok (.bipush 48, 2) := by decide +kernel
theorem dX6_number_38 : decode cX6_number 38 = .ok (.isub, 1) := by decide +kernel
theorem dX6_number_39 : decode cX6_number 39 = .ok (.istore_n 3, 1) := by decide +kernel
theorem dX6_number_40 : decode cX6_number 40 = .ok (.iinc 4 1, 3) := by decide +kernel
theorem dX6_number_43 : decode cX6_number 43 = .ok (.goto (-38), 3) := by decide +kernel
theorem dX6_number_46 : decode cX6_number 46 = .ok (.iload_n 3, 1) := by decide +kernel
theorem dX6_number_47 : decode cX6_number 47 = .ok (.ireturn, 1) := by decide +kernel
theorem dX6_isDone_0 : decode cX6_isDone 0 = .ok (.aload_n 0, 1) := by decide +kernel
theorem dX6_isDone_1 : decode cX6_isDone 1 = .ok (.iload_n 1, 1) := by decide +kernel
theorem dX6_isDone_2 : decode cX6_isDone 2 = .ok (.iconst 1, 1) := by decide +kernel
theorem dX6_isDone_3 : decode cX6_isDone 3 = .ok (.iadd, 1) := by decide +kernel
theorem dX6_isDone_4 : decode cX6_isDone 4 = .ok (.iconst 1, 1) := by decide +kernel
theorem dX6_isDone_5 : decode cX6_isDone 5 = .ok (.invokestatic 41, 3) := by decide +kernel
theorem dX6_isDone_8 : decode cX6_isDone 8 = .ok (.istore_n 3, 1) := by decide +kernel
theorem dX6_isDone_9 : decode cX6_isDone 9 = .ok (.aload_n 0, 1) := by decide +kernel
theorem dX6_isDone_10 : decode cX6_isDone 10 = .ok (.iload_n 1, 1) := by decide +kernel
theorem dX6_isDone_11 : decode cX6_isDone 11 = .ok (.iconst 2, 1) := by decide +kernel
theorem dX6_isDone_12 : decode cX6_isDone 12 = .ok (.iadd, 1) := by decide +kernel
theorem dX6_isDone_13 : decode cX6_isDone 13 = .ok (.iconst 1, 1) := by decide +kernel
theorem dX6_isDone_14 : decode cX6_isDone 14 = .ok (.invokestatic 41, 3) := by decide +kernel
theorem dX6_isDone_17 : decode cX6_isDone 17 = .ok (.istore 4, 2) := by decide +kernel
theorem dX6_isDone_19 : decode cX6_isDone 19 = .ok (.aload_n 0, 1) := by decide +kernel
theorem dX6_isDone_20 : decode cX6_isDone 20 = .ok (.getfield 25, 3) := by decide +kernel
theorem dX6_isDone_23 : decode cX6_isDone 23 = .ok (.iload_n 1, 1) := by decide +kernel
theorem dX6_isDone_24 : decode cX6_isDone 24 = .ok (.iaload, 1) := by decide +kernel
theorem dX6_isDone_25 : decode cX6_isDone 25 = .ok (.lookupswitch 107 #[(98, 43), (104, 94), (115, 51), (117, 58)], 43) := by decide +kernel
theorem dX6_isDone_68 : decode cX6_isDone 68 = .ok (.aload_n 2, 1) := by decide +kernel
theorem dX6_isDone_69 : decode cX6_isDone 69 = .ok (.iload_n 3, 1) := by decide +kernel
theorem dX6_isDone_70 : decode cX6_isDone 70 = .ok (.iload 4, 2) := by decide +kernel
theorem dX6_isDone_72 : decode cX6_isDone 72 = .ok (.invokestatic 45, 3) := by decide +kernel
theorem dX6_isDone_75 : decode cX6_isDone 75 = .ok (.ireturn, 1) := by decide +kernel
theorem dX6_isDone_76 : decode cX6_isDone 76 = .ok (.aload_n 2, 1) := by decide +kernel
theorem dX6_isDone_77 : decode cX6_isDone 77 = .ok (.iload_n 3, 1) := by decide +kernel
theorem dX6_isDone_78 : decode cX6_isDone 78 = .ok (.putfield 49, 3) := by decide +kernel
theorem dX6_isDone_81 : decode cX6_isDone 81 = .ok (.iconst 1, 1) := by decide +kernel
theorem dX6_isDone_82 : decode cX6_isDone 82 = .ok (.ireturn, 1) := by decide +kernel
theorem dX6_isDone_83 : decode cX6_isDone 83 = .ok (.aload_n 0, 1) := by decide +kernel
theorem dX6_isDone_84 : decode cX6_isDone 84 = .ok (.iload_n 1, 1) := by decide +kernel
theorem dX6_isDone_85 : decode cX6_isDone 85 = .ok (.iconst 3, 1) := by decide +kernel
theorem dX6_isDone_86 : decode cX6_isDone 86 = .ok (.iadd, 1) := by decide +kernel
theorem dX6_isDone_87 : decode cX6_isDone 87 = .ok (.iconst 1, 1) := by decide +kernel
theorem dX6_isDone_88 : decode cX6_isDone 88 = .ok (.invokestatic 41, 3) := by decide +kernel
theorem dX6_isDone_91 : decode cX6_isDone 91 = .ok (.istore 5, 2) := by decide +kernel
theorem dX6_isDone_93 : decode cX6_isDone 93 = .ok (.aload_n 2, 1) := by decide +kernel
theorem dX6_isDone_94 : decode cX6_isDone 94 = .ok (.iload_n 3, 1) := by decide +kernel
theorem dX6_isDone_95 : decode cX6_isDone 95 = .ok (.iload 4, 2) := by decide +kernel
theorem dX6_isDone_97 : decode cX6_isDone 97 = .ok (.iload 5, 2) := by decide +kernel
theorem dX6_isDone_99 : decode cX6_isDone 99 = .ok (.invokevirtual 54, 3) := by decide +kernel
theorem dX6_isDone_102 : decode cX6_isDone 102 = .ok (.ifCond .ne 5, 3) := by decide +kernel
theorem dX6_isDone_105 : decode cX6_isDone 105 = .ok (.iconst 0, 1) := by decide +kernel
theorem dX6_isDone_106 : decode cX6_isDone 106 = .ok (.ireturn, 1) := by decide +kernel
theorem dX6_isDone_107 : decode cX6_isDone 107 = .ok (.aload_n 2, 1) := by decide +kernel
theorem dX6_isDone_108 : decode cX6_isDone 108 = .ok (.iload_n 3, 1) := by decide +kernel
theorem dX6_isDone_109 : decode cX6_isDone 109 = .ok (.iload 4, 2) := by decide +kernel
theorem dX6_isDone_111 : decode cX6_isDone 111 = .ok (.iload 5, 2) := by decide +kernel
theorem dX6_isDone_113 : decode cX6_isDone 113 = .ok (.invokevirtual 58, 3) := by decide +kernel
theorem dX6_isDone_116 : decode cX6_isDone 116 = .ok (.pop, 1) := by decide +kernel
theorem dX6_isDone_117 : decode cX6_isDone 117 = .ok (.iconst 1, 1) := by decide +kernel
theorem dX6_isDone_118 : decode cX6_isDone 118 = .ok (.ireturn, 1) := by decide +kernel
theorem dX6_isDone_119 : decode cX6_isDone 119 = .ok (.aload_n 2, 1) := by decide +kernel
theorem dX6_isDone_120 : decode cX6_isDone 120 = .ok (.aload_n 0, 1) := by decide +kernel
theorem dX6_isDone_121 : decode cX6_isDone 121 = .ok (.iload_n 1, 1) := by decide +kernel
theorem dX6_isDone_122 : decode cX6_isDone 122 = .ok (.iconst 1, 1) := by decide +kernel
theorem dX6_isDone_123 : decode cX6_isDone 123 = .ok (.iadd, 1) := by decide +kernel
theorem dX6_isDone_124 : decode cX6_isDone 124 = .ok (.iconst 2, 1) := by decide +kernel
theorem dX6_isDone_125 : decode cX6_isDone 125 = .ok (.invokestatic 41, 3) := by decide +kernel
theorem dX6_isDone_128 : decode cX6_isDone 128 = .ok (.invokevirtual 61, 3) := by decide +kernel
theorem dX6_isDone_131 : decode cX6_isDone 131 = .ok (.ireturn, 1) := by decide +kernel
theorem dX6_isDone_132 : decode cX6_isDone 132 = .ok (.aload_n 2, 1) := by decide +kernel
theorem dX6_isDone_133 : decode cX6_isDone 133 = .ok (.iload_n 3, 1) := by decide +kernel
theorem dX6_isDone_134 : decode cX6_isDone 134 = .ok (.invokevirtual 64, 3) := by decide +kernel
theorem dX6_isDone_137 : decode cX6_isDone 137 = .ok (.ifCond .eq 29, 3) := by decide +kernel
theorem dX6_isDone_140 : decode cX6_isDone 140 = .ok (.aload_n 2, 1) := by decide +kernel
theorem dX6_isDone_141 : decode cX6_isDone 141 = .ok (.aload_n 0, 1) := by decide +kernel
theorem dX6_isDone_142 : decode cX6_isDone 142 = .ok (.getfield 25, 3) := by decide +kernel
theorem dX6_isDone_145 : decode cX6_isDone 145 = .ok (.iload_n 1, 1) := by decide +kernel
theorem dX6_isDone_146 : decode cX6_isDone 146 = .ok (.iaload, 1) := by decide +kernel
theorem dX6_isDone_147 : decode cX6_isDone 147 = .ok (.iload_n 3, 1) := by decide +kernel
theorem dX6_isDone_148 : decode cX6_isDone 148 = .ok (.aload_n 0, 1) := by decide +kernel
theorem dX6_isDone_149 : decode cX6_isDone 149 = .ok (.iload_n 1, 1) := by decide +kernel
theorem dX6_isDone_150 : decode cX6_isDone 150 = .ok (.iconst 2, 1) := by decide +kernel
theorem dX6_isDone_151 : decode cX6_isDone 151 = .ok (.iadd, 1) := by decide +kernel
theorem dX6_isDone_152 : decode cX6_isDone 152 = .ok (.iconst 3, 1) := by decide +kernel
theorem dX6_isDone_153 : decode cX6_isDone 153 = .ok (.invokestatic 41, 3) := by decide +kernel
theorem dX6_isDone_156 : decode cX6_isDone 156 = .ok (.invokestatic 67, 3) := by decide +kernel
theorem dX6_isDone_159 : decode cX6_isDone 159 = .ok (.ifCond .eq 7, 3) := by decide +kernel
theorem dX6_isDone_162 : decode cX6_isDone 162 = .ok (.iconst 1, 1) := by decide +kernel
theorem dX6_isDone_163 : decode cX6_isDone 163 = .ok (.goto 4, 3) := by decide +kernel
theorem dX6_isDone_166 : decode cX6_isDone 166 = .ok (.iconst 0, 1) := by decide +kernel
theorem dX6_isDone_167 : decode cX6_isDone 167 = .ok (.ireturn, 1) := by decide +kernel
theorem dX6_isHung_0 : decode cX6_isHung 0 = .ok (.iload_n 1, 1) := by decide +kernel
theorem dX6_isHung_1 : decode cX6_isHung 1 = .ok (.bipush 7, 2) := by decide +kernel
theorem dX6_isHung_3 : decode cX6_isHung 3 = .ok (.if_icmp .gt 10, 3) := by decide +kernel
theorem dX6_isHung_6 : decode cX6_isHung 6 = .ok (.aload_n 0, 1) := by decide +kernel
theorem dX6_isHung_7 : decode cX6_isHung 7 = .ok (.invokevirtual 71, 3) := by decide +kernel
theorem dX6_isHung_10 : decode cX6_isHung 10 = .ok (.ifCond .eq 5, 3) := by decide +kernel
theorem dX6_isHung_13 : decode cX6_isHung 13 = .ok (.iconst 0, 1) := by decide +kernel
theorem dX6_isHung_14 : decode cX6_isHung 14 = .ok (.ireturn, 1) := by decide +kernel
theorem dX6_isHung_15 : decode cX6_isHung 15 = .ok (.aload_n 0, 1) := by decide +kernel
theorem dX6_isHung_16 : decode cX6_isHung 16 = .ok (.iload_n 1, 1) := by decide +kernel
theorem dX6_isHung_17 : decode cX6_isHung 17 = .ok (.iload_n 2, 1) := by decide +kernel
theorem dX6_isHung_18 : decode cX6_isHung 18 = .ok (.invokevirtual 75, 3) := by decide +kernel
theorem dX6_isHung_21 : decode cX6_isHung 21 = .ok (.iconst 1, 1) := by decide +kernel
theorem dX6_isHung_22 : decode cX6_isHung 22 = .ok (.ireturn, 1) := by decide +kernel
theorem dX6_isDoneTo_0 : decode cX6_isDoneTo 0 = .ok (.iload_n 1, 1) := by decide +kernel
theorem dX6_isDoneTo_1 : decode cX6_isDoneTo 1 = .ok (.bipush 119, 2) := by decide +kernel
theorem dX6_isDoneTo_3 : decode cX6_isDoneTo 3 = .ok (.if_icmp .ne 12, 3) := by decide +kernel
theorem dX6_isDoneTo_6 : decode cX6_isDoneTo 6 = .ok (.aload_n 0, 1) := by decide +kernel
theorem dX6_isDoneTo_7 : decode cX6_isDoneTo 7 = .ok (.getfield 79, 3) := by decide +kernel
theorem dX6_isDoneTo_10 : decode cX6_isDoneTo 10 = .ok (.iload_n 2, 1) := by decide +kernel
theorem dX6_isDoneTo_11 : decode cX6_isDoneTo 11 = .ok (.iload_n 3, 1) := by decide +kernel
theorem dX6_isDoneTo_12 : decode cX6_isDoneTo 12 = .ok (.iastore, 1) := by decide +kernel
theorem dX6_isDoneTo_13 : decode cX6_isDoneTo 13 = .ok (.iconst 1, 1) := by decide +kernel
theorem dX6_isDoneTo_14 : decode cX6_isDoneTo 14 = .ok (.ireturn, 1) := by decide +kernel
theorem dX6_isDoneTo_15 : decode cX6_isDoneTo 15 = .ok (.iload_n 1, 1) := by decide +kernel
theorem dX6_isDoneTo_16 : decode cX6_isDoneTo 16 = .ok (.bipush 111, 2) := by decide +kernel
theorem dX6_isDoneTo_18 : decode cX6_isDoneTo 18 = .ok (.if_icmp .ne 10, 3) := by decide +kernel
theorem dX6_isDoneTo_21 : decode cX6_isDoneTo 21 = .ok (.aload_n 0, 1) := by decide +kernel
theorem dX6_isDoneTo_22 : decode cX6_isDoneTo 22 = .ok (.iload_n 2, 1) := by decide +kernel
theorem dX6_isDoneTo_23 : decode cX6_isDoneTo 23 = .ok (.invokevirtual 82, 3) := by decide +kernel
theorem dX6_isDoneTo_26 : decode cX6_isDoneTo 26 = .ok (.iconst 1, 1) := by decide +kernel
theorem dX6_isDoneTo_27 : decode cX6_isDoneTo 27 = .ok (.ireturn, 1) := by decide +kernel
theorem dX6_isDoneTo_28 : decode cX6_isDoneTo 28 = .ok (.aload_n 0, 1) := by decide +kernel
theorem dX6_isDoneTo_29 : decode cX6_isDoneTo 29 = .ok (.getfield 49, 3) := by decide +kernel
theorem dX6_isDoneTo_32 : decode cX6_isDoneTo 32 = .ok (.ifCond .gt 5, 3) := by decide +kernel
theorem dX6_isDoneTo_35 : decode cX6_isDoneTo 35 = .ok (.iconst 0, 1) := by decide +kernel
theorem dX6_isDoneTo_36 : decode cX6_isDoneTo 36 = .ok (.ireturn, 1) := by decide +kernel
theorem dX6_isDoneTo_37 : decode cX6_isDoneTo 37 = .ok (.aload_n 0, 1) := by decide +kernel
theorem dX6_isDoneTo_38 : decode cX6_isDoneTo 38 = .ok (.iload_n 2, 1) := by decide +kernel
theorem dX6_isDoneTo_39 : decode cX6_isDoneTo 39 = .ok (.invokevirtual 86, 3) := by decide +kernel
theorem dX6_isDoneTo_42 : decode cX6_isDoneTo 42 = .ok (.pop, 1) := by decide +kernel
theorem dX6_isDoneTo_43 : decode cX6_isDoneTo 43 = .ok (.iconst 1, 1) := by decide +kernel
theorem dX6_isDoneTo_44 : decode cX6_isDoneTo 44 = .ok (.ireturn, 1) := by decide +kernel
theorem dX7_seconds_0 : decode cX7_seconds 0 = .ok (.aload_n 0, 1) := by decide +kernel
theorem dX7_seconds_1 : decode cX7_seconds 1 = .ok (.iload_n 1, 1) := by decide +kernel
theorem dX7_seconds_2 : decode cX7_seconds 2 = .ok (.aload_n 0, 1) := by decide +kernel
theorem dX7_seconds_3 : decode cX7_seconds 3 = .ok (.getfield 9, 3) := by decide +kernel
theorem dX7_seconds_6 : decode cX7_seconds 6 = .ok (.iconst 0, 1) := by decide +kernel
theorem dX7_seconds_7 : decode cX7_seconds 7 = .ok (.invokestatic 15, 3) := by decide +kernel
theorem dX7_seconds_10 : decode cX7_seconds 10 = .ok (.ireturn, 1) := by decide +kernel
theorem dX7_fewest_0 : decode cX7_fewest 0 = .ok (.iload_n 1, 1) := by decide +kernel
theorem dX7_fewest_1 : decode cX7_fewest 1 = .ok (.ifCond .eq 8, 3) := by decide +kernel
theorem dX7_fewest_4 : decode cX7_fewest 4 = .ok (.iload_n 3, 1) := by decide +kernel
theorem dX7_fewest_5 : decode cX7_fewest 5 = .ok (.iconst 5, 1) := by decide +kernel
theorem dX7_fewest_6 : decode cX7_fewest 6 = .ok (.if_icmp .lt 5, 3) := by decide +kernel
theorem dX7_fewest_9 : decode cX7_fewest 9 = .ok (.iconst 0, 1) := by decide +kernel
theorem dX7_fewest_10 : decode cX7_fewest 10 = .ok (.ireturn, 1) := by decide +kernel
theorem dX7_fewest_11 : decode cX7_fewest 11 = .ok (.ldc 21, 2) := by decide +kernel
theorem dX7_fewest_13 : decode cX7_fewest 13 = .ok (.istore 4, 2) := by decide +kernel
theorem dX7_fewest_15 : decode cX7_fewest 15 = .ok (.iconst 0, 1) := by decide +kernel
theorem dX7_fewest_16 : decode cX7_fewest 16 = .ok (.istore 5, 2) := by decide +kernel
theorem dX7_fewest_18 : decode cX7_fewest 18 = .ok (.iload 5, 2) := by decide +kernel
theorem dX7_fewest_20 : decode cX7_fewest 20 = .ok (.aload_n 0, 1) := by decide +kernel
theorem dX7_fewest_21 : decode cX7_fewest 21 = .ok (.getfield 22, 3) := by decide +kernel
theorem dX7_fewest_24 : decode cX7_fewest 24 = .ok (.if_icmp .ge 35, 3) := by decide +kernel
theorem dX7_fewest_27 : decode cX7_fewest 27 = .ok (.iload_n 1, 1) := by decide +kernel
theorem dX7_fewest_28 : decode cX7_fewest 28 = .ok (.iload 5, 2) := by decide +kernel
theorem dX7_fewest_30 : decode cX7_fewest 30 = .ok (.ishr, 1) := by decide +kernel
theorem dX7_fewest_31 : decode cX7_fewest 31 = .ok (.iconst 1, 1) := by decide +kernel
theorem dX7_fewest_32 : decode cX7_fewest 32 = .ok (.iand, 1) := by decide +kernel
theorem dX7_fewest_33 : decode cX7_fewest 33 = .ok (.iconst 1, 1) := by decide +kernel
theorem dX7_fewest_34 : decode cX7_fewest 34 = .ok (.if_icmp .ne 19, 3) := by decide +kernel
theorem dX7_fewest_37 : decode cX7_fewest 37 = .ok (.iload 4, 2) := by decide +kernel
theorem dX7_fewest_39 : decode cX7_fewest 39 = .ok (.aload_n 0, 1) := by decide +kernel
theorem dX7_fewest_40 : decode cX7_fewest 40 = .ok (.iload_n 1, 1) := by decide +kernel
theorem dX7_fewest_41 : decode cX7_fewest 41 = .ok (.iload_n 2, 1) := by decide +kernel
theorem dX7_fewest_42 : decode cX7_fewest 42 = .ok (.iload 5, 2) := by decide +kernel
theorem dX7_fewest_44 : decode cX7_fewest 44 = .ok (.iload_n 3, 1) := by decide +kernel
theorem dX7_fewest_45 : decode cX7_fewest 45 = .ok (.invokestatic 25, 3) := by decide +kernel
theorem dX7_fewest_48 : decode cX7_fewest 48 = .ok (.invokestatic 29, 3) := by decide +kernel
theorem dX7_fewest_51 : decode cX7_fewest 51 = .ok (.istore 4, 2) := by decide +kernel
theorem dX7_fewest_53 : decode cX7_fewest 53 = .ok (.iinc 5 1, 3) := by decide +kernel
theorem dX7_fewest_56 : decode cX7_fewest 56 = .ok (.goto (-38), 3) := by decide +kernel
theorem dX7_fewest_59 : decode cX7_fewest 59 = .ok (.iload 4, 2) := by decide +kernel
theorem dX7_fewest_61 : decode cX7_fewest 61 = .ok (.ireturn, 1) := by decide +kernel
theorem dX7_fewestBy_0 : decode cX7_fewestBy 0 = .ok (.iconst 0, 1) := by decide +kernel
theorem dX7_fewestBy_1 : decode cX7_fewestBy 1 = .ok (.istore 5, 2) := by decide +kernel
theorem dX7_fewestBy_3 : decode cX7_fewestBy 3 = .ok (.iconst 0, 1) := by decide +kernel
theorem dX7_fewestBy_4 : decode cX7_fewestBy 4 = .ok (.istore 6, 2) := by decide +kernel
theorem dX7_fewestBy_6 : decode cX7_fewestBy 6 = .ok (.iload 6, 2) := by decide +kernel
theorem dX7_fewestBy_8 : decode cX7_fewestBy 8 = .ok (.aload_n 0, 1) := by decide +kernel
theorem dX7_fewestBy_9 : decode cX7_fewestBy 9 = .ok (.getfield 22, 3) := by decide +kernel
theorem dX7_fewestBy_12 : decode cX7_fewestBy 12 = .ok (.if_icmp .ge 30, 3) := by decide +kernel
theorem dX7_fewestBy_15 : decode cX7_fewestBy 15 = .ok (.iload_n 1, 1) := by decide +kernel
theorem dX7_fewestBy_16 : decode cX7_fewestBy 16 = .ok (.iload 6, 2) := by decide +kernel
theorem dX7_fewestBy_18 : decode cX7_fewestBy 18 = .ok (.ishr, 1) := by decide +kernel
theorem dX7_fewestBy_19 : decode cX7_fewestBy 19 = .ok (.iconst 1, 1) := by decide +kernel
theorem dX7_fewestBy_20 : decode cX7_fewestBy 20 = .ok (.iand, 1) := by decide +kernel
theorem dX7_fewestBy_21 : decode cX7_fewestBy 21 = .ok (.iconst 1, 1) := by decide +kernel
theorem dX7_fewestBy_22 : decode cX7_fewestBy 22 = .ok (.if_icmp .ne 14, 3) := by decide +kernel
theorem dX7_fewestBy_25 : decode cX7_fewestBy 25 = .ok (.iload 5, 2) := by decide +kernel
theorem dX7_fewestBy_27 : decode cX7_fewestBy 27 = .ok (.aload_n 0, 1) := by decide +kernel
theorem dX7_fewestBy_28 : decode cX7_fewestBy 28 = .ok (.iload 6, 2) := by decide +kernel
theorem dX7_fewestBy_30 : decode cX7_fewestBy 30 = .ok (.invokevirtual 35, 3) := by decide +kernel
theorem dX7_fewestBy_33 : decode cX7_fewestBy 33 = .ok (.iadd, 1) := by decide +kernel
theorem dX7_fewestBy_34 : decode cX7_fewestBy 34 = .ok (.istore 5, 2) := by decide +kernel
theorem dX7_fewestBy_36 : decode cX7_fewestBy 36 = .ok (.iinc 6 1, 3) := by decide +kernel
theorem dX7_fewestBy_39 : decode cX7_fewestBy 39 = .ok (.goto (-33), 3) := by decide +kernel
theorem dX7_fewestBy_42 : decode cX7_fewestBy 42 = .ok (.aload_n 0, 1) := by decide +kernel
theorem dX7_fewestBy_43 : decode cX7_fewestBy 43 = .ok (.iload_n 1, 1) := by decide +kernel
theorem dX7_fewestBy_44 : decode cX7_fewestBy 44 = .ok (.iconst 1, 1) := by decide +kernel
theorem dX7_fewestBy_45 : decode cX7_fewestBy 45 = .ok (.iload_n 3, 1) := by decide +kernel
theorem dX7_fewestBy_46 : decode cX7_fewestBy 46 = .ok (.ishl, 1) := by decide +kernel
theorem dX7_fewestBy_47 : decode cX7_fewestBy 47 = .ok (.iconst (-1), 1) := by decide +kernel
theorem dX7_fewestBy_48 : decode cX7_fewestBy 48 = .ok (.ixor, 1) := by decide +kernel
theorem dX7_fewestBy_49 : decode cX7_fewestBy 49 = .ok (.iand, 1) := by decide +kernel
theorem dX7_fewestBy_50 : decode cX7_fewestBy 50 = .ok (.iload_n 3, 1) := by decide +kernel
theorem dX7_fewestBy_51 : decode cX7_fewestBy 51 = .ok (.iload 4, 2) := by decide +kernel
theorem dX7_fewestBy_53 : decode cX7_fewestBy 53 = .ok (.iconst 1, 1) := by decide +kernel
theorem dX7_fewestBy_54 : decode cX7_fewestBy 54 = .ok (.iadd, 1) := by decide +kernel
theorem dX7_fewestBy_55 : decode cX7_fewestBy 55 = .ok (.invokestatic 15, 3) := by decide +kernel
theorem dX7_fewestBy_58 : decode cX7_fewestBy 58 = .ok (.istore 6, 2) := by decide +kernel
theorem dX7_fewestBy_60 : decode cX7_fewestBy 60 = .ok (.iload_n 2, 1) := by decide +kernel
theorem dX7_fewestBy_61 : decode cX7_fewestBy 61 = .ok (.iload_n 3, 1) := by decide +kernel
theorem dX7_fewestBy_62 : decode cX7_fewestBy 62 = .ok (.invokestatic 39, 3) := by decide +kernel
theorem dX7_fewestBy_65 : decode cX7_fewestBy 65 = .ok (.iload 5, 2) := by decide +kernel
theorem dX7_fewestBy_67 : decode cX7_fewestBy 67 = .ok (.imul, 1) := by decide +kernel
theorem dX7_fewestBy_68 : decode cX7_fewestBy 68 = .ok (.iload 6, 2) := by decide +kernel
theorem dX7_fewestBy_70 : decode cX7_fewestBy 70 = .ok (.iadd, 1) := by decide +kernel
theorem dX7_fewestBy_71 : decode cX7_fewestBy 71 = .ok (.ireturn, 1) := by decide +kernel
theorem dX7_number_0 : decode cX7_number 0 = .ok (.iconst 1, 1) := by decide +kernel
theorem dX7_number_1 : decode cX7_number 1 = .ok (.istore_n 2, 1) := by decide +kernel
theorem dX7_number_2 : decode cX7_number 2 = .ok (.iload_n 1, 1) := by decide +kernel
theorem dX7_number_3 : decode cX7_number 3 = .ok (.istore_n 3, 1) := by decide +kernel
theorem dX7_number_4 : decode cX7_number 4 = .ok (.aload_n 0, 1) := by decide +kernel
theorem dX7_number_5 : decode cX7_number 5 = .ok (.getfield 9, 3) := by decide +kernel
theorem dX7_number_8 : decode cX7_number 8 = .ok (.istore 4, 2) := by decide +kernel
theorem dX7_number_10 : decode cX7_number 10 = .ok (.iconst 0, 1) := by decide +kernel
theorem dX7_number_11 : decode cX7_number 11 = .ok (.istore 5, 2) := by decide +kernel
theorem dX7_number_13 : decode cX7_number 13 = .ok (.iload 5, 2) := by decide +kernel
theorem dX7_number_15 : decode cX7_number 15 = .ok (.iconst 5, 1) := by decide +kernel
theorem dX7_number_16 : decode cX7_number 16 = .ok (.if_icmp .ge 41, 3) := by decide +kernel
theorem dX7_number_19 : decode cX7_number 19 = .ok (.iload_n 3, 1) := by decide +kernel
theorem dX7_number_20 : decode cX7_number 20 = .ok (.ifCond .eq 37, 3) := by decide +kernel
theorem dX7_number_23 : decode cX7_number 23 = .ok (.aload_n 0, 1) := by decide +kernel
theorem dX7_number_24 : decode cX7_number 24 = .ok (.iload_n 3, 1) := by decide +kernel
theorem dX7_number_25 : decode cX7_number 25 = .ok (.iload 4, 2) := by decide +kernel
theorem dX7_number_27 : decode cX7_number 27 = .ok (.iload 5, 2) := by decide +kernel
theorem dX7_number_29 : decode cX7_number 29 = .ok (.invokestatic 42, 3) := by decide +kernel
theorem dX7_number_32 : decode cX7_number 32 = .ok (.istore 4, 2) := by decide +kernel
theorem dX7_number_34 : decode cX7_number 34 = .ok (.iload_n 3, 1) := by decide +kernel
theorem dX7_number_35 : decode cX7_number 35 = .ok (.iconst 1, 1) := by decide +kernel
theorem dX7_number_36 : decode cX7_number 36 = .ok (.iload 4, 2) := by decide +kernel
theorem dX7_number_38 : decode cX7_number 38 = .ok (.ishl, 1) := by decide +kernel
theorem dX7_number_39 : decode cX7_number 39 = .ok (.iconst (-1), 1) := by decide +kernel
theorem dX7_number_40 : decode cX7_number 40 = .ok (.ixor, 1) := by decide +kernel
theorem dX7_number_41 : decode cX7_number 41 = .ok (.iand, 1) := by decide +kernel
theorem dX7_number_42 : decode cX7_number 42 = .ok (.istore_n 3, 1) := by decide +kernel
theorem dX7_number_43 : decode cX7_number 43 = .ok (.bipush 10, 2) := by decide +kernel
theorem dX7_number_45 : decode cX7_number 45 = .ok (.iload_n 2, 1) := by decide +kernel
theorem dX7_number_46 : decode cX7_number 46 = .ok (.imul, 1) := by decide +kernel
theorem dX7_number_47 : decode cX7_number 47 = .ok (.iload 4, 2) := by decide +kernel
theorem dX7_number_49 : decode cX7_number 49 = .ok (.iadd, 1) := by decide +kernel
theorem dX7_number_50 : decode cX7_number 50 = .ok (.istore_n 2, 1) := by decide +kernel
theorem dX7_number_51 : decode cX7_number 51 = .ok (.iinc 5 1, 3) := by decide +kernel
theorem dX7_number_54 : decode cX7_number 54 = .ok (.goto (-41), 3) := by decide +kernel
theorem dX7_number_57 : decode cX7_number 57 = .ok (.iload_n 2, 1) := by decide +kernel
theorem dX7_number_58 : decode cX7_number 58 = .ok (.ireturn, 1) := by decide +kernel
theorem dX7_firstBest_0 : decode cX7_firstBest 0 = .ok (.iconst 0, 1) := by decide +kernel
theorem dX7_firstBest_1 : decode cX7_firstBest 1 = .ok (.istore 4, 2) := by decide +kernel
theorem dX7_firstBest_3 : decode cX7_firstBest 3 = .ok (.ldc 21, 2) := by decide +kernel
theorem dX7_firstBest_5 : decode cX7_firstBest 5 = .ok (.istore 5, 2) := by decide +kernel
theorem dX7_firstBest_7 : decode cX7_firstBest 7 = .ok (.iconst 0, 1) := by decide +kernel
theorem dX7_firstBest_8 : decode cX7_firstBest 8 = .ok (.istore 6, 2) := by decide +kernel
theorem dX7_firstBest_10 : decode cX7_firstBest 10 = .ok (.iload 6, 2) := by decide +kernel
theorem dX7_firstBest_12 : decode cX7_firstBest 12 = .ok (.aload_n 0, 1) := by decide +kernel
theorem dX7_firstBest_13 : decode cX7_firstBest 13 = .ok (.getfield 22, 3) := by decide +kernel
theorem dX7_firstBest_16 : decode cX7_firstBest 16 = .ok (.if_icmp .ge 47, 3) := by decide +kernel
theorem dX7_firstBest_19 : decode cX7_firstBest 19 = .ok (.iload_n 1, 1) := by decide +kernel
theorem dX7_firstBest_20 : decode cX7_firstBest 20 = .ok (.iload 6, 2) := by decide +kernel
theorem dX7_firstBest_22 : decode cX7_firstBest 22 = .ok (.ishr, 1) := by decide +kernel
theorem dX7_firstBest_23 : decode cX7_firstBest 23 = .ok (.iconst 1, 1) := by decide +kernel
theorem dX7_firstBest_24 : decode cX7_firstBest 24 = .ok (.iand, 1) := by decide +kernel
theorem dX7_firstBest_25 : decode cX7_firstBest 25 = .ok (.ifCond .ne 6, 3) := by decide +kernel
theorem dX7_firstBest_28 : decode cX7_firstBest 28 = .ok (.goto 29, 3) := by decide +kernel
theorem dX7_firstBest_31 : decode cX7_firstBest 31 = .ok (.aload_n 0, 1) := by decide +kernel
theorem dX7_firstBest_32 : decode cX7_firstBest 32 = .ok (.iload_n 1, 1) := by decide +kernel
theorem dX7_firstBest_33 : decode cX7_firstBest 33 = .ok (.iload_n 2, 1) := by decide +kernel
theorem dX7_firstBest_34 : decode cX7_firstBest 34 = .ok (.iload 6, 2) := by decide +kernel
theorem dX7_firstBest_36 : decode cX7_firstBest 36 = .ok (.iload_n 3, 1) := by decide +kernel
theorem dX7_firstBest_37 : decode cX7_firstBest 37 = .ok (.invokestatic 25, 3) := by decide +kernel
theorem dX7_firstBest_40 : decode cX7_firstBest 40 = .ok (.istore 7, 2) := by decide +kernel
theorem dX7_firstBest_42 : decode cX7_firstBest 42 = .ok (.iload 7, 2) := by decide +kernel
theorem dX7_firstBest_44 : decode cX7_firstBest 44 = .ok (.iload 5, 2) := by decide +kernel
theorem dX7_firstBest_46 : decode cX7_firstBest 46 = .ok (.if_icmp .ge 11, 3) := by decide +kernel
theorem dX7_firstBest_49 : decode cX7_firstBest 49 = .ok (.iload 6, 2) := by decide +kernel
theorem dX7_firstBest_51 : decode cX7_firstBest 51 = .ok (.istore 4, 2) := by decide +kernel
theorem dX7_firstBest_53 : decode cX7_firstBest 53 = .ok (.iload 7, 2) := by decide +kernel
theorem dX7_firstBest_55 : decode cX7_firstBest 55 = .ok (.istore 5, 2) := by decide +kernel
theorem dX7_firstBest_57 : decode cX7_firstBest 57 = .ok (.iinc 6 1, 3) := by decide +kernel
theorem dX7_firstBest_60 : decode cX7_firstBest 60 = .ok (.goto (-50), 3) := by decide +kernel
theorem dX7_firstBest_63 : decode cX7_firstBest 63 = .ok (.iload 4, 2) := by decide +kernel
theorem dX7_firstBest_65 : decode cX7_firstBest 65 = .ok (.ireturn, 1) := by decide +kernel
theorem dX8_areTold_0 : decode cX8_areTold 0 = .ok (.aload_n 0, 1) := by decide +kernel
theorem dX8_areTold_1 : decode cX8_areTold 1 = .ok (.getfield 7, 3) := by decide +kernel
theorem dX8_areTold_4 : decode cX8_areTold 4 = .ok (.iconst 3, 1) := by decide +kernel
theorem dX8_areTold_5 : decode cX8_areTold 5 = .ok (.irem, 1) := by decide +kernel
theorem dX8_areTold_6 : decode cX8_areTold 6 = .ok (.ifCond .eq 5, 3) := by decide +kernel
theorem dX8_areTold_9 : decode cX8_areTold 9 = .ok (.iconst 0, 1) := by decide +kernel
theorem dX8_areTold_10 : decode cX8_areTold 10 = .ok (.ireturn, 1) := by decide +kernel
theorem dX8_areTold_11 : decode cX8_areTold 11 = .ok (.iconst 0, 1) := by decide +kernel
theorem dX8_areTold_12 : decode cX8_areTold 12 = .ok (.istore_n 2, 1) := by decide +kernel
theorem dX8_areTold_13 : decode cX8_areTold 13 = .ok (.iload_n 2, 1) := by decide +kernel
theorem dX8_areTold_14 : decode cX8_areTold 14 = .ok (.iconst 2, 1) := by decide +kernel
theorem dX8_areTold_15 : decode cX8_areTold 15 = .ok (.iadd, 1) := by decide +kernel
theorem dX8_areTold_16 : decode cX8_areTold 16 = .ok (.aload_n 0, 1) := by decide +kernel
theorem dX8_areTold_17 : decode cX8_areTold 17 = .ok (.getfield 7, 3) := by decide +kernel
theorem dX8_areTold_20 : decode cX8_areTold 20 = .ok (.if_icmp .ge 32, 3) := by decide +kernel
theorem dX8_areTold_23 : decode cX8_areTold 23 = .ok (.aload_n 1, 1) := by decide +kernel
theorem dX8_areTold_24 : decode cX8_areTold 24 = .ok (.aload_n 0, 1) := by decide +kernel
theorem dX8_areTold_25 : decode cX8_areTold 25 = .ok (.getfield 13, 3) := by decide +kernel
theorem dX8_areTold_28 : decode cX8_areTold 28 = .ok (.iload_n 2, 1) := by decide +kernel
theorem dX8_areTold_29 : decode cX8_areTold 29 = .ok (.iaload, 1) := by decide +kernel
theorem dX8_areTold_30 : decode cX8_areTold 30 = .ok (.aload_n 0, 1) := by decide +kernel
theorem dX8_areTold_31 : decode cX8_areTold 31 = .ok (.getfield 13, 3) := by decide +kernel
theorem dX8_areTold_34 : decode cX8_areTold 34 = .ok (.iload_n 2, 1) := by decide +kernel
theorem dX8_areTold_35 : decode cX8_areTold 35 = .ok (.iconst 1, 1) := by decide +kernel
theorem dX8_areTold_36 : decode cX8_areTold 36 = .ok (.iadd, 1) := by decide +kernel
theorem dX8_areTold_37 : decode cX8_areTold 37 = .ok (.iaload, 1) := by decide +kernel
theorem dX8_areTold_38 : decode cX8_areTold 38 = .ok (.invokevirtual 17, 3) := by decide +kernel
theorem dX8_areTold_41 : decode cX8_areTold 41 = .ok (.ifCond .ne 5, 3) := by decide +kernel
theorem dX8_areTold_44 : decode cX8_areTold 44 = .ok (.iconst 0, 1) := by decide +kernel
theorem dX8_areTold_45 : decode cX8_areTold 45 = .ok (.ireturn, 1) := by decide +kernel
theorem dX8_areTold_46 : decode cX8_areTold 46 = .ok (.iinc 2 3, 3) := by decide +kernel
theorem dX8_areTold_49 : decode cX8_areTold 49 = .ok (.goto (-36), 3) := by decide +kernel
theorem dX8_areTold_52 : decode cX8_areTold 52 = .ok (.iconst 1, 1) := by decide +kernel
theorem dX8_areTold_53 : decode cX8_areTold 53 = .ok (.ireturn, 1) := by decide +kernel
theorem dX8_ones_0 : decode cX8_ones 0 = .ok (.iconst 0, 1) := by decide +kernel
theorem dX8_ones_1 : decode cX8_ones 1 = .ok (.istore_n 2, 1) := by decide +kernel
theorem dX8_ones_2 : decode cX8_ones 2 = .ok (.iconst 0, 1) := by decide +kernel
theorem dX8_ones_3 : decode cX8_ones 3 = .ok (.istore_n 3, 1) := by decide +kernel
theorem dX8_ones_4 : decode cX8_ones 4 = .ok (.iload_n 3, 1) := by decide +kernel
theorem dX8_ones_5 : decode cX8_ones 5 = .ok (.iload_n 1, 1) := by decide +kernel
theorem dX8_ones_6 : decode cX8_ones 6 = .ok (.if_icmp .ge 24, 3) := by decide +kernel
theorem dX8_ones_9 : decode cX8_ones 9 = .ok (.aload_n 0, 1) := by decide +kernel
theorem dX8_ones_10 : decode cX8_ones 10 = .ok (.iload_n 3, 1) := by decide +kernel
theorem dX8_ones_11 : decode cX8_ones 11 = .ok (.iload_n 3, 1) := by decide +kernel
theorem dX8_ones_12 : decode cX8_ones 12 = .ok (.invokestatic 23, 3) := by decide +kernel
theorem dX8_ones_15 : decode cX8_ones 15 = .ok (.ifCond .eq 9, 3) := by decide +kernel
theorem dX8_ones_18 : decode cX8_ones 18 = .ok (.iload_n 2, 1) := by decide +kernel
theorem dX8_ones_19 : decode cX8_ones 19 = .ok (.iconst 1, 1) := by decide +kernel
theorem dX8_ones_20 : decode cX8_ones 20 = .ok (.iload_n 3, 1) := by decide +kernel
theorem dX8_ones_21 : decode cX8_ones 21 = .ok (.ishl, 1) := by decide +kernel
theorem dX8_ones_22 : decode cX8_ones 22 = .ok (.ior, 1) := by decide +kernel
theorem dX8_ones_23 : decode cX8_ones 23 = .ok (.istore_n 2, 1) := by decide +kernel
theorem dX8_ones_24 : decode cX8_ones 24 = .ok (.iinc 3 1, 3) := by decide +kernel
theorem dX8_ones_27 : decode cX8_ones 27 = .ok (.goto (-23), 3) := by decide +kernel
theorem dX8_ones_30 : decode cX8_ones 30 = .ok (.iload_n 2, 1) := by decide +kernel
theorem dX8_ones_31 : decode cX8_ones 31 = .ok (.ireturn, 1) := by decide +kernel
theorem dX8_twos_0 : decode cX8_twos 0 = .ok (.iconst 0, 1) := by decide +kernel
theorem dX8_twos_1 : decode cX8_twos 1 = .ok (.istore_n 2, 1) := by decide +kernel
theorem dX8_twos_2 : decode cX8_twos 2 = .ok (.iconst 0, 1) := by decide +kernel
theorem dX8_twos_3 : decode cX8_twos 3 = .ok (.istore_n 3, 1) := by decide +kernel
theorem dX8_twos_4 : decode cX8_twos 4 = .ok (.iload_n 3, 1) := by decide +kernel
theorem dX8_twos_5 : decode cX8_twos 5 = .ok (.iload_n 1, 1) := by decide +kernel
theorem dX8_twos_6 : decode cX8_twos 6 = .ok (.if_icmp .ge 39, 3) := by decide +kernel
theorem dX8_twos_9 : decode cX8_twos 9 = .ok (.iload_n 3, 1) := by decide +kernel
theorem dX8_twos_10 : decode cX8_twos 10 = .ok (.iconst 1, 1) := by decide +kernel
theorem dX8_twos_11 : decode cX8_twos 11 = .ok (.iadd, 1) := by decide +kernel
theorem dX8_twos_12 : decode cX8_twos 12 = .ok (.istore 4, 2) := by decide +kernel
theorem dX8_twos_14 : decode cX8_twos 14 = .ok (.iload 4, 2) := by decide +kernel
theorem dX8_twos_16 : decode cX8_twos 16 = .ok (.iload_n 1, 1) := by decide +kernel
theorem dX8_twos_17 : decode cX8_twos 17 = .ok (.if_icmp .ge 22, 3) := by decide +kernel
theorem dX8_twos_20 : decode cX8_twos 20 = .ok (.aload_n 0, 1) := by decide +kernel
theorem dX8_twos_21 : decode cX8_twos 21 = .ok (.iload_n 3, 1) := by decide +kernel
theorem dX8_twos_22 : decode cX8_twos 22 = .ok (.iload 4, 2) := by decide +kernel
theorem dX8_twos_24 : decode cX8_twos 24 = .ok (.invokestatic 23, 3) := by decide +kernel
theorem dX8_twos_27 : decode cX8_twos 27 = .ok (.ifCond .eq 6, 3) := by decide +kernel
theorem dX8_twos_30 : decode cX8_twos 30 = .ok (.iinc 2 1, 3) := by decide +kernel
theorem dX8_twos_33 : decode cX8_twos 33 = .ok (.iinc 4 1, 3) := by decide +kernel
theorem dX8_twos_36 : decode cX8_twos 36 = .ok (.goto (-22), 3) := by decide +kernel
theorem dX8_twos_39 : decode cX8_twos 39 = .ok (.iinc 3 1, 3) := by decide +kernel
theorem dX8_twos_42 : decode cX8_twos 42 = .ok (.goto (-38), 3) := by decide +kernel
theorem dX8_twos_45 : decode cX8_twos 45 = .ok (.iload_n 2, 1) := by decide +kernel
theorem dX8_twos_46 : decode cX8_twos 46 = .ok (.ireturn, 1) := by decide +kernel
theorem dX8_isSo_0 : decode cX8_isSo 0 = .ok (.iconst 0, 1) := by decide +kernel
theorem dX8_isSo_1 : decode cX8_isSo 1 = .ok (.istore_n 3, 1) := by decide +kernel
theorem dX8_isSo_2 : decode cX8_isSo 2 = .ok (.iload_n 3, 1) := by decide +kernel
theorem dX8_isSo_3 : decode cX8_isSo 3 = .ok (.iconst 2, 1) := by decide +kernel
theorem dX8_isSo_4 : decode cX8_isSo 4 = .ok (.iadd, 1) := by decide +kernel
theorem dX8_isSo_5 : decode cX8_isSo 5 = .ok (.aload_n 0, 1) := by decide +kernel
theorem dX8_isSo_6 : decode cX8_isSo 6 = .ok (.getfield 7, 3) := by decide +kernel
theorem dX8_isSo_9 : decode cX8_isSo 9 = .ok (.if_icmp .ge 66, 3) := by decide +kernel
theorem dX8_isSo_12 : decode cX8_isSo 12 = .ok (.aload_n 0, 1) := by decide +kernel
theorem dX8_isSo_13 : decode cX8_isSo 13 = .ok (.getfield 13, 3) := by decide +kernel
theorem dX8_isSo_16 : decode cX8_isSo 16 = .ok (.iload_n 3, 1) := by decide +kernel
theorem dX8_isSo_17 : decode cX8_isSo 17 = .ok (.iconst 2, 1) := by decide +kernel
theorem dX8_isSo_18 : decode cX8_isSo 18 = .ok (.iadd, 1) := by decide +kernel
theorem dX8_isSo_19 : decode cX8_isSo 19 = .ok (.iaload, 1) := by decide +kernel
theorem dX8_isSo_20 : decode cX8_isSo 20 = .ok (.iconst 1, 1) := by decide +kernel
theorem dX8_isSo_21 : decode cX8_isSo 21 = .ok (.if_icmp .ne 7, 3) := by decide +kernel
theorem dX8_isSo_24 : decode cX8_isSo 24 = .ok (.iconst 1, 1) := by decide +kernel
theorem dX8_isSo_25 : decode cX8_isSo 25 = .ok (.goto 4, 3) := by decide +kernel
theorem dX8_isSo_28 : decode cX8_isSo 28 = .ok (.iconst 0, 1) := by decide +kernel
theorem dX8_isSo_29 : decode cX8_isSo 29 = .ok (.istore 4, 2) := by decide +kernel
theorem dX8_isSo_31 : decode cX8_isSo 31 = .ok (.aload_n 0, 1) := by decide +kernel
theorem dX8_isSo_32 : decode cX8_isSo 32 = .ok (.getfield 13, 3) := by decide +kernel
theorem dX8_isSo_35 : decode cX8_isSo 35 = .ok (.iload_n 3, 1) := by decide +kernel
theorem dX8_isSo_36 : decode cX8_isSo 36 = .ok (.iaload, 1) := by decide +kernel
theorem dX8_isSo_37 : decode cX8_isSo 37 = .ok (.iload_n 1, 1) := by decide +kernel
theorem dX8_isSo_38 : decode cX8_isSo 38 = .ok (.if_icmp .gt 19, 3) := by decide +kernel
theorem dX8_isSo_41 : decode cX8_isSo 41 = .ok (.iload_n 2, 1) := by decide +kernel
theorem dX8_isSo_42 : decode cX8_isSo 42 = .ok (.aload_n 0, 1) := by decide +kernel
theorem dX8_isSo_43 : decode cX8_isSo 43 = .ok (.getfield 13, 3) := by decide +kernel
theorem dX8_isSo_46 : decode cX8_isSo 46 = .ok (.iload_n 3, 1) := by decide +kernel
theorem dX8_isSo_47 : decode cX8_isSo 47 = .ok (.iconst 1, 1) := by decide +kernel
theorem dX8_isSo_48 : decode cX8_isSo 48 = .ok (.iadd, 1) := by decide +kernel
theorem dX8_isSo_49 : decode cX8_isSo 49 = .ok (.iaload, 1) := by decide +kernel
theorem dX8_isSo_50 : decode cX8_isSo 50 = .ok (.if_icmp .gt 7, 3) := by decide +kernel
theorem dX8_isSo_53 : decode cX8_isSo 53 = .ok (.iconst 1, 1) := by decide +kernel
theorem dX8_isSo_54 : decode cX8_isSo 54 = .ok (.goto 4, 3) := by decide +kernel
theorem dX8_isSo_57 : decode cX8_isSo 57 = .ok (.iconst 0, 1) := by decide +kernel
theorem dX8_isSo_58 : decode cX8_isSo 58 = .ok (.istore 5, 2) := by decide +kernel
theorem dX8_isSo_60 : decode cX8_isSo 60 = .ok (.iload 4, 2) := by decide +kernel
theorem dX8_isSo_62 : decode cX8_isSo 62 = .ok (.iload 5, 2) := by decide +kernel
theorem dX8_isSo_64 : decode cX8_isSo 64 = .ok (.if_icmp .eq 5, 3) := by decide +kernel
theorem dX8_isSo_67 : decode cX8_isSo 67 = .ok (.iconst 0, 1) := by decide +kernel
theorem dX8_isSo_68 : decode cX8_isSo 68 = .ok (.ireturn, 1) := by decide +kernel
theorem dX8_isSo_69 : decode cX8_isSo 69 = .ok (.iinc 3 3, 3) := by decide +kernel
theorem dX8_isSo_72 : decode cX8_isSo 72 = .ok (.goto (-70), 3) := by decide +kernel
theorem dX8_isSo_75 : decode cX8_isSo 75 = .ok (.iconst 1, 1) := by decide +kernel
theorem dX8_isSo_76 : decode cX8_isSo 76 = .ok (.ireturn, 1) := by decide +kernel
theorem dX9_init_0 : decode cX9_init 0 = .ok (.aload_n 0, 1) := by decide +kernel
theorem dX9_init_1 : decode cX9_init 1 = .ok (.invokespecial 1, 3) := by decide +kernel
theorem dX9_init_4 : decode cX9_init 4 = .ok (.aload_n 0, 1) := by decide +kernel
theorem dX9_init_5 : decode cX9_init 5 = .ok (.new 7, 3) := by decide +kernel
theorem dX9_init_8 : decode cX9_init 8 = .ok (.dup, 1) := by decide +kernel
theorem dX9_init_9 : decode cX9_init 9 = .ok (.invokespecial 9, 3) := by decide +kernel
theorem dX9_init_12 : decode cX9_init 12 = .ok (.putfield 10, 3) := by decide +kernel
theorem dX9_init_15 : decode cX9_init 15 = .ok (.aload_n 0, 1) := by decide +kernel
theorem dX9_init_16 : decode cX9_init 16 = .ok (.new 7, 3) := by decide +kernel
theorem dX9_init_19 : decode cX9_init 19 = .ok (.dup, 1) := by decide +kernel
theorem dX9_init_20 : decode cX9_init 20 = .ok (.invokespecial 9, 3) := by decide +kernel
theorem dX9_init_23 : decode cX9_init 23 = .ok (.putfield 16, 3) := by decide +kernel
theorem dX9_init_26 : decode cX9_init 26 = .ok (.aload_n 0, 1) := by decide +kernel
theorem dX9_init_27 : decode cX9_init 27 = .ok (.new 7, 3) := by decide +kernel
theorem dX9_init_30 : decode cX9_init 30 = .ok (.dup, 1) := by decide +kernel
theorem dX9_init_31 : decode cX9_init 31 = .ok (.invokespecial 9, 3) := by decide +kernel
theorem dX9_init_34 : decode cX9_init 34 = .ok (.putfield 19, 3) := by decide +kernel
theorem dX9_init_37 : decode cX9_init 37 = .ok (.aload_n 0, 1) := by decide +kernel
theorem dX9_init_38 : decode cX9_init 38 = .ok (.bipush 8, 2) := by decide +kernel
theorem dX9_init_40 : decode cX9_init 40 = .ok (.anewarray 22, 3) := by decide +kernel
theorem dX9_init_43 : decode cX9_init 43 = .ok (.putfield 24, 3) := by decide +kernel
theorem dX9_init_46 : decode cX9_init 46 = .ok (.aload_n 0, 1) := by decide +kernel
theorem dX9_init_47 : decode cX9_init 47 = .ok (.new 28, 3) := by decide +kernel
theorem dX9_init_50 : decode cX9_init 50 = .ok (.dup, 1) := by decide +kernel
theorem dX9_init_51 : decode cX9_init 51 = .ok (.invokespecial 30, 3) := by decide +kernel
theorem dX9_init_54 : decode cX9_init 54 = .ok (.putfield 31, 3) := by decide +kernel
theorem dX9_init_57 : decode cX9_init 57 = .ok (.iconst 0, 1) := by decide +kernel
theorem dX9_init_58 : decode cX9_init 58 = .ok (.istore_n 1, 1) := by decide +kernel
theorem dX9_init_59 : decode cX9_init 59 = .ok (.iload_n 1, 1) := by decide +kernel
theorem dX9_init_60 : decode cX9_init 60 = .ok (.bipush 8, 2) := by decide +kernel
theorem dX9_init_62 : decode cX9_init 62 = .ok (.if_icmp .ge 22, 3) := by decide +kernel
theorem dX9_init_65 : decode cX9_init 65 = .ok (.aload_n 0, 1) := by decide +kernel
theorem dX9_init_66 : decode cX9_init 66 = .ok (.getfield 24, 3) := by decide +kernel
theorem dX9_init_69 : decode cX9_init 69 = .ok (.iload_n 1, 1) := by decide +kernel
theorem dX9_init_70 : decode cX9_init 70 = .ok (.new 22, 3) := by decide +kernel
theorem dX9_init_73 : decode cX9_init 73 = .ok (.dup, 1) := by decide +kernel
theorem dX9_init_74 : decode cX9_init 74 = .ok (.invokespecial 35, 3) := by decide +kernel
theorem dX9_init_77 : decode cX9_init 77 = .ok (.aastore, 1) := by decide +kernel
theorem dX9_init_78 : decode cX9_init 78 = .ok (.iinc 1 1, 3) := by decide +kernel
theorem dX9_init_81 : decode cX9_init 81 = .ok (.goto (-22), 3) := by decide +kernel
theorem dX9_init_84 : decode cX9_init 84 = .ok (.return_, 1) := by decide +kernel
theorem dX9_string_0 : decode cX9_string 0 = .ok (.aload_n 0, 1) := by decide +kernel
theorem dX9_string_1 : decode cX9_string 1 = .ok (.iload_n 1, 1) := by decide +kernel
theorem dX9_string_2 : decode cX9_string 2 = .ok (.invokevirtual 36, 3) := by decide +kernel
theorem dX9_string_5 : decode cX9_string 5 = .ok (.istore_n 2, 1) := by decide +kernel
theorem dX9_string_6 : decode cX9_string 6 = .ok (.iload_n 2, 1) := by decide +kernel
theorem dX9_string_7 : decode cX9_string 7 = .ok (.ifCond .eq 5, 3) := by decide +kernel
theorem dX9_string_10 : decode cX9_string 10 = .ok (.iload_n 2, 1) := by decide +kernel
theorem dX9_string_11 : decode cX9_string 11 = .ok (.ireturn, 1) := by decide +kernel
theorem dX9_string_12 : decode cX9_string 12 = .ok (.aload_n 0, 1) := by decide +kernel
theorem dX9_string_13 : decode cX9_string 13 = .ok (.getfield 24, 3) := by decide +kernel
theorem dX9_string_16 : decode cX9_string 16 = .ok (.iload_n 1, 1) := by decide +kernel
theorem dX9_string_17 : decode cX9_string 17 = .ok (.aaload, 1) := by decide +kernel
theorem dX9_string_18 : decode cX9_string 18 = .ok (.getfield 40, 3) := by decide +kernel
theorem dX9_string_21 : decode cX9_string 21 = .ok (.ifCond .eq 6, 3) := by decide +kernel
theorem dX9_string_24 : decode cX9_string 24 = .ok (.bipush (-12), 2) := by decide +kernel
theorem dX9_string_26 : decode cX9_string 26 = .ok (.ireturn, 1) := by decide +kernel
theorem dX9_string_27 : decode cX9_string 27 = .ok (.aload_n 0, 1) := by decide +kernel
theorem dX9_string_28 : decode cX9_string 28 = .ok (.getfield 16, 3) := by decide +kernel
theorem dX9_string_31 : decode cX9_string 31 = .ok (.aload_n 0, 1) := by decide +kernel
theorem dX9_string_32 : decode cX9_string 32 = .ok (.getfield 10, 3) := by decide +kernel
theorem dX9_string_35 : decode cX9_string 35 = .ok (.invokevirtual 44, 3) := by decide +kernel
theorem dX9_string_38 : decode cX9_string 38 = .ok (.aload_n 0, 1) := by decide +kernel
theorem dX9_string_39 : decode cX9_string 39 = .ok (.getfield 24, 3) := by decide +kernel
theorem dX9_string_42 : decode cX9_string 42 = .ok (.iload_n 1, 1) := by decide +kernel
theorem dX9_string_43 : decode cX9_string 43 = .ok (.aaload, 1) := by decide +kernel
theorem dX9_string_44 : decode cX9_string 44 = .ok (.aload_n 0, 1) := by decide +kernel
theorem dX9_string_45 : decode cX9_string 45 = .ok (.getfield 16, 3) := by decide +kernel
theorem dX9_string_48 : decode cX9_string 48 = .ok (.invokestatic 48, 3) := by decide +kernel
theorem dX9_string_51 : decode cX9_string 51 = .ok (.istore_n 3, 1) := by decide +kernel
theorem dX9_string_52 : decode cX9_string 52 = .ok (.iload_n 3, 1) := by decide +kernel
theorem dX9_string_53 : decode cX9_string 53 = .ok (.ifCond .lt 14, 3) := by decide +kernel
theorem dX9_string_56 : decode cX9_string 56 = .ok (.aload_n 0, 1) := by decide +kernel
theorem dX9_string_57 : decode cX9_string 57 = .ok (.getfield 10, 3) := by decide +kernel
theorem dX9_string_60 : decode cX9_string 60 = .ok (.aload_n 0, 1) := by decide +kernel
theorem dX9_string_61 : decode cX9_string 61 = .ok (.getfield 16, 3) := by decide +kernel
theorem dX9_string_64 : decode cX9_string 64 = .ok (.invokevirtual 44, 3) := by decide +kernel
theorem dX9_string_67 : decode cX9_string 67 = .ok (.iload_n 3, 1) := by decide +kernel
theorem dX9_string_68 : decode cX9_string 68 = .ok (.ireturn, 1) := by decide +kernel
theorem dX9_bulb_0 : decode cX9_bulb 0 = .ok (.aload_n 0, 1) := by decide +kernel
theorem dX9_bulb_1 : decode cX9_bulb 1 = .ok (.getfield 10, 3) := by decide +kernel
theorem dX9_bulb_4 : decode cX9_bulb 4 = .ok (.iload_n 1, 1) := by decide +kernel
theorem dX9_bulb_5 : decode cX9_bulb 5 = .ok (.invokevirtual 54, 3) := by decide +kernel
theorem dX9_bulb_8 : decode cX9_bulb 8 = .ok (.ifCond .ne 5, 3) := by decide +kernel
theorem dX9_bulb_11 : decode cX9_bulb 11 = .ok (.iconst (-1), 1) := by decide +kernel
theorem dX9_bulb_12 : decode cX9_bulb 12 = .ok (.ireturn, 1) := by decide +kernel
theorem dX9_bulb_13 : decode cX9_bulb 13 = .ok (.iload_n 2, 1) := by decide +kernel
theorem dX9_bulb_14 : decode cX9_bulb 14 = .ok (.tableswitch 152 0 7 #[46, 56, 66, 76, 88, 100, 109, 131], 46) := by decide +kernel
theorem dX9_bulb_60 : decode cX9_bulb 60 = .ok (.aload_n 0, 1) := by decide +kernel
theorem dX9_bulb_61 : decode cX9_bulb 61 = .ok (.getfield 10, 3) := by decide +kernel
theorem dX9_bulb_64 : decode cX9_bulb 64 = .ok (.getfield 58, 3) := by decide +kernel
theorem dX9_bulb_67 : decode cX9_bulb 67 = .ok (.iload_n 1, 1) := by decide +kernel
theorem dX9_bulb_68 : decode cX9_bulb 68 = .ok (.iaload, 1) := by decide +kernel
theorem dX9_bulb_69 : decode cX9_bulb 69 = .ok (.ireturn, 1) := by decide +kernel
theorem dX9_bulb_70 : decode cX9_bulb 70 = .ok (.aload_n 0, 1) := by decide +kernel
theorem dX9_bulb_71 : decode cX9_bulb 71 = .ok (.getfield 10, 3) := by decide +kernel
end
section
theorem dX9_bulb_74 : decode cX9_bulb 74 = .ok (.getfield 62, 3) := by decide +kernel
theorem dX9_bulb_77 : decode cX9_bulb 77 = .ok (.iload_n 1, 1) := by decide +kernel
theorem dX9_bulb_78 : decode cX9_bulb 78 = .ok (.iaload, 1) := by decide +kernel
theorem dX9_bulb_79 : decode cX9_bulb 79 = .ok (.ireturn, 1) := by decide +kernel
theorem dX9_bulb_80 : decode cX9_bulb 80 = .ok (.aload_n 0, 1) := by decide +kernel
theorem dX9_bulb_81 : decode cX9_bulb 81 = .ok (.getfield 10, 3) := by decide +kernel
theorem dX9_bulb_84 : decode cX9_bulb 84 = .ok (.getfield 65, 3) := by decide +kernel
theorem dX9_bulb_87 : decode cX9_bulb 87 = .ok (.iload_n 1, 1) := by decide +kernel
theorem dX9_bulb_88 : decode cX9_bulb 88 = .ok (.iaload, 1) := by decide +kernel
theorem dX9_bulb_89 : decode cX9_bulb 89 = .ok (.ireturn, 1) := by decide +kernel
theorem dX9_bulb_90 : decode cX9_bulb 90 = .ok (.aload_n 0, 1) := by decide +kernel
theorem dX9_bulb_91 : decode cX9_bulb 91 = .ok (.getfield 10, 3) := by decide +kernel
theorem dX9_bulb_94 : decode cX9_bulb 94 = .ok (.iload_n 1, 1) := by decide +kernel
theorem dX9_bulb_95 : decode cX9_bulb 95 = .ok (.invokevirtual 68, 3) := by decide +kernel
theorem dX9_bulb_98 : decode cX9_bulb 98 = .ok (.invokestatic 71, 3) := by decide +kernel
theorem dX9_bulb_101 : decode cX9_bulb 101 = .ok (.ireturn, 1) := by decide +kernel
theorem dX9_bulb_102 : decode cX9_bulb 102 = .ok (.aload_n 0, 1) := by decide +kernel
theorem dX9_bulb_103 : decode cX9_bulb 103 = .ok (.getfield 10, 3) := by decide +kernel
theorem dX9_bulb_106 : decode cX9_bulb 106 = .ok (.iload_n 1, 1) := by decide +kernel
theorem dX9_bulb_107 : decode cX9_bulb 107 = .ok (.invokevirtual 75, 3) := by decide +kernel
theorem dX9_bulb_110 : decode cX9_bulb 110 = .ok (.invokestatic 71, 3) := by decide +kernel
theorem dX9_bulb_113 : decode cX9_bulb 113 = .ok (.ireturn, 1) := by decide +kernel
theorem dX9_bulb_114 : decode cX9_bulb 114 = .ok (.aload_n 0, 1) := by decide +kernel
theorem dX9_bulb_115 : decode cX9_bulb 115 = .ok (.getfield 10, 3) := by decide +kernel
theorem dX9_bulb_118 : decode cX9_bulb 118 = .ok (.iload_n 1, 1) := by decide +kernel
theorem dX9_bulb_119 : decode cX9_bulb 119 = .ok (.invokevirtual 78, 3) := by decide +kernel
theorem dX9_bulb_122 : decode cX9_bulb 122 = .ok (.ireturn, 1) := by decide +kernel
theorem dX9_bulb_123 : decode cX9_bulb 123 = .ok (.aload_n 0, 1) := by decide +kernel
theorem dX9_bulb_124 : decode cX9_bulb 124 = .ok (.getfield 10, 3) := by decide +kernel
theorem dX9_bulb_127 : decode cX9_bulb 127 = .ok (.getfield 58, 3) := by decide +kernel
theorem dX9_bulb_130 : decode cX9_bulb 130 = .ok (.iload_n 1, 1) := by decide +kernel
theorem dX9_bulb_131 : decode cX9_bulb 131 = .ok (.iaload, 1) := by decide +kernel
theorem dX9_bulb_132 : decode cX9_bulb 132 = .ok (.aload_n 0, 1) := by decide +kernel
theorem dX9_bulb_133 : decode cX9_bulb 133 = .ok (.getfield 10, 3) := by decide +kernel
theorem dX9_bulb_136 : decode cX9_bulb 136 = .ok (.getfield 62, 3) := by decide +kernel
theorem dX9_bulb_139 : decode cX9_bulb 139 = .ok (.iload_n 1, 1) := by decide +kernel
theorem dX9_bulb_140 : decode cX9_bulb 140 = .ok (.iaload, 1) := by decide +kernel
theorem dX9_bulb_141 : decode cX9_bulb 141 = .ok (.invokestatic 81, 3) := by decide +kernel
theorem dX9_bulb_144 : decode cX9_bulb 144 = .ok (.ireturn, 1) := by decide +kernel
theorem dX9_bulb_145 : decode cX9_bulb 145 = .ok (.aload_n 0, 1) := by decide +kernel
theorem dX9_bulb_146 : decode cX9_bulb 146 = .ok (.getfield 10, 3) := by decide +kernel
theorem dX9_bulb_149 : decode cX9_bulb 149 = .ok (.iload_n 1, 1) := by decide +kernel
theorem dX9_bulb_150 : decode cX9_bulb 150 = .ok (.aload_n 0, 1) := by decide +kernel
theorem dX9_bulb_151 : decode cX9_bulb 151 = .ok (.getfield 10, 3) := by decide +kernel
theorem dX9_bulb_154 : decode cX9_bulb 154 = .ok (.getfield 87, 3) := by decide +kernel
theorem dX9_bulb_157 : decode cX9_bulb 157 = .ok (.iconst 1, 1) := by decide +kernel
theorem dX9_bulb_158 : decode cX9_bulb 158 = .ok (.iadd, 1) := by decide +kernel
theorem dX9_bulb_159 : decode cX9_bulb 159 = .ok (.invokevirtual 90, 3) := by decide +kernel
theorem dX9_bulb_162 : decode cX9_bulb 162 = .ok (.invokestatic 71, 3) := by decide +kernel
theorem dX9_bulb_165 : decode cX9_bulb 165 = .ok (.ireturn, 1) := by decide +kernel
theorem dX9_bulb_166 : decode cX9_bulb 166 = .ok (.iconst (-1), 1) := by decide +kernel
theorem dX9_bulb_167 : decode cX9_bulb 167 = .ok (.ireturn, 1) := by decide +kernel
theorem dX9_hangs_0 : decode cX9_hangs 0 = .ok (.aload_n 0, 1) := by decide +kernel
theorem dX9_hangs_1 : decode cX9_hangs 1 = .ok (.iload_n 1, 1) := by decide +kernel
theorem dX9_hangs_2 : decode cX9_hangs 2 = .ok (.invokevirtual 94, 3) := by decide +kernel
theorem dX9_hangs_5 : decode cX9_hangs 5 = .ok (.istore_n 2, 1) := by decide +kernel
theorem dX9_hangs_6 : decode cX9_hangs 6 = .ok (.iload_n 2, 1) := by decide +kernel
theorem dX9_hangs_7 : decode cX9_hangs 7 = .ok (.ifCond .eq 5, 3) := by decide +kernel
theorem dX9_hangs_10 : decode cX9_hangs 10 = .ok (.iload_n 2, 1) := by decide +kernel
theorem dX9_hangs_11 : decode cX9_hangs 11 = .ok (.ireturn, 1) := by decide +kernel
theorem dX9_hangs_12 : decode cX9_hangs 12 = .ok (.aload_n 0, 1) := by decide +kernel
theorem dX9_hangs_13 : decode cX9_hangs 13 = .ok (.getfield 10, 3) := by decide +kernel
theorem dX9_hangs_16 : decode cX9_hangs 16 = .ok (.invokevirtual 97, 3) := by decide +kernel
theorem dX9_hangs_19 : decode cX9_hangs 19 = .ok (.ifCond .eq 6, 3) := by decide +kernel
theorem dX9_hangs_22 : decode cX9_hangs 22 = .ok (.bipush (-2), 2) := by decide +kernel
theorem dX9_hangs_24 : decode cX9_hangs 24 = .ok (.ireturn, 1) := by decide +kernel
theorem dX9_hangs_25 : decode cX9_hangs 25 = .ok (.aload_n 0, 1) := by decide +kernel
theorem dX9_hangs_26 : decode cX9_hangs 26 = .ok (.getfield 10, 3) := by decide +kernel
theorem dX9_hangs_29 : decode cX9_hangs 29 = .ok (.aload_n 0, 1) := by decide +kernel
theorem dX9_hangs_30 : decode cX9_hangs 30 = .ok (.getfield 24, 3) := by decide +kernel
theorem dX9_hangs_33 : decode cX9_hangs 33 = .ok (.iload_n 1, 1) := by decide +kernel
theorem dX9_hangs_34 : decode cX9_hangs 34 = .ok (.aaload, 1) := by decide +kernel
theorem dX9_hangs_35 : decode cX9_hangs 35 = .ok (.getfield 101, 3) := by decide +kernel
theorem dX9_hangs_38 : decode cX9_hangs 38 = .ok (.aload_n 0, 1) := by decide +kernel
theorem dX9_hangs_39 : decode cX9_hangs 39 = .ok (.getfield 24, 3) := by decide +kernel
theorem dX9_hangs_42 : decode cX9_hangs 42 = .ok (.iload_n 1, 1) := by decide +kernel
theorem dX9_hangs_43 : decode cX9_hangs 43 = .ok (.aaload, 1) := by decide +kernel
theorem dX9_hangs_44 : decode cX9_hangs 44 = .ok (.getfield 103, 3) := by decide +kernel
theorem dX9_hangs_47 : decode cX9_hangs 47 = .ok (.invokevirtual 105, 3) := by decide +kernel
theorem dX9_hangs_50 : decode cX9_hangs 50 = .ok (.aload_n 0, 1) := by decide +kernel
theorem dX9_hangs_51 : decode cX9_hangs 51 = .ok (.getfield 10, 3) := by decide +kernel
theorem dX9_hangs_54 : decode cX9_hangs 54 = .ok (.getfield 109, 3) := by decide +kernel
theorem dX9_hangs_57 : decode cX9_hangs 57 = .ok (.iconst 1, 1) := by decide +kernel
theorem dX9_hangs_58 : decode cX9_hangs 58 = .ok (.isub, 1) := by decide +kernel
theorem dX9_hangs_59 : decode cX9_hangs 59 = .ok (.ireturn, 1) := by decide +kernel
theorem dX9_wears_0 : decode cX9_wears 0 = .ok (.aload_n 0, 1) := by decide +kernel
theorem dX9_wears_1 : decode cX9_wears 1 = .ok (.getfield 10, 3) := by decide +kernel
theorem dX9_wears_4 : decode cX9_wears 4 = .ok (.iload_n 1, 1) := by decide +kernel
theorem dX9_wears_5 : decode cX9_wears 5 = .ok (.invokevirtual 54, 3) := by decide +kernel
theorem dX9_wears_8 : decode cX9_wears 8 = .ok (.ifCond .eq 14, 3) := by decide +kernel
theorem dX9_wears_11 : decode cX9_wears 11 = .ok (.iload_n 2, 1) := by decide +kernel
theorem dX9_wears_12 : decode cX9_wears 12 = .ok (.iconst 0, 1) := by decide +kernel
theorem dX9_wears_13 : decode cX9_wears 13 = .ok (.sipush 999, 3) := by decide +kernel
theorem dX9_wears_16 : decode cX9_wears 16 = .ok (.invokestatic 112, 3) := by decide +kernel
theorem dX9_wears_19 : decode cX9_wears 19 = .ok (.ifCond .ne 5, 3) := by decide +kernel
theorem dX9_wears_22 : decode cX9_wears 22 = .ok (.iconst (-1), 1) := by decide +kernel
theorem dX9_wears_23 : decode cX9_wears 23 = .ok (.ireturn, 1) := by decide +kernel
theorem dX9_wears_24 : decode cX9_wears 24 = .ok (.aload_n 0, 1) := by decide +kernel
theorem dX9_wears_25 : decode cX9_wears 25 = .ok (.getfield 10, 3) := by decide +kernel
theorem dX9_wears_28 : decode cX9_wears 28 = .ok (.getfield 65, 3) := by decide +kernel
theorem dX9_wears_31 : decode cX9_wears 31 = .ok (.iload_n 1, 1) := by decide +kernel
theorem dX9_wears_32 : decode cX9_wears 32 = .ok (.iaload, 1) := by decide +kernel
theorem dX9_wears_33 : decode cX9_wears 33 = .ok (.istore_n 3, 1) := by decide +kernel
theorem dX9_wears_34 : decode cX9_wears 34 = .ok (.aload_n 0, 1) := by decide +kernel
theorem dX9_wears_35 : decode cX9_wears 35 = .ok (.getfield 10, 3) := by decide +kernel
theorem dX9_wears_38 : decode cX9_wears 38 = .ok (.getfield 65, 3) := by decide +kernel
theorem dX9_wears_41 : decode cX9_wears 41 = .ok (.iload_n 1, 1) := by decide +kernel
theorem dX9_wears_42 : decode cX9_wears 42 = .ok (.iload_n 2, 1) := by decide +kernel
theorem dX9_wears_43 : decode cX9_wears 43 = .ok (.iastore, 1) := by decide +kernel
theorem dX9_wears_44 : decode cX9_wears 44 = .ok (.iload_n 3, 1) := by decide +kernel
theorem dX9_wears_45 : decode cX9_wears 45 = .ok (.ireturn, 1) := by decide +kernel
theorem dX9_breaks_0 : decode cX9_breaks 0 = .ok (.aload_n 0, 1) := by decide +kernel
theorem dX9_breaks_1 : decode cX9_breaks 1 = .ok (.getfield 10, 3) := by decide +kernel
theorem dX9_breaks_4 : decode cX9_breaks 4 = .ok (.iload_n 1, 1) := by decide +kernel
theorem dX9_breaks_5 : decode cX9_breaks 5 = .ok (.invokevirtual 54, 3) := by decide +kernel
theorem dX9_breaks_8 : decode cX9_breaks 8 = .ok (.ifCond .ne 5, 3) := by decide +kernel
theorem dX9_breaks_11 : decode cX9_breaks 11 = .ok (.iconst (-1), 1) := by decide +kernel
theorem dX9_breaks_12 : decode cX9_breaks 12 = .ok (.ireturn, 1) := by decide +kernel
theorem dX9_breaks_13 : decode cX9_breaks 13 = .ok (.aload_n 0, 1) := by decide +kernel
theorem dX9_breaks_14 : decode cX9_breaks 14 = .ok (.getfield 10, 3) := by decide +kernel
theorem dX9_breaks_17 : decode cX9_breaks 17 = .ok (.iload_n 1, 1) := by decide +kernel
theorem dX9_breaks_18 : decode cX9_breaks 18 = .ok (.invokevirtual 116, 3) := by decide +kernel
theorem dX9_breaks_21 : decode cX9_breaks 21 = .ok (.aload_n 0, 1) := by decide +kernel
theorem dX9_breaks_22 : decode cX9_breaks 22 = .ok (.getfield 10, 3) := by decide +kernel
theorem dX9_breaks_25 : decode cX9_breaks 25 = .ok (.iload_n 1, 1) := by decide +kernel
theorem dX9_breaks_26 : decode cX9_breaks 26 = .ok (.invokevirtual 68, 3) := by decide +kernel
theorem dX9_breaks_29 : decode cX9_breaks 29 = .ok (.invokestatic 71, 3) := by decide +kernel
theorem dX9_breaks_32 : decode cX9_breaks 32 = .ok (.ireturn, 1) := by decide +kernel
theorem dX9_spares_0 : decode cX9_spares 0 = .ok (.iload_n 1, 1) := by decide +kernel
theorem dX9_spares_1 : decode cX9_spares 1 = .ok (.iconst 0, 1) := by decide +kernel
theorem dX9_spares_2 : decode cX9_spares 2 = .ok (.bipush 9, 2) := by decide +kernel
theorem dX9_spares_4 : decode cX9_spares 4 = .ok (.invokestatic 112, 3) := by decide +kernel
theorem dX9_spares_7 : decode cX9_spares 7 = .ok (.ifCond .ne 5, 3) := by decide +kernel
theorem dX9_spares_10 : decode cX9_spares 10 = .ok (.iconst (-1), 1) := by decide +kernel
theorem dX9_spares_11 : decode cX9_spares 11 = .ok (.ireturn, 1) := by decide +kernel
theorem dX9_spares_12 : decode cX9_spares 12 = .ok (.aload_n 0, 1) := by decide +kernel
theorem dX9_spares_13 : decode cX9_spares 13 = .ok (.getfield 10, 3) := by decide +kernel
theorem dX9_spares_16 : decode cX9_spares 16 = .ok (.getfield 120, 3) := by decide +kernel
theorem dX9_spares_19 : decode cX9_spares 19 = .ok (.istore_n 2, 1) := by decide +kernel
theorem dX9_spares_20 : decode cX9_spares 20 = .ok (.aload_n 0, 1) := by decide +kernel
theorem dX9_spares_21 : decode cX9_spares 21 = .ok (.getfield 10, 3) := by decide +kernel
theorem dX9_spares_24 : decode cX9_spares 24 = .ok (.iload_n 1, 1) := by decide +kernel
theorem dX9_spares_25 : decode cX9_spares 25 = .ok (.putfield 120, 3) := by decide +kernel
theorem dX9_spares_28 : decode cX9_spares 28 = .ok (.iload_n 2, 1) := by decide +kernel
theorem dX9_spares_29 : decode cX9_spares 29 = .ok (.ireturn, 1) := by decide +kernel
theorem dX9_twist_0 : decode cX9_twist 0 = .ok (.aload_n 0, 1) := by decide +kernel
theorem dX9_twist_1 : decode cX9_twist 1 = .ok (.getfield 10, 3) := by decide +kernel
theorem dX9_twist_4 : decode cX9_twist 4 = .ok (.iload_n 1, 1) := by decide +kernel
theorem dX9_twist_5 : decode cX9_twist 5 = .ok (.invokevirtual 54, 3) := by decide +kernel
theorem dX9_twist_8 : decode cX9_twist 8 = .ok (.ifCond .ne 5, 3) := by decide +kernel
theorem dX9_twist_11 : decode cX9_twist 11 = .ok (.iconst (-1), 1) := by decide +kernel
theorem dX9_twist_12 : decode cX9_twist 12 = .ok (.ireturn, 1) := by decide +kernel
theorem dX9_twist_13 : decode cX9_twist 13 = .ok (.aload_n 0, 1) := by decide +kernel
theorem dX9_twist_14 : decode cX9_twist 14 = .ok (.getfield 10, 3) := by decide +kernel
theorem dX9_twist_17 : decode cX9_twist 17 = .ok (.getfield 120, 3) := by decide +kernel
theorem dX9_twist_20 : decode cX9_twist 20 = .ok (.ifCond .gt 6, 3) := by decide +kernel
theorem dX9_twist_23 : decode cX9_twist 23 = .ok (.bipush (-3), 2) := by decide +kernel
theorem dX9_twist_25 : decode cX9_twist 25 = .ok (.ireturn, 1) := by decide +kernel
theorem dX9_twist_26 : decode cX9_twist 26 = .ok (.aload_n 0, 1) := by decide +kernel
theorem dX9_twist_27 : decode cX9_twist 27 = .ok (.getfield 10, 3) := by decide +kernel
theorem dX9_twist_30 : decode cX9_twist 30 = .ok (.iload_n 1, 1) := by decide +kernel
theorem dX9_twist_31 : decode cX9_twist 31 = .ok (.invokevirtual 123, 3) := by decide +kernel
theorem dX9_twist_34 : decode cX9_twist 34 = .ok (.ireturn, 1) := by decide +kernel
theorem dX9_use_0 : decode cX9_use 0 = .ok (.aload_n 0, 1) := by decide +kernel
theorem dX9_use_1 : decode cX9_use 1 = .ok (.getfield 10, 3) := by decide +kernel
theorem dX9_use_4 : decode cX9_use 4 = .ok (.iload_n 1, 1) := by decide +kernel
theorem dX9_use_5 : decode cX9_use 5 = .ok (.iload_n 2, 1) := by decide +kernel
theorem dX9_use_6 : decode cX9_use 6 = .ok (.iload_n 3, 1) := by decide +kernel
theorem dX9_use_7 : decode cX9_use 7 = .ok (.invokevirtual 126, 3) := by decide +kernel
theorem dX9_use_10 : decode cX9_use 10 = .ok (.ifCond .ne 5, 3) := by decide +kernel
theorem dX9_use_13 : decode cX9_use 13 = .ok (.iconst (-1), 1) := by decide +kernel
theorem dX9_use_14 : decode cX9_use 14 = .ok (.ireturn, 1) := by decide +kernel
theorem dX9_use_15 : decode cX9_use 15 = .ok (.aload_n 0, 1) := by decide +kernel
theorem dX9_use_16 : decode cX9_use 16 = .ok (.getfield 10, 3) := by decide +kernel
theorem dX9_use_19 : decode cX9_use 19 = .ok (.iload_n 1, 1) := by decide +kernel
theorem dX9_use_20 : decode cX9_use 20 = .ok (.iload_n 2, 1) := by decide +kernel
theorem dX9_use_21 : decode cX9_use 21 = .ok (.iload_n 3, 1) := by decide +kernel
theorem dX9_use_22 : decode cX9_use 22 = .ok (.invokevirtual 129, 3) := by decide +kernel
theorem dX9_use_25 : decode cX9_use 25 = .ok (.invokestatic 71, 3) := by decide +kernel
theorem dX9_use_28 : decode cX9_use 28 = .ok (.ireturn, 1) := by decide +kernel
theorem dX9_hours_0 : decode cX9_hours 0 = .ok (.iload_n 1, 1) := by decide +kernel
theorem dX9_hours_1 : decode cX9_hours 1 = .ok (.iconst 1, 1) := by decide +kernel
theorem dX9_hours_2 : decode cX9_hours 2 = .ok (.bipush 60, 2) := by decide +kernel
theorem dX9_hours_4 : decode cX9_hours 4 = .ok (.invokestatic 112, 3) := by decide +kernel
theorem dX9_hours_7 : decode cX9_hours 7 = .ok (.ifCond .ne 5, 3) := by decide +kernel
theorem dX9_hours_10 : decode cX9_hours 10 = .ok (.iconst (-1), 1) := by decide +kernel
theorem dX9_hours_11 : decode cX9_hours 11 = .ok (.ireturn, 1) := by decide +kernel
theorem dX9_hours_12 : decode cX9_hours 12 = .ok (.aload_n 0, 1) := by decide +kernel
theorem dX9_hours_13 : decode cX9_hours 13 = .ok (.getfield 10, 3) := by decide +kernel
theorem dX9_hours_16 : decode cX9_hours 16 = .ok (.iload_n 1, 1) := by decide +kernel
theorem dX9_hours_17 : decode cX9_hours 17 = .ok (.invokevirtual 132, 3) := by decide +kernel
theorem dX9_hours_20 : decode cX9_hours 20 = .ok (.ifCond .eq 13, 3) := by decide +kernel
theorem dX9_hours_23 : decode cX9_hours 23 = .ok (.aload_n 0, 1) := by decide +kernel
theorem dX9_hours_24 : decode cX9_hours 24 = .ok (.getfield 10, 3) := by decide +kernel
theorem dX9_hours_27 : decode cX9_hours 27 = .ok (.getfield 135, 3) := by decide +kernel
theorem dX9_hours_30 : decode cX9_hours 30 = .ok (.goto 5, 3) := by decide +kernel
theorem dX9_hours_33 : decode cX9_hours 33 = .ok (.bipush (-3), 2) := by decide +kernel
theorem dX9_hours_35 : decode cX9_hours 35 = .ok (.ireturn, 1) := by decide +kernel
theorem dX9_then_0 : decode cX9_then 0 = .ok (.iload_n 1, 1) := by decide +kernel
theorem dX9_then_1 : decode cX9_then 1 = .ok (.iconst 0, 1) := by decide +kernel
theorem dX9_then_2 : decode cX9_then 2 = .ok (.bipush 60, 2) := by decide +kernel
theorem dX9_then_4 : decode cX9_then 4 = .ok (.invokestatic 112, 3) := by decide +kernel
theorem dX9_then_7 : decode cX9_then 7 = .ok (.ifCond .eq 12, 3) := by decide +kernel
theorem dX9_then_10 : decode cX9_then 10 = .ok (.iload_n 2, 1) := by decide +kernel
theorem dX9_then_11 : decode cX9_then 11 = .ok (.iconst 0, 1) := by decide +kernel
theorem dX9_then_12 : decode cX9_then 12 = .ok (.iconst 2, 1) := by decide +kernel
theorem dX9_then_13 : decode cX9_then 13 = .ok (.invokestatic 112, 3) := by decide +kernel
theorem dX9_then_16 : decode cX9_then 16 = .ok (.ifCond .ne 5, 3) := by decide +kernel
theorem dX9_then_19 : decode cX9_then 19 = .ok (.iconst (-1), 1) := by decide +kernel
theorem dX9_then_20 : decode cX9_then 20 = .ok (.ireturn, 1) := by decide +kernel
theorem dX9_then_21 : decode cX9_then 21 = .ok (.aload_n 0, 1) := by decide +kernel
theorem dX9_then_22 : decode cX9_then 22 = .ok (.getfield 16, 3) := by decide +kernel
theorem dX9_then_25 : decode cX9_then 25 = .ok (.aload_n 0, 1) := by decide +kernel
theorem dX9_then_26 : decode cX9_then 26 = .ok (.getfield 10, 3) := by decide +kernel
theorem dX9_then_29 : decode cX9_then 29 = .ok (.invokevirtual 44, 3) := by decide +kernel
theorem dX9_then_32 : decode cX9_then 32 = .ok (.aload_n 0, 1) := by decide +kernel
theorem dX9_then_33 : decode cX9_then 33 = .ok (.getfield 16, 3) := by decide +kernel
theorem dX9_then_36 : decode cX9_then 36 = .ok (.iload_n 1, 1) := by decide +kernel
theorem dX9_then_37 : decode cX9_then 37 = .ok (.invokevirtual 138, 3) := by decide +kernel
theorem dX9_then_40 : decode cX9_then 40 = .ok (.iload_n 2, 1) := by decide +kernel
theorem dX9_then_41 : decode cX9_then 41 = .ok (.ifCond .ne 11, 3) := by decide +kernel
theorem dX9_then_44 : decode cX9_then 44 = .ok (.aload_n 0, 1) := by decide +kernel
theorem dX9_then_45 : decode cX9_then 45 = .ok (.getfield 16, 3) := by decide +kernel
theorem dX9_then_48 : decode cX9_then 48 = .ok (.getfield 141, 3) := by decide +kernel
theorem dX9_then_51 : decode cX9_then 51 = .ok (.ireturn, 1) := by decide +kernel
theorem dX9_then_52 : decode cX9_then 52 = .ok (.iload_n 2, 1) := by decide +kernel
theorem dX9_then_53 : decode cX9_then 53 = .ok (.iconst 1, 1) := by decide +kernel
theorem dX9_then_54 : decode cX9_then 54 = .ok (.if_icmp .ne 13, 3) := by decide +kernel
theorem dX9_then_57 : decode cX9_then 57 = .ok (.aload_n 0, 1) := by decide +kernel
theorem dX9_then_58 : decode cX9_then 58 = .ok (.getfield 16, 3) := by decide +kernel
theorem dX9_then_61 : decode cX9_then 61 = .ok (.getfield 135, 3) := by decide +kernel
theorem dX9_then_64 : decode cX9_then 64 = .ok (.goto 10, 3) := by decide +kernel
theorem dX9_then_67 : decode cX9_then 67 = .ok (.aload_n 0, 1) := by decide +kernel
theorem dX9_then_68 : decode cX9_then 68 = .ok (.getfield 16, 3) := by decide +kernel
theorem dX9_then_71 : decode cX9_then 71 = .ok (.invokevirtual 144, 3) := by decide +kernel
theorem dX9_then_74 : decode cX9_then 74 = .ok (.ireturn, 1) := by decide +kernel
theorem dX9_wornThen_0 : decode cX9_wornThen 0 = .ok (.aload_n 0, 1) := by decide +kernel
theorem dX9_wornThen_1 : decode cX9_wornThen 1 = .ok (.getfield 10, 3) := by decide +kernel
theorem dX9_wornThen_4 : decode cX9_wornThen 4 = .ok (.iload_n 1, 1) := by decide +kernel
theorem dX9_wornThen_5 : decode cX9_wornThen 5 = .ok (.invokevirtual 54, 3) := by decide +kernel
theorem dX9_wornThen_8 : decode cX9_wornThen 8 = .ok (.ifCond .eq 13, 3) := by decide +kernel
theorem dX9_wornThen_11 : decode cX9_wornThen 11 = .ok (.iload_n 2, 1) := by decide +kernel
theorem dX9_wornThen_12 : decode cX9_wornThen 12 = .ok (.iconst 0, 1) := by decide +kernel
theorem dX9_wornThen_13 : decode cX9_wornThen 13 = .ok (.bipush 60, 2) := by decide +kernel
theorem dX9_wornThen_15 : decode cX9_wornThen 15 = .ok (.invokestatic 112, 3) := by decide +kernel
theorem dX9_wornThen_18 : decode cX9_wornThen 18 = .ok (.ifCond .ne 5, 3) := by decide +kernel
theorem dX9_wornThen_21 : decode cX9_wornThen 21 = .ok (.iconst (-1), 1) := by decide +kernel
theorem dX9_wornThen_22 : decode cX9_wornThen 22 = .ok (.ireturn, 1) := by decide +kernel
theorem dX9_wornThen_23 : decode cX9_wornThen 23 = .ok (.aload_n 0, 1) := by decide +kernel
theorem dX9_wornThen_24 : decode cX9_wornThen 24 = .ok (.getfield 16, 3) := by decide +kernel
theorem dX9_wornThen_27 : decode cX9_wornThen 27 = .ok (.aload_n 0, 1) := by decide +kernel
theorem dX9_wornThen_28 : decode cX9_wornThen 28 = .ok (.getfield 10, 3) := by decide +kernel
theorem dX9_wornThen_31 : decode cX9_wornThen 31 = .ok (.invokevirtual 44, 3) := by decide +kernel
theorem dX9_wornThen_34 : decode cX9_wornThen 34 = .ok (.aload_n 0, 1) := by decide +kernel
theorem dX9_wornThen_35 : decode cX9_wornThen 35 = .ok (.getfield 16, 3) := by decide +kernel
theorem dX9_wornThen_38 : decode cX9_wornThen 38 = .ok (.iload_n 2, 1) := by decide +kernel
theorem dX9_wornThen_39 : decode cX9_wornThen 39 = .ok (.invokevirtual 138, 3) := by decide +kernel
theorem dX9_wornThen_42 : decode cX9_wornThen 42 = .ok (.aload_n 0, 1) := by decide +kernel
theorem dX9_wornThen_43 : decode cX9_wornThen 43 = .ok (.getfield 16, 3) := by decide +kernel
theorem dX9_wornThen_46 : decode cX9_wornThen 46 = .ok (.getfield 65, 3) := by decide +kernel
theorem dX9_wornThen_49 : decode cX9_wornThen 49 = .ok (.iload_n 1, 1) := by decide +kernel
theorem dX9_wornThen_50 : decode cX9_wornThen 50 = .ok (.iaload, 1) := by decide +kernel
theorem dX9_wornThen_51 : decode cX9_wornThen 51 = .ok (.ireturn, 1) := by decide +kernel
theorem dX9_goes_0 : decode cX9_goes 0 = .ok (.iload_n 1, 1) := by decide +kernel
theorem dX9_goes_1 : decode cX9_goes 1 = .ok (.iconst (-1), 1) := by decide +kernel
theorem dX9_goes_2 : decode cX9_goes 2 = .ok (.if_icmp .eq 16, 3) := by decide +kernel
theorem dX9_goes_5 : decode cX9_goes 5 = .ok (.aload_n 0, 1) := by decide +kernel
theorem dX9_goes_6 : decode cX9_goes 6 = .ok (.getfield 10, 3) := by decide +kernel
theorem dX9_goes_9 : decode cX9_goes 9 = .ok (.iload_n 1, 1) := by decide +kernel
theorem dX9_goes_10 : decode cX9_goes 10 = .ok (.invokevirtual 54, 3) := by decide +kernel
theorem dX9_goes_13 : decode cX9_goes 13 = .ok (.ifCond .ne 5, 3) := by decide +kernel
theorem dX9_goes_16 : decode cX9_goes 16 = .ok (.iconst (-1), 1) := by decide +kernel
theorem dX9_goes_17 : decode cX9_goes 17 = .ok (.ireturn, 1) := by decide +kernel
theorem dX9_goes_18 : decode cX9_goes 18 = .ok (.aload_n 0, 1) := by decide +kernel
theorem dX9_goes_19 : decode cX9_goes 19 = .ok (.getfield 16, 3) := by decide +kernel
theorem dX9_goes_22 : decode cX9_goes 22 = .ok (.aload_n 0, 1) := by decide +kernel
theorem dX9_goes_23 : decode cX9_goes 23 = .ok (.getfield 10, 3) := by decide +kernel
theorem dX9_goes_26 : decode cX9_goes 26 = .ok (.invokevirtual 44, 3) := by decide +kernel
theorem dX9_goes_29 : decode cX9_goes 29 = .ok (.iload_n 1, 1) := by decide +kernel
theorem dX9_goes_30 : decode cX9_goes 30 = .ok (.iconst (-1), 1) := by decide +kernel
theorem dX9_goes_31 : decode cX9_goes 31 = .ok (.if_icmp .ne 13, 3) := by decide +kernel
theorem dX9_goes_34 : decode cX9_goes 34 = .ok (.aload_n 0, 1) := by decide +kernel
theorem dX9_goes_35 : decode cX9_goes 35 = .ok (.getfield 16, 3) := by decide +kernel
theorem dX9_goes_38 : decode cX9_goes 38 = .ok (.invokestatic 148, 3) := by decide +kernel
theorem dX9_goes_41 : decode cX9_goes 41 = .ok (.goto 11, 3) := by decide +kernel
theorem dX9_goes_44 : decode cX9_goes 44 = .ok (.aload_n 0, 1) := by decide +kernel
theorem dX9_goes_45 : decode cX9_goes 45 = .ok (.getfield 16, 3) := by decide +kernel
theorem dX9_goes_48 : decode cX9_goes 48 = .ok (.iload_n 1, 1) := by decide +kernel
theorem dX9_goes_49 : decode cX9_goes 49 = .ok (.invokestatic 154, 3) := by decide +kernel
theorem dX9_goes_52 : decode cX9_goes 52 = .ok (.ireturn, 1) := by decide +kernel
theorem dX9_dark_0 : decode cX9_dark 0 = .ok (.aload_n 0, 1) := by decide +kernel
theorem dX9_dark_1 : decode cX9_dark 1 = .ok (.getfield 16, 3) := by decide +kernel
theorem dX9_dark_4 : decode cX9_dark 4 = .ok (.aload_n 0, 1) := by decide +kernel
theorem dX9_dark_5 : decode cX9_dark 5 = .ok (.getfield 10, 3) := by decide +kernel
theorem dX9_dark_8 : decode cX9_dark 8 = .ok (.invokevirtual 44, 3) := by decide +kernel
theorem dX9_dark_11 : decode cX9_dark 11 = .ok (.aload_n 0, 1) := by decide +kernel
theorem dX9_dark_12 : decode cX9_dark 12 = .ok (.getfield 16, 3) := by decide +kernel
theorem dX9_dark_15 : decode cX9_dark 15 = .ok (.invokestatic 158, 3) := by decide +kernel
theorem dX9_dark_18 : decode cX9_dark 18 = .ok (.ireturn, 1) := by decide +kernel
theorem dX9_lights_0 : decode cX9_lights 0 = .ok (.iload_n 1, 1) := by decide +kernel
theorem dX9_lights_1 : decode cX9_lights 1 = .ok (.tableswitch 98 0 4 #[35, 55, 63, 71, 90], 35) := by decide +kernel
theorem dX9_lights_36 : decode cX9_lights 36 = .ok (.aload_n 0, 1) := by decide +kernel
theorem dX9_lights_37 : decode cX9_lights 37 = .ok (.getfield 10, 3) := by decide +kernel
theorem dX9_lights_40 : decode cX9_lights 40 = .ok (.aload_n 0, 1) := by decide +kernel
theorem dX9_lights_41 : decode cX9_lights 41 = .ok (.getfield 10, 3) := by decide +kernel
theorem dX9_lights_44 : decode cX9_lights 44 = .ok (.getfield 87, 3) := by decide +kernel
theorem dX9_lights_47 : decode cX9_lights 47 = .ok (.iconst 1, 1) := by decide +kernel
theorem dX9_lights_48 : decode cX9_lights 48 = .ok (.iadd, 1) := by decide +kernel
theorem dX9_lights_49 : decode cX9_lights 49 = .ok (.invokevirtual 161, 3) := by decide +kernel
theorem dX9_lights_52 : decode cX9_lights 52 = .ok (.invokestatic 71, 3) := by decide +kernel
theorem dX9_lights_55 : decode cX9_lights 55 = .ok (.ireturn, 1) := by decide +kernel
theorem dX9_lights_56 : decode cX9_lights 56 = .ok (.aload_n 0, 1) := by decide +kernel
theorem dX9_lights_57 : decode cX9_lights 57 = .ok (.getfield 10, 3) := by decide +kernel
theorem dX9_lights_60 : decode cX9_lights 60 = .ok (.invokevirtual 164, 3) := by decide +kernel
theorem dX9_lights_63 : decode cX9_lights 63 = .ok (.ireturn, 1) := by decide +kernel
theorem dX9_lights_64 : decode cX9_lights 64 = .ok (.aload_n 0, 1) := by decide +kernel
theorem dX9_lights_65 : decode cX9_lights 65 = .ok (.getfield 10, 3) := by decide +kernel
theorem dX9_lights_68 : decode cX9_lights 68 = .ok (.invokevirtual 167, 3) := by decide +kernel
theorem dX9_lights_71 : decode cX9_lights 71 = .ok (.ireturn, 1) := by decide +kernel
theorem dX9_lights_72 : decode cX9_lights 72 = .ok (.aload_n 0, 1) := by decide +kernel
theorem dX9_lights_73 : decode cX9_lights 73 = .ok (.getfield 16, 3) := by decide +kernel
theorem dX9_lights_76 : decode cX9_lights 76 = .ok (.aload_n 0, 1) := by decide +kernel
theorem dX9_lights_77 : decode cX9_lights 77 = .ok (.getfield 10, 3) := by decide +kernel
theorem dX9_lights_80 : decode cX9_lights 80 = .ok (.invokevirtual 44, 3) := by decide +kernel
theorem dX9_lights_83 : decode cX9_lights 83 = .ok (.aload_n 0, 1) := by decide +kernel
theorem dX9_lights_84 : decode cX9_lights 84 = .ok (.getfield 16, 3) := by decide +kernel
theorem dX9_lights_87 : decode cX9_lights 87 = .ok (.invokestatic 170, 3) := by decide +kernel
theorem dX9_lights_90 : decode cX9_lights 90 = .ok (.ireturn, 1) := by decide +kernel
theorem dX9_lights_91 : decode cX9_lights 91 = .ok (.aload_n 0, 1) := by decide +kernel
theorem dX9_lights_92 : decode cX9_lights 92 = .ok (.getfield 10, 3) := by decide +kernel
theorem dX9_lights_95 : decode cX9_lights 95 = .ok (.invokevirtual 173, 3) := by decide +kernel
theorem dX9_lights_98 : decode cX9_lights 98 = .ok (.ireturn, 1) := by decide +kernel
theorem dX9_lights_99 : decode cX9_lights 99 = .ok (.iconst (-1), 1) := by decide +kernel
theorem dX9_lights_100 : decode cX9_lights 100 = .ok (.ireturn, 1) := by decide +kernel
theorem dX9_tool_0 : decode cX9_tool 0 = .ok (.aload_n 0, 1) := by decide +kernel
theorem dX9_tool_1 : decode cX9_tool 1 = .ok (.getfield 10, 3) := by decide +kernel
theorem dX9_tool_4 : decode cX9_tool 4 = .ok (.iload_n 1, 1) := by decide +kernel
theorem dX9_tool_5 : decode cX9_tool 5 = .ok (.iload_n 2, 1) := by decide +kernel
theorem dX9_tool_6 : decode cX9_tool 6 = .ok (.iload_n 3, 1) := by decide +kernel
theorem dX9_tool_7 : decode cX9_tool 7 = .ok (.invokevirtual 126, 3) := by decide +kernel
theorem dX9_tool_10 : decode cX9_tool 10 = .ok (.ifCond .eq 13, 3) := by decide +kernel
theorem dX9_tool_13 : decode cX9_tool 13 = .ok (.iload 4, 2) := by decide +kernel
theorem dX9_tool_15 : decode cX9_tool 15 = .ok (.iconst 0, 1) := by decide +kernel
theorem dX9_tool_16 : decode cX9_tool 16 = .ok (.iconst 2, 1) := by decide +kernel
theorem dX9_tool_17 : decode cX9_tool 17 = .ok (.invokestatic 112, 3) := by decide +kernel
theorem dX9_tool_20 : decode cX9_tool 20 = .ok (.ifCond .ne 5, 3) := by decide +kernel
theorem dX9_tool_23 : decode cX9_tool 23 = .ok (.iconst (-1), 1) := by decide +kernel
theorem dX9_tool_24 : decode cX9_tool 24 = .ok (.ireturn, 1) := by decide +kernel
theorem dX9_tool_25 : decode cX9_tool 25 = .ok (.aload_n 0, 1) := by decide +kernel
theorem dX9_tool_26 : decode cX9_tool 26 = .ok (.getfield 16, 3) := by decide +kernel
theorem dX9_tool_29 : decode cX9_tool 29 = .ok (.aload_n 0, 1) := by decide +kernel
theorem dX9_tool_30 : decode cX9_tool 30 = .ok (.getfield 10, 3) := by decide +kernel
theorem dX9_tool_33 : decode cX9_tool 33 = .ok (.invokevirtual 44, 3) := by decide +kernel
theorem dX9_tool_36 : decode cX9_tool 36 = .ok (.aload_n 0, 1) := by decide +kernel
theorem dX9_tool_37 : decode cX9_tool 37 = .ok (.getfield 16, 3) := by decide +kernel
theorem dX9_tool_40 : decode cX9_tool 40 = .ok (.iload_n 1, 1) := by decide +kernel
theorem dX9_tool_41 : decode cX9_tool 41 = .ok (.iload_n 2, 1) := by decide +kernel
theorem dX9_tool_42 : decode cX9_tool 42 = .ok (.iload_n 3, 1) := by decide +kernel
theorem dX9_tool_43 : decode cX9_tool 43 = .ok (.invokevirtual 129, 3) := by decide +kernel
theorem dX9_tool_46 : decode cX9_tool 46 = .ok (.istore 5, 2) := by decide +kernel
theorem dX9_tool_48 : decode cX9_tool 48 = .ok (.iload 4, 2) := by decide +kernel
theorem dX9_tool_50 : decode cX9_tool 50 = .ok (.ifCond .ne 9, 3) := by decide +kernel
theorem dX9_tool_53 : decode cX9_tool 53 = .ok (.iload 5, 2) := by decide +kernel
theorem dX9_tool_55 : decode cX9_tool 55 = .ok (.invokestatic 71, 3) := by decide +kernel
theorem dX9_tool_58 : decode cX9_tool 58 = .ok (.ireturn, 1) := by decide +kernel
theorem dX9_tool_59 : decode cX9_tool 59 = .ok (.iload 4, 2) := by decide +kernel
theorem dX9_tool_61 : decode cX9_tool 61 = .ok (.iconst 1, 1) := by decide +kernel
theorem dX9_tool_62 : decode cX9_tool 62 = .ok (.if_icmp .ne 16, 3) := by decide +kernel
theorem dX9_tool_65 : decode cX9_tool 65 = .ok (.aload_n 0, 1) := by decide +kernel
theorem dX9_tool_66 : decode cX9_tool 66 = .ok (.getfield 10, 3) := by decide +kernel
theorem dX9_tool_69 : decode cX9_tool 69 = .ok (.iload_n 1, 1) := by decide +kernel
theorem dX9_tool_70 : decode cX9_tool 70 = .ok (.iload_n 2, 1) := by decide +kernel
theorem dX9_tool_71 : decode cX9_tool 71 = .ok (.iload_n 3, 1) := by decide +kernel
theorem dX9_tool_72 : decode cX9_tool 72 = .ok (.invokevirtual 176, 3) := by decide +kernel
theorem dX9_tool_75 : decode cX9_tool 75 = .ok (.goto 10, 3) := by decide +kernel
theorem dX9_tool_78 : decode cX9_tool 78 = .ok (.aload_n 0, 1) := by decide +kernel
theorem dX9_tool_79 : decode cX9_tool 79 = .ok (.getfield 16, 3) := by decide +kernel
theorem dX9_tool_82 : decode cX9_tool 82 = .ok (.getfield 180, 3) := by decide +kernel
theorem dX9_tool_85 : decode cX9_tool 85 = .ok (.ireturn, 1) := by decide +kernel
theorem dX9_halves_0 : decode cX9_halves 0 = .ok (.aload_n 0, 1) := by decide +kernel
theorem dX9_halves_1 : decode cX9_halves 1 = .ok (.getfield 10, 3) := by decide +kernel
theorem dX9_halves_4 : decode cX9_halves 4 = .ok (.iload_n 1, 1) := by decide +kernel
theorem dX9_halves_5 : decode cX9_halves 5 = .ok (.iload_n 2, 1) := by decide +kernel
theorem dX9_halves_6 : decode cX9_halves 6 = .ok (.invokevirtual 183, 3) := by decide +kernel
theorem dX9_halves_9 : decode cX9_halves 9 = .ok (.ifCond .eq 12, 3) := by decide +kernel
theorem dX9_halves_12 : decode cX9_halves 12 = .ok (.iload_n 3, 1) := by decide +kernel
theorem dX9_halves_13 : decode cX9_halves 13 = .ok (.iconst 0, 1) := by decide +kernel
theorem dX9_halves_14 : decode cX9_halves 14 = .ok (.iconst 1, 1) := by decide +kernel
theorem dX9_halves_15 : decode cX9_halves 15 = .ok (.invokestatic 112, 3) := by decide +kernel
theorem dX9_halves_18 : decode cX9_halves 18 = .ok (.ifCond .ne 5, 3) := by decide +kernel
theorem dX9_halves_21 : decode cX9_halves 21 = .ok (.iconst (-1), 1) := by decide +kernel
theorem dX9_halves_22 : decode cX9_halves 22 = .ok (.ireturn, 1) := by decide +kernel
theorem dX9_halves_23 : decode cX9_halves 23 = .ok (.iload_n 3, 1) := by decide +kernel
theorem dX9_halves_24 : decode cX9_halves 24 = .ok (.ifCond .ne 15, 3) := by decide +kernel
theorem dX9_halves_27 : decode cX9_halves 27 = .ok (.aload_n 0, 1) := by decide +kernel
theorem dX9_halves_28 : decode cX9_halves 28 = .ok (.getfield 31, 3) := by decide +kernel
theorem dX9_halves_31 : decode cX9_halves 31 = .ok (.iload_n 1, 1) := by decide +kernel
theorem dX9_halves_32 : decode cX9_halves 32 = .ok (.iload_n 2, 1) := by decide +kernel
theorem dX9_halves_33 : decode cX9_halves 33 = .ok (.invokevirtual 186, 3) := by decide +kernel
theorem dX9_halves_36 : decode cX9_halves 36 = .ok (.goto 12, 3) := by decide +kernel
theorem dX9_halves_39 : decode cX9_halves 39 = .ok (.aload_n 0, 1) := by decide +kernel
theorem dX9_halves_40 : decode cX9_halves 40 = .ok (.getfield 31, 3) := by decide +kernel
theorem dX9_halves_43 : decode cX9_halves 43 = .ok (.iload_n 1, 1) := by decide +kernel
theorem dX9_halves_44 : decode cX9_halves 44 = .ok (.iload_n 2, 1) := by decide +kernel
theorem dX9_halves_45 : decode cX9_halves 45 = .ok (.invokevirtual 189, 3) := by decide +kernel
theorem dX9_halves_48 : decode cX9_halves 48 = .ok (.ireturn, 1) := by decide +kernel
theorem dX9_mean_0 : decode cX9_mean 0 = .ok (.aload_n 0, 1) := by decide +kernel
theorem dX9_mean_1 : decode cX9_mean 1 = .ok (.getfield 10, 3) := by decide +kernel
theorem dX9_mean_4 : decode cX9_mean 4 = .ok (.iload_n 1, 1) := by decide +kernel
theorem dX9_mean_5 : decode cX9_mean 5 = .ok (.iload_n 2, 1) := by decide +kernel
theorem dX9_mean_6 : decode cX9_mean 6 = .ok (.invokevirtual 183, 3) := by decide +kernel
theorem dX9_mean_9 : decode cX9_mean 9 = .ok (.ifCond .eq 10, 3) := by decide +kernel
theorem dX9_mean_12 : decode cX9_mean 12 = .ok (.iload_n 3, 1) := by decide +kernel
theorem dX9_mean_13 : decode cX9_mean 13 = .ok (.invokestatic 192, 3) := by decide +kernel
theorem dX9_mean_16 : decode cX9_mean 16 = .ok (.ifCond .ne 8, 3) := by decide +kernel
theorem dX9_mean_19 : decode cX9_mean 19 = .ok (.iconst (-1), 1) := by decide +kernel
theorem dX9_mean_20 : decode cX9_mean 20 = .ok (.invokestatic 195, 3) := by decide +kernel
theorem dX9_mean_23 : decode cX9_mean 23 = .ok (.lreturn, 1) := by decide +kernel
theorem dX9_mean_24 : decode cX9_mean 24 = .ok (.aload_n 0, 1) := by decide +kernel
theorem dX9_mean_25 : decode cX9_mean 25 = .ok (.getfield 31, 3) := by decide +kernel
theorem dX9_mean_28 : decode cX9_mean 28 = .ok (.aload_n 0, 1) := by decide +kernel
theorem dX9_mean_29 : decode cX9_mean 29 = .ok (.getfield 10, 3) := by decide +kernel
theorem dX9_mean_32 : decode cX9_mean 32 = .ok (.iload_n 1, 1) := by decide +kernel
theorem dX9_mean_33 : decode cX9_mean 33 = .ok (.iload_n 2, 1) := by decide +kernel
theorem dX9_mean_34 : decode cX9_mean 34 = .ok (.invokevirtual 199, 3) := by decide +kernel
theorem dX9_mean_37 : decode cX9_mean 37 = .ok (.i2l, 1) := by decide +kernel
theorem dX9_mean_38 : decode cX9_mean 38 = .ok (.aload_n 0, 1) := by decide +kernel
theorem dX9_mean_39 : decode cX9_mean 39 = .ok (.getfield 10, 3) := by decide +kernel
theorem dX9_mean_42 : decode cX9_mean 42 = .ok (.iload_n 1, 1) := by decide +kernel
theorem dX9_mean_43 : decode cX9_mean 43 = .ok (.iload_n 2, 1) := by decide +kernel
theorem dX9_mean_44 : decode cX9_mean 44 = .ok (.invokevirtual 203, 3) := by decide +kernel
theorem dX9_mean_47 : decode cX9_mean 47 = .ok (.i2l, 1) := by decide +kernel
theorem dX9_mean_48 : decode cX9_mean 48 = .ok (.iload_n 3, 1) := by decide +kernel
theorem dX9_mean_49 : decode cX9_mean 49 = .ok (.invokestatic 206, 3) := by decide +kernel
theorem dX9_mean_52 : decode cX9_mean 52 = .ok (.lreturn, 1) := by decide +kernel
theorem dX9_order_0 : decode cX9_order 0 = .ok (.aload_n 0, 1) := by decide +kernel
theorem dX9_order_1 : decode cX9_order 1 = .ok (.getfield 10, 3) := by decide +kernel
theorem dX9_order_4 : decode cX9_order 4 = .ok (.iload_n 1, 1) := by decide +kernel
theorem dX9_order_5 : decode cX9_order 5 = .ok (.invokevirtual 212, 3) := by decide +kernel
theorem dX9_order_8 : decode cX9_order 8 = .ok (.ifCond .eq 20, 3) := by decide +kernel
theorem dX9_order_11 : decode cX9_order 11 = .ok (.iload_n 1, 1) := by decide +kernel
theorem dX9_order_12 : decode cX9_order 12 = .ok (.invokestatic 215, 3) := by decide +kernel
theorem dX9_order_15 : decode cX9_order 15 = .ok (.iconst 5, 1) := by decide +kernel
theorem dX9_order_16 : decode cX9_order 16 = .ok (.if_icmp .gt 12, 3) := by decide +kernel
theorem dX9_order_19 : decode cX9_order 19 = .ok (.iload_n 2, 1) := by decide +kernel
theorem dX9_order_20 : decode cX9_order 20 = .ok (.iconst 0, 1) := by decide +kernel
theorem dX9_order_21 : decode cX9_order 21 = .ok (.iconst 1, 1) := by decide +kernel
theorem dX9_order_22 : decode cX9_order 22 = .ok (.invokestatic 112, 3) := by decide +kernel
theorem dX9_order_25 : decode cX9_order 25 = .ok (.ifCond .ne 5, 3) := by decide +kernel
theorem dX9_order_28 : decode cX9_order 28 = .ok (.iconst (-1), 1) := by decide +kernel
theorem dX9_order_29 : decode cX9_order 29 = .ok (.ireturn, 1) := by decide +kernel
theorem dX9_order_30 : decode cX9_order 30 = .ok (.iload_n 2, 1) := by decide +kernel
theorem dX9_order_31 : decode cX9_order 31 = .ok (.ifCond .ne 14, 3) := by decide +kernel
theorem dX9_order_34 : decode cX9_order 34 = .ok (.aload_n 0, 1) := by decide +kernel
theorem dX9_order_35 : decode cX9_order 35 = .ok (.getfield 10, 3) := by decide +kernel
theorem dX9_order_38 : decode cX9_order 38 = .ok (.iload_n 1, 1) := by decide +kernel
theorem dX9_order_39 : decode cX9_order 39 = .ok (.invokestatic 220, 3) := by decide +kernel
theorem dX9_order_42 : decode cX9_order 42 = .ok (.goto 11, 3) := by decide +kernel
theorem dX9_order_45 : decode cX9_order 45 = .ok (.aload_n 0, 1) := by decide +kernel
theorem dX9_order_46 : decode cX9_order 46 = .ok (.getfield 10, 3) := by decide +kernel
theorem dX9_order_49 : decode cX9_order 49 = .ok (.iload_n 1, 1) := by decide +kernel
theorem dX9_order_50 : decode cX9_order 50 = .ok (.invokestatic 225, 3) := by decide +kernel
theorem dX9_order_53 : decode cX9_order 53 = .ok (.ireturn, 1) := by decide +kernel
theorem dX9_suspects_0 : decode cX9_suspects 0 = .ok (.iload_n 1, 1) := by decide +kernel
theorem dX9_suspects_1 : decode cX9_suspects 1 = .ok (.invokestatic 228, 3) := by decide +kernel
theorem dX9_suspects_4 : decode cX9_suspects 4 = .ok (.ifCond .eq 12, 3) := by decide +kernel
theorem dX9_suspects_7 : decode cX9_suspects 7 = .ok (.iload_n 2, 1) := by decide +kernel
theorem dX9_suspects_8 : decode cX9_suspects 8 = .ok (.iconst 0, 1) := by decide +kernel
theorem dX9_suspects_9 : decode cX9_suspects 9 = .ok (.iconst 1, 1) := by decide +kernel
theorem dX9_suspects_10 : decode cX9_suspects 10 = .ok (.invokestatic 112, 3) := by decide +kernel
theorem dX9_suspects_13 : decode cX9_suspects 13 = .ok (.ifCond .ne 5, 3) := by decide +kernel
theorem dX9_suspects_16 : decode cX9_suspects 16 = .ok (.iconst (-1), 1) := by decide +kernel
theorem dX9_suspects_17 : decode cX9_suspects 17 = .ok (.ireturn, 1) := by decide +kernel
theorem dX9_suspects_18 : decode cX9_suspects 18 = .ok (.aload_n 0, 1) := by decide +kernel
theorem dX9_suspects_19 : decode cX9_suspects 19 = .ok (.iload_n 1, 1) := by decide +kernel
theorem dX9_suspects_20 : decode cX9_suspects 20 = .ok (.invokevirtual 36, 3) := by decide +kernel
theorem dX9_suspects_23 : decode cX9_suspects 23 = .ok (.istore_n 3, 1) := by decide +kernel
theorem dX9_suspects_24 : decode cX9_suspects 24 = .ok (.iload_n 3, 1) := by decide +kernel
theorem dX9_suspects_25 : decode cX9_suspects 25 = .ok (.ifCond .eq 5, 3) := by decide +kernel
theorem dX9_suspects_28 : decode cX9_suspects 28 = .ok (.iload_n 3, 1) := by decide +kernel
theorem dX9_suspects_29 : decode cX9_suspects 29 = .ok (.ireturn, 1) := by decide +kernel
theorem dX9_suspects_30 : decode cX9_suspects 30 = .ok (.aload_n 0, 1) := by decide +kernel
theorem dX9_suspects_31 : decode cX9_suspects 31 = .ok (.getfield 24, 3) := by decide +kernel
theorem dX9_suspects_34 : decode cX9_suspects 34 = .ok (.iload_n 1, 1) := by decide +kernel
theorem dX9_suspects_35 : decode cX9_suspects 35 = .ok (.aaload, 1) := by decide +kernel
theorem dX9_suspects_36 : decode cX9_suspects 36 = .ok (.aload_n 0, 1) := by decide +kernel
theorem dX9_suspects_37 : decode cX9_suspects 37 = .ok (.getfield 10, 3) := by decide +kernel
theorem dX9_suspects_40 : decode cX9_suspects 40 = .ok (.invokestatic 231, 3) := by decide +kernel
theorem dX9_suspects_43 : decode cX9_suspects 43 = .ok (.ifCond .ne 6, 3) := by decide +kernel
theorem dX9_suspects_46 : decode cX9_suspects 46 = .ok (.bipush (-13), 2) := by decide +kernel
theorem dX9_suspects_48 : decode cX9_suspects 48 = .ok (.ireturn, 1) := by decide +kernel
theorem dX9_suspects_49 : decode cX9_suspects 49 = .ok (.iload_n 2, 1) := by decide +kernel
theorem dX9_suspects_50 : decode cX9_suspects 50 = .ok (.ifCond .ne 22, 3) := by decide +kernel
theorem dX9_suspects_53 : decode cX9_suspects 53 = .ok (.aload_n 0, 1) := by decide +kernel
theorem dX9_suspects_54 : decode cX9_suspects 54 = .ok (.getfield 24, 3) := by decide +kernel
theorem dX9_suspects_57 : decode cX9_suspects 57 = .ok (.iload_n 1, 1) := by decide +kernel
theorem dX9_suspects_58 : decode cX9_suspects 58 = .ok (.aaload, 1) := by decide +kernel
theorem dX9_suspects_59 : decode cX9_suspects 59 = .ok (.aload_n 0, 1) := by decide +kernel
theorem dX9_suspects_60 : decode cX9_suspects 60 = .ok (.getfield 10, 3) := by decide +kernel
theorem dX9_suspects_63 : decode cX9_suspects 63 = .ok (.getfield 109, 3) := by decide +kernel
theorem dX9_suspects_66 : decode cX9_suspects 66 = .ok (.invokestatic 237, 3) := by decide +kernel
theorem dX9_suspects_69 : decode cX9_suspects 69 = .ok (.goto 19, 3) := by decide +kernel
theorem dX9_suspects_72 : decode cX9_suspects 72 = .ok (.aload_n 0, 1) := by decide +kernel
theorem dX9_suspects_73 : decode cX9_suspects 73 = .ok (.getfield 24, 3) := by decide +kernel
theorem dX9_suspects_76 : decode cX9_suspects 76 = .ok (.iload_n 1, 1) := by decide +kernel
theorem dX9_suspects_77 : decode cX9_suspects 77 = .ok (.aaload, 1) := by decide +kernel
theorem dX9_suspects_78 : decode cX9_suspects 78 = .ok (.aload_n 0, 1) := by decide +kernel
theorem dX9_suspects_79 : decode cX9_suspects 79 = .ok (.getfield 10, 3) := by decide +kernel
theorem dX9_suspects_82 : decode cX9_suspects 82 = .ok (.getfield 109, 3) := by decide +kernel
theorem dX9_suspects_85 : decode cX9_suspects 85 = .ok (.invokestatic 241, 3) := by decide +kernel
theorem dX9_suspects_88 : decode cX9_suspects 88 = .ok (.ireturn, 1) := by decide +kernel
theorem dX9_buy_0 : decode cX9_buy 0 = .ok (.iload_n 1, 1) := by decide +kernel
theorem dX9_buy_1 : decode cX9_buy 1 = .ok (.iconst 0, 1) := by decide +kernel
theorem dX9_buy_2 : decode cX9_buy 2 = .ok (.bipush 60, 2) := by decide +kernel
theorem dX9_buy_4 : decode cX9_buy 4 = .ok (.invokestatic 112, 3) := by decide +kernel
theorem dX9_buy_7 : decode cX9_buy 7 = .ok (.ifCond .ne 5, 3) := by decide +kernel
theorem dX9_buy_10 : decode cX9_buy 10 = .ok (.iconst (-1), 1) := by decide +kernel
theorem dX9_buy_11 : decode cX9_buy 11 = .ok (.ireturn, 1) := by decide +kernel
theorem dX9_buy_12 : decode cX9_buy 12 = .ok (.iconst 0, 1) := by decide +kernel
theorem dX9_buy_13 : decode cX9_buy 13 = .ok (.istore_n 2, 1) := by decide +kernel
theorem dX9_buy_14 : decode cX9_buy 14 = .ok (.iload_n 2, 1) := by decide +kernel
theorem dX9_buy_15 : decode cX9_buy 15 = .ok (.bipush 9, 2) := by decide +kernel
theorem dX9_buy_17 : decode cX9_buy 17 = .ok (.if_icmp .gt 41, 3) := by decide +kernel
theorem dX9_buy_20 : decode cX9_buy 20 = .ok (.aload_n 0, 1) := by decide +kernel
theorem dX9_buy_21 : decode cX9_buy 21 = .ok (.getfield 16, 3) := by decide +kernel
theorem dX9_buy_24 : decode cX9_buy 24 = .ok (.aload_n 0, 1) := by decide +kernel
theorem dX9_buy_25 : decode cX9_buy 25 = .ok (.getfield 10, 3) := by decide +kernel
theorem dX9_buy_28 : decode cX9_buy 28 = .ok (.invokevirtual 44, 3) := by decide +kernel
theorem dX9_buy_31 : decode cX9_buy 31 = .ok (.aload_n 0, 1) := by decide +kernel
theorem dX9_buy_32 : decode cX9_buy 32 = .ok (.getfield 16, 3) := by decide +kernel
theorem dX9_buy_35 : decode cX9_buy 35 = .ok (.iload_n 2, 1) := by decide +kernel
theorem dX9_buy_36 : decode cX9_buy 36 = .ok (.putfield 120, 3) := by decide +kernel
theorem dX9_buy_39 : decode cX9_buy 39 = .ok (.aload_n 0, 1) := by decide +kernel
theorem dX9_buy_40 : decode cX9_buy 40 = .ok (.getfield 16, 3) := by decide +kernel
theorem dX9_buy_43 : decode cX9_buy 43 = .ok (.iload_n 1, 1) := by decide +kernel
theorem dX9_buy_44 : decode cX9_buy 44 = .ok (.invokestatic 244, 3) := by decide +kernel
theorem dX9_buy_47 : decode cX9_buy 47 = .ok (.ifCond .eq 5, 3) := by decide +kernel
theorem dX9_buy_50 : decode cX9_buy 50 = .ok (.iload_n 2, 1) := by decide +kernel
theorem dX9_buy_51 : decode cX9_buy 51 = .ok (.ireturn, 1) := by decide +kernel
theorem dX9_buy_52 : decode cX9_buy 52 = .ok (.iinc 2 1, 3) := by decide +kernel
theorem dX9_buy_55 : decode cX9_buy 55 = .ok (.goto (-41), 3) := by decide +kernel
theorem dX9_buy_58 : decode cX9_buy 58 = .ok (.bipush (-4), 2) := by decide +kernel
theorem dX9_buy_60 : decode cX9_buy 60 = .ok (.ireturn, 1) := by decide +kernel
theorem dX9_light_0 : decode cX9_light 0 = .ok (.iload_n 1, 1) := by decide +kernel
theorem dX9_light_1 : decode cX9_light 1 = .ok (.ifCond .eq 18, 3) := by decide +kernel
theorem dX9_light_4 : decode cX9_light 4 = .ok (.iload_n 1, 1) := by decide +kernel
theorem dX9_light_5 : decode cX9_light 5 = .ok (.ifCond .le 18, 3) := by decide +kernel
theorem dX9_light_8 : decode cX9_light 8 = .ok (.iload_n 1, 1) := by decide +kernel
theorem dX9_light_9 : decode cX9_light 9 = .ok (.aload_n 0, 1) := by decide +kernel
theorem dX9_light_10 : decode cX9_light 10 = .ok (.getfield 10, 3) := by decide +kernel
theorem dX9_light_13 : decode cX9_light 13 = .ok (.getfield 109, 3) := by decide +kernel
theorem dX9_light_16 : decode cX9_light 16 = .ok (.if_icmp .ge 7, 3) := by decide +kernel
theorem dX9_light_19 : decode cX9_light 19 = .ok (.iconst 1, 1) := by decide +kernel
theorem dX9_light_20 : decode cX9_light 20 = .ok (.goto 4, 3) := by decide +kernel
theorem dX9_light_23 : decode cX9_light 23 = .ok (.iconst 0, 1) := by decide +kernel
theorem dX9_light_24 : decode cX9_light 24 = .ok (.istore_n 3, 1) := by decide +kernel
theorem dX9_light_25 : decode cX9_light 25 = .ok (.iload_n 3, 1) := by decide +kernel
theorem dX9_light_26 : decode cX9_light 26 = .ok (.ifCond .eq 13, 3) := by decide +kernel
theorem dX9_light_29 : decode cX9_light 29 = .ok (.iload_n 2, 1) := by decide +kernel
theorem dX9_light_30 : decode cX9_light 30 = .ok (.iconst 0, 1) := by decide +kernel
theorem dX9_light_31 : decode cX9_light 31 = .ok (.bipush 30, 2) := by decide +kernel
theorem dX9_light_33 : decode cX9_light 33 = .ok (.invokestatic 112, 3) := by decide +kernel
theorem dX9_light_36 : decode cX9_light 36 = .ok (.ifCond .ne 5, 3) := by decide +kernel
theorem dX9_light_39 : decode cX9_light 39 = .ok (.iconst (-1), 1) := by decide +kernel
theorem dX9_light_40 : decode cX9_light 40 = .ok (.ireturn, 1) := by decide +kernel
theorem dX9_light_41 : decode cX9_light 41 = .ok (.aload_n 0, 1) := by decide +kernel
theorem dX9_light_42 : decode cX9_light 42 = .ok (.iload_n 1, 1) := by decide +kernel
theorem dX9_light_43 : decode cX9_light 43 = .ok (.iload_n 2, 1) := by decide +kernel
theorem dX9_light_44 : decode cX9_light 44 = .ok (.invokevirtual 248, 3) := by decide +kernel
theorem dX9_light_47 : decode cX9_light 47 = .ok (.ireturn, 1) := by decide +kernel
theorem dX9_split_0 : decode cX9_split 0 = .ok (.iload_n 1, 1) := by decide +kernel
theorem dX9_split_1 : decode cX9_split 1 = .ok (.iconst 0, 1) := by decide +kernel
theorem dX9_split_2 : decode cX9_split 2 = .ok (.bipush 30, 2) := by decide +kernel
theorem dX9_split_4 : decode cX9_split 4 = .ok (.invokestatic 112, 3) := by decide +kernel
theorem dX9_split_7 : decode cX9_split 7 = .ok (.ifCond .eq 12, 3) := by decide +kernel
theorem dX9_split_10 : decode cX9_split 10 = .ok (.iload_n 2, 1) := by decide +kernel
theorem dX9_split_11 : decode cX9_split 11 = .ok (.iconst 0, 1) := by decide +kernel
theorem dX9_split_12 : decode cX9_split 12 = .ok (.iconst 1, 1) := by decide +kernel
theorem dX9_split_13 : decode cX9_split 13 = .ok (.invokestatic 112, 3) := by decide +kernel
theorem dX9_split_16 : decode cX9_split 16 = .ok (.ifCond .ne 5, 3) := by decide +kernel
theorem dX9_split_19 : decode cX9_split 19 = .ok (.iconst (-1), 1) := by decide +kernel
theorem dX9_split_20 : decode cX9_split 20 = .ok (.ireturn, 1) := by decide +kernel
theorem dX9_split_21 : decode cX9_split 21 = .ok (.iconst 0, 1) := by decide +kernel
theorem dX9_split_22 : decode cX9_split 22 = .ok (.istore_n 3, 1) := by decide +kernel
theorem dX9_split_23 : decode cX9_split 23 = .ok (.aload_n 0, 1) := by decide +kernel
theorem dX9_split_24 : decode cX9_split 24 = .ok (.iconst 0, 1) := by decide +kernel
theorem dX9_split_25 : decode cX9_split 25 = .ok (.iload_n 1, 1) := by decide +kernel
theorem dX9_split_26 : decode cX9_split 26 = .ok (.invokevirtual 248, 3) := by decide +kernel
theorem dX9_split_29 : decode cX9_split 29 = .ok (.istore 4, 2) := by decide +kernel
theorem dX9_split_31 : decode cX9_split 31 = .ok (.iconst 1, 1) := by decide +kernel
theorem dX9_split_32 : decode cX9_split 32 = .ok (.istore 5, 2) := by decide +kernel
theorem dX9_split_34 : decode cX9_split 34 = .ok (.iload 5, 2) := by decide +kernel
theorem dX9_split_36 : decode cX9_split 36 = .ok (.aload_n 0, 1) := by decide +kernel
theorem dX9_split_37 : decode cX9_split 37 = .ok (.getfield 10, 3) := by decide +kernel
theorem dX9_split_40 : decode cX9_split 40 = .ok (.getfield 109, 3) := by decide +kernel
theorem dX9_split_43 : decode cX9_split 43 = .ok (.if_icmp .ge 32, 3) := by decide +kernel
theorem dX9_split_46 : decode cX9_split 46 = .ok (.aload_n 0, 1) := by decide +kernel
theorem dX9_split_47 : decode cX9_split 47 = .ok (.iload 5, 2) := by decide +kernel
theorem dX9_split_49 : decode cX9_split 49 = .ok (.iload_n 1, 1) := by decide +kernel
theorem dX9_split_50 : decode cX9_split 50 = .ok (.invokevirtual 248, 3) := by decide +kernel
theorem dX9_split_53 : decode cX9_split 53 = .ok (.istore 6, 2) := by decide +kernel
theorem dX9_split_55 : decode cX9_split 55 = .ok (.iload 6, 2) := by decide +kernel
theorem dX9_split_57 : decode cX9_split 57 = .ok (.iload 4, 2) := by decide +kernel
theorem dX9_split_59 : decode cX9_split 59 = .ok (.if_icmp .le 10, 3) := by decide +kernel
theorem dX9_split_62 : decode cX9_split 62 = .ok (.iload 5, 2) := by decide +kernel
theorem dX9_split_64 : decode cX9_split 64 = .ok (.istore_n 3, 1) := by decide +kernel
theorem dX9_split_65 : decode cX9_split 65 = .ok (.iload 6, 2) := by decide +kernel
theorem dX9_split_67 : decode cX9_split 67 = .ok (.istore 4, 2) := by decide +kernel
theorem dX9_split_69 : decode cX9_split 69 = .ok (.iinc 5 1, 3) := by decide +kernel
theorem dX9_split_72 : decode cX9_split 72 = .ok (.goto (-38), 3) := by decide +kernel
theorem dX9_split_75 : decode cX9_split 75 = .ok (.iload_n 2, 1) := by decide +kernel
theorem dX9_split_76 : decode cX9_split 76 = .ok (.ifCond .ne 7, 3) := by decide +kernel
theorem dX9_split_79 : decode cX9_split 79 = .ok (.iload_n 3, 1) := by decide +kernel
theorem dX9_split_80 : decode cX9_split 80 = .ok (.goto 5, 3) := by decide +kernel
theorem dX9_split_83 : decode cX9_split 83 = .ok (.iload 4, 2) := by decide +kernel
theorem dX9_split_85 : decode cX9_split 85 = .ok (.ireturn, 1) := by decide +kernel
theorem dX9_beat_0 : decode cX9_beat 0 = .ok (.aload_n 0, 1) := by decide +kernel
theorem dX9_beat_1 : decode cX9_beat 1 = .ok (.getfield 10, 3) := by decide +kernel
theorem dX9_beat_4 : decode cX9_beat 4 = .ok (.iload_n 1, 1) := by decide +kernel
theorem dX9_beat_5 : decode cX9_beat 5 = .ok (.invokevirtual 54, 3) := by decide +kernel
theorem dX9_beat_8 : decode cX9_beat 8 = .ok (.ifCond .eq 22, 3) := by decide +kernel
theorem dX9_beat_11 : decode cX9_beat 11 = .ok (.iload_n 2, 1) := by decide +kernel
theorem dX9_beat_12 : decode cX9_beat 12 = .ok (.iconst 0, 1) := by decide +kernel
theorem dX9_beat_13 : decode cX9_beat 13 = .ok (.bipush 60, 2) := by decide +kernel
theorem dX9_beat_15 : decode cX9_beat 15 = .ok (.invokestatic 112, 3) := by decide +kernel
theorem dX9_beat_18 : decode cX9_beat 18 = .ok (.ifCond .eq 12, 3) := by decide +kernel
theorem dX9_beat_21 : decode cX9_beat 21 = .ok (.iload_n 3, 1) := by decide +kernel
theorem dX9_beat_22 : decode cX9_beat 22 = .ok (.iconst 0, 1) := by decide +kernel
theorem dX9_beat_23 : decode cX9_beat 23 = .ok (.iconst 1, 1) := by decide +kernel
theorem dX9_beat_24 : decode cX9_beat 24 = .ok (.invokestatic 112, 3) := by decide +kernel
theorem dX9_beat_27 : decode cX9_beat 27 = .ok (.ifCond .ne 5, 3) := by decide +kernel
theorem dX9_beat_30 : decode cX9_beat 30 = .ok (.iconst (-1), 1) := by decide +kernel
theorem dX9_beat_31 : decode cX9_beat 31 = .ok (.ireturn, 1) := by decide +kernel
theorem dX9_beat_32 : decode cX9_beat 32 = .ok (.iconst 0, 1) := by decide +kernel
theorem dX9_beat_33 : decode cX9_beat 33 = .ok (.istore 4, 2) := by decide +kernel
theorem dX9_beat_35 : decode cX9_beat 35 = .ok (.iconst (-1), 1) := by decide +kernel
theorem dX9_beat_36 : decode cX9_beat 36 = .ok (.istore 5, 2) := by decide +kernel
theorem dX9_beat_38 : decode cX9_beat 38 = .ok (.iconst 0, 1) := by decide +kernel
theorem dX9_beat_39 : decode cX9_beat 39 = .ok (.istore 6, 2) := by decide +kernel
theorem dX9_beat_41 : decode cX9_beat 41 = .ok (.iload 6, 2) := by decide +kernel
theorem dX9_beat_43 : decode cX9_beat 43 = .ok (.bipush 9, 2) := by decide +kernel
theorem dX9_beat_45 : decode cX9_beat 45 = .ok (.if_icmp .gt 56, 3) := by decide +kernel
theorem dX9_beat_48 : decode cX9_beat 48 = .ok (.aload_n 0, 1) := by decide +kernel
theorem dX9_beat_49 : decode cX9_beat 49 = .ok (.getfield 16, 3) := by decide +kernel
theorem dX9_beat_52 : decode cX9_beat 52 = .ok (.aload_n 0, 1) := by decide +kernel
theorem dX9_beat_53 : decode cX9_beat 53 = .ok (.getfield 10, 3) := by decide +kernel
theorem dX9_beat_56 : decode cX9_beat 56 = .ok (.invokevirtual 44, 3) := by decide +kernel
theorem dX9_beat_59 : decode cX9_beat 59 = .ok (.aload_n 0, 1) := by decide +kernel
theorem dX9_beat_60 : decode cX9_beat 60 = .ok (.getfield 16, 3) := by decide +kernel
theorem dX9_beat_63 : decode cX9_beat 63 = .ok (.getfield 62, 3) := by decide +kernel
theorem dX9_beat_66 : decode cX9_beat 66 = .ok (.iload_n 1, 1) := by decide +kernel
theorem dX9_beat_67 : decode cX9_beat 67 = .ok (.iload 6, 2) := by decide +kernel
theorem dX9_beat_69 : decode cX9_beat 69 = .ok (.iastore, 1) := by decide +kernel
theorem dX9_beat_70 : decode cX9_beat 70 = .ok (.aload_n 0, 1) := by decide +kernel
theorem dX9_beat_71 : decode cX9_beat 71 = .ok (.getfield 16, 3) := by decide +kernel
theorem dX9_beat_74 : decode cX9_beat 74 = .ok (.iload_n 2, 1) := by decide +kernel
theorem dX9_beat_75 : decode cX9_beat 75 = .ok (.invokestatic 251, 3) := by decide +kernel
theorem dX9_beat_78 : decode cX9_beat 78 = .ok (.istore 7, 2) := by decide +kernel
theorem dX9_beat_80 : decode cX9_beat 80 = .ok (.iload 7, 2) := by decide +kernel
theorem dX9_beat_82 : decode cX9_beat 82 = .ok (.iload 5, 2) := by decide +kernel
theorem dX9_beat_84 : decode cX9_beat 84 = .ok (.if_icmp .le 11, 3) := by decide +kernel
theorem dX9_beat_87 : decode cX9_beat 87 = .ok (.iload 6, 2) := by decide +kernel
theorem dX9_beat_89 : decode cX9_beat 89 = .ok (.istore 4, 2) := by decide +kernel
theorem dX9_beat_91 : decode cX9_beat 91 = .ok (.iload 7, 2) := by decide +kernel
theorem dX9_beat_93 : decode cX9_beat 93 = .ok (.istore 5, 2) := by decide +kernel
theorem dX9_beat_95 : decode cX9_beat 95 = .ok (.iinc 6 1, 3) := by decide +kernel
theorem dX9_beat_98 : decode cX9_beat 98 = .ok (.goto (-57), 3) := by decide +kernel
theorem dX9_beat_101 : decode cX9_beat 101 = .ok (.iload_n 3, 1) := by decide +kernel
theorem dX9_beat_102 : decode cX9_beat 102 = .ok (.ifCond .ne 8, 3) := by decide +kernel
theorem dX9_beat_105 : decode cX9_beat 105 = .ok (.iload 4, 2) := by decide +kernel
theorem dX9_beat_107 : decode cX9_beat 107 = .ok (.goto 5, 3) := by decide +kernel
theorem dX9_beat_110 : decode cX9_beat 110 = .ok (.iload 5, 2) := by decide +kernel
theorem dX9_beat_112 : decode cX9_beat 112 = .ok (.ireturn, 1) := by decide +kernel
theorem dX9_end_0 : decode cX9_end 0 = .ok (.iload_n 1, 1) := by decide +kernel
theorem dX9_end_1 : decode cX9_end 1 = .ok (.iconst 0, 1) := by decide +kernel
theorem dX9_end_2 : decode cX9_end 2 = .ok (.iconst 1, 1) := by decide +kernel
theorem dX9_end_3 : decode cX9_end 3 = .ok (.invokestatic 112, 3) := by decide +kernel
theorem dX9_end_6 : decode cX9_end 6 = .ok (.ifCond .ne 5, 3) := by decide +kernel
theorem dX9_end_9 : decode cX9_end 9 = .ok (.iconst (-1), 1) := by decide +kernel
theorem dX9_end_10 : decode cX9_end 10 = .ok (.ireturn, 1) := by decide +kernel
theorem dX9_end_11 : decode cX9_end 11 = .ok (.iconst 0, 1) := by decide +kernel
theorem dX9_end_12 : decode cX9_end 12 = .ok (.istore_n 2, 1) := by decide +kernel
theorem dX9_end_13 : decode cX9_end 13 = .ok (.iconst 0, 1) := by decide +kernel
theorem dX9_end_14 : decode cX9_end 14 = .ok (.istore_n 3, 1) := by decide +kernel
theorem dX9_end_15 : decode cX9_end 15 = .ok (.iconst 0, 1) := by decide +kernel
theorem dX9_end_16 : decode cX9_end 16 = .ok (.istore 4, 2) := by decide +kernel
theorem dX9_end_18 : decode cX9_end 18 = .ok (.iload 4, 2) := by decide +kernel
theorem dX9_end_20 : decode cX9_end 20 = .ok (.aload_n 0, 1) := by decide +kernel
theorem dX9_end_21 : decode cX9_end 21 = .ok (.getfield 10, 3) := by decide +kernel
theorem dX9_end_24 : decode cX9_end 24 = .ok (.getfield 109, 3) := by decide +kernel
theorem dX9_end_27 : decode cX9_end 27 = .ok (.if_icmp .ge 49, 3) := by decide +kernel
theorem dX9_end_30 : decode cX9_end 30 = .ok (.iload_n 2, 1) := by decide +kernel
theorem dX9_end_31 : decode cX9_end 31 = .ok (.iload 4, 2) := by decide +kernel
theorem dX9_end_33 : decode cX9_end 33 = .ok (.aload_n 0, 1) := by decide +kernel
theorem dX9_end_34 : decode cX9_end 34 = .ok (.getfield 10, 3) := by decide +kernel
theorem dX9_end_37 : decode cX9_end 37 = .ok (.iload 4, 2) := by decide +kernel
theorem dX9_end_39 : decode cX9_end 39 = .ok (.invokevirtual 254, 3) := by decide +kernel
theorem dX9_end_42 : decode cX9_end 42 = .ok (.imul, 1) := by decide +kernel
theorem dX9_end_43 : decode cX9_end 43 = .ok (.iadd, 1) := by decide +kernel
theorem dX9_end_44 : decode cX9_end 44 = .ok (.istore_n 2, 1) := by decide +kernel
theorem dX9_end_45 : decode cX9_end 45 = .ok (.iload_n 3, 1) := by decide +kernel
theorem dX9_end_46 : decode cX9_end 46 = .ok (.aload_n 0, 1) := by decide +kernel
theorem dX9_end_47 : decode cX9_end 47 = .ok (.getfield 10, 3) := by decide +kernel
theorem dX9_end_50 : decode cX9_end 50 = .ok (.getfield 109, 3) := by decide +kernel
theorem dX9_end_53 : decode cX9_end 53 = .ok (.iconst 1, 1) := by decide +kernel
theorem dX9_end_54 : decode cX9_end 54 = .ok (.isub, 1) := by decide +kernel
theorem dX9_end_55 : decode cX9_end 55 = .ok (.iload 4, 2) := by decide +kernel
theorem dX9_end_57 : decode cX9_end 57 = .ok (.isub, 1) := by decide +kernel
theorem dX9_end_58 : decode cX9_end 58 = .ok (.aload_n 0, 1) := by decide +kernel
theorem dX9_end_59 : decode cX9_end 59 = .ok (.getfield 10, 3) := by decide +kernel
theorem dX9_end_62 : decode cX9_end 62 = .ok (.iload 4, 2) := by decide +kernel
theorem dX9_end_64 : decode cX9_end 64 = .ok (.invokevirtual 254, 3) := by decide +kernel
theorem dX9_end_67 : decode cX9_end 67 = .ok (.imul, 1) := by decide +kernel
theorem dX9_end_68 : decode cX9_end 68 = .ok (.iadd, 1) := by decide +kernel
theorem dX9_end_69 : decode cX9_end 69 = .ok (.istore_n 3, 1) := by decide +kernel
theorem dX9_end_70 : decode cX9_end 70 = .ok (.iinc 4 1, 3) := by decide +kernel
theorem dX9_end_73 : decode cX9_end 73 = .ok (.goto (-55), 3) := by decide +kernel
theorem dX9_end_76 : decode cX9_end 76 = .ok (.iload_n 1, 1) := by decide +kernel
theorem dX9_end_77 : decode cX9_end 77 = .ok (.ifCond .ne 17, 3) := by decide +kernel
theorem dX9_end_80 : decode cX9_end 80 = .ok (.iload_n 3, 1) := by decide +kernel
theorem dX9_end_81 : decode cX9_end 81 = .ok (.iload_n 2, 1) := by decide +kernel
theorem dX9_end_82 : decode cX9_end 82 = .ok (.if_icmp .ge 7, 3) := by decide +kernel
theorem dX9_end_85 : decode cX9_end 85 = .ok (.iconst 1, 1) := by decide +kernel
theorem dX9_end_86 : decode cX9_end 86 = .ok (.goto 4, 3) := by decide +kernel
theorem dX9_end_89 : decode cX9_end 89 = .ok (.iconst 0, 1) := by decide +kernel
theorem dX9_end_90 : decode cX9_end 90 = .ok (.invokestatic 71, 3) := by decide +kernel
theorem dX9_end_93 : decode cX9_end 93 = .ok (.ireturn, 1) := by decide +kernel
theorem dX9_end_94 : decode cX9_end 94 = .ok (.iload_n 2, 1) := by decide +kernel
theorem dX9_end_95 : decode cX9_end 95 = .ok (.iload_n 3, 1) := by decide +kernel
theorem dX9_end_96 : decode cX9_end 96 = .ok (.invokestatic 256, 3) := by decide +kernel
theorem dX9_end_99 : decode cX9_end 99 = .ok (.ireturn, 1) := by decide +kernel
theorem dX9_whatIs_0 : decode cX9_whatIs 0 = .ok (.iload_n 1, 1) := by decide +kernel
theorem dX9_whatIs_1 : decode cX9_whatIs 1 = .ok (.invokestatic 228, 3) := by decide +kernel
theorem dX9_whatIs_4 : decode cX9_whatIs 4 = .ok (.ifCond .eq 23, 3) := by decide +kernel
theorem dX9_whatIs_7 : decode cX9_whatIs 7 = .ok (.aload_n 0, 1) := by decide +kernel
theorem dX9_whatIs_8 : decode cX9_whatIs 8 = .ok (.getfield 10, 3) := by decide +kernel
theorem dX9_whatIs_11 : decode cX9_whatIs 11 = .ok (.iload_n 2, 1) := by decide +kernel
theorem dX9_whatIs_12 : decode cX9_whatIs 12 = .ok (.invokevirtual 54, 3) := by decide +kernel
theorem dX9_whatIs_15 : decode cX9_whatIs 15 = .ok (.ifCond .eq 12, 3) := by decide +kernel
theorem dX9_whatIs_18 : decode cX9_whatIs 18 = .ok (.iload_n 3, 1) := by decide +kernel
theorem dX9_whatIs_19 : decode cX9_whatIs 19 = .ok (.iconst 0, 1) := by decide +kernel
theorem dX9_whatIs_20 : decode cX9_whatIs 20 = .ok (.iconst 1, 1) := by decide +kernel
theorem dX9_whatIs_21 : decode cX9_whatIs 21 = .ok (.invokestatic 112, 3) := by decide +kernel
theorem dX9_whatIs_24 : decode cX9_whatIs 24 = .ok (.ifCond .ne 5, 3) := by decide +kernel
theorem dX9_whatIs_27 : decode cX9_whatIs 27 = .ok (.iconst (-1), 1) := by decide +kernel
theorem dX9_whatIs_28 : decode cX9_whatIs 28 = .ok (.ireturn, 1) := by decide +kernel
theorem dX9_whatIs_29 : decode cX9_whatIs 29 = .ok (.aload_n 0, 1) := by decide +kernel
theorem dX9_whatIs_30 : decode cX9_whatIs 30 = .ok (.iload_n 1, 1) := by decide +kernel
theorem dX9_whatIs_31 : decode cX9_whatIs 31 = .ok (.invokevirtual 36, 3) := by decide +kernel
theorem dX9_whatIs_34 : decode cX9_whatIs 34 = .ok (.istore 4, 2) := by decide +kernel
theorem dX9_whatIs_36 : decode cX9_whatIs 36 = .ok (.iload 4, 2) := by decide +kernel
theorem dX9_whatIs_38 : decode cX9_whatIs 38 = .ok (.ifCond .eq 6, 3) := by decide +kernel
theorem dX9_whatIs_41 : decode cX9_whatIs 41 = .ok (.iload 4, 2) := by decide +kernel
theorem dX9_whatIs_43 : decode cX9_whatIs 43 = .ok (.ireturn, 1) := by decide +kernel
theorem dX9_whatIs_44 : decode cX9_whatIs 44 = .ok (.iload_n 3, 1) := by decide +kernel
theorem dX9_whatIs_45 : decode cX9_whatIs 45 = .ok (.ifCond .ne 17, 3) := by decide +kernel
theorem dX9_whatIs_48 : decode cX9_whatIs 48 = .ok (.aload_n 0, 1) := by decide +kernel
theorem dX9_whatIs_49 : decode cX9_whatIs 49 = .ok (.aload_n 0, 1) := by decide +kernel
theorem dX9_whatIs_50 : decode cX9_whatIs 50 = .ok (.getfield 24, 3) := by decide +kernel
theorem dX9_whatIs_53 : decode cX9_whatIs 53 = .ok (.iload_n 1, 1) := by decide +kernel
theorem dX9_whatIs_54 : decode cX9_whatIs 54 = .ok (.aaload, 1) := by decide +kernel
theorem dX9_whatIs_55 : decode cX9_whatIs 55 = .ok (.iload_n 2, 1) := by decide +kernel
theorem dX9_whatIs_56 : decode cX9_whatIs 56 = .ok (.invokevirtual 261, 3) := by decide +kernel
theorem dX9_whatIs_59 : decode cX9_whatIs 59 = .ok (.goto 14, 3) := by decide +kernel
theorem dX9_whatIs_62 : decode cX9_whatIs 62 = .ok (.aload_n 0, 1) := by decide +kernel
theorem dX9_whatIs_63 : decode cX9_whatIs 63 = .ok (.aload_n 0, 1) := by decide +kernel
theorem dX9_whatIs_64 : decode cX9_whatIs 64 = .ok (.getfield 24, 3) := by decide +kernel
theorem dX9_whatIs_67 : decode cX9_whatIs 67 = .ok (.iload_n 1, 1) := by decide +kernel
theorem dX9_whatIs_68 : decode cX9_whatIs 68 = .ok (.aaload, 1) := by decide +kernel
theorem dX9_whatIs_69 : decode cX9_whatIs 69 = .ok (.iload_n 2, 1) := by decide +kernel
theorem dX9_whatIs_70 : decode cX9_whatIs 70 = .ok (.invokevirtual 264, 3) := by decide +kernel
theorem dX9_whatIs_73 : decode cX9_whatIs 73 = .ok (.ireturn, 1) := by decide +kernel
theorem dX9_wornFrom_0 : decode cX9_wornFrom 0 = .ok (.iload_n 1, 1) := by decide +kernel
theorem dX9_wornFrom_1 : decode cX9_wornFrom 1 = .ok (.invokestatic 228, 3) := by decide +kernel
theorem dX9_wornFrom_4 : decode cX9_wornFrom 4 = .ok (.ifCond .eq 23, 3) := by decide +kernel
theorem dX9_wornFrom_7 : decode cX9_wornFrom 7 = .ok (.aload_n 0, 1) := by decide +kernel
theorem dX9_wornFrom_8 : decode cX9_wornFrom 8 = .ok (.getfield 10, 3) := by decide +kernel
theorem dX9_wornFrom_11 : decode cX9_wornFrom 11 = .ok (.iload_n 2, 1) := by decide +kernel
theorem dX9_wornFrom_12 : decode cX9_wornFrom 12 = .ok (.invokevirtual 54, 3) := by decide +kernel
theorem dX9_wornFrom_15 : decode cX9_wornFrom 15 = .ok (.ifCond .eq 12, 3) := by decide +kernel
theorem dX9_wornFrom_18 : decode cX9_wornFrom 18 = .ok (.iload_n 3, 1) := by decide +kernel
theorem dX9_wornFrom_19 : decode cX9_wornFrom 19 = .ok (.iconst 0, 1) := by decide +kernel
theorem dX9_wornFrom_20 : decode cX9_wornFrom 20 = .ok (.iconst 2, 1) := by decide +kernel
theorem dX9_wornFrom_21 : decode cX9_wornFrom 21 = .ok (.invokestatic 112, 3) := by decide +kernel
theorem dX9_wornFrom_24 : decode cX9_wornFrom 24 = .ok (.ifCond .ne 5, 3) := by decide +kernel
theorem dX9_wornFrom_27 : decode cX9_wornFrom 27 = .ok (.iconst (-1), 1) := by decide +kernel
theorem dX9_wornFrom_28 : decode cX9_wornFrom 28 = .ok (.ireturn, 1) := by decide +kernel
theorem dX9_wornFrom_29 : decode cX9_wornFrom 29 = .ok (.aload_n 0, 1) := by decide +kernel
theorem dX9_wornFrom_30 : decode cX9_wornFrom 30 = .ok (.iload_n 1, 1) := by decide +kernel
theorem dX9_wornFrom_31 : decode cX9_wornFrom 31 = .ok (.invokevirtual 36, 3) := by decide +kernel
theorem dX9_wornFrom_34 : decode cX9_wornFrom 34 = .ok (.istore 4, 2) := by decide +kernel
theorem dX9_wornFrom_36 : decode cX9_wornFrom 36 = .ok (.iload 4, 2) := by decide +kernel
theorem dX9_wornFrom_38 : decode cX9_wornFrom 38 = .ok (.ifCond .eq 6, 3) := by decide +kernel
theorem dX9_wornFrom_41 : decode cX9_wornFrom 41 = .ok (.iload 4, 2) := by decide +kernel
theorem dX9_wornFrom_43 : decode cX9_wornFrom 43 = .ok (.ireturn, 1) := by decide +kernel
theorem dX9_wornFrom_44 : decode cX9_wornFrom 44 = .ok (.iconst 0, 1) := by decide +kernel
theorem dX9_wornFrom_45 : decode cX9_wornFrom 45 = .ok (.istore 5, 2) := by decide +kernel
theorem dX9_wornFrom_47 : decode cX9_wornFrom 47 = .ok (.bipush (-4), 2) := by decide +kernel
theorem dX9_wornFrom_49 : decode cX9_wornFrom 49 = .ok (.istore 6, 2) := by decide +kernel
theorem dX9_wornFrom_51 : decode cX9_wornFrom 51 = .ok (.bipush (-4), 2) := by decide +kernel
theorem dX9_wornFrom_53 : decode cX9_wornFrom 53 = .ok (.istore 7, 2) := by decide +kernel
theorem dX9_wornFrom_55 : decode cX9_wornFrom 55 = .ok (.iconst 0, 1) := by decide +kernel
theorem dX9_wornFrom_56 : decode cX9_wornFrom 56 = .ok (.istore 8, 2) := by decide +kernel
theorem dX9_wornFrom_58 : decode cX9_wornFrom 58 = .ok (.iload 8, 2) := by decide +kernel
theorem dX9_wornFrom_60 : decode cX9_wornFrom 60 = .ok (.bipush 100, 2) := by decide +kernel
theorem dX9_wornFrom_62 : decode cX9_wornFrom 62 = .ok (.if_icmp .ge 72, 3) := by decide +kernel
theorem dX9_wornFrom_65 : decode cX9_wornFrom 65 = .ok (.aload_n 0, 1) := by decide +kernel
theorem dX9_wornFrom_66 : decode cX9_wornFrom 66 = .ok (.getfield 16, 3) := by decide +kernel
theorem dX9_wornFrom_69 : decode cX9_wornFrom 69 = .ok (.aload_n 0, 1) := by decide +kernel
theorem dX9_wornFrom_70 : decode cX9_wornFrom 70 = .ok (.getfield 10, 3) := by decide +kernel
theorem dX9_wornFrom_73 : decode cX9_wornFrom 73 = .ok (.invokevirtual 44, 3) := by decide +kernel
theorem dX9_wornFrom_76 : decode cX9_wornFrom 76 = .ok (.aload_n 0, 1) := by decide +kernel
theorem dX9_wornFrom_77 : decode cX9_wornFrom 77 = .ok (.getfield 16, 3) := by decide +kernel
theorem dX9_wornFrom_80 : decode cX9_wornFrom 80 = .ok (.getfield 65, 3) := by decide +kernel
theorem dX9_wornFrom_83 : decode cX9_wornFrom 83 = .ok (.iload_n 2, 1) := by decide +kernel
theorem dX9_wornFrom_84 : decode cX9_wornFrom 84 = .ok (.iload 8, 2) := by decide +kernel
theorem dX9_wornFrom_86 : decode cX9_wornFrom 86 = .ok (.iastore, 1) := by decide +kernel
theorem dX9_wornFrom_87 : decode cX9_wornFrom 87 = .ok (.aload_n 0, 1) := by decide +kernel
theorem dX9_wornFrom_88 : decode cX9_wornFrom 88 = .ok (.getfield 16, 3) := by decide +kernel
theorem dX9_wornFrom_91 : decode cX9_wornFrom 91 = .ok (.iload_n 2, 1) := by decide +kernel
theorem dX9_wornFrom_92 : decode cX9_wornFrom 92 = .ok (.aload_n 0, 1) := by decide +kernel
theorem dX9_wornFrom_93 : decode cX9_wornFrom 93 = .ok (.getfield 24, 3) := by decide +kernel
theorem dX9_wornFrom_96 : decode cX9_wornFrom 96 = .ok (.iload_n 1, 1) := by decide +kernel
theorem dX9_wornFrom_97 : decode cX9_wornFrom 97 = .ok (.aaload, 1) := by decide +kernel
theorem dX9_wornFrom_98 : decode cX9_wornFrom 98 = .ok (.iconst 1, 1) := by decide +kernel
theorem dX9_wornFrom_99 : decode cX9_wornFrom 99 = .ok (.invokestatic 267, 3) := by decide +kernel
theorem dX9_wornFrom_102 : decode cX9_wornFrom 102 = .ok (.ifCond .eq 26, 3) := by decide +kernel
theorem dX9_wornFrom_105 : decode cX9_wornFrom 105 = .ok (.iinc 5 1, 3) := by decide +kernel
theorem dX9_wornFrom_108 : decode cX9_wornFrom 108 = .ok (.iload 6, 2) := by decide +kernel
theorem dX9_wornFrom_110 : decode cX9_wornFrom 110 = .ok (.bipush (-4), 2) := by decide +kernel
theorem dX9_wornFrom_112 : decode cX9_wornFrom 112 = .ok (.if_icmp .ne 8, 3) := by decide +kernel
theorem dX9_wornFrom_115 : decode cX9_wornFrom 115 = .ok (.iload 8, 2) := by decide +kernel
theorem dX9_wornFrom_117 : decode cX9_wornFrom 117 = .ok (.goto 5, 3) := by decide +kernel
theorem dX9_wornFrom_120 : decode cX9_wornFrom 120 = .ok (.iload 6, 2) := by decide +kernel
theorem dX9_wornFrom_122 : decode cX9_wornFrom 122 = .ok (.istore 6, 2) := by decide +kernel
theorem dX9_wornFrom_124 : decode cX9_wornFrom 124 = .ok (.iload 8, 2) := by decide +kernel
theorem dX9_wornFrom_126 : decode cX9_wornFrom 126 = .ok (.istore 7, 2) := by decide +kernel
theorem dX9_wornFrom_128 : decode cX9_wornFrom 128 = .ok (.iinc 8 1, 3) := by decide +kernel
theorem dX9_wornFrom_131 : decode cX9_wornFrom 131 = .ok (.goto (-73), 3) := by decide +kernel
theorem dX9_wornFrom_134 : decode cX9_wornFrom 134 = .ok (.iload_n 3, 1) := by decide +kernel
theorem dX9_wornFrom_135 : decode cX9_wornFrom 135 = .ok (.ifCond .ne 6, 3) := by decide +kernel
theorem dX9_wornFrom_138 : decode cX9_wornFrom 138 = .ok (.iload 5, 2) := by decide +kernel
theorem dX9_wornFrom_140 : decode cX9_wornFrom 140 = .ok (.ireturn, 1) := by decide +kernel
theorem dX9_wornFrom_141 : decode cX9_wornFrom 141 = .ok (.iload_n 3, 1) := by decide +kernel
theorem dX9_wornFrom_142 : decode cX9_wornFrom 142 = .ok (.iconst 1, 1) := by decide +kernel
theorem dX9_wornFrom_143 : decode cX9_wornFrom 143 = .ok (.if_icmp .ne 8, 3) := by decide +kernel
theorem dX9_wornFrom_146 : decode cX9_wornFrom 146 = .ok (.iload 6, 2) := by decide +kernel
theorem dX9_wornFrom_148 : decode cX9_wornFrom 148 = .ok (.goto 5, 3) := by decide +kernel
theorem dX9_wornFrom_151 : decode cX9_wornFrom 151 = .ok (.iload 7, 2) := by decide +kernel
theorem dX9_wornFrom_153 : decode cX9_wornFrom 153 = .ok (.ireturn, 1) := by decide +kernel
theorem dX9_frost_0 : decode cX9_frost 0 = .ok (.aload_n 0, 1) := by decide +kernel
theorem dX9_frost_1 : decode cX9_frost 1 = .ok (.getfield 10, 3) := by decide +kernel
theorem dX9_frost_4 : decode cX9_frost 4 = .ok (.iload_n 1, 1) := by decide +kernel
theorem dX9_frost_5 : decode cX9_frost 5 = .ok (.invokevirtual 54, 3) := by decide +kernel
theorem dX9_frost_8 : decode cX9_frost 8 = .ok (.ifCond .eq 31, 3) := by decide +kernel
theorem dX9_frost_11 : decode cX9_frost 11 = .ok (.iload_n 2, 1) := by decide +kernel
theorem dX9_frost_12 : decode cX9_frost 12 = .ok (.iconst 0, 1) := by decide +kernel
theorem dX9_frost_13 : decode cX9_frost 13 = .ok (.bipush 7, 2) := by decide +kernel
theorem dX9_frost_15 : decode cX9_frost 15 = .ok (.invokestatic 112, 3) := by decide +kernel
theorem dX9_frost_18 : decode cX9_frost 18 = .ok (.ifCond .eq 21, 3) := by decide +kernel
theorem dX9_frost_21 : decode cX9_frost 21 = .ok (.iload_n 3, 1) := by decide +kernel
theorem dX9_frost_22 : decode cX9_frost 22 = .ok (.iconst 2, 1) := by decide +kernel
theorem dX9_frost_23 : decode cX9_frost 23 = .ok (.bipush 20, 2) := by decide +kernel
theorem dX9_frost_25 : decode cX9_frost 25 = .ok (.invokestatic 112, 3) := by decide +kernel
theorem dX9_frost_28 : decode cX9_frost 28 = .ok (.ifCond .eq 11, 3) := by decide +kernel
theorem dX9_frost_31 : decode cX9_frost 31 = .ok (.iload 4, 2) := by decide +kernel
theorem dX9_frost_33 : decode cX9_frost 33 = .ok (.invokestatic 192, 3) := by decide +kernel
theorem dX9_frost_36 : decode cX9_frost 36 = .ok (.ifCond .ne 8, 3) := by decide +kernel
theorem dX9_frost_39 : decode cX9_frost 39 = .ok (.iconst (-1), 1) := by decide +kernel
theorem dX9_frost_40 : decode cX9_frost 40 = .ok (.invokestatic 195, 3) := by decide +kernel
theorem dX9_frost_43 : decode cX9_frost 43 = .ok (.lreturn, 1) := by decide +kernel
theorem dX9_frost_44 : decode cX9_frost 44 = .ok (.lconst 0, 1) := by decide +kernel
theorem dX9_frost_45 : decode cX9_frost 45 = .ok (.lstore 5, 2) := by decide +kernel
theorem dX9_frost_47 : decode cX9_frost 47 = .ok (.iconst 0, 1) := by decide +kernel
theorem dX9_frost_48 : decode cX9_frost 48 = .ok (.istore 7, 2) := by decide +kernel
theorem dX9_frost_50 : decode cX9_frost 50 = .ok (.iload 7, 2) := by decide +kernel
theorem dX9_frost_52 : decode cX9_frost 52 = .ok (.iconst 1, 1) := by decide +kernel
theorem dX9_frost_53 : decode cX9_frost 53 = .ok (.iload_n 2, 1) := by decide +kernel
theorem dX9_frost_54 : decode cX9_frost 54 = .ok (.ishl, 1) := by decide +kernel
theorem dX9_frost_55 : decode cX9_frost 55 = .ok (.if_icmp .ge 60, 3) := by decide +kernel
theorem dX9_frost_58 : decode cX9_frost 58 = .ok (.aload_n 0, 1) := by decide +kernel
theorem dX9_frost_59 : decode cX9_frost 59 = .ok (.getfield 16, 3) := by decide +kernel
theorem dX9_frost_62 : decode cX9_frost 62 = .ok (.aload_n 0, 1) := by decide +kernel
theorem dX9_frost_63 : decode cX9_frost 63 = .ok (.getfield 10, 3) := by decide +kernel
theorem dX9_frost_66 : decode cX9_frost 66 = .ok (.invokevirtual 44, 3) := by decide +kernel
theorem dX9_frost_69 : decode cX9_frost 69 = .ok (.aload_n 0, 1) := by decide +kernel
theorem dX9_frost_70 : decode cX9_frost 70 = .ok (.getfield 16, 3) := by decide +kernel
theorem dX9_frost_73 : decode cX9_frost 73 = .ok (.iload_n 2, 1) := by decide +kernel
theorem dX9_frost_74 : decode cX9_frost 74 = .ok (.iload 7, 2) := by decide +kernel
theorem dX9_frost_76 : decode cX9_frost 76 = .ok (.invokevirtual 271, 3) := by decide +kernel
theorem dX9_frost_79 : decode cX9_frost 79 = .ok (.aload_n 0, 1) := by decide +kernel
theorem dX9_frost_80 : decode cX9_frost 80 = .ok (.getfield 16, 3) := by decide +kernel
theorem dX9_frost_83 : decode cX9_frost 83 = .ok (.iload_n 1, 1) := by decide +kernel
theorem dX9_frost_84 : decode cX9_frost 84 = .ok (.invokevirtual 68, 3) := by decide +kernel
theorem dX9_frost_87 : decode cX9_frost 87 = .ok (.ifCond .eq 22, 3) := by decide +kernel
theorem dX9_frost_90 : decode cX9_frost 90 = .ok (.lload 5, 2) := by decide +kernel
theorem dX9_frost_92 : decode cX9_frost 92 = .ok (.iload_n 3, 1) := by decide +kernel
theorem dX9_frost_93 : decode cX9_frost 93 = .ok (.iconst 1, 1) := by decide +kernel
theorem dX9_frost_94 : decode cX9_frost 94 = .ok (.isub, 1) := by decide +kernel
theorem dX9_frost_95 : decode cX9_frost 95 = .ok (.i2l, 1) := by decide +kernel
theorem dX9_frost_96 : decode cX9_frost 96 = .ok (.iload_n 2, 1) := by decide +kernel
theorem dX9_frost_97 : decode cX9_frost 97 = .ok (.iload 7, 2) := by decide +kernel
theorem dX9_frost_99 : decode cX9_frost 99 = .ok (.invokestatic 215, 3) := by decide +kernel
theorem dX9_frost_102 : decode cX9_frost 102 = .ok (.isub, 1) := by decide +kernel
theorem dX9_frost_103 : decode cX9_frost 103 = .ok (.invokestatic 274, 3) := by decide +kernel
theorem dX9_frost_106 : decode cX9_frost 106 = .ok (.ladd, 1) := by decide +kernel
theorem dX9_frost_107 : decode cX9_frost 107 = .ok (.lstore 5, 2) := by decide +kernel
theorem dX9_frost_109 : decode cX9_frost 109 = .ok (.iinc 7 1, 3) := by decide +kernel
theorem dX9_frost_112 : decode cX9_frost 112 = .ok (.goto (-62), 3) := by decide +kernel
theorem dX9_frost_115 : decode cX9_frost 115 = .ok (.lload 5, 2) := by decide +kernel
theorem dX9_frost_117 : decode cX9_frost 117 = .ok (.iload_n 3, 1) := by decide +kernel
theorem dX9_frost_118 : decode cX9_frost 118 = .ok (.i2l, 1) := by decide +kernel
theorem dX9_frost_119 : decode cX9_frost 119 = .ok (.iload_n 2, 1) := by decide +kernel
theorem dX9_frost_120 : decode cX9_frost 120 = .ok (.invokestatic 274, 3) := by decide +kernel
theorem dX9_frost_123 : decode cX9_frost 123 = .ok (.iload 4, 2) := by decide +kernel
theorem dX9_frost_125 : decode cX9_frost 125 = .ok (.invokestatic 206, 3) := by decide +kernel
theorem dX9_frost_128 : decode cX9_frost 128 = .ok (.lreturn, 1) := by decide +kernel
theorem dX9_share_0 : decode cX9_share 0 = .ok (.aload_n 0, 1) := by decide +kernel
theorem dX9_share_1 : decode cX9_share 1 = .ok (.getfield 10, 3) := by decide +kernel
theorem dX9_share_4 : decode cX9_share 4 = .ok (.iload_n 1, 1) := by decide +kernel
theorem dX9_share_5 : decode cX9_share 5 = .ok (.invokevirtual 54, 3) := by decide +kernel
theorem dX9_share_8 : decode cX9_share 8 = .ok (.ifCond .eq 10, 3) := by decide +kernel
theorem dX9_share_11 : decode cX9_share 11 = .ok (.iload_n 2, 1) := by decide +kernel
theorem dX9_share_12 : decode cX9_share 12 = .ok (.invokestatic 192, 3) := by decide +kernel
theorem dX9_share_15 : decode cX9_share 15 = .ok (.ifCond .ne 8, 3) := by decide +kernel
theorem dX9_share_18 : decode cX9_share 18 = .ok (.iconst (-1), 1) := by decide +kernel
theorem dX9_share_19 : decode cX9_share 19 = .ok (.invokestatic 195, 3) := by decide +kernel
theorem dX9_share_22 : decode cX9_share 22 = .ok (.lreturn, 1) := by decide +kernel
theorem dX9_share_23 : decode cX9_share 23 = .ok (.aload_n 0, 1) := by decide +kernel
theorem dX9_share_24 : decode cX9_share 24 = .ok (.getfield 10, 3) := by decide +kernel
theorem dX9_share_27 : decode cX9_share 27 = .ok (.getfield 65, 3) := by decide +kernel
theorem dX9_share_30 : decode cX9_share 30 = .ok (.iload_n 1, 1) := by decide +kernel
theorem dX9_share_31 : decode cX9_share 31 = .ok (.iaload, 1) := by decide +kernel
theorem dX9_share_32 : decode cX9_share 32 = .ok (.i2l, 1) := by decide +kernel
theorem dX9_share_33 : decode cX9_share 33 = .ok (.aload_n 0, 1) := by decide +kernel
theorem dX9_share_34 : decode cX9_share 34 = .ok (.getfield 10, 3) := by decide +kernel
theorem dX9_share_37 : decode cX9_share 37 = .ok (.invokevirtual 144, 3) := by decide +kernel
theorem dX9_share_40 : decode cX9_share 40 = .ok (.i2l, 1) := by decide +kernel
theorem dX9_share_41 : decode cX9_share 41 = .ok (.iload_n 2, 1) := by decide +kernel
theorem dX9_share_42 : decode cX9_share 42 = .ok (.invokestatic 206, 3) := by decide +kernel
theorem dX9_share_45 : decode cX9_share 45 = .ok (.lreturn, 1) := by decide +kernel
theorem dX9_forged_0 : decode cX9_forged 0 = .ok (.aload_n 0, 1) := by decide +kernel
theorem dX9_forged_1 : decode cX9_forged 1 = .ok (.iload_n 1, 1) := by decide +kernel
theorem dX9_forged_2 : decode cX9_forged 2 = .ok (.invokevirtual 36, 3) := by decide +kernel
theorem dX9_forged_5 : decode cX9_forged 5 = .ok (.istore_n 2, 1) := by decide +kernel
theorem dX9_forged_6 : decode cX9_forged 6 = .ok (.iload_n 2, 1) := by decide +kernel
theorem dX9_forged_7 : decode cX9_forged 7 = .ok (.ifCond .eq 5, 3) := by decide +kernel
theorem dX9_forged_10 : decode cX9_forged 10 = .ok (.iload_n 2, 1) := by decide +kernel
theorem dX9_forged_11 : decode cX9_forged 11 = .ok (.ireturn, 1) := by decide +kernel
theorem dX9_forged_12 : decode cX9_forged 12 = .ok (.aload_n 0, 1) := by decide +kernel
theorem dX9_forged_13 : decode cX9_forged 13 = .ok (.getfield 24, 3) := by decide +kernel
theorem dX9_forged_16 : decode cX9_forged 16 = .ok (.iload_n 1, 1) := by decide +kernel
theorem dX9_forged_17 : decode cX9_forged 17 = .ok (.aaload, 1) := by decide +kernel
theorem dX9_forged_18 : decode cX9_forged 18 = .ok (.astore_n 3, 1) := by decide +kernel
theorem dX9_forged_19 : decode cX9_forged 19 = .ok (.iconst 0, 1) := by decide +kernel
theorem dX9_forged_20 : decode cX9_forged 20 = .ok (.istore 4, 2) := by decide +kernel
theorem dX9_forged_22 : decode cX9_forged 22 = .ok (.iload 4, 2) := by decide +kernel
theorem dX9_forged_24 : decode cX9_forged 24 = .ok (.aload_n 3, 1) := by decide +kernel
theorem dX9_forged_25 : decode cX9_forged 25 = .ok (.getfield 278, 3) := by decide +kernel
theorem dX9_forged_28 : decode cX9_forged 28 = .ok (.if_icmp .ge 44, 3) := by decide +kernel
theorem dX9_forged_31 : decode cX9_forged 31 = .ok (.aload_n 0, 1) := by decide +kernel
theorem dX9_forged_32 : decode cX9_forged 32 = .ok (.getfield 10, 3) := by decide +kernel
theorem dX9_forged_35 : decode cX9_forged 35 = .ok (.iload 4, 2) := by decide +kernel
theorem dX9_forged_37 : decode cX9_forged 37 = .ok (.invokevirtual 54, 3) := by decide +kernel
theorem dX9_forged_40 : decode cX9_forged 40 = .ok (.ifCond .eq 23, 3) := by decide +kernel
theorem dX9_forged_43 : decode cX9_forged 43 = .ok (.aload_n 0, 1) := by decide +kernel
theorem dX9_forged_44 : decode cX9_forged 44 = .ok (.getfield 10, 3) := by decide +kernel
theorem dX9_forged_47 : decode cX9_forged 47 = .ok (.getfield 58, 3) := by decide +kernel
theorem dX9_forged_50 : decode cX9_forged 50 = .ok (.iload 4, 2) := by decide +kernel
theorem dX9_forged_52 : decode cX9_forged 52 = .ok (.iaload, 1) := by decide +kernel
theorem dX9_forged_53 : decode cX9_forged 53 = .ok (.aload_n 3, 1) := by decide +kernel
theorem dX9_forged_54 : decode cX9_forged 54 = .ok (.getfield 281, 3) := by decide +kernel
theorem dX9_forged_57 : decode cX9_forged 57 = .ok (.iload 4, 2) := by decide +kernel
theorem dX9_forged_59 : decode cX9_forged 59 = .ok (.iaload, 1) := by decide +kernel
theorem dX9_forged_60 : decode cX9_forged 60 = .ok (.if_icmp .eq 6, 3) := by decide +kernel
theorem dX9_forged_63 : decode cX9_forged 63 = .ok (.iload 4, 2) := by decide +kernel
theorem dX9_forged_65 : decode cX9_forged 65 = .ok (.ireturn, 1) := by decide +kernel
theorem dX9_forged_66 : decode cX9_forged 66 = .ok (.iinc 4 1, 3) := by decide +kernel
theorem dX9_forged_69 : decode cX9_forged 69 = .ok (.goto (-47), 3) := by decide +kernel
theorem dX9_forged_72 : decode cX9_forged 72 = .ok (.bipush (-4), 2) := by decide +kernel
theorem dX9_forged_74 : decode cX9_forged 74 = .ok (.ireturn, 1) := by decide +kernel
theorem dX9_judge_0 : decode cX9_judge 0 = .ok (.aload_n 0, 1) := by decide +kernel
theorem dX9_judge_1 : decode cX9_judge 1 = .ok (.iload_n 1, 1) := by decide +kernel
theorem dX9_judge_2 : decode cX9_judge 2 = .ok (.invokevirtual 36, 3) := by decide +kernel
theorem dX9_judge_5 : decode cX9_judge 5 = .ok (.istore_n 2, 1) := by decide +kernel
theorem dX9_judge_6 : decode cX9_judge 6 = .ok (.iload_n 2, 1) := by decide +kernel
theorem dX9_judge_7 : decode cX9_judge 7 = .ok (.ifCond .eq 5, 3) := by decide +kernel
theorem dX9_judge_10 : decode cX9_judge 10 = .ok (.iload_n 2, 1) := by decide +kernel
theorem dX9_judge_11 : decode cX9_judge 11 = .ok (.ireturn, 1) := by decide +kernel
theorem dX9_judge_12 : decode cX9_judge 12 = .ok (.aload_n 0, 1) := by decide +kernel
theorem dX9_judge_13 : decode cX9_judge 13 = .ok (.getfield 16, 3) := by decide +kernel
theorem dX9_judge_16 : decode cX9_judge 16 = .ok (.aload_n 0, 1) := by decide +kernel
theorem dX9_judge_17 : decode cX9_judge 17 = .ok (.getfield 10, 3) := by decide +kernel
theorem dX9_judge_20 : decode cX9_judge 20 = .ok (.invokevirtual 44, 3) := by decide +kernel
theorem dX9_judge_23 : decode cX9_judge 23 = .ok (.aload_n 0, 1) := by decide +kernel
theorem dX9_judge_24 : decode cX9_judge 24 = .ok (.getfield 16, 3) := by decide +kernel
theorem dX9_judge_27 : decode cX9_judge 27 = .ok (.aload_n 0, 1) := by decide +kernel
theorem dX9_judge_28 : decode cX9_judge 28 = .ok (.getfield 24, 3) := by decide +kernel
theorem dX9_judge_31 : decode cX9_judge 31 = .ok (.iload_n 1, 1) := by decide +kernel
theorem dX9_judge_32 : decode cX9_judge 32 = .ok (.aaload, 1) := by decide +kernel
theorem dX9_judge_33 : decode cX9_judge 33 = .ok (.invokestatic 284, 3) := by decide +kernel
theorem dX9_judge_36 : decode cX9_judge 36 = .ok (.ireturn, 1) := by decide +kernel
theorem dX9_winters_0 : decode cX9_winters 0 = .ok (.iload_n 1, 1) := by decide +kernel
theorem dX9_winters_1 : decode cX9_winters 1 = .ok (.iconst 1, 1) := by decide +kernel
theorem dX9_winters_2 : decode cX9_winters 2 = .ok (.bipush 20, 2) := by decide +kernel
theorem dX9_winters_4 : decode cX9_winters 4 = .ok (.invokestatic 112, 3) := by decide +kernel
theorem dX9_winters_7 : decode cX9_winters 7 = .ok (.ifCond .eq 12, 3) := by decide +kernel
theorem dX9_winters_10 : decode cX9_winters 10 = .ok (.iload_n 3, 1) := by decide +kernel
theorem dX9_winters_11 : decode cX9_winters 11 = .ok (.iconst 0, 1) := by decide +kernel
theorem dX9_winters_12 : decode cX9_winters 12 = .ok (.iconst 1, 1) := by decide +kernel
theorem dX9_winters_13 : decode cX9_winters 13 = .ok (.invokestatic 112, 3) := by decide +kernel
theorem dX9_winters_16 : decode cX9_winters 16 = .ok (.ifCond .ne 5, 3) := by decide +kernel
theorem dX9_winters_19 : decode cX9_winters 19 = .ok (.iconst (-1), 1) := by decide +kernel
theorem dX9_winters_20 : decode cX9_winters 20 = .ok (.ireturn, 1) := by decide +kernel
theorem dX9_winters_21 : decode cX9_winters 21 = .ok (.iload_n 2, 1) := by decide +kernel
theorem dX9_winters_22 : decode cX9_winters 22 = .ok (.istore 4, 2) := by decide +kernel
theorem dX9_winters_24 : decode cX9_winters 24 = .ok (.iconst 0, 1) := by decide +kernel
theorem dX9_winters_25 : decode cX9_winters 25 = .ok (.istore 5, 2) := by decide +kernel
theorem dX9_winters_27 : decode cX9_winters 27 = .ok (.iconst 0, 1) := by decide +kernel
theorem dX9_winters_28 : decode cX9_winters 28 = .ok (.istore 6, 2) := by decide +kernel
theorem dX9_winters_30 : decode cX9_winters 30 = .ok (.iconst 0, 1) := by decide +kernel
theorem dX9_winters_31 : decode cX9_winters 31 = .ok (.istore 7, 2) := by decide +kernel
theorem dX9_winters_33 : decode cX9_winters 33 = .ok (.iload 7, 2) := by decide +kernel
theorem dX9_winters_35 : decode cX9_winters 35 = .ok (.iload_n 1, 1) := by decide +kernel
theorem dX9_winters_36 : decode cX9_winters 36 = .ok (.if_icmp .ge 83, 3) := by decide +kernel
theorem dX9_winters_39 : decode cX9_winters 39 = .ok (.aload_n 0, 1) := by decide +kernel
theorem dX9_winters_40 : decode cX9_winters 40 = .ok (.getfield 16, 3) := by decide +kernel
theorem dX9_winters_43 : decode cX9_winters 43 = .ok (.aload_n 0, 1) := by decide +kernel
theorem dX9_winters_44 : decode cX9_winters 44 = .ok (.getfield 10, 3) := by decide +kernel
theorem dX9_winters_47 : decode cX9_winters 47 = .ok (.invokevirtual 44, 3) := by decide +kernel
theorem dX9_winters_50 : decode cX9_winters 50 = .ok (.aload_n 0, 1) := by decide +kernel
theorem dX9_winters_51 : decode cX9_winters 51 = .ok (.getfield 16, 3) := by decide +kernel
theorem dX9_winters_54 : decode cX9_winters 54 = .ok (.iload 4, 2) := by decide +kernel
theorem dX9_winters_56 : decode cX9_winters 56 = .ok (.invokevirtual 288, 3) := by decide +kernel
theorem dX9_winters_59 : decode cX9_winters 59 = .ok (.istore 4, 2) := by decide +kernel
theorem dX9_winters_61 : decode cX9_winters 61 = .ok (.aload_n 0, 1) := by decide +kernel
theorem dX9_winters_62 : decode cX9_winters 62 = .ok (.getfield 16, 3) := by decide +kernel
theorem dX9_winters_65 : decode cX9_winters 65 = .ok (.bipush 20, 2) := by decide +kernel
theorem dX9_winters_67 : decode cX9_winters 67 = .ok (.invokevirtual 138, 3) := by decide +kernel
theorem dX9_winters_70 : decode cX9_winters 70 = .ok (.iload 5, 2) := by decide +kernel
theorem dX9_winters_72 : decode cX9_winters 72 = .ok (.aload_n 0, 1) := by decide +kernel
theorem dX9_winters_73 : decode cX9_winters 73 = .ok (.getfield 16, 3) := by decide +kernel
theorem dX9_winters_76 : decode cX9_winters 76 = .ok (.getfield 135, 3) := by decide +kernel
theorem dX9_winters_79 : decode cX9_winters 79 = .ok (.aload_n 0, 1) := by decide +kernel
theorem dX9_winters_80 : decode cX9_winters 80 = .ok (.getfield 10, 3) := by decide +kernel
theorem dX9_winters_83 : decode cX9_winters 83 = .ok (.getfield 135, 3) := by decide +kernel
theorem dX9_winters_86 : decode cX9_winters 86 = .ok (.isub, 1) := by decide +kernel
theorem dX9_winters_87 : decode cX9_winters 87 = .ok (.iadd, 1) := by decide +kernel
theorem dX9_winters_88 : decode cX9_winters 88 = .ok (.istore 5, 2) := by decide +kernel
theorem dX9_winters_90 : decode cX9_winters 90 = .ok (.iload 6, 2) := by decide +kernel
theorem dX9_winters_92 : decode cX9_winters 92 = .ok (.aload_n 0, 1) := by decide +kernel
theorem dX9_winters_93 : decode cX9_winters 93 = .ok (.getfield 16, 3) := by decide +kernel
theorem dX9_winters_96 : decode cX9_winters 96 = .ok (.getfield 109, 3) := by decide +kernel
theorem dX9_winters_99 : decode cX9_winters 99 = .ok (.aload_n 0, 1) := by decide +kernel
theorem dX9_winters_100 : decode cX9_winters 100 = .ok (.getfield 16, 3) := by decide +kernel
theorem dX9_winters_103 : decode cX9_winters 103 = .ok (.getfield 141, 3) := by decide +kernel
theorem dX9_winters_106 : decode cX9_winters 106 = .ok (.invokestatic 215, 3) := by decide +kernel
theorem dX9_winters_109 : decode cX9_winters 109 = .ok (.isub, 1) := by decide +kernel
theorem dX9_winters_110 : decode cX9_winters 110 = .ok (.iadd, 1) := by decide +kernel
theorem dX9_winters_111 : decode cX9_winters 111 = .ok (.istore 6, 2) := by decide +kernel
theorem dX9_winters_113 : decode cX9_winters 113 = .ok (.iinc 7 1, 3) := by decide +kernel
theorem dX9_winters_116 : decode cX9_winters 116 = .ok (.goto (-83), 3) := by decide +kernel
theorem dX9_winters_119 : decode cX9_winters 119 = .ok (.iload_n 3, 1) := by decide +kernel
theorem dX9_winters_120 : decode cX9_winters 120 = .ok (.ifCond .ne 8, 3) := by decide +kernel
theorem dX9_winters_123 : decode cX9_winters 123 = .ok (.iload 5, 2) := by decide +kernel
theorem dX9_winters_125 : decode cX9_winters 125 = .ok (.goto 5, 3) := by decide +kernel
theorem dX9_winters_128 : decode cX9_winters 128 = .ok (.iload 6, 2) := by decide +kernel
theorem dX9_winters_130 : decode cX9_winters 130 = .ok (.ireturn, 1) := by decide +kernel
theorem dX9_image_0 : decode cX9_image 0 = .ok (.aload_n 0, 1) := by decide +kernel
theorem dX9_image_1 : decode cX9_image 1 = .ok (.getfield 19, 3) := by decide +kernel
theorem dX9_image_4 : decode cX9_image 4 = .ok (.aload_n 0, 1) := by decide +kernel
theorem dX9_image_5 : decode cX9_image 5 = .ok (.getfield 10, 3) := by decide +kernel
theorem dX9_image_8 : decode cX9_image 8 = .ok (.invokevirtual 44, 3) := by decide +kernel
theorem dX9_image_11 : decode cX9_image 11 = .ok (.aload_n 0, 1) := by decide +kernel
theorem dX9_image_12 : decode cX9_image 12 = .ok (.iconst 1, 1) := by decide +kernel
theorem dX9_image_13 : decode cX9_image 13 = .ok (.putfield 291, 3) := by decide +kernel
theorem dX9_image_16 : decode cX9_image 16 = .ok (.aload_n 0, 1) := by decide +kernel
theorem dX9_image_17 : decode cX9_image 17 = .ok (.getfield 10, 3) := by decide +kernel
theorem dX9_image_20 : decode cX9_image 20 = .ok (.getfield 87, 3) := by decide +kernel
theorem dX9_image_23 : decode cX9_image 23 = .ok (.ireturn, 1) := by decide +kernel
theorem dX9_restore_0 : decode cX9_restore 0 = .ok (.aload_n 0, 1) := by decide +kernel
theorem dX9_restore_1 : decode cX9_restore 1 = .ok (.getfield 291, 3) := by decide +kernel
theorem dX9_restore_4 : decode cX9_restore 4 = .ok (.ifCond .ne 6, 3) := by decide +kernel
theorem dX9_restore_7 : decode cX9_restore 7 = .ok (.bipush (-3), 2) := by decide +kernel
theorem dX9_restore_9 : decode cX9_restore 9 = .ok (.ireturn, 1) := by decide +kernel
theorem dX9_restore_10 : decode cX9_restore 10 = .ok (.aload_n 0, 1) := by decide +kernel
theorem dX9_restore_11 : decode cX9_restore 11 = .ok (.getfield 10, 3) := by decide +kernel
theorem dX9_restore_14 : decode cX9_restore 14 = .ok (.aload_n 0, 1) := by decide +kernel
theorem dX9_restore_15 : decode cX9_restore 15 = .ok (.getfield 19, 3) := by decide +kernel
theorem dX9_restore_18 : decode cX9_restore 18 = .ok (.invokevirtual 44, 3) := by decide +kernel
theorem dX9_restore_21 : decode cX9_restore 21 = .ok (.aload_n 0, 1) := by decide +kernel
theorem dX9_restore_22 : decode cX9_restore 22 = .ok (.getfield 10, 3) := by decide +kernel
theorem dX9_restore_25 : decode cX9_restore 25 = .ok (.getfield 87, 3) := by decide +kernel
theorem dX9_restore_28 : decode cX9_restore 28 = .ok (.ireturn, 1) := by decide +kernel
theorem dX9_count_0 : decode cX9_count 0 = .ok (.iload_n 1, 1) := by decide +kernel
theorem dX9_count_1 : decode cX9_count 1 = .ok (.tableswitch 111 0 7 #[47, 55, 63, 71, 79, 87, 95, 103], 47) := by decide +kernel
theorem dX9_count_48 : decode cX9_count 48 = .ok (.aload_n 0, 1) := by decide +kernel
theorem dX9_count_49 : decode cX9_count 49 = .ok (.getfield 10, 3) := by decide +kernel
theorem dX9_count_52 : decode cX9_count 52 = .ok (.getfield 109, 3) := by decide +kernel
theorem dX9_count_55 : decode cX9_count 55 = .ok (.ireturn, 1) := by decide +kernel
theorem dX9_count_56 : decode cX9_count 56 = .ok (.aload_n 0, 1) := by decide +kernel
theorem dX9_count_57 : decode cX9_count 57 = .ok (.getfield 10, 3) := by decide +kernel
theorem dX9_count_60 : decode cX9_count 60 = .ok (.getfield 87, 3) := by decide +kernel
theorem dX9_count_63 : decode cX9_count 63 = .ok (.ireturn, 1) := by decide +kernel
theorem dX9_count_64 : decode cX9_count 64 = .ok (.aload_n 0, 1) := by decide +kernel
theorem dX9_count_65 : decode cX9_count 65 = .ok (.getfield 10, 3) := by decide +kernel
theorem dX9_count_68 : decode cX9_count 68 = .ok (.getfield 135, 3) := by decide +kernel
theorem dX9_count_71 : decode cX9_count 71 = .ok (.ireturn, 1) := by decide +kernel
theorem dX9_count_72 : decode cX9_count 72 = .ok (.aload_n 0, 1) := by decide +kernel
theorem dX9_count_73 : decode cX9_count 73 = .ok (.getfield 10, 3) := by decide +kernel
theorem dX9_count_76 : decode cX9_count 76 = .ok (.getfield 120, 3) := by decide +kernel
theorem dX9_count_79 : decode cX9_count 79 = .ok (.ireturn, 1) := by decide +kernel
theorem dX9_count_80 : decode cX9_count 80 = .ok (.aload_n 0, 1) := by decide +kernel
theorem dX9_count_81 : decode cX9_count 81 = .ok (.getfield 10, 3) := by decide +kernel
theorem dX9_count_84 : decode cX9_count 84 = .ok (.getfield 295, 3) := by decide +kernel
theorem dX9_count_87 : decode cX9_count 87 = .ok (.ireturn, 1) := by decide +kernel
theorem dX9_count_88 : decode cX9_count 88 = .ok (.aload_n 0, 1) := by decide +kernel
theorem dX9_count_89 : decode cX9_count 89 = .ok (.getfield 10, 3) := by decide +kernel
theorem dX9_count_92 : decode cX9_count 92 = .ok (.getfield 180, 3) := by decide +kernel
theorem dX9_count_95 : decode cX9_count 95 = .ok (.ireturn, 1) := by decide +kernel
theorem dX9_count_96 : decode cX9_count 96 = .ok (.aload_n 0, 1) := by decide +kernel
theorem dX9_count_97 : decode cX9_count 97 = .ok (.getfield 10, 3) := by decide +kernel
theorem dX9_count_100 : decode cX9_count 100 = .ok (.getfield 141, 3) := by decide +kernel
theorem dX9_count_103 : decode cX9_count 103 = .ok (.ireturn, 1) := by decide +kernel
theorem dX9_count_104 : decode cX9_count 104 = .ok (.aload_n 0, 1) := by decide +kernel
theorem dX9_count_105 : decode cX9_count 105 = .ok (.getfield 10, 3) := by decide +kernel
theorem dX9_count_108 : decode cX9_count 108 = .ok (.getfield 297, 3) := by decide +kernel
theorem dX9_count_111 : decode cX9_count 111 = .ok (.ireturn, 1) := by decide +kernel
theorem dX9_count_112 : decode cX9_count 112 = .ok (.iconst (-1), 1) := by decide +kernel
theorem dX9_count_113 : decode cX9_count 113 = .ok (.ireturn, 1) := by decide +kernel
theorem dX9_keep_0 : decode cX9_keep 0 = .ok (.iload_n 1, 1) := by decide +kernel
theorem dX9_keep_1 : decode cX9_keep 1 = .ok (.invokestatic 228, 3) := by decide +kernel
theorem dX9_keep_4 : decode cX9_keep 4 = .ok (.ifCond .eq 12, 3) := by decide +kernel
theorem dX9_keep_7 : decode cX9_keep 7 = .ok (.iload_n 2, 1) := by decide +kernel
theorem dX9_keep_8 : decode cX9_keep 8 = .ok (.iconst 0, 1) := by decide +kernel
theorem dX9_keep_9 : decode cX9_keep 9 = .ok (.iconst 1, 1) := by decide +kernel
theorem dX9_keep_10 : decode cX9_keep 10 = .ok (.invokestatic 112, 3) := by decide +kernel
theorem dX9_keep_13 : decode cX9_keep 13 = .ok (.ifCond .ne 5, 3) := by decide +kernel
theorem dX9_keep_16 : decode cX9_keep 16 = .ok (.iconst (-1), 1) := by decide +kernel
theorem dX9_keep_17 : decode cX9_keep 17 = .ok (.ireturn, 1) := by decide +kernel
theorem dX9_keep_18 : decode cX9_keep 18 = .ok (.iload_n 2, 1) := by decide +kernel
theorem dX9_keep_19 : decode cX9_keep 19 = .ok (.ifCond .ne 14, 3) := by decide +kernel
theorem dX9_keep_22 : decode cX9_keep 22 = .ok (.aload_n 0, 1) := by decide +kernel
theorem dX9_keep_23 : decode cX9_keep 23 = .ok (.getfield 24, 3) := by decide +kernel
theorem dX9_keep_26 : decode cX9_keep 26 = .ok (.iload_n 1, 1) := by decide +kernel
theorem dX9_keep_27 : decode cX9_keep 27 = .ok (.aaload, 1) := by decide +kernel
theorem dX9_keep_28 : decode cX9_keep 28 = .ok (.invokevirtual 300, 3) := by decide +kernel
theorem dX9_keep_31 : decode cX9_keep 31 = .ok (.iconst 0, 1) := by decide +kernel
theorem dX9_keep_32 : decode cX9_keep 32 = .ok (.ireturn, 1) := by decide +kernel
theorem dX9_keep_33 : decode cX9_keep 33 = .ok (.iload_n 3, 1) := by decide +kernel
theorem dX9_keep_34 : decode cX9_keep 34 = .ok (.iconst 0, 1) := by decide +kernel
theorem dX9_keep_35 : decode cX9_keep 35 = .ok (.bipush 7, 2) := by decide +kernel
theorem dX9_keep_37 : decode cX9_keep 37 = .ok (.invokestatic 112, 3) := by decide +kernel
theorem dX9_keep_40 : decode cX9_keep 40 = .ok (.ifCond .eq 14, 3) := by decide +kernel
theorem dX9_keep_43 : decode cX9_keep 43 = .ok (.iload 4, 2) := by decide +kernel
theorem dX9_keep_45 : decode cX9_keep 45 = .ok (.iconst 0, 1) := by decide +kernel
theorem dX9_keep_46 : decode cX9_keep 46 = .ok (.bipush 9, 2) := by decide +kernel
theorem dX9_keep_48 : decode cX9_keep 48 = .ok (.invokestatic 112, 3) := by decide +kernel
theorem dX9_keep_51 : decode cX9_keep 51 = .ok (.ifCond .ne 5, 3) := by decide +kernel
theorem dX9_keep_54 : decode cX9_keep 54 = .ok (.iconst (-1), 1) := by decide +kernel
theorem dX9_keep_55 : decode cX9_keep 55 = .ok (.ireturn, 1) := by decide +kernel
theorem dX9_keep_56 : decode cX9_keep 56 = .ok (.aload_n 0, 1) := by decide +kernel
theorem dX9_keep_57 : decode cX9_keep 57 = .ok (.getfield 24, 3) := by decide +kernel
theorem dX9_keep_60 : decode cX9_keep 60 = .ok (.iload_n 1, 1) := by decide +kernel
theorem dX9_keep_61 : decode cX9_keep 61 = .ok (.aaload, 1) := by decide +kernel
theorem dX9_keep_62 : decode cX9_keep 62 = .ok (.iload_n 3, 1) := by decide +kernel
theorem dX9_keep_63 : decode cX9_keep 63 = .ok (.iload 4, 2) := by decide +kernel
theorem dX9_keep_65 : decode cX9_keep 65 = .ok (.invokevirtual 303, 3) := by decide +kernel
theorem dX9_keep_68 : decode cX9_keep 68 = .ok (.iconst 0, 1) := by decide +kernel
theorem dX9_keep_69 : decode cX9_keep 69 = .ok (.ireturn, 1) := by decide +kernel
theorem dX9_row_0 : decode cX9_row 0 = .ok (.iload_n 1, 1) := by decide +kernel
theorem dX9_row_1 : decode cX9_row 1 = .ok (.invokestatic 228, 3) := by decide +kernel
theorem dX9_row_4 : decode cX9_row 4 = .ok (.ifCond .eq 18, 3) := by decide +kernel
theorem dX9_row_7 : decode cX9_row 7 = .ok (.iload_n 2, 1) := by decide +kernel
theorem dX9_row_8 : decode cX9_row 8 = .ok (.iconst 0, 1) := by decide +kernel
theorem dX9_row_9 : decode cX9_row 9 = .ok (.iconst 2, 1) := by decide +kernel
theorem dX9_row_10 : decode cX9_row 10 = .ok (.invokestatic 112, 3) := by decide +kernel
theorem dX9_row_13 : decode cX9_row 13 = .ok (.ifCond .eq 9, 3) := by decide +kernel
theorem dX9_row_16 : decode cX9_row 16 = .ok (.iload_n 3, 1) := by decide +kernel
theorem dX9_row_17 : decode cX9_row 17 = .ok (.bipush 100, 2) := by decide +kernel
theorem dX9_row_19 : decode cX9_row 19 = .ok (.if_icmp .le 5, 3) := by decide +kernel
theorem dX9_row_22 : decode cX9_row 22 = .ok (.iconst (-1), 1) := by decide +kernel
theorem dX9_row_23 : decode cX9_row 23 = .ok (.ireturn, 1) := by decide +kernel
theorem dX9_row_24 : decode cX9_row 24 = .ok (.iload_n 3, 1) := by decide +kernel
theorem dX9_row_25 : decode cX9_row 25 = .ok (.ifCond .ge 6, 3) := by decide +kernel
theorem dX9_row_28 : decode cX9_row 28 = .ok (.bipush (-14), 2) := by decide +kernel
theorem dX9_row_30 : decode cX9_row 30 = .ok (.ireturn, 1) := by decide +kernel
theorem dX9_row_31 : decode cX9_row 31 = .ok (.aload_n 0, 1) := by decide +kernel
theorem dX9_row_32 : decode cX9_row 32 = .ok (.getfield 24, 3) := by decide +kernel
theorem dX9_row_35 : decode cX9_row 35 = .ok (.iload_n 1, 1) := by decide +kernel
theorem dX9_row_36 : decode cX9_row 36 = .ok (.aaload, 1) := by decide +kernel
theorem dX9_row_37 : decode cX9_row 37 = .ok (.iload_n 2, 1) := by decide +kernel
theorem dX9_row_38 : decode cX9_row 38 = .ok (.iload_n 3, 1) := by decide +kernel
theorem dX9_row_39 : decode cX9_row 39 = .ok (.invokevirtual 306, 3) := by decide +kernel
theorem dX9_row_42 : decode cX9_row 42 = .ok (.iconst 0, 1) := by decide +kernel
theorem dX9_row_43 : decode cX9_row 43 = .ok (.ireturn, 1) := by decide +kernel
theorem dX9_put_0 : decode cX9_put 0 = .ok (.aload_n 0, 1) := by decide +kernel
theorem dX9_put_1 : decode cX9_put 1 = .ok (.iload_n 1, 1) := by decide +kernel
theorem dX9_put_2 : decode cX9_put 2 = .ok (.invokevirtual 36, 3) := by decide +kernel
theorem dX9_put_5 : decode cX9_put 5 = .ok (.istore 4, 2) := by decide +kernel
theorem dX9_put_7 : decode cX9_put 7 = .ok (.iload 4, 2) := by decide +kernel
theorem dX9_put_9 : decode cX9_put 9 = .ok (.ifCond .eq 6, 3) := by decide +kernel
theorem dX9_put_12 : decode cX9_put 12 = .ok (.iload 4, 2) := by decide +kernel
theorem dX9_put_14 : decode cX9_put 14 = .ok (.ireturn, 1) := by decide +kernel
theorem dX9_put_15 : decode cX9_put 15 = .ok (.aload_n 0, 1) := by decide +kernel
theorem dX9_put_16 : decode cX9_put 16 = .ok (.getfield 24, 3) := by decide +kernel
theorem dX9_put_19 : decode cX9_put 19 = .ok (.iload_n 1, 1) := by decide +kernel
theorem dX9_put_20 : decode cX9_put 20 = .ok (.aaload, 1) := by decide +kernel
theorem dX9_put_21 : decode cX9_put 21 = .ok (.iload_n 2, 1) := by decide +kernel
theorem dX9_put_22 : decode cX9_put 22 = .ok (.invokevirtual 309, 3) := by decide +kernel
theorem dX9_put_25 : decode cX9_put 25 = .ok (.ifCond .ne 6, 3) := by decide +kernel
theorem dX9_put_28 : decode cX9_put 28 = .ok (.bipush (-13), 2) := by decide +kernel
theorem dX9_put_30 : decode cX9_put 30 = .ok (.ireturn, 1) := by decide +kernel
theorem dX9_put_31 : decode cX9_put 31 = .ok (.aload_n 0, 1) := by decide +kernel
theorem dX9_put_32 : decode cX9_put 32 = .ok (.getfield 24, 3) := by decide +kernel
theorem dX9_put_35 : decode cX9_put 35 = .ok (.iload_n 1, 1) := by decide +kernel
theorem dX9_put_36 : decode cX9_put 36 = .ok (.aaload, 1) := by decide +kernel
theorem dX9_put_37 : decode cX9_put 37 = .ok (.iload_n 2, 1) := by decide +kernel
theorem dX9_put_38 : decode cX9_put 38 = .ok (.iload_n 3, 1) := by decide +kernel
theorem dX9_put_39 : decode cX9_put 39 = .ok (.invokevirtual 312, 3) := by decide +kernel
theorem dX9_put_42 : decode cX9_put 42 = .ok (.iconst 0, 1) := by decide +kernel
theorem dX9_put_43 : decode cX9_put 43 = .ok (.ireturn, 1) := by decide +kernel
theorem dX9_element_0 : decode cX9_element 0 = .ok (.iload_n 1, 1) := by decide +kernel
theorem dX9_element_1 : decode cX9_element 1 = .ok (.invokestatic 228, 3) := by decide +kernel
theorem dX9_element_4 : decode cX9_element 4 = .ok (.ifCond .ne 14, 3) := by decide +kernel
theorem dX9_element_7 : decode cX9_element 7 = .ok (.new 315, 3) := by decide +kernel
theorem dX9_element_10 : decode cX9_element 10 = .ok (.dup, 1) := by decide +kernel
theorem dX9_element_11 : decode cX9_element 11 = .ok (.ldc_w 317, 3) := by decide +kernel
theorem dX9_element_14 : decode cX9_element 14 = .ok (.invokespecial 319, 3) := by decide +kernel
theorem dX9_element_17 : decode cX9_element 17 = .ok (.athrow, 1) := by decide +kernel
theorem dX9_element_18 : decode cX9_element 18 = .ok (.aload_n 0, 1) := by decide +kernel
theorem dX9_element_19 : decode cX9_element 19 = .ok (.iload_n 1, 1) := by decide +kernel
theorem dX9_element_20 : decode cX9_element 20 = .ok (.invokevirtual 36, 3) := by decide +kernel
theorem dX9_element_23 : decode cX9_element 23 = .ok (.ifCond .eq 14, 3) := by decide +kernel
theorem dX9_element_26 : decode cX9_element 26 = .ok (.new 322, 3) := by decide +kernel
theorem dX9_element_29 : decode cX9_element 29 = .ok (.dup, 1) := by decide +kernel
theorem dX9_element_30 : decode cX9_element 30 = .ok (.ldc_w 324, 3) := by decide +kernel
theorem dX9_element_33 : decode cX9_element 33 = .ok (.invokespecial 326, 3) := by decide +kernel
theorem dX9_element_36 : decode cX9_element 36 = .ok (.athrow, 1) := by decide +kernel
theorem dX9_element_37 : decode cX9_element 37 = .ok (.aload_n 0, 1) := by decide +kernel
theorem dX9_element_38 : decode cX9_element 38 = .ok (.getfield 24, 3) := by decide +kernel
theorem dX9_element_41 : decode cX9_element 41 = .ok (.iload_n 1, 1) := by decide +kernel
theorem dX9_element_42 : decode cX9_element 42 = .ok (.aaload, 1) := by decide +kernel
theorem dX9_element_43 : decode cX9_element 43 = .ok (.iload_n 2, 1) := by decide +kernel
theorem dX9_element_44 : decode cX9_element 44 = .ok (.invokevirtual 309, 3) := by decide +kernel
theorem dX9_element_47 : decode cX9_element 47 = .ok (.ifCond .ne 14, 3) := by decide +kernel
theorem dX9_element_50 : decode cX9_element 50 = .ok (.new 322, 3) := by decide +kernel
theorem dX9_element_53 : decode cX9_element 53 = .ok (.dup, 1) := by decide +kernel
theorem dX9_element_54 : decode cX9_element 54 = .ok (.ldc_w 327, 3) := by decide +kernel
theorem dX9_element_57 : decode cX9_element 57 = .ok (.invokespecial 326, 3) := by decide +kernel
theorem dX9_element_60 : decode cX9_element 60 = .ok (.athrow, 1) := by decide +kernel
theorem dX9_element_61 : decode cX9_element 61 = .ok (.aload_n 0, 1) := by decide +kernel
theorem dX9_element_62 : decode cX9_element 62 = .ok (.getfield 24, 3) := by decide +kernel
theorem dX9_element_65 : decode cX9_element 65 = .ok (.iload_n 1, 1) := by decide +kernel
theorem dX9_element_66 : decode cX9_element 66 = .ok (.aaload, 1) := by decide +kernel
theorem dX9_element_67 : decode cX9_element 67 = .ok (.getfield 281, 3) := by decide +kernel
theorem dX9_element_70 : decode cX9_element 70 = .ok (.iload_n 2, 1) := by decide +kernel
theorem dX9_element_71 : decode cX9_element 71 = .ok (.iaload, 1) := by decide +kernel
theorem dX9_element_72 : decode cX9_element 72 = .ok (.i2l, 1) := by decide +kernel
theorem dX9_element_73 : decode cX9_element 73 = .ok (.lreturn, 1) := by decide +kernel
theorem dX9_copy_0 : decode cX9_copy 0 = .ok (.iload_n 1, 1) := by decide +kernel
theorem dX9_copy_1 : decode cX9_copy 1 = .ok (.invokestatic 228, 3) := by decide +kernel
theorem dX9_copy_4 : decode cX9_copy 4 = .ok (.ifCond .eq 10, 3) := by decide +kernel
theorem dX9_copy_7 : decode cX9_copy 7 = .ok (.iload_n 3, 1) := by decide +kernel
theorem dX9_copy_8 : decode cX9_copy 8 = .ok (.invokestatic 228, 3) := by decide +kernel
theorem dX9_copy_11 : decode cX9_copy 11 = .ok (.ifCond .ne 5, 3) := by decide +kernel
theorem dX9_copy_14 : decode cX9_copy 14 = .ok (.iconst (-1), 1) := by decide +kernel
theorem dX9_copy_15 : decode cX9_copy 15 = .ok (.ireturn, 1) := by decide +kernel
theorem dX9_copy_16 : decode cX9_copy 16 = .ok (.aload_n 0, 1) := by decide +kernel
theorem dX9_copy_17 : decode cX9_copy 17 = .ok (.getfield 24, 3) := by decide +kernel
theorem dX9_copy_20 : decode cX9_copy 20 = .ok (.iload_n 1, 1) := by decide +kernel
theorem dX9_copy_21 : decode cX9_copy 21 = .ok (.aaload, 1) := by decide +kernel
theorem dX9_copy_22 : decode cX9_copy 22 = .ok (.astore 6, 2) := by decide +kernel
theorem dX9_copy_24 : decode cX9_copy 24 = .ok (.aload_n 0, 1) := by decide +kernel
theorem dX9_copy_25 : decode cX9_copy 25 = .ok (.getfield 24, 3) := by decide +kernel
theorem dX9_copy_28 : decode cX9_copy 28 = .ok (.iload_n 3, 1) := by decide +kernel
theorem dX9_copy_29 : decode cX9_copy 29 = .ok (.aaload, 1) := by decide +kernel
theorem dX9_copy_30 : decode cX9_copy 30 = .ok (.astore 7, 2) := by decide +kernel
theorem dX9_copy_32 : decode cX9_copy 32 = .ok (.aload 6, 2) := by decide +kernel
theorem dX9_copy_34 : decode cX9_copy 34 = .ok (.getfield 329, 3) := by decide +kernel
theorem dX9_copy_37 : decode cX9_copy 37 = .ok (.ifCond .eq 11, 3) := by decide +kernel
theorem dX9_copy_40 : decode cX9_copy 40 = .ok (.aload 7, 2) := by decide +kernel
theorem dX9_copy_42 : decode cX9_copy 42 = .ok (.getfield 329, 3) := by decide +kernel
theorem dX9_copy_45 : decode cX9_copy 45 = .ok (.ifCond .ne 6, 3) := by decide +kernel
theorem dX9_copy_48 : decode cX9_copy 48 = .ok (.bipush (-11), 2) := by decide +kernel
theorem dX9_copy_50 : decode cX9_copy 50 = .ok (.ireturn, 1) := by decide +kernel
theorem dX9_copy_51 : decode cX9_copy 51 = .ok (.aload 6, 2) := by decide +kernel
theorem dX9_copy_53 : decode cX9_copy 53 = .ok (.getfield 329, 3) := by decide +kernel
theorem dX9_copy_56 : decode cX9_copy 56 = .ok (.iconst 2, 1) := by decide +kernel
theorem dX9_copy_57 : decode cX9_copy 57 = .ok (.if_icmp .ne 25, 3) := by decide +kernel
theorem dX9_copy_60 : decode cX9_copy 60 = .ok (.aload 7, 2) := by decide +kernel
theorem dX9_copy_62 : decode cX9_copy 62 = .ok (.getfield 329, 3) := by decide +kernel
theorem dX9_copy_65 : decode cX9_copy 65 = .ok (.iconst 2, 1) := by decide +kernel
theorem dX9_copy_66 : decode cX9_copy 66 = .ok (.if_icmp .ne 16, 3) := by decide +kernel
theorem dX9_copy_69 : decode cX9_copy 69 = .ok (.aload 6, 2) := by decide +kernel
theorem dX9_copy_71 : decode cX9_copy 71 = .ok (.getfield 40, 3) := by decide +kernel
theorem dX9_copy_74 : decode cX9_copy 74 = .ok (.aload 7, 2) := by decide +kernel
theorem dX9_copy_76 : decode cX9_copy 76 = .ok (.getfield 40, 3) := by decide +kernel
theorem dX9_copy_79 : decode cX9_copy 79 = .ok (.if_icmp .eq 6, 3) := by decide +kernel
theorem dX9_copy_82 : decode cX9_copy 82 = .ok (.bipush (-12), 2) := by decide +kernel
theorem dX9_copy_84 : decode cX9_copy 84 = .ok (.ireturn, 1) := by decide +kernel
theorem dX9_copy_85 : decode cX9_copy 85 = .ok (.aload 6, 2) := by decide +kernel
theorem dX9_copy_87 : decode cX9_copy 87 = .ok (.iload_n 2, 1) := by decide +kernel
theorem dX9_copy_88 : decode cX9_copy 88 = .ok (.iload 5, 2) := by decide +kernel
theorem dX9_copy_90 : decode cX9_copy 90 = .ok (.invokevirtual 332, 3) := by decide +kernel
theorem dX9_copy_93 : decode cX9_copy 93 = .ok (.ifCond .eq 15, 3) := by decide +kernel
theorem dX9_copy_96 : decode cX9_copy 96 = .ok (.aload 7, 2) := by decide +kernel
theorem dX9_copy_98 : decode cX9_copy 98 = .ok (.iload 4, 2) := by decide +kernel
theorem dX9_copy_100 : decode cX9_copy 100 = .ok (.iload 5, 2) := by decide +kernel
theorem dX9_copy_102 : decode cX9_copy 102 = .ok (.invokevirtual 332, 3) := by decide +kernel
theorem dX9_copy_105 : decode cX9_copy 105 = .ok (.ifCond .ne 6, 3) := by decide +kernel
theorem dX9_copy_108 : decode cX9_copy 108 = .ok (.bipush (-13), 2) := by decide +kernel
theorem dX9_copy_110 : decode cX9_copy 110 = .ok (.ireturn, 1) := by decide +kernel
theorem dX9_copy_111 : decode cX9_copy 111 = .ok (.aload 6, 2) := by decide +kernel
theorem dX9_copy_113 : decode cX9_copy 113 = .ok (.getfield 281, 3) := by decide +kernel
theorem dX9_copy_116 : decode cX9_copy 116 = .ok (.iload_n 2, 1) := by decide +kernel
theorem dX9_copy_117 : decode cX9_copy 117 = .ok (.aload 7, 2) := by decide +kernel
theorem dX9_copy_119 : decode cX9_copy 119 = .ok (.getfield 281, 3) := by decide +kernel
theorem dX9_copy_122 : decode cX9_copy 122 = .ok (.iload 4, 2) := by decide +kernel
theorem dX9_copy_124 : decode cX9_copy 124 = .ok (.iload 5, 2) := by decide +kernel
theorem dX9_copy_126 : decode cX9_copy 126 = .ok (.invokestatic 335, 3) := by decide +kernel
theorem dX9_copy_129 : decode cX9_copy 129 = .ok (.iload 5, 2) := by decide +kernel
theorem dX9_copy_131 : decode cX9_copy 131 = .ok (.ireturn, 1) := by decide +kernel
theorem dX9_cost_0 : decode cX9_cost 0 = .ok (.aload_n 0, 1) := by decide +kernel
theorem dX9_cost_1 : decode cX9_cost 1 = .ok (.iload_n 1, 1) := by decide +kernel
theorem dX9_cost_2 : decode cX9_cost 2 = .ok (.invokevirtual 94, 3) := by decide +kernel
theorem dX9_cost_5 : decode cX9_cost 5 = .ok (.istore_n 2, 1) := by decide +kernel
theorem dX9_cost_6 : decode cX9_cost 6 = .ok (.iload_n 2, 1) := by decide +kernel
theorem dX9_cost_7 : decode cX9_cost 7 = .ok (.ifCond .eq 5, 3) := by decide +kernel
theorem dX9_cost_10 : decode cX9_cost 10 = .ok (.iload_n 2, 1) := by decide +kernel
theorem dX9_cost_11 : decode cX9_cost 11 = .ok (.ireturn, 1) := by decide +kernel
theorem dX9_cost_12 : decode cX9_cost 12 = .ok (.aload_n 0, 1) := by decide +kernel
theorem dX9_cost_13 : decode cX9_cost 13 = .ok (.getfield 24, 3) := by decide +kernel
theorem dX9_cost_16 : decode cX9_cost 16 = .ok (.iload_n 1, 1) := by decide +kernel
theorem dX9_cost_17 : decode cX9_cost 17 = .ok (.aaload, 1) := by decide +kernel
theorem dX9_cost_18 : decode cX9_cost 18 = .ok (.getfield 101, 3) := by decide +kernel
theorem dX9_cost_21 : decode cX9_cost 21 = .ok (.aload_n 0, 1) := by decide +kernel
theorem dX9_cost_22 : decode cX9_cost 22 = .ok (.getfield 24, 3) := by decide +kernel
theorem dX9_cost_25 : decode cX9_cost 25 = .ok (.iload_n 1, 1) := by decide +kernel
theorem dX9_cost_26 : decode cX9_cost 26 = .ok (.aaload, 1) := by decide +kernel
theorem dX9_cost_27 : decode cX9_cost 27 = .ok (.getfield 103, 3) := by decide +kernel
theorem dX9_cost_30 : decode cX9_cost 30 = .ok (.invokestatic 341, 3) := by decide +kernel
theorem dX9_cost_33 : decode cX9_cost 33 = .ok (.ireturn, 1) := by decide +kernel
theorem dX9_toss_0 : decode cX9_toss 0 = .ok (.aload_n 0, 1) := by decide +kernel
theorem dX9_toss_1 : decode cX9_toss 1 = .ok (.iload_n 1, 1) := by decide +kernel
theorem dX9_toss_2 : decode cX9_toss 2 = .ok (.invokevirtual 94, 3) := by decide +kernel
theorem dX9_toss_5 : decode cX9_toss 5 = .ok (.istore_n 2, 1) := by decide +kernel
theorem dX9_toss_6 : decode cX9_toss 6 = .ok (.iload_n 2, 1) := by decide +kernel
theorem dX9_toss_7 : decode cX9_toss 7 = .ok (.ifCond .eq 5, 3) := by decide +kernel
theorem dX9_toss_10 : decode cX9_toss 10 = .ok (.iload_n 2, 1) := by decide +kernel
theorem dX9_toss_11 : decode cX9_toss 11 = .ok (.ireturn, 1) := by decide +kernel
theorem dX9_toss_12 : decode cX9_toss 12 = .ok (.aload_n 0, 1) := by decide +kernel
theorem dX9_toss_13 : decode cX9_toss 13 = .ok (.getfield 24, 3) := by decide +kernel
theorem dX9_toss_16 : decode cX9_toss 16 = .ok (.iload_n 1, 1) := by decide +kernel
theorem dX9_toss_17 : decode cX9_toss 17 = .ok (.aaload, 1) := by decide +kernel
theorem dX9_toss_18 : decode cX9_toss 18 = .ok (.getfield 101, 3) := by decide +kernel
theorem dX9_toss_21 : decode cX9_toss 21 = .ok (.aload_n 0, 1) := by decide +kernel
theorem dX9_toss_22 : decode cX9_toss 22 = .ok (.getfield 24, 3) := by decide +kernel
theorem dX9_toss_25 : decode cX9_toss 25 = .ok (.iload_n 1, 1) := by decide +kernel
theorem dX9_toss_26 : decode cX9_toss 26 = .ok (.aaload, 1) := by decide +kernel
theorem dX9_toss_27 : decode cX9_toss 27 = .ok (.getfield 103, 3) := by decide +kernel
theorem dX9_toss_30 : decode cX9_toss 30 = .ok (.invokestatic 344, 3) := by decide +kernel
theorem dX9_toss_33 : decode cX9_toss 33 = .ok (.ireturn, 1) := by decide +kernel
theorem dX9_within_0 : decode cX9_within 0 = .ok (.iload_n 0, 1) := by decide +kernel
theorem dX9_within_1 : decode cX9_within 1 = .ok (.iload_n 1, 1) := by decide +kernel
theorem dX9_within_2 : decode cX9_within 2 = .ok (.if_icmp .lt 12, 3) := by decide +kernel
theorem dX9_within_5 : decode cX9_within 5 = .ok (.iload_n 0, 1) := by decide +kernel
theorem dX9_within_6 : decode cX9_within 6 = .ok (.iload_n 2, 1) := by decide +kernel
theorem dX9_within_7 : decode cX9_within 7 = .ok (.if_icmp .gt 7, 3) := by decide +kernel
theorem dX9_within_10 : decode cX9_within 10 = .ok (.iconst 1, 1) := by decide +kernel
theorem dX9_within_11 : decode cX9_within 11 = .ok (.goto 4, 3) := by decide +kernel
theorem dX9_within_14 : decode cX9_within 14 = .ok (.iconst 0, 1) := by decide +kernel
theorem dX9_within_15 : decode cX9_within 15 = .ok (.ireturn, 1) := by decide +kernel
theorem dX9_isPart_0 : decode cX9_isPart 0 = .ok (.iload_n 0, 1) := by decide +kernel
theorem dX9_isPart_1 : decode cX9_isPart 1 = .ok (.iconst 0, 1) := by decide +kernel
theorem dX9_isPart_2 : decode cX9_isPart 2 = .ok (.iconst 1, 1) := by decide +kernel
theorem dX9_isPart_3 : decode cX9_isPart 3 = .ok (.invokestatic 112, 3) := by decide +kernel
theorem dX9_isPart_6 : decode cX9_isPart 6 = .ok (.ireturn, 1) := by decide +kernel
theorem dX9_isShelf_0 : decode cX9_isShelf 0 = .ok (.iload_n 0, 1) := by decide +kernel
theorem dX9_isShelf_1 : decode cX9_isShelf 1 = .ok (.iconst 0, 1) := by decide +kernel
theorem dX9_isShelf_2 : decode cX9_isShelf 2 = .ok (.bipush 7, 2) := by decide +kernel
theorem dX9_isShelf_4 : decode cX9_isShelf 4 = .ok (.invokestatic 112, 3) := by decide +kernel
theorem dX9_isShelf_7 : decode cX9_isShelf 7 = .ok (.ireturn, 1) := by decide +kernel
theorem dX9_bit_0 : decode cX9_bit 0 = .ok (.iload_n 0, 1) := by decide +kernel
theorem dX9_bit_1 : decode cX9_bit 1 = .ok (.ifCond .eq 7, 3) := by decide +kernel
theorem dX9_bit_4 : decode cX9_bit 4 = .ok (.iconst 1, 1) := by decide +kernel
theorem dX9_bit_5 : decode cX9_bit 5 = .ok (.goto 4, 3) := by decide +kernel
theorem dX9_bit_8 : decode cX9_bit 8 = .ok (.iconst 0, 1) := by decide +kernel
theorem dX9_bit_9 : decode cX9_bit 9 = .ok (.ireturn, 1) := by decide +kernel
theorem dX9_longRefusal_0 : decode cX9_longRefusal 0 = .ok (.ldc2_w 347, 3) := by decide +kernel
theorem dX9_longRefusal_3 : decode cX9_longRefusal 3 = .ok (.iload_n 0, 1) := by decide +kernel
theorem dX9_longRefusal_4 : decode cX9_longRefusal 4 = .ok (.i2l, 1) := by decide +kernel
theorem dX9_longRefusal_5 : decode cX9_longRefusal 5 = .ok (.lsub, 1) := by decide +kernel
theorem dX9_longRefusal_6 : decode cX9_longRefusal 6 = .ok (.lreturn, 1) := by decide +kernel
theorem dX9_rowRefusal_0 : decode cX9_rowRefusal 0 = .ok (.iload_n 1, 1) := by decide +kernel
theorem dX9_rowRefusal_1 : decode cX9_rowRefusal 1 = .ok (.invokestatic 228, 3) := by decide +kernel
theorem dX9_rowRefusal_4 : decode cX9_rowRefusal 4 = .ok (.ifCond .ne 5, 3) := by decide +kernel
theorem dX9_rowRefusal_7 : decode cX9_rowRefusal 7 = .ok (.iconst (-1), 1) := by decide +kernel
theorem dX9_rowRefusal_8 : decode cX9_rowRefusal 8 = .ok (.ireturn, 1) := by decide +kernel
theorem dX9_rowRefusal_9 : decode cX9_rowRefusal 9 = .ok (.aload_n 0, 1) := by decide +kernel
theorem dX9_rowRefusal_10 : decode cX9_rowRefusal 10 = .ok (.getfield 24, 3) := by decide +kernel
theorem dX9_rowRefusal_13 : decode cX9_rowRefusal 13 = .ok (.iload_n 1, 1) := by decide +kernel
theorem dX9_rowRefusal_14 : decode cX9_rowRefusal 14 = .ok (.aaload, 1) := by decide +kernel
theorem dX9_rowRefusal_15 : decode cX9_rowRefusal 15 = .ok (.getfield 329, 3) := by decide +kernel
theorem dX9_rowRefusal_18 : decode cX9_rowRefusal 18 = .ok (.ifCond .ne 6, 3) := by decide +kernel
theorem dX9_rowRefusal_21 : decode cX9_rowRefusal 21 = .ok (.bipush (-11), 2) := by decide +kernel
theorem dX9_rowRefusal_23 : decode cX9_rowRefusal 23 = .ok (.ireturn, 1) := by decide +kernel
theorem dX9_rowRefusal_24 : decode cX9_rowRefusal 24 = .ok (.aload_n 0, 1) := by decide +kernel
theorem dX9_rowRefusal_25 : decode cX9_rowRefusal 25 = .ok (.getfield 24, 3) := by decide +kernel
theorem dX9_rowRefusal_28 : decode cX9_rowRefusal 28 = .ok (.iload_n 1, 1) := by decide +kernel
theorem dX9_rowRefusal_29 : decode cX9_rowRefusal 29 = .ok (.aaload, 1) := by decide +kernel
theorem dX9_rowRefusal_30 : decode cX9_rowRefusal 30 = .ok (.getfield 329, 3) := by decide +kernel
theorem dX9_rowRefusal_33 : decode cX9_rowRefusal 33 = .ok (.iconst 2, 1) := by decide +kernel
theorem dX9_rowRefusal_34 : decode cX9_rowRefusal 34 = .ok (.if_icmp .ne 7, 3) := by decide +kernel
theorem dX9_rowRefusal_37 : decode cX9_rowRefusal 37 = .ok (.iconst 0, 1) := by decide +kernel
theorem dX9_rowRefusal_38 : decode cX9_rowRefusal 38 = .ok (.goto 5, 3) := by decide +kernel
theorem dX9_rowRefusal_41 : decode cX9_rowRefusal 41 = .ok (.bipush (-12), 2) := by decide +kernel
theorem dX9_rowRefusal_43 : decode cX9_rowRefusal 43 = .ok (.ireturn, 1) := by decide +kernel
theorem dX9_bulbRefusal_0 : decode cX9_bulbRefusal 0 = .ok (.iload_n 1, 1) := by decide +kernel
theorem dX9_bulbRefusal_1 : decode cX9_bulbRefusal 1 = .ok (.invokestatic 228, 3) := by decide +kernel
theorem dX9_bulbRefusal_4 : decode cX9_bulbRefusal 4 = .ok (.ifCond .ne 5, 3) := by decide +kernel
theorem dX9_bulbRefusal_7 : decode cX9_bulbRefusal 7 = .ok (.iconst (-1), 1) := by decide +kernel
theorem dX9_bulbRefusal_8 : decode cX9_bulbRefusal 8 = .ok (.ireturn, 1) := by decide +kernel
theorem dX9_bulbRefusal_9 : decode cX9_bulbRefusal 9 = .ok (.aload_n 0, 1) := by decide +kernel
theorem dX9_bulbRefusal_10 : decode cX9_bulbRefusal 10 = .ok (.getfield 24, 3) := by decide +kernel
theorem dX9_bulbRefusal_13 : decode cX9_bulbRefusal 13 = .ok (.iload_n 1, 1) := by decide +kernel
theorem dX9_bulbRefusal_14 : decode cX9_bulbRefusal 14 = .ok (.aaload, 1) := by decide +kernel
theorem dX9_bulbRefusal_15 : decode cX9_bulbRefusal 15 = .ok (.getfield 329, 3) := by decide +kernel
theorem dX9_bulbRefusal_18 : decode cX9_bulbRefusal 18 = .ok (.ifCond .ne 6, 3) := by decide +kernel
theorem dX9_bulbRefusal_21 : decode cX9_bulbRefusal 21 = .ok (.bipush (-11), 2) := by decide +kernel
theorem dX9_bulbRefusal_23 : decode cX9_bulbRefusal 23 = .ok (.ireturn, 1) := by decide +kernel
theorem dX9_bulbRefusal_24 : decode cX9_bulbRefusal 24 = .ok (.aload_n 0, 1) := by decide +kernel
theorem dX9_bulbRefusal_25 : decode cX9_bulbRefusal 25 = .ok (.getfield 24, 3) := by decide +kernel
theorem dX9_bulbRefusal_28 : decode cX9_bulbRefusal 28 = .ok (.iload_n 1, 1) := by decide +kernel
theorem dX9_bulbRefusal_29 : decode cX9_bulbRefusal 29 = .ok (.aaload, 1) := by decide +kernel
theorem dX9_bulbRefusal_30 : decode cX9_bulbRefusal 30 = .ok (.getfield 329, 3) := by decide +kernel
theorem dX9_bulbRefusal_33 : decode cX9_bulbRefusal 33 = .ok (.iconst 1, 1) := by decide +kernel
theorem dX9_bulbRefusal_34 : decode cX9_bulbRefusal 34 = .ok (.if_icmp .ne 7, 3) := by decide +kernel
theorem dX9_bulbRefusal_37 : decode cX9_bulbRefusal 37 = .ok (.iconst 0, 1) := by decide +kernel
theorem dX9_bulbRefusal_38 : decode cX9_bulbRefusal 38 = .ok (.goto 5, 3) := by decide +kernel
theorem dX9_bulbRefusal_41 : decode cX9_bulbRefusal 41 = .ok (.bipush (-12), 2) := by decide +kernel
theorem dX9_bulbRefusal_43 : decode cX9_bulbRefusal 43 = .ok (.ireturn, 1) := by decide +kernel
theorem dX9_lightOfCut_0 : decode cX9_lightOfCut 0 = .ok (.aload_n 0, 1) := by decide +kernel
theorem dX9_lightOfCut_1 : decode cX9_lightOfCut 1 = .ok (.getfield 16, 3) := by decide +kernel
theorem dX9_lightOfCut_4 : decode cX9_lightOfCut 4 = .ok (.aload_n 0, 1) := by decide +kernel
theorem dX9_lightOfCut_5 : decode cX9_lightOfCut 5 = .ok (.getfield 10, 3) := by decide +kernel
theorem dX9_lightOfCut_8 : decode cX9_lightOfCut 8 = .ok (.invokevirtual 44, 3) := by decide +kernel
theorem dX9_lightOfCut_11 : decode cX9_lightOfCut 11 = .ok (.iconst 0, 1) := by decide +kernel
theorem dX9_lightOfCut_12 : decode cX9_lightOfCut 12 = .ok (.istore_n 3, 1) := by decide +kernel
theorem dX9_lightOfCut_13 : decode cX9_lightOfCut 13 = .ok (.iconst 0, 1) := by decide +kernel
theorem dX9_lightOfCut_14 : decode cX9_lightOfCut 14 = .ok (.istore 4, 2) := by decide +kernel
theorem dX9_lightOfCut_16 : decode cX9_lightOfCut 16 = .ok (.iload 4, 2) := by decide +kernel
theorem dX9_lightOfCut_18 : decode cX9_lightOfCut 18 = .ok (.iload_n 2, 1) := by decide +kernel
theorem dX9_lightOfCut_19 : decode cX9_lightOfCut 19 = .ok (.if_icmp .ge 20, 3) := by decide +kernel
theorem dX9_lightOfCut_22 : decode cX9_lightOfCut 22 = .ok (.iload_n 3, 1) := by decide +kernel
theorem dX9_lightOfCut_23 : decode cX9_lightOfCut 23 = .ok (.aload_n 0, 1) := by decide +kernel
theorem dX9_lightOfCut_24 : decode cX9_lightOfCut 24 = .ok (.getfield 16, 3) := by decide +kernel
theorem dX9_lightOfCut_27 : decode cX9_lightOfCut 27 = .ok (.iload_n 1, 1) := by decide +kernel
theorem dX9_lightOfCut_28 : decode cX9_lightOfCut 28 = .ok (.invokevirtual 349, 3) := by decide +kernel
theorem dX9_lightOfCut_31 : decode cX9_lightOfCut 31 = .ok (.iadd, 1) := by decide +kernel
theorem dX9_lightOfCut_32 : decode cX9_lightOfCut 32 = .ok (.istore_n 3, 1) := by decide +kernel
theorem dX9_lightOfCut_33 : decode cX9_lightOfCut 33 = .ok (.iinc 4 1, 3) := by decide +kernel
theorem dX9_lightOfCut_36 : decode cX9_lightOfCut 36 = .ok (.goto (-20), 3) := by decide +kernel
theorem dX9_lightOfCut_39 : decode cX9_lightOfCut 39 = .ok (.iload_n 3, 1) := by decide +kernel
theorem dX9_lightOfCut_40 : decode cX9_lightOfCut 40 = .ok (.ireturn, 1) := by decide +kernel
theorem dX9_sortsByRow_0 : decode cX9_sortsByRow 0 = .ok (.iconst 0, 1) := by decide +kernel
theorem dX9_sortsByRow_1 : decode cX9_sortsByRow 1 = .ok (.istore_n 3, 1) := by decide +kernel
theorem dX9_sortsByRow_2 : decode cX9_sortsByRow 2 = .ok (.iconst 0, 1) := by decide +kernel
theorem dX9_sortsByRow_3 : decode cX9_sortsByRow 3 = .ok (.istore 4, 2) := by decide +kernel
theorem dX9_sortsByRow_5 : decode cX9_sortsByRow 5 = .ok (.iload 4, 2) := by decide +kernel
theorem dX9_sortsByRow_7 : decode cX9_sortsByRow 7 = .ok (.bipush 7, 2) := by decide +kernel
theorem dX9_sortsByRow_9 : decode cX9_sortsByRow 9 = .ok (.if_icmp .gt 51, 3) := by decide +kernel
theorem dX9_sortsByRow_12 : decode cX9_sortsByRow 12 = .ok (.aload_n 0, 1) := by decide +kernel
theorem dX9_sortsByRow_13 : decode cX9_sortsByRow 13 = .ok (.getfield 16, 3) := by decide +kernel
theorem dX9_sortsByRow_16 : decode cX9_sortsByRow 16 = .ok (.aload_n 0, 1) := by decide +kernel
theorem dX9_sortsByRow_17 : decode cX9_sortsByRow 17 = .ok (.getfield 10, 3) := by decide +kernel
theorem dX9_sortsByRow_20 : decode cX9_sortsByRow 20 = .ok (.invokevirtual 44, 3) := by decide +kernel
theorem dX9_sortsByRow_23 : decode cX9_sortsByRow 23 = .ok (.aload_n 0, 1) := by decide +kernel
theorem dX9_sortsByRow_24 : decode cX9_sortsByRow 24 = .ok (.getfield 16, 3) := by decide +kernel
theorem dX9_sortsByRow_27 : decode cX9_sortsByRow 27 = .ok (.getfield 58, 3) := by decide +kernel
theorem dX9_sortsByRow_30 : decode cX9_sortsByRow 30 = .ok (.iload_n 2, 1) := by decide +kernel
theorem dX9_sortsByRow_31 : decode cX9_sortsByRow 31 = .ok (.iload 4, 2) := by decide +kernel
theorem dX9_sortsByRow_33 : decode cX9_sortsByRow 33 = .ok (.iastore, 1) := by decide +kernel
theorem dX9_sortsByRow_34 : decode cX9_sortsByRow 34 = .ok (.aload_n 0, 1) := by decide +kernel
theorem dX9_sortsByRow_35 : decode cX9_sortsByRow 35 = .ok (.getfield 16, 3) := by decide +kernel
theorem dX9_sortsByRow_38 : decode cX9_sortsByRow 38 = .ok (.iload_n 2, 1) := by decide +kernel
theorem dX9_sortsByRow_39 : decode cX9_sortsByRow 39 = .ok (.aload_n 1, 1) := by decide +kernel
theorem dX9_sortsByRow_40 : decode cX9_sortsByRow 40 = .ok (.iconst 0, 1) := by decide +kernel
theorem dX9_sortsByRow_41 : decode cX9_sortsByRow 41 = .ok (.invokestatic 267, 3) := by decide +kernel
theorem dX9_sortsByRow_44 : decode cX9_sortsByRow 44 = .ok (.ifCond .eq 10, 3) := by decide +kernel
theorem dX9_sortsByRow_47 : decode cX9_sortsByRow 47 = .ok (.iload_n 3, 1) := by decide +kernel
theorem dX9_sortsByRow_48 : decode cX9_sortsByRow 48 = .ok (.iconst 1, 1) := by decide +kernel
theorem dX9_sortsByRow_49 : decode cX9_sortsByRow 49 = .ok (.iload 4, 2) := by decide +kernel
theorem dX9_sortsByRow_51 : decode cX9_sortsByRow 51 = .ok (.ishl, 1) := by decide +kernel
theorem dX9_sortsByRow_52 : decode cX9_sortsByRow 52 = .ok (.ior, 1) := by decide +kernel
theorem dX9_sortsByRow_53 : decode cX9_sortsByRow 53 = .ok (.istore_n 3, 1) := by decide +kernel
theorem dX9_sortsByRow_54 : decode cX9_sortsByRow 54 = .ok (.iinc 4 1, 3) := by decide +kernel
theorem dX9_sortsByRow_57 : decode cX9_sortsByRow 57 = .ok (.goto (-52), 3) := by decide +kernel
theorem dX9_sortsByRow_60 : decode cX9_sortsByRow 60 = .ok (.iload_n 3, 1) := by decide +kernel
theorem dX9_sortsByRow_61 : decode cX9_sortsByRow 61 = .ok (.ireturn, 1) := by decide +kernel
theorem dX9_figuresByRow_0 : decode cX9_figuresByRow 0 = .ok (.iconst 0, 1) := by decide +kernel
theorem dX9_figuresByRow_1 : decode cX9_figuresByRow 1 = .ok (.istore_n 3, 1) := by decide +kernel
theorem dX9_figuresByRow_2 : decode cX9_figuresByRow 2 = .ok (.iconst 0, 1) := by decide +kernel
theorem dX9_figuresByRow_3 : decode cX9_figuresByRow 3 = .ok (.istore 4, 2) := by decide +kernel
theorem dX9_figuresByRow_5 : decode cX9_figuresByRow 5 = .ok (.iload 4, 2) := by decide +kernel
theorem dX9_figuresByRow_7 : decode cX9_figuresByRow 7 = .ok (.bipush 9, 2) := by decide +kernel
theorem dX9_figuresByRow_9 : decode cX9_figuresByRow 9 = .ok (.if_icmp .gt 51, 3) := by decide +kernel
theorem dX9_figuresByRow_12 : decode cX9_figuresByRow 12 = .ok (.aload_n 0, 1) := by decide +kernel
theorem dX9_figuresByRow_13 : decode cX9_figuresByRow 13 = .ok (.getfield 16, 3) := by decide +kernel
theorem dX9_figuresByRow_16 : decode cX9_figuresByRow 16 = .ok (.aload_n 0, 1) := by decide +kernel
theorem dX9_figuresByRow_17 : decode cX9_figuresByRow 17 = .ok (.getfield 10, 3) := by decide +kernel
theorem dX9_figuresByRow_20 : decode cX9_figuresByRow 20 = .ok (.invokevirtual 44, 3) := by decide +kernel
theorem dX9_figuresByRow_23 : decode cX9_figuresByRow 23 = .ok (.aload_n 0, 1) := by decide +kernel
theorem dX9_figuresByRow_24 : decode cX9_figuresByRow 24 = .ok (.getfield 16, 3) := by decide +kernel
theorem dX9_figuresByRow_27 : decode cX9_figuresByRow 27 = .ok (.getfield 62, 3) := by decide +kernel
theorem dX9_figuresByRow_30 : decode cX9_figuresByRow 30 = .ok (.iload_n 2, 1) := by decide +kernel
theorem dX9_figuresByRow_31 : decode cX9_figuresByRow 31 = .ok (.iload 4, 2) := by decide +kernel
theorem dX9_figuresByRow_33 : decode cX9_figuresByRow 33 = .ok (.iastore, 1) := by decide +kernel
theorem dX9_figuresByRow_34 : decode cX9_figuresByRow 34 = .ok (.aload_n 0, 1) := by decide +kernel
theorem dX9_figuresByRow_35 : decode cX9_figuresByRow 35 = .ok (.getfield 16, 3) := by decide +kernel
theorem dX9_figuresByRow_38 : decode cX9_figuresByRow 38 = .ok (.iload_n 2, 1) := by decide +kernel
theorem dX9_figuresByRow_39 : decode cX9_figuresByRow 39 = .ok (.aload_n 1, 1) := by decide +kernel
theorem dX9_figuresByRow_40 : decode cX9_figuresByRow 40 = .ok (.iconst 0, 1) := by decide +kernel
theorem dX9_figuresByRow_41 : decode cX9_figuresByRow 41 = .ok (.invokestatic 267, 3) := by decide +kernel
theorem dX9_figuresByRow_44 : decode cX9_figuresByRow 44 = .ok (.ifCond .eq 10, 3) := by decide +kernel
theorem dX9_figuresByRow_47 : decode cX9_figuresByRow 47 = .ok (.iload_n 3, 1) := by decide +kernel
theorem dX9_figuresByRow_48 : decode cX9_figuresByRow 48 = .ok (.iconst 1, 1) := by decide +kernel
theorem dX9_figuresByRow_49 : decode cX9_figuresByRow 49 = .ok (.iload 4, 2) := by decide +kernel
theorem dX9_figuresByRow_51 : decode cX9_figuresByRow 51 = .ok (.ishl, 1) := by decide +kernel
theorem dX9_figuresByRow_52 : decode cX9_figuresByRow 52 = .ok (.ior, 1) := by decide +kernel
theorem dX9_figuresByRow_53 : decode cX9_figuresByRow 53 = .ok (.istore_n 3, 1) := by decide +kernel
theorem dX9_figuresByRow_54 : decode cX9_figuresByRow 54 = .ok (.iinc 4 1, 3) := by decide +kernel
theorem dX9_figuresByRow_57 : decode cX9_figuresByRow 57 = .ok (.goto (-52), 3) := by decide +kernel
theorem dX9_figuresByRow_60 : decode cX9_figuresByRow 60 = .ok (.iload_n 3, 1) := by decide +kernel
theorem dX9_figuresByRow_61 : decode cX9_figuresByRow 61 = .ok (.ireturn, 1) := by decide +kernel
theorem dX10_init_0 : decode cX10_init 0 = .ok (.aload_n 0, 1) := by decide +kernel
theorem dX10_init_1 : decode cX10_init 1 = .ok (.invokespecial 1, 3) := by decide +kernel
theorem dX10_init_4 : decode cX10_init 4 = .ok (.aload_n 0, 1) := by decide +kernel
theorem dX10_init_5 : decode cX10_init 5 = .ok (.bipush 10, 2) := by decide +kernel
theorem dX10_init_7 : decode cX10_init 7 = .ok (.newarray .int, 2) := by decide +kernel
theorem dX10_init_9 : decode cX10_init 9 = .ok (.putfield 7, 3) := by decide +kernel
theorem dX10_init_12 : decode cX10_init 12 = .ok (.aload_n 0, 1) := by decide +kernel
theorem dX10_init_13 : decode cX10_init 13 = .ok (.bipush 10, 2) := by decide +kernel
theorem dX10_init_15 : decode cX10_init 15 = .ok (.newarray .int, 2) := by decide +kernel
theorem dX10_init_17 : decode cX10_init 17 = .ok (.putfield 13, 3) := by decide +kernel
theorem dX10_init_20 : decode cX10_init 20 = .ok (.aload_n 0, 1) := by decide +kernel
theorem dX10_init_21 : decode cX10_init 21 = .ok (.bipush 10, 2) := by decide +kernel
theorem dX10_init_23 : decode cX10_init 23 = .ok (.newarray .int, 2) := by decide +kernel
theorem dX10_init_25 : decode cX10_init 25 = .ok (.putfield 16, 3) := by decide +kernel
theorem dX10_init_28 : decode cX10_init 28 = .ok (.aload_n 0, 1) := by decide +kernel
theorem dX10_init_29 : decode cX10_init 29 = .ok (.iconst 1, 1) := by decide +kernel
theorem dX10_init_30 : decode cX10_init 30 = .ok (.putfield 19, 3) := by decide +kernel
theorem dX10_init_33 : decode cX10_init 33 = .ok (.aload_n 0, 1) := by decide +kernel
theorem dX10_init_34 : decode cX10_init 34 = .ok (.iconst 1, 1) := by decide +kernel
theorem dX10_init_35 : decode cX10_init 35 = .ok (.putfield 23, 3) := by decide +kernel
theorem dX10_init_38 : decode cX10_init 38 = .ok (.aload_n 0, 1) := by decide +kernel
theorem dX10_init_39 : decode cX10_init 39 = .ok (.bipush 8, 2) := by decide +kernel
theorem dX10_init_41 : decode cX10_init 41 = .ok (.newarray .int, 2) := by decide +kernel
theorem dX10_init_43 : decode cX10_init 43 = .ok (.putfield 26, 3) := by decide +kernel
theorem dX10_init_46 : decode cX10_init 46 = .ok (.aload_n 0, 1) := by decide +kernel
theorem dX10_init_47 : decode cX10_init 47 = .ok (.bipush 8, 2) := by decide +kernel
theorem dX10_init_49 : decode cX10_init 49 = .ok (.newarray .int, 2) := by decide +kernel
theorem dX10_init_51 : decode cX10_init 51 = .ok (.putfield 29, 3) := by decide +kernel
theorem dX10_init_54 : decode cX10_init 54 = .ok (.aload_n 0, 1) := by decide +kernel
theorem dX10_init_55 : decode cX10_init 55 = .ok (.bipush 8, 2) := by decide +kernel
theorem dX10_init_57 : decode cX10_init 57 = .ok (.newarray .int, 2) := by decide +kernel
theorem dX10_init_59 : decode cX10_init 59 = .ok (.putfield 32, 3) := by decide +kernel
theorem dX10_init_62 : decode cX10_init 62 = .ok (.aload_n 0, 1) := by decide +kernel
theorem dX10_init_63 : decode cX10_init 63 = .ok (.bipush 8, 2) := by decide +kernel
theorem dX10_init_65 : decode cX10_init 65 = .ok (.newarray .int, 2) := by decide +kernel
theorem dX10_init_67 : decode cX10_init 67 = .ok (.putfield 35, 3) := by decide +kernel
theorem dX10_init_70 : decode cX10_init 70 = .ok (.aload_n 0, 1) := by decide +kernel
theorem dX10_init_71 : decode cX10_init 71 = .ok (.bipush 8, 2) := by decide +kernel
theorem dX10_init_73 : decode cX10_init 73 = .ok (.newarray .int, 2) := by decide +kernel
theorem dX10_init_75 : decode cX10_init 75 = .ok (.putfield 38, 3) := by decide +kernel
theorem dX10_init_78 : decode cX10_init 78 = .ok (.aload_n 0, 1) := by decide +kernel
theorem dX10_init_79 : decode cX10_init 79 = .ok (.sipush 800, 3) := by decide +kernel
theorem dX10_init_82 : decode cX10_init 82 = .ok (.newarray .long, 2) := by decide +kernel
theorem dX10_init_84 : decode cX10_init 84 = .ok (.putfield 41, 3) := by decide +kernel
theorem dX10_init_87 : decode cX10_init 87 = .ok (.aload_n 0, 1) := by decide +kernel
theorem dX10_init_88 : decode cX10_init 88 = .ok (.bipush 51, 2) := by decide +kernel
theorem dX10_init_90 : decode cX10_init 90 = .ok (.newarray .int, 2) := by decide +kernel
theorem dX10_init_92 : decode cX10_init 92 = .ok (.putfield 45, 3) := by decide +kernel
theorem dX10_init_95 : decode cX10_init 95 = .ok (.aload_n 0, 1) := by decide +kernel
theorem dX10_init_96 : decode cX10_init 96 = .ok (.bipush 51, 2) := by decide +kernel
theorem dX10_init_98 : decode cX10_init 98 = .ok (.newarray .int, 2) := by decide +kernel
theorem dX10_init_100 : decode cX10_init 100 = .ok (.putfield 48, 3) := by decide +kernel
theorem dX10_init_103 : decode cX10_init 103 = .ok (.aload_n 0, 1) := by decide +kernel
theorem dX10_init_104 : decode cX10_init 104 = .ok (.sipush 153, 3) := by decide +kernel
theorem dX10_init_107 : decode cX10_init 107 = .ok (.newarray .int, 2) := by decide +kernel
theorem dX10_init_109 : decode cX10_init 109 = .ok (.putfield 51, 3) := by decide +kernel
theorem dX10_init_112 : decode cX10_init 112 = .ok (.aload_n 0, 1) := by decide +kernel
theorem dX10_init_113 : decode cX10_init 113 = .ok (.bipush 38, 2) := by decide +kernel
theorem dX10_init_115 : decode cX10_init 115 = .ok (.newarray .int, 2) := by decide +kernel
theorem dX10_init_117 : decode cX10_init 117 = .ok (.putfield 54, 3) := by decide +kernel
theorem dX10_init_120 : decode cX10_init 120 = .ok (.aload_n 0, 1) := by decide +kernel
theorem dX10_init_121 : decode cX10_init 121 = .ok (.bipush 38, 2) := by decide +kernel
theorem dX10_init_123 : decode cX10_init 123 = .ok (.newarray .int, 2) := by decide +kernel
theorem dX10_init_125 : decode cX10_init 125 = .ok (.putfield 57, 3) := by decide +kernel
theorem dX10_init_128 : decode cX10_init 128 = .ok (.aload_n 0, 1) := by decide +kernel
theorem dX10_init_129 : decode cX10_init 129 = .ok (.bipush 100, 2) := by decide +kernel
theorem dX10_init_131 : decode cX10_init 131 = .ok (.newarray .int, 2) := by decide +kernel
theorem dX10_init_133 : decode cX10_init 133 = .ok (.putfield 60, 3) := by decide +kernel
theorem dX10_init_136 : decode cX10_init 136 = .ok (.aload_n 0, 1) := by decide +kernel
theorem dX10_init_137 : decode cX10_init 137 = .ok (.bipush 100, 2) := by decide +kernel
theorem dX10_init_139 : decode cX10_init 139 = .ok (.newarray .int, 2) := by decide +kernel
theorem dX10_init_141 : decode cX10_init 141 = .ok (.putfield 63, 3) := by decide +kernel
theorem dX10_init_144 : decode cX10_init 144 = .ok (.aload_n 0, 1) := by decide +kernel
theorem dX10_init_145 : decode cX10_init 145 = .ok (.bipush 100, 2) := by decide +kernel
theorem dX10_init_147 : decode cX10_init 147 = .ok (.newarray .long, 2) := by decide +kernel
theorem dX10_init_149 : decode cX10_init 149 = .ok (.putfield 66, 3) := by decide +kernel
theorem dX10_init_152 : decode cX10_init 152 = .ok (.aload_n 0, 1) := by decide +kernel
theorem dX10_init_153 : decode cX10_init 153 = .ok (.iconst 5, 1) := by decide +kernel
theorem dX10_init_154 : decode cX10_init 154 = .ok (.newarray .int, 2) := by decide +kernel
theorem dX10_init_156 : decode cX10_init 156 = .ok (.putfield 69, 3) := by decide +kernel
theorem dX10_init_159 : decode cX10_init 159 = .ok (.aload_n 0, 1) := by decide +kernel
theorem dX10_init_160 : decode cX10_init 160 = .ok (.iconst 5, 1) := by decide +kernel
theorem dX10_init_161 : decode cX10_init 161 = .ok (.newarray .int, 2) := by decide +kernel
theorem dX10_init_163 : decode cX10_init 163 = .ok (.putfield 72, 3) := by decide +kernel
theorem dX10_init_166 : decode cX10_init 166 = .ok (.aload_n 0, 1) := by decide +kernel
theorem dX10_init_167 : decode cX10_init 167 = .ok (.bipush 100, 2) := by decide +kernel
theorem dX10_init_169 : decode cX10_init 169 = .ok (.newarray .long, 2) := by decide +kernel
theorem dX10_init_171 : decode cX10_init 171 = .ok (.putfield 75, 3) := by decide +kernel
theorem dX10_init_174 : decode cX10_init 174 = .ok (.aload_n 0, 1) := by decide +kernel
theorem dX10_init_175 : decode cX10_init 175 = .ok (.iconst 0, 1) := by decide +kernel
theorem dX10_init_176 : decode cX10_init 176 = .ok (.putfield 78, 3) := by decide +kernel
theorem dX10_init_179 : decode cX10_init 179 = .ok (.return_, 1) := by decide +kernel
theorem dX10_thrown_0 : decode cX10_thrown 0 = .ok (.aload_n 0, 1) := by decide +kernel
theorem dX10_thrown_1 : decode cX10_thrown 1 = .ok (.getfield 78, 3) := by decide +kernel
theorem dX10_thrown_4 : decode cX10_thrown 4 = .ok (.ireturn, 1) := by decide +kernel
theorem dX10_in_0 : decode cX10_in 0 = .ok (.lload_n 0, 1) := by decide +kernel
theorem dX10_in_1 : decode cX10_in 1 = .ok (.lload_n 2, 1) := by decide +kernel
theorem dX10_in_2 : decode cX10_in 2 = .ok (.lcmp, 1) := by decide +kernel
theorem dX10_in_3 : decode cX10_in 3 = .ok (.ifCond .lt 14, 3) := by decide +kernel
theorem dX10_in_6 : decode cX10_in 6 = .ok (.lload_n 0, 1) := by decide +kernel
theorem dX10_in_7 : decode cX10_in 7 = .ok (.lload 4, 2) := by decide +kernel
theorem dX10_in_9 : decode cX10_in 9 = .ok (.lcmp, 1) := by decide +kernel
theorem dX10_in_10 : decode cX10_in 10 = .ok (.ifCond .gt 7, 3) := by decide +kernel
theorem dX10_in_13 : decode cX10_in 13 = .ok (.iconst 1, 1) := by decide +kernel
theorem dX10_in_14 : decode cX10_in 14 = .ok (.goto 4, 3) := by decide +kernel
theorem dX10_in_17 : decode cX10_in 17 = .ok (.iconst 0, 1) := by decide +kernel
theorem dX10_in_18 : decode cX10_in 18 = .ok (.ireturn, 1) := by decide +kernel
theorem dX10_hasBit_0 : decode cX10_hasBit 0 = .ok (.iload_n 0, 1) := by decide +kernel
theorem dX10_hasBit_1 : decode cX10_hasBit 1 = .ok (.iload_n 1, 1) := by decide +kernel
theorem dX10_hasBit_2 : decode cX10_hasBit 2 = .ok (.ishr, 1) := by decide +kernel
theorem dX10_hasBit_3 : decode cX10_hasBit 3 = .ok (.iconst 1, 1) := by decide +kernel
theorem dX10_hasBit_4 : decode cX10_hasBit 4 = .ok (.iand, 1) := by decide +kernel
theorem dX10_hasBit_5 : decode cX10_hasBit 5 = .ok (.iconst 1, 1) := by decide +kernel
theorem dX10_hasBit_6 : decode cX10_hasBit 6 = .ok (.if_icmp .ne 7, 3) := by decide +kernel
theorem dX10_hasBit_9 : decode cX10_hasBit 9 = .ok (.iconst 1, 1) := by decide +kernel
theorem dX10_hasBit_10 : decode cX10_hasBit 10 = .ok (.goto 4, 3) := by decide +kernel
theorem dX10_hasBit_13 : decode cX10_hasBit 13 = .ok (.iconst 0, 1) := by decide +kernel
theorem dX10_hasBit_14 : decode cX10_hasBit 14 = .ok (.ireturn, 1) := by decide +kernel
theorem dX10_onesOf_0 : decode cX10_onesOf 0 = .ok (.iconst 0, 1) := by decide +kernel
theorem dX10_onesOf_1 : decode cX10_onesOf 1 = .ok (.istore_n 1, 1) := by decide +kernel
theorem dX10_onesOf_2 : decode cX10_onesOf 2 = .ok (.iload_n 0, 1) := by decide +kernel
theorem dX10_onesOf_3 : decode cX10_onesOf 3 = .ok (.istore_n 2, 1) := by decide +kernel
theorem dX10_onesOf_4 : decode cX10_onesOf 4 = .ok (.iload_n 2, 1) := by decide +kernel
theorem dX10_onesOf_5 : decode cX10_onesOf 5 = .ok (.ifCond .eq 15, 3) := by decide +kernel
theorem dX10_onesOf_8 : decode cX10_onesOf 8 = .ok (.iinc 1 1, 3) := by decide +kernel
theorem dX10_onesOf_11 : decode cX10_onesOf 11 = .ok (.iload_n 2, 1) := by decide +kernel
theorem dX10_onesOf_12 : decode cX10_onesOf 12 = .ok (.iload_n 2, 1) := by decide +kernel
theorem dX10_onesOf_13 : decode cX10_onesOf 13 = .ok (.iconst 1, 1) := by decide +kernel
theorem dX10_onesOf_14 : decode cX10_onesOf 14 = .ok (.isub, 1) := by decide +kernel
theorem dX10_onesOf_15 : decode cX10_onesOf 15 = .ok (.iand, 1) := by decide +kernel
theorem dX10_onesOf_16 : decode cX10_onesOf 16 = .ok (.istore_n 2, 1) := by decide +kernel
theorem dX10_onesOf_17 : decode cX10_onesOf 17 = .ok (.goto (-13), 3) := by decide +kernel
theorem dX10_onesOf_20 : decode cX10_onesOf 20 = .ok (.iload_n 1, 1) := by decide +kernel
theorem dX10_onesOf_21 : decode cX10_onesOf 21 = .ok (.ireturn, 1) := by decide +kernel
theorem dX10_held_0 : decode cX10_held 0 = .ok (.iload_n 0, 1) := by decide +kernel
theorem dX10_held_1 : decode cX10_held 1 = .ok (.ifCond .ge 7, 3) := by decide +kernel
theorem dX10_held_4 : decode cX10_held 4 = .ok (.iconst 0, 1) := by decide +kernel
theorem dX10_held_5 : decode cX10_held 5 = .ok (.goto 13, 3) := by decide +kernel
theorem dX10_held_8 : decode cX10_held 8 = .ok (.iload_n 0, 1) := by decide +kernel
theorem dX10_held_9 : decode cX10_held 9 = .ok (.iload_n 1, 1) := by decide +kernel
theorem dX10_held_10 : decode cX10_held 10 = .ok (.if_icmp .le 7, 3) := by decide +kernel
theorem dX10_held_13 : decode cX10_held 13 = .ok (.iload_n 1, 1) := by decide +kernel
theorem dX10_held_14 : decode cX10_held 14 = .ok (.goto 4, 3) := by decide +kernel
theorem dX10_held_17 : decode cX10_held 17 = .ok (.iload_n 0, 1) := by decide +kernel
theorem dX10_held_18 : decode cX10_held 18 = .ok (.ireturn, 1) := by decide +kernel
theorem dX10_far_0 : decode cX10_far 0 = .ok (.iload_n 0, 1) := by decide +kernel
theorem dX10_far_1 : decode cX10_far 1 = .ok (.iload_n 1, 1) := by decide +kernel
theorem dX10_far_2 : decode cX10_far 2 = .ok (.if_icmp .ge 9, 3) := by decide +kernel
theorem dX10_far_5 : decode cX10_far 5 = .ok (.iload_n 1, 1) := by decide +kernel
theorem dX10_far_6 : decode cX10_far 6 = .ok (.iload_n 0, 1) := by decide +kernel
theorem dX10_far_7 : decode cX10_far 7 = .ok (.isub, 1) := by decide +kernel
theorem dX10_far_8 : decode cX10_far 8 = .ok (.goto 6, 3) := by decide +kernel
theorem dX10_far_11 : decode cX10_far 11 = .ok (.iload_n 0, 1) := by decide +kernel
theorem dX10_far_12 : decode cX10_far 12 = .ok (.iload_n 1, 1) := by decide +kernel
theorem dX10_far_13 : decode cX10_far 13 = .ok (.isub, 1) := by decide +kernel
theorem dX10_far_14 : decode cX10_far 14 = .ok (.ireturn, 1) := by decide +kernel
theorem dX10_isBulb_0 : decode cX10_isBulb 0 = .ok (.iload_n 1, 1) := by decide +kernel
theorem dX10_isBulb_1 : decode cX10_isBulb 1 = .ok (.i2l, 1) := by decide +kernel
theorem dX10_isBulb_2 : decode cX10_isBulb 2 = .ok (.lconst 0, 1) := by decide +kernel
theorem dX10_isBulb_3 : decode cX10_isBulb 3 = .ok (.aload_n 0, 1) := by decide +kernel
theorem dX10_isBulb_4 : decode cX10_isBulb 4 = .ok (.getfield 81, 3) := by decide +kernel
theorem dX10_isBulb_7 : decode cX10_isBulb 7 = .ok (.iconst 1, 1) := by decide +kernel
theorem dX10_isBulb_8 : decode cX10_isBulb 8 = .ok (.isub, 1) := by decide +kernel
theorem dX10_isBulb_9 : decode cX10_isBulb 9 = .ok (.i2l, 1) := by decide +kernel
theorem dX10_isBulb_10 : decode cX10_isBulb 10 = .ok (.invokestatic 84, 3) := by decide +kernel
theorem dX10_isBulb_13 : decode cX10_isBulb 13 = .ok (.ireturn, 1) := by decide +kernel
theorem dX10_leads_0 : decode cX10_leads 0 = .ok (.aload_n 0, 1) := by decide +kernel
theorem dX10_leads_1 : decode cX10_leads 1 = .ok (.getfield 88, 3) := by decide +kernel
theorem dX10_leads_4 : decode cX10_leads 4 = .ok (.iload_n 1, 1) := by decide +kernel
theorem dX10_leads_5 : decode cX10_leads 5 = .ok (.invokestatic 91, 3) := by decide +kernel
theorem dX10_leads_8 : decode cX10_leads 8 = .ok (.istore_n 3, 1) := by decide +kernel
theorem dX10_leads_9 : decode cX10_leads 9 = .ok (.aload_n 0, 1) := by decide +kernel
theorem dX10_leads_10 : decode cX10_leads 10 = .ok (.getfield 13, 3) := by decide +kernel
theorem dX10_leads_13 : decode cX10_leads 13 = .ok (.iload_n 1, 1) := by decide +kernel
theorem dX10_leads_14 : decode cX10_leads 14 = .ok (.iaload, 1) := by decide +kernel
theorem dX10_leads_15 : decode cX10_leads 15 = .ok (.istore 4, 2) := by decide +kernel
theorem dX10_leads_17 : decode cX10_leads 17 = .ok (.aload_n 0, 1) := by decide +kernel
theorem dX10_leads_18 : decode cX10_leads 18 = .ok (.getfield 7, 3) := by decide +kernel
theorem dX10_leads_21 : decode cX10_leads 21 = .ok (.iload_n 1, 1) := by decide +kernel
theorem dX10_leads_22 : decode cX10_leads 22 = .ok (.iaload, 1) := by decide +kernel
theorem dX10_leads_23 : decode cX10_leads 23 = .ok (.tableswitch 101 1 4 #[29, 50, 80, 82], 29) := by decide +kernel
theorem dX10_leads_52 : decode cX10_leads 52 = .ok (.iload_n 3, 1) := by decide +kernel
theorem dX10_leads_53 : decode cX10_leads 53 = .ok (.ifCond .eq 18, 3) := by decide +kernel
theorem dX10_leads_56 : decode cX10_leads 56 = .ok (.aload_n 0, 1) := by decide +kernel
theorem dX10_leads_57 : decode cX10_leads 57 = .ok (.getfield 95, 3) := by decide +kernel
theorem dX10_leads_60 : decode cX10_leads 60 = .ok (.iload_n 1, 1) := by decide +kernel
theorem dX10_leads_61 : decode cX10_leads 61 = .ok (.invokestatic 91, 3) := by decide +kernel
theorem dX10_leads_64 : decode cX10_leads 64 = .ok (.ifCond .eq 7, 3) := by decide +kernel
theorem dX10_leads_67 : decode cX10_leads 67 = .ok (.iconst 1, 1) := by decide +kernel
theorem dX10_leads_68 : decode cX10_leads 68 = .ok (.goto 4, 3) := by decide +kernel
theorem dX10_leads_71 : decode cX10_leads 71 = .ok (.iconst 0, 1) := by decide +kernel
theorem dX10_leads_72 : decode cX10_leads 72 = .ok (.ireturn, 1) := by decide +kernel
theorem dX10_leads_73 : decode cX10_leads 73 = .ok (.iload_n 3, 1) := by decide +kernel
theorem dX10_leads_74 : decode cX10_leads 74 = .ok (.ifCond .eq 27, 3) := by decide +kernel
theorem dX10_leads_77 : decode cX10_leads 77 = .ok (.aload_n 0, 1) := by decide +kernel
theorem dX10_leads_78 : decode cX10_leads 78 = .ok (.getfield 16, 3) := by decide +kernel
theorem dX10_leads_81 : decode cX10_leads 81 = .ok (.iload_n 1, 1) := by decide +kernel
theorem dX10_leads_82 : decode cX10_leads 82 = .ok (.iaload, 1) := by decide +kernel
theorem dX10_leads_83 : decode cX10_leads 83 = .ok (.bipush 10, 2) := by decide +kernel
theorem dX10_leads_85 : decode cX10_leads 85 = .ok (.iload 4, 2) := by decide +kernel
theorem dX10_leads_87 : decode cX10_leads 87 = .ok (.imul, 1) := by decide +kernel
theorem dX10_leads_88 : decode cX10_leads 88 = .ok (.if_icmp .lt 9, 3) := by decide +kernel
theorem dX10_leads_91 : decode cX10_leads 91 = .ok (.iload_n 2, 1) := by decide +kernel
theorem dX10_leads_92 : decode cX10_leads 92 = .ok (.iconst 2, 1) := by decide +kernel
theorem dX10_leads_93 : decode cX10_leads 93 = .ok (.irem, 1) := by decide +kernel
theorem dX10_leads_94 : decode cX10_leads 94 = .ok (.ifCond .ne 7, 3) := by decide +kernel
theorem dX10_leads_97 : decode cX10_leads 97 = .ok (.iconst 1, 1) := by decide +kernel
theorem dX10_leads_98 : decode cX10_leads 98 = .ok (.goto 4, 3) := by decide +kernel
theorem dX10_leads_101 : decode cX10_leads 101 = .ok (.iconst 0, 1) := by decide +kernel
theorem dX10_leads_102 : decode cX10_leads 102 = .ok (.ireturn, 1) := by decide +kernel
theorem dX10_leads_103 : decode cX10_leads 103 = .ok (.iconst 1, 1) := by decide +kernel
theorem dX10_leads_104 : decode cX10_leads 104 = .ok (.ireturn, 1) := by decide +kernel
theorem dX10_leads_105 : decode cX10_leads 105 = .ok (.iload_n 3, 1) := by decide +kernel
theorem dX10_leads_106 : decode cX10_leads 106 = .ok (.ifCond .eq 16, 3) := by decide +kernel
theorem dX10_leads_109 : decode cX10_leads 109 = .ok (.iload_n 2, 1) := by decide +kernel
theorem dX10_leads_110 : decode cX10_leads 110 = .ok (.iload 4, 2) := by decide +kernel
theorem dX10_leads_112 : decode cX10_leads 112 = .ok (.iconst 2, 1) := by decide +kernel
theorem dX10_leads_113 : decode cX10_leads 113 = .ok (.iadd, 1) := by decide +kernel
theorem dX10_leads_114 : decode cX10_leads 114 = .ok (.irem, 1) := by decide +kernel
theorem dX10_leads_115 : decode cX10_leads 115 = .ok (.ifCond .eq 7, 3) := by decide +kernel
theorem dX10_leads_118 : decode cX10_leads 118 = .ok (.iconst 1, 1) := by decide +kernel
theorem dX10_leads_119 : decode cX10_leads 119 = .ok (.goto 4, 3) := by decide +kernel
theorem dX10_leads_122 : decode cX10_leads 122 = .ok (.iconst 0, 1) := by decide +kernel
theorem dX10_leads_123 : decode cX10_leads 123 = .ok (.ireturn, 1) := by decide +kernel
theorem dX10_leads_124 : decode cX10_leads 124 = .ok (.iload_n 3, 1) := by decide +kernel
theorem dX10_leads_125 : decode cX10_leads 125 = .ok (.ireturn, 1) := by decide +kernel
theorem dX10_lifeOf_0 : decode cX10_lifeOf 0 = .ok (.aload_n 0, 1) := by decide +kernel
theorem dX10_lifeOf_1 : decode cX10_lifeOf 1 = .ok (.getfield 13, 3) := by decide +kernel
theorem dX10_lifeOf_4 : decode cX10_lifeOf 4 = .ok (.iload_n 1, 1) := by decide +kernel
theorem dX10_lifeOf_5 : decode cX10_lifeOf 5 = .ok (.iaload, 1) := by decide +kernel
theorem dX10_lifeOf_6 : decode cX10_lifeOf 6 = .ok (.istore_n 2, 1) := by decide +kernel
theorem dX10_lifeOf_7 : decode cX10_lifeOf 7 = .ok (.aload_n 0, 1) := by decide +kernel
theorem dX10_lifeOf_8 : decode cX10_lifeOf 8 = .ok (.getfield 7, 3) := by decide +kernel
theorem dX10_lifeOf_11 : decode cX10_lifeOf 11 = .ok (.iload_n 1, 1) := by decide +kernel
theorem dX10_lifeOf_12 : decode cX10_lifeOf 12 = .ok (.iaload, 1) := by decide +kernel
theorem dX10_lifeOf_13 : decode cX10_lifeOf 13 = .ok (.tableswitch 66 2 7 #[39, 66, 66, 46, 54, 58], 39) := by decide +kernel
theorem dX10_lifeOf_52 : decode cX10_lifeOf 52 = .ok (.bipush 30, 2) := by decide +kernel
theorem dX10_lifeOf_54 : decode cX10_lifeOf 54 = .ok (.iconst 5, 1) := by decide +kernel
theorem dX10_lifeOf_55 : decode cX10_lifeOf 55 = .ok (.iload_n 2, 1) := by decide +kernel
theorem dX10_lifeOf_56 : decode cX10_lifeOf 56 = .ok (.imul, 1) := by decide +kernel
theorem dX10_lifeOf_57 : decode cX10_lifeOf 57 = .ok (.iadd, 1) := by decide +kernel
theorem dX10_lifeOf_58 : decode cX10_lifeOf 58 = .ok (.ireturn, 1) := by decide +kernel
theorem dX10_lifeOf_59 : decode cX10_lifeOf 59 = .ok (.bipush 40, 2) := by decide +kernel
theorem dX10_lifeOf_61 : decode cX10_lifeOf 61 = .ok (.bipush 10, 2) := by decide +kernel
theorem dX10_lifeOf_63 : decode cX10_lifeOf 63 = .ok (.iload_n 2, 1) := by decide +kernel
theorem dX10_lifeOf_64 : decode cX10_lifeOf 64 = .ok (.imul, 1) := by decide +kernel
theorem dX10_lifeOf_65 : decode cX10_lifeOf 65 = .ok (.iadd, 1) := by decide +kernel
theorem dX10_lifeOf_66 : decode cX10_lifeOf 66 = .ok (.ireturn, 1) := by decide +kernel
theorem dX10_lifeOf_67 : decode cX10_lifeOf 67 = .ok (.sipush 150, 3) := by decide +kernel
theorem dX10_lifeOf_70 : decode cX10_lifeOf 70 = .ok (.ireturn, 1) := by decide +kernel
theorem dX10_lifeOf_71 : decode cX10_lifeOf 71 = .ok (.bipush 80, 2) := by decide +kernel
theorem dX10_lifeOf_73 : decode cX10_lifeOf 73 = .ok (.bipush 20, 2) := by decide +kernel
theorem dX10_lifeOf_75 : decode cX10_lifeOf 75 = .ok (.iload_n 2, 1) := by decide +kernel
theorem dX10_lifeOf_76 : decode cX10_lifeOf 76 = .ok (.imul, 1) := by decide +kernel
theorem dX10_lifeOf_77 : decode cX10_lifeOf 77 = .ok (.iadd, 1) := by decide +kernel
theorem dX10_lifeOf_78 : decode cX10_lifeOf 78 = .ok (.ireturn, 1) := by decide +kernel
theorem dX10_lifeOf_79 : decode cX10_lifeOf 79 = .ok (.bipush 60, 2) := by decide +kernel
theorem dX10_lifeOf_81 : decode cX10_lifeOf 81 = .ok (.bipush 10, 2) := by decide +kernel
theorem dX10_lifeOf_83 : decode cX10_lifeOf 83 = .ok (.iload_n 2, 1) := by decide +kernel
theorem dX10_lifeOf_84 : decode cX10_lifeOf 84 = .ok (.imul, 1) := by decide +kernel
theorem dX10_lifeOf_85 : decode cX10_lifeOf 85 = .ok (.iadd, 1) := by decide +kernel
theorem dX10_lifeOf_86 : decode cX10_lifeOf 86 = .ok (.ireturn, 1) := by decide +kernel
theorem dX10_glowOf_0 : decode cX10_glowOf 0 = .ok (.aload_n 0, 1) := by decide +kernel
theorem dX10_glowOf_1 : decode cX10_glowOf 1 = .ok (.getfield 7, 3) := by decide +kernel
theorem dX10_glowOf_4 : decode cX10_glowOf 4 = .ok (.iload_n 1, 1) := by decide +kernel
theorem dX10_glowOf_5 : decode cX10_glowOf 5 = .ok (.iaload, 1) := by decide +kernel
theorem dX10_glowOf_6 : decode cX10_glowOf 6 = .ok (.tableswitch 57 2 7 #[38, 40, 57, 42, 44, 55], 38) := by decide +kernel
theorem dX10_glowOf_44 : decode cX10_glowOf 44 = .ok (.iconst 1, 1) := by decide +kernel
theorem dX10_glowOf_45 : decode cX10_glowOf 45 = .ok (.ireturn, 1) := by decide +kernel
theorem dX10_glowOf_46 : decode cX10_glowOf 46 = .ok (.iconst 0, 1) := by decide +kernel
theorem dX10_glowOf_47 : decode cX10_glowOf 47 = .ok (.ireturn, 1) := by decide +kernel
theorem dX10_glowOf_48 : decode cX10_glowOf 48 = .ok (.iconst 3, 1) := by decide +kernel
theorem dX10_glowOf_49 : decode cX10_glowOf 49 = .ok (.ireturn, 1) := by decide +kernel
theorem dX10_glowOf_50 : decode cX10_glowOf 50 = .ok (.iconst 4, 1) := by decide +kernel
theorem dX10_glowOf_51 : decode cX10_glowOf 51 = .ok (.aload_n 0, 1) := by decide +kernel
theorem dX10_glowOf_52 : decode cX10_glowOf 52 = .ok (.getfield 13, 3) := by decide +kernel
theorem dX10_glowOf_55 : decode cX10_glowOf 55 = .ok (.iload_n 1, 1) := by decide +kernel
theorem dX10_glowOf_56 : decode cX10_glowOf 56 = .ok (.iaload, 1) := by decide +kernel
theorem dX10_glowOf_57 : decode cX10_glowOf 57 = .ok (.iconst 2, 1) := by decide +kernel
theorem dX10_glowOf_58 : decode cX10_glowOf 58 = .ok (.idiv, 1) := by decide +kernel
theorem dX10_glowOf_59 : decode cX10_glowOf 59 = .ok (.iadd, 1) := by decide +kernel
theorem dX10_glowOf_60 : decode cX10_glowOf 60 = .ok (.ireturn, 1) := by decide +kernel
theorem dX10_glowOf_61 : decode cX10_glowOf 61 = .ok (.iconst 5, 1) := by decide +kernel
theorem dX10_glowOf_62 : decode cX10_glowOf 62 = .ok (.ireturn, 1) := by decide +kernel
theorem dX10_glowOf_63 : decode cX10_glowOf 63 = .ok (.iconst 4, 1) := by decide +kernel
theorem dX10_glowOf_64 : decode cX10_glowOf 64 = .ok (.ireturn, 1) := by decide +kernel
theorem dX10_isBrown_0 : decode cX10_isBrown 0 = .ok (.aload_n 0, 1) := by decide +kernel
theorem dX10_isBrown_1 : decode cX10_isBrown 1 = .ok (.getfield 16, 3) := by decide +kernel
theorem dX10_isBrown_4 : decode cX10_isBrown 4 = .ok (.iload_n 1, 1) := by decide +kernel
theorem dX10_isBrown_5 : decode cX10_isBrown 5 = .ok (.iaload, 1) := by decide +kernel
theorem dX10_isBrown_6 : decode cX10_isBrown 6 = .ok (.aload_n 0, 1) := by decide +kernel
theorem dX10_isBrown_7 : decode cX10_isBrown 7 = .ok (.iload_n 1, 1) := by decide +kernel
theorem dX10_isBrown_8 : decode cX10_isBrown 8 = .ok (.invokevirtual 98, 3) := by decide +kernel
theorem dX10_isBrown_11 : decode cX10_isBrown 11 = .ok (.iconst 2, 1) := by decide +kernel
theorem dX10_isBrown_12 : decode cX10_isBrown 12 = .ok (.idiv, 1) := by decide +kernel
theorem dX10_isBrown_13 : decode cX10_isBrown 13 = .ok (.if_icmp .lt 7, 3) := by decide +kernel
theorem dX10_isBrown_16 : decode cX10_isBrown 16 = .ok (.iconst 1, 1) := by decide +kernel
theorem dX10_isBrown_17 : decode cX10_isBrown 17 = .ok (.goto 4, 3) := by decide +kernel
theorem dX10_isBrown_20 : decode cX10_isBrown 20 = .ok (.iconst 0, 1) := by decide +kernel
theorem dX10_isBrown_21 : decode cX10_isBrown 21 = .ok (.ireturn, 1) := by decide +kernel
theorem dX10_allLead_0 : decode cX10_allLead 0 = .ok (.iconst 1, 1) := by decide +kernel
theorem dX10_allLead_1 : decode cX10_allLead 1 = .ok (.istore 4, 2) := by decide +kernel
theorem dX10_allLead_3 : decode cX10_allLead 3 = .ok (.iload_n 1, 1) := by decide +kernel
theorem dX10_allLead_4 : decode cX10_allLead 4 = .ok (.istore 5, 2) := by decide +kernel
theorem dX10_allLead_6 : decode cX10_allLead 6 = .ok (.iload 5, 2) := by decide +kernel
theorem dX10_allLead_8 : decode cX10_allLead 8 = .ok (.iload_n 2, 1) := by decide +kernel
theorem dX10_allLead_9 : decode cX10_allLead 9 = .ok (.if_icmp .ge 31, 3) := by decide +kernel
theorem dX10_allLead_12 : decode cX10_allLead 12 = .ok (.iload 4, 2) := by decide +kernel
theorem dX10_allLead_14 : decode cX10_allLead 14 = .ok (.ifCond .eq 17, 3) := by decide +kernel
theorem dX10_allLead_17 : decode cX10_allLead 17 = .ok (.aload_n 0, 1) := by decide +kernel
theorem dX10_allLead_18 : decode cX10_allLead 18 = .ok (.iload 5, 2) := by decide +kernel
theorem dX10_allLead_20 : decode cX10_allLead 20 = .ok (.iload_n 3, 1) := by decide +kernel
theorem dX10_allLead_21 : decode cX10_allLead 21 = .ok (.invokevirtual 102, 3) := by decide +kernel
theorem dX10_allLead_24 : decode cX10_allLead 24 = .ok (.ifCond .eq 7, 3) := by decide +kernel
theorem dX10_allLead_27 : decode cX10_allLead 27 = .ok (.iconst 1, 1) := by decide +kernel
theorem dX10_allLead_28 : decode cX10_allLead 28 = .ok (.goto 4, 3) := by decide +kernel
theorem dX10_allLead_31 : decode cX10_allLead 31 = .ok (.iconst 0, 1) := by decide +kernel
theorem dX10_allLead_32 : decode cX10_allLead 32 = .ok (.istore 4, 2) := by decide +kernel
theorem dX10_allLead_34 : decode cX10_allLead 34 = .ok (.iinc 5 1, 3) := by decide +kernel
theorem dX10_allLead_37 : decode cX10_allLead 37 = .ok (.goto (-31), 3) := by decide +kernel
theorem dX10_allLead_40 : decode cX10_allLead 40 = .ok (.iload 4, 2) := by decide +kernel
theorem dX10_allLead_42 : decode cX10_allLead 42 = .ok (.ireturn, 1) := by decide +kernel
theorem dX10_wholeOf_0 : decode cX10_wholeOf 0 = .ok (.iconst 0, 1) := by decide +kernel
theorem dX10_wholeOf_1 : decode cX10_wholeOf 1 = .ok (.istore_n 3, 1) := by decide +kernel
theorem dX10_wholeOf_2 : decode cX10_wholeOf 2 = .ok (.iload_n 1, 1) := by decide +kernel
theorem dX10_wholeOf_3 : decode cX10_wholeOf 3 = .ok (.istore 4, 2) := by decide +kernel
theorem dX10_wholeOf_5 : decode cX10_wholeOf 5 = .ok (.iload 4, 2) := by decide +kernel
theorem dX10_wholeOf_7 : decode cX10_wholeOf 7 = .ok (.iload_n 2, 1) := by decide +kernel
theorem dX10_wholeOf_8 : decode cX10_wholeOf 8 = .ok (.if_icmp .ge 29, 3) := by decide +kernel
theorem dX10_wholeOf_11 : decode cX10_wholeOf 11 = .ok (.iload_n 3, 1) := by decide +kernel
theorem dX10_wholeOf_12 : decode cX10_wholeOf 12 = .ok (.aload_n 0, 1) := by decide +kernel
theorem dX10_wholeOf_13 : decode cX10_wholeOf 13 = .ok (.getfield 88, 3) := by decide +kernel
theorem dX10_wholeOf_16 : decode cX10_wholeOf 16 = .ok (.iload 4, 2) := by decide +kernel
theorem dX10_wholeOf_18 : decode cX10_wholeOf 18 = .ok (.invokestatic 91, 3) := by decide +kernel
theorem dX10_wholeOf_21 : decode cX10_wholeOf 21 = .ok (.ifCond .eq 7, 3) := by decide +kernel
theorem dX10_wholeOf_24 : decode cX10_wholeOf 24 = .ok (.iconst 1, 1) := by decide +kernel
theorem dX10_wholeOf_25 : decode cX10_wholeOf 25 = .ok (.goto 4, 3) := by decide +kernel
theorem dX10_wholeOf_28 : decode cX10_wholeOf 28 = .ok (.iconst 0, 1) := by decide +kernel
theorem dX10_wholeOf_29 : decode cX10_wholeOf 29 = .ok (.iadd, 1) := by decide +kernel
theorem dX10_wholeOf_30 : decode cX10_wholeOf 30 = .ok (.istore_n 3, 1) := by decide +kernel
theorem dX10_wholeOf_31 : decode cX10_wholeOf 31 = .ok (.iinc 4 1, 3) := by decide +kernel
theorem dX10_wholeOf_34 : decode cX10_wholeOf 34 = .ok (.goto (-29), 3) := by decide +kernel
theorem dX10_wholeOf_37 : decode cX10_wholeOf 37 = .ok (.iload_n 3, 1) := by decide +kernel
theorem dX10_wholeOf_38 : decode cX10_wholeOf 38 = .ok (.ireturn, 1) := by decide +kernel
theorem dX10_burns_0 : decode cX10_burns 0 = .ok (.iload_n 1, 1) := by decide +kernel
theorem dX10_burns_1 : decode cX10_burns 1 = .ok (.iload_n 2, 1) := by decide +kernel
theorem dX10_burns_2 : decode cX10_burns 2 = .ok (.if_icmp .eq 16, 3) := by decide +kernel
theorem dX10_burns_5 : decode cX10_burns 5 = .ok (.aload_n 0, 1) := by decide +kernel
theorem dX10_burns_6 : decode cX10_burns 6 = .ok (.iload_n 1, 1) := by decide +kernel
theorem dX10_burns_7 : decode cX10_burns 7 = .ok (.iload_n 2, 1) := by decide +kernel
theorem dX10_burns_8 : decode cX10_burns 8 = .ok (.aload_n 0, 1) := by decide +kernel
theorem dX10_burns_9 : decode cX10_burns 9 = .ok (.getfield 105, 3) := by decide +kernel
theorem dX10_burns_12 : decode cX10_burns 12 = .ok (.invokevirtual 108, 3) := by decide +kernel
theorem dX10_burns_15 : decode cX10_burns 15 = .ok (.ifCond .ne 5, 3) := by decide +kernel
theorem dX10_burns_18 : decode cX10_burns 18 = .ok (.iconst 0, 1) := by decide +kernel
theorem dX10_burns_19 : decode cX10_burns 19 = .ok (.ireturn, 1) := by decide +kernel
theorem dX10_burns_20 : decode cX10_burns 20 = .ok (.aload_n 0, 1) := by decide +kernel
theorem dX10_burns_21 : decode cX10_burns 21 = .ok (.iload_n 1, 1) := by decide +kernel
theorem dX10_burns_22 : decode cX10_burns 22 = .ok (.iload_n 2, 1) := by decide +kernel
theorem dX10_burns_23 : decode cX10_burns 23 = .ok (.invokevirtual 112, 3) := by decide +kernel
theorem dX10_burns_26 : decode cX10_burns 26 = .ok (.istore_n 3, 1) := by decide +kernel
theorem dX10_burns_27 : decode cX10_burns 27 = .ok (.iload_n 3, 1) := by decide +kernel
theorem dX10_burns_28 : decode cX10_burns 28 = .ok (.ifCond .ne 7, 3) := by decide +kernel
theorem dX10_burns_31 : decode cX10_burns 31 = .ok (.iconst 0, 1) := by decide +kernel
theorem dX10_burns_32 : decode cX10_burns 32 = .ok (.goto 12, 3) := by decide +kernel
theorem dX10_burns_35 : decode cX10_burns 35 = .ok (.aload_n 0, 1) := by decide +kernel
theorem dX10_burns_36 : decode cX10_burns 36 = .ok (.getfield 23, 3) := by decide +kernel
theorem dX10_burns_39 : decode cX10_burns 39 = .ok (.bipush 60, 2) := by decide +kernel
theorem dX10_burns_41 : decode cX10_burns 41 = .ok (.iload_n 3, 1) := by decide +kernel
theorem dX10_burns_42 : decode cX10_burns 42 = .ok (.idiv, 1) := by decide +kernel
theorem dX10_burns_43 : decode cX10_burns 43 = .ok (.imul, 1) := by decide +kernel
theorem dX10_burns_44 : decode cX10_burns 44 = .ok (.istore 4, 2) := by decide +kernel
theorem dX10_burns_46 : decode cX10_burns 46 = .ok (.aload_n 0, 1) := by decide +kernel
theorem dX10_burns_47 : decode cX10_burns 47 = .ok (.dup, 1) := by decide +kernel
theorem dX10_burns_48 : decode cX10_burns 48 = .ok (.getfield 116, 3) := by decide +kernel
theorem dX10_burns_51 : decode cX10_burns 51 = .ok (.iload_n 3, 1) := by decide +kernel
theorem dX10_burns_52 : decode cX10_burns 52 = .ok (.iadd, 1) := by decide +kernel
theorem dX10_burns_53 : decode cX10_burns 53 = .ok (.putfield 116, 3) := by decide +kernel
theorem dX10_burns_56 : decode cX10_burns 56 = .ok (.iload_n 1, 1) := by decide +kernel
theorem dX10_burns_57 : decode cX10_burns 57 = .ok (.istore 5, 2) := by decide +kernel
theorem dX10_burns_59 : decode cX10_burns 59 = .ok (.iload 5, 2) := by decide +kernel
theorem dX10_burns_61 : decode cX10_burns 61 = .ok (.iload_n 2, 1) := by decide +kernel
theorem dX10_burns_62 : decode cX10_burns 62 = .ok (.if_icmp .ge 86, 3) := by decide +kernel
theorem dX10_burns_65 : decode cX10_burns 65 = .ok (.aload_n 0, 1) := by decide +kernel
theorem dX10_burns_66 : decode cX10_burns 66 = .ok (.getfield 88, 3) := by decide +kernel
theorem dX10_burns_69 : decode cX10_burns 69 = .ok (.iload 5, 2) := by decide +kernel
theorem dX10_burns_71 : decode cX10_burns 71 = .ok (.invokestatic 91, 3) := by decide +kernel
theorem dX10_burns_74 : decode cX10_burns 74 = .ok (.ifCond .eq 68, 3) := by decide +kernel
theorem dX10_burns_77 : decode cX10_burns 77 = .ok (.aload_n 0, 1) := by decide +kernel
theorem dX10_burns_78 : decode cX10_burns 78 = .ok (.getfield 16, 3) := by decide +kernel
theorem dX10_burns_81 : decode cX10_burns 81 = .ok (.iload 5, 2) := by decide +kernel
theorem dX10_burns_83 : decode cX10_burns 83 = .ok (.aload_n 0, 1) := by decide +kernel
theorem dX10_burns_84 : decode cX10_burns 84 = .ok (.getfield 16, 3) := by decide +kernel
theorem dX10_burns_87 : decode cX10_burns 87 = .ok (.iload 5, 2) := by decide +kernel
theorem dX10_burns_89 : decode cX10_burns 89 = .ok (.iaload, 1) := by decide +kernel
theorem dX10_burns_90 : decode cX10_burns 90 = .ok (.aload_n 0, 1) := by decide +kernel
theorem dX10_burns_91 : decode cX10_burns 91 = .ok (.iload 5, 2) := by decide +kernel
theorem dX10_burns_93 : decode cX10_burns 93 = .ok (.invokevirtual 119, 3) := by decide +kernel
theorem dX10_burns_96 : decode cX10_burns 96 = .ok (.iadd, 1) := by decide +kernel
theorem dX10_burns_97 : decode cX10_burns 97 = .ok (.iload 4, 2) := by decide +kernel
theorem dX10_burns_99 : decode cX10_burns 99 = .ok (.iadd, 1) := by decide +kernel
theorem dX10_burns_100 : decode cX10_burns 100 = .ok (.sipush 999, 3) := by decide +kernel
theorem dX10_burns_103 : decode cX10_burns 103 = .ok (.invokestatic 122, 3) := by decide +kernel
theorem dX10_burns_106 : decode cX10_burns 106 = .ok (.iastore, 1) := by decide +kernel
theorem dX10_burns_107 : decode cX10_burns 107 = .ok (.aload_n 0, 1) := by decide +kernel
theorem dX10_burns_108 : decode cX10_burns 108 = .ok (.dup, 1) := by decide +kernel
theorem dX10_burns_109 : decode cX10_burns 109 = .ok (.getfield 88, 3) := by decide +kernel
theorem dX10_burns_112 : decode cX10_burns 112 = .ok (.aload_n 0, 1) := by decide +kernel
theorem dX10_burns_113 : decode cX10_burns 113 = .ok (.getfield 16, 3) := by decide +kernel
theorem dX10_burns_116 : decode cX10_burns 116 = .ok (.iload 5, 2) := by decide +kernel
theorem dX10_burns_118 : decode cX10_burns 118 = .ok (.iaload, 1) := by decide +kernel
theorem dX10_burns_119 : decode cX10_burns 119 = .ok (.aload_n 0, 1) := by decide +kernel
theorem dX10_burns_120 : decode cX10_burns 120 = .ok (.iload 5, 2) := by decide +kernel
theorem dX10_burns_122 : decode cX10_burns 122 = .ok (.invokevirtual 98, 3) := by decide +kernel
theorem dX10_burns_125 : decode cX10_burns 125 = .ok (.if_icmp .lt 12, 3) := by decide +kernel
theorem dX10_burns_128 : decode cX10_burns 128 = .ok (.iconst 1, 1) := by decide +kernel
theorem dX10_burns_129 : decode cX10_burns 129 = .ok (.iload 5, 2) := by decide +kernel
theorem dX10_burns_131 : decode cX10_burns 131 = .ok (.ishl, 1) := by decide +kernel
theorem dX10_burns_132 : decode cX10_burns 132 = .ok (.iconst (-1), 1) := by decide +kernel
theorem dX10_burns_133 : decode cX10_burns 133 = .ok (.ixor, 1) := by decide +kernel
theorem dX10_burns_134 : decode cX10_burns 134 = .ok (.goto 4, 3) := by decide +kernel
theorem dX10_burns_137 : decode cX10_burns 137 = .ok (.iconst (-1), 1) := by decide +kernel
theorem dX10_burns_138 : decode cX10_burns 138 = .ok (.iand, 1) := by decide +kernel
theorem dX10_burns_139 : decode cX10_burns 139 = .ok (.putfield 88, 3) := by decide +kernel
theorem dX10_burns_142 : decode cX10_burns 142 = .ok (.iinc 5 1, 3) := by decide +kernel
theorem dX10_burns_145 : decode cX10_burns 145 = .ok (.goto (-86), 3) := by decide +kernel
theorem dX10_burns_148 : decode cX10_burns 148 = .ok (.iconst 1, 1) := by decide +kernel
theorem dX10_burns_149 : decode cX10_burns 149 = .ok (.ireturn, 1) := by decide +kernel
theorem dX10_hourOn_0 : decode cX10_hourOn 0 = .ok (.aload_n 0, 1) := by decide +kernel
theorem dX10_hourOn_1 : decode cX10_hourOn 1 = .ok (.dup, 1) := by decide +kernel
theorem dX10_hourOn_2 : decode cX10_hourOn 2 = .ok (.getfield 105, 3) := by decide +kernel
theorem dX10_hourOn_5 : decode cX10_hourOn 5 = .ok (.iconst 1, 1) := by decide +kernel
theorem dX10_hourOn_6 : decode cX10_hourOn 6 = .ok (.iadd, 1) := by decide +kernel
theorem dX10_hourOn_7 : decode cX10_hourOn 7 = .ok (.putfield 105, 3) := by decide +kernel
theorem dX10_hourOn_10 : decode cX10_hourOn 10 = .ok (.aload_n 0, 1) := by decide +kernel
theorem dX10_hourOn_11 : decode cX10_hourOn 11 = .ok (.getfield 125, 3) := by decide +kernel
theorem dX10_hourOn_14 : decode cX10_hourOn 14 = .ok (.ifCond .ne 40, 3) := by decide +kernel
theorem dX10_hourOn_17 : decode cX10_hourOn 17 = .ok (.aload_n 0, 1) := by decide +kernel
theorem dX10_hourOn_18 : decode cX10_hourOn 18 = .ok (.iconst 0, 1) := by decide +kernel
theorem dX10_hourOn_19 : decode cX10_hourOn 19 = .ok (.aload_n 0, 1) := by decide +kernel
theorem dX10_hourOn_20 : decode cX10_hourOn 20 = .ok (.getfield 81, 3) := by decide +kernel
theorem dX10_hourOn_23 : decode cX10_hourOn 23 = .ok (.invokevirtual 128, 3) := by decide +kernel
theorem dX10_hourOn_26 : decode cX10_hourOn 26 = .ok (.istore_n 1, 1) := by decide +kernel
theorem dX10_hourOn_27 : decode cX10_hourOn 27 = .ok (.aload_n 0, 1) := by decide +kernel
theorem dX10_hourOn_28 : decode cX10_hourOn 28 = .ok (.aload_n 0, 1) := by decide +kernel
theorem dX10_hourOn_29 : decode cX10_hourOn 29 = .ok (.getfield 131, 3) := by decide +kernel
theorem dX10_hourOn_32 : decode cX10_hourOn 32 = .ok (.iload_n 1, 1) := by decide +kernel
theorem dX10_hourOn_33 : decode cX10_hourOn 33 = .ok (.ifCond .eq 7, 3) := by decide +kernel
theorem dX10_hourOn_36 : decode cX10_hourOn 36 = .ok (.iconst 1, 1) := by decide +kernel
theorem dX10_hourOn_37 : decode cX10_hourOn 37 = .ok (.goto 4, 3) := by decide +kernel
theorem dX10_hourOn_40 : decode cX10_hourOn 40 = .ok (.iconst 0, 1) := by decide +kernel
theorem dX10_hourOn_41 : decode cX10_hourOn 41 = .ok (.iadd, 1) := by decide +kernel
theorem dX10_hourOn_42 : decode cX10_hourOn 42 = .ok (.sipush 999, 3) := by decide +kernel
theorem dX10_hourOn_45 : decode cX10_hourOn 45 = .ok (.invokestatic 122, 3) := by decide +kernel
theorem dX10_hourOn_48 : decode cX10_hourOn 48 = .ok (.putfield 131, 3) := by decide +kernel
theorem dX10_hourOn_51 : decode cX10_hourOn 51 = .ok (.goto 38, 3) := by decide +kernel
theorem dX10_hourOn_54 : decode cX10_hourOn 54 = .ok (.aload_n 0, 1) := by decide +kernel
theorem dX10_hourOn_55 : decode cX10_hourOn 55 = .ok (.iconst 0, 1) := by decide +kernel
theorem dX10_hourOn_56 : decode cX10_hourOn 56 = .ok (.aload_n 0, 1) := by decide +kernel
theorem dX10_hourOn_57 : decode cX10_hourOn 57 = .ok (.getfield 125, 3) := by decide +kernel
theorem dX10_hourOn_60 : decode cX10_hourOn 60 = .ok (.invokevirtual 128, 3) := by decide +kernel
theorem dX10_hourOn_63 : decode cX10_hourOn 63 = .ok (.istore_n 1, 1) := by decide +kernel
theorem dX10_hourOn_64 : decode cX10_hourOn 64 = .ok (.aload_n 0, 1) := by decide +kernel
theorem dX10_hourOn_65 : decode cX10_hourOn 65 = .ok (.aload_n 0, 1) := by decide +kernel
theorem dX10_hourOn_66 : decode cX10_hourOn 66 = .ok (.getfield 125, 3) := by decide +kernel
theorem dX10_hourOn_69 : decode cX10_hourOn 69 = .ok (.aload_n 0, 1) := by decide +kernel
theorem dX10_hourOn_70 : decode cX10_hourOn 70 = .ok (.getfield 81, 3) := by decide +kernel
theorem dX10_hourOn_73 : decode cX10_hourOn 73 = .ok (.invokevirtual 128, 3) := by decide +kernel
theorem dX10_hourOn_76 : decode cX10_hourOn 76 = .ok (.ifCond .eq 11, 3) := by decide +kernel
theorem dX10_hourOn_79 : decode cX10_hourOn 79 = .ok (.iload_n 1, 1) := by decide +kernel
theorem dX10_hourOn_80 : decode cX10_hourOn 80 = .ok (.ifCond .eq 7, 3) := by decide +kernel
theorem dX10_hourOn_83 : decode cX10_hourOn 83 = .ok (.iconst 1, 1) := by decide +kernel
theorem dX10_hourOn_84 : decode cX10_hourOn 84 = .ok (.goto 4, 3) := by decide +kernel
theorem dX10_hourOn_87 : decode cX10_hourOn 87 = .ok (.iconst 0, 1) := by decide +kernel
theorem dX10_hourOn_88 : decode cX10_hourOn 88 = .ok (.istore_n 1, 1) := by decide +kernel
theorem dX10_hourOn_89 : decode cX10_hourOn 89 = .ok (.iconst 0, 1) := by decide +kernel
theorem dX10_hourOn_90 : decode cX10_hourOn 90 = .ok (.istore_n 2, 1) := by decide +kernel
theorem dX10_hourOn_91 : decode cX10_hourOn 91 = .ok (.iload_n 2, 1) := by decide +kernel
theorem dX10_hourOn_92 : decode cX10_hourOn 92 = .ok (.aload_n 0, 1) := by decide +kernel
theorem dX10_hourOn_93 : decode cX10_hourOn 93 = .ok (.getfield 81, 3) := by decide +kernel
theorem dX10_hourOn_96 : decode cX10_hourOn 96 = .ok (.if_icmp .ge 53, 3) := by decide +kernel
theorem dX10_hourOn_99 : decode cX10_hourOn 99 = .ok (.aload_n 0, 1) := by decide +kernel
theorem dX10_hourOn_100 : decode cX10_hourOn 100 = .ok (.dup, 1) := by decide +kernel
theorem dX10_hourOn_101 : decode cX10_hourOn 101 = .ok (.getfield 95, 3) := by decide +kernel
theorem dX10_hourOn_104 : decode cX10_hourOn 104 = .ok (.aload_n 0, 1) := by decide +kernel
theorem dX10_hourOn_105 : decode cX10_hourOn 105 = .ok (.getfield 7, 3) := by decide +kernel
theorem dX10_hourOn_108 : decode cX10_hourOn 108 = .ok (.iload_n 2, 1) := by decide +kernel
theorem dX10_hourOn_109 : decode cX10_hourOn 109 = .ok (.iaload, 1) := by decide +kernel
theorem dX10_hourOn_110 : decode cX10_hourOn 110 = .ok (.iconst 1, 1) := by decide +kernel
theorem dX10_hourOn_111 : decode cX10_hourOn 111 = .ok (.if_icmp .ne 27, 3) := by decide +kernel
theorem dX10_hourOn_114 : decode cX10_hourOn 114 = .ok (.aload_n 0, 1) := by decide +kernel
theorem dX10_hourOn_115 : decode cX10_hourOn 115 = .ok (.getfield 105, 3) := by decide +kernel
theorem dX10_hourOn_118 : decode cX10_hourOn 118 = .ok (.aload_n 0, 1) := by decide +kernel
theorem dX10_hourOn_119 : decode cX10_hourOn 119 = .ok (.getfield 13, 3) := by decide +kernel
theorem dX10_hourOn_122 : decode cX10_hourOn 122 = .ok (.iload_n 2, 1) := by decide +kernel
theorem dX10_hourOn_123 : decode cX10_hourOn 123 = .ok (.iaload, 1) := by decide +kernel
theorem dX10_hourOn_124 : decode cX10_hourOn 124 = .ok (.iconst 3, 1) := by decide +kernel
theorem dX10_hourOn_125 : decode cX10_hourOn 125 = .ok (.iadd, 1) := by decide +kernel
theorem dX10_hourOn_126 : decode cX10_hourOn 126 = .ok (.irem, 1) := by decide +kernel
theorem dX10_hourOn_127 : decode cX10_hourOn 127 = .ok (.ifCond .ne 11, 3) := by decide +kernel
theorem dX10_hourOn_130 : decode cX10_hourOn 130 = .ok (.iconst 1, 1) := by decide +kernel
theorem dX10_hourOn_131 : decode cX10_hourOn 131 = .ok (.iload_n 2, 1) := by decide +kernel
theorem dX10_hourOn_132 : decode cX10_hourOn 132 = .ok (.ishl, 1) := by decide +kernel
theorem dX10_hourOn_133 : decode cX10_hourOn 133 = .ok (.iconst (-1), 1) := by decide +kernel
theorem dX10_hourOn_134 : decode cX10_hourOn 134 = .ok (.ixor, 1) := by decide +kernel
theorem dX10_hourOn_135 : decode cX10_hourOn 135 = .ok (.goto 4, 3) := by decide +kernel
theorem dX10_hourOn_138 : decode cX10_hourOn 138 = .ok (.iconst (-1), 1) := by decide +kernel
theorem dX10_hourOn_139 : decode cX10_hourOn 139 = .ok (.iand, 1) := by decide +kernel
theorem dX10_hourOn_140 : decode cX10_hourOn 140 = .ok (.putfield 95, 3) := by decide +kernel
theorem dX10_hourOn_143 : decode cX10_hourOn 143 = .ok (.iinc 2 1, 3) := by decide +kernel
theorem dX10_hourOn_146 : decode cX10_hourOn 146 = .ok (.goto (-55), 3) := by decide +kernel
theorem dX10_hourOn_149 : decode cX10_hourOn 149 = .ok (.iload_n 1, 1) := by decide +kernel
theorem dX10_hourOn_150 : decode cX10_hourOn 150 = .ok (.ireturn, 1) := by decide +kernel
theorem dX10_goHours_0 : decode cX10_goHours 0 = .ok (.iconst 0, 1) := by decide +kernel
theorem dX10_goHours_1 : decode cX10_goHours 1 = .ok (.istore_n 2, 1) := by decide +kernel
theorem dX10_goHours_2 : decode cX10_goHours 2 = .ok (.iload_n 2, 1) := by decide +kernel
theorem dX10_goHours_3 : decode cX10_goHours 3 = .ok (.iload_n 1, 1) := by decide +kernel
theorem dX10_goHours_4 : decode cX10_goHours 4 = .ok (.if_icmp .ge 14, 3) := by decide +kernel
theorem dX10_goHours_7 : decode cX10_goHours 7 = .ok (.aload_n 0, 1) := by decide +kernel
theorem dX10_goHours_8 : decode cX10_goHours 8 = .ok (.invokevirtual 134, 3) := by decide +kernel
theorem dX10_goHours_11 : decode cX10_goHours 11 = .ok (.pop, 1) := by decide +kernel
theorem dX10_goHours_12 : decode cX10_goHours 12 = .ok (.iinc 2 1, 3) := by decide +kernel
theorem dX10_goHours_15 : decode cX10_goHours 15 = .ok (.goto (-13), 3) := by decide +kernel
theorem dX10_goHours_18 : decode cX10_goHours 18 = .ok (.return_, 1) := by decide +kernel
theorem dX10_allWorn_0 : decode cX10_allWorn 0 = .ok (.iconst 0, 1) := by decide +kernel
theorem dX10_allWorn_1 : decode cX10_allWorn 1 = .ok (.istore_n 1, 1) := by decide +kernel
theorem dX10_allWorn_2 : decode cX10_allWorn 2 = .ok (.iconst 0, 1) := by decide +kernel
theorem dX10_allWorn_3 : decode cX10_allWorn 3 = .ok (.istore_n 2, 1) := by decide +kernel
theorem dX10_allWorn_4 : decode cX10_allWorn 4 = .ok (.iload_n 2, 1) := by decide +kernel
theorem dX10_allWorn_5 : decode cX10_allWorn 5 = .ok (.aload_n 0, 1) := by decide +kernel
theorem dX10_allWorn_6 : decode cX10_allWorn 6 = .ok (.getfield 81, 3) := by decide +kernel
theorem dX10_allWorn_9 : decode cX10_allWorn 9 = .ok (.if_icmp .ge 18, 3) := by decide +kernel
theorem dX10_allWorn_12 : decode cX10_allWorn 12 = .ok (.iload_n 1, 1) := by decide +kernel
theorem dX10_allWorn_13 : decode cX10_allWorn 13 = .ok (.aload_n 0, 1) := by decide +kernel
theorem dX10_allWorn_14 : decode cX10_allWorn 14 = .ok (.getfield 16, 3) := by decide +kernel
theorem dX10_allWorn_17 : decode cX10_allWorn 17 = .ok (.iload_n 2, 1) := by decide +kernel
theorem dX10_allWorn_18 : decode cX10_allWorn 18 = .ok (.iaload, 1) := by decide +kernel
theorem dX10_allWorn_19 : decode cX10_allWorn 19 = .ok (.iadd, 1) := by decide +kernel
theorem dX10_allWorn_20 : decode cX10_allWorn 20 = .ok (.istore_n 1, 1) := by decide +kernel
theorem dX10_allWorn_21 : decode cX10_allWorn 21 = .ok (.iinc 2 1, 3) := by decide +kernel
theorem dX10_allWorn_24 : decode cX10_allWorn 24 = .ok (.goto (-20), 3) := by decide +kernel
theorem dX10_allWorn_27 : decode cX10_allWorn 27 = .ok (.iload_n 1, 1) := by decide +kernel
theorem dX10_allWorn_28 : decode cX10_allWorn 28 = .ok (.ireturn, 1) := by decide +kernel
theorem dX10_tookBy_0 : decode cX10_tookBy 0 = .ok (.iload_n 0, 1) := by decide +kernel
theorem dX10_tookBy_1 : decode cX10_tookBy 1 = .ok (.tableswitch 50 0 3 #[31, 33, 35, 41], 31) := by decide +kernel
theorem dX10_tookBy_32 : decode cX10_tookBy 32 = .ok (.iconst 2, 1) := by decide +kernel
theorem dX10_tookBy_33 : decode cX10_tookBy 33 = .ok (.ireturn, 1) := by decide +kernel
theorem dX10_tookBy_34 : decode cX10_tookBy 34 = .ok (.iconst 1, 1) := by decide +kernel
theorem dX10_tookBy_35 : decode cX10_tookBy 35 = .ok (.ireturn, 1) := by decide +kernel
theorem dX10_tookBy_36 : decode cX10_tookBy 36 = .ok (.iconst 3, 1) := by decide +kernel
theorem dX10_tookBy_37 : decode cX10_tookBy 37 = .ok (.iload_n 2, 1) := by decide +kernel
theorem dX10_tookBy_38 : decode cX10_tookBy 38 = .ok (.iadd, 1) := by decide +kernel
theorem dX10_tookBy_39 : decode cX10_tookBy 39 = .ok (.iload_n 1, 1) := by decide +kernel
theorem dX10_tookBy_40 : decode cX10_tookBy 40 = .ok (.isub, 1) := by decide +kernel
theorem dX10_tookBy_41 : decode cX10_tookBy 41 = .ok (.ireturn, 1) := by decide +kernel
theorem dX10_tookBy_42 : decode cX10_tookBy 42 = .ok (.bipush 6, 2) := by decide +kernel
theorem dX10_tookBy_44 : decode cX10_tookBy 44 = .ok (.iconst 2, 1) := by decide +kernel
theorem dX10_tookBy_45 : decode cX10_tookBy 45 = .ok (.iload_n 2, 1) := by decide +kernel
theorem dX10_tookBy_46 : decode cX10_tookBy 46 = .ok (.iload_n 1, 1) := by decide +kernel
theorem dX10_tookBy_47 : decode cX10_tookBy 47 = .ok (.isub, 1) := by decide +kernel
theorem dX10_tookBy_48 : decode cX10_tookBy 48 = .ok (.imul, 1) := by decide +kernel
theorem dX10_tookBy_49 : decode cX10_tookBy 49 = .ok (.iadd, 1) := by decide +kernel
theorem dX10_tookBy_50 : decode cX10_tookBy 50 = .ok (.ireturn, 1) := by decide +kernel
theorem dX10_tookBy_51 : decode cX10_tookBy 51 = .ok (.bipush 8, 2) := by decide +kernel
theorem dX10_tookBy_53 : decode cX10_tookBy 53 = .ok (.ireturn, 1) := by decide +kernel
theorem dX10_tellsBy_0 : decode cX10_tellsBy 0 = .ok (.aload_n 0, 1) := by decide +kernel
theorem dX10_tellsBy_1 : decode cX10_tellsBy 1 = .ok (.getfield 105, 3) := by decide +kernel
theorem dX10_tellsBy_4 : decode cX10_tellsBy 4 = .ok (.iconst 1, 1) := by decide +kernel
theorem dX10_tellsBy_5 : decode cX10_tellsBy 5 = .ok (.iadd, 1) := by decide +kernel
theorem dX10_tellsBy_6 : decode cX10_tellsBy 6 = .ok (.istore 4, 2) := by decide +kernel
theorem dX10_tellsBy_8 : decode cX10_tellsBy 8 = .ok (.iload_n 1, 1) := by decide +kernel
theorem dX10_tellsBy_9 : decode cX10_tellsBy 9 = .ok (.tableswitch 105 0 3 #[31, 37, 61, 72], 31) := by decide +kernel
theorem dX10_tellsBy_40 : decode cX10_tellsBy 40 = .ok (.aload_n 0, 1) := by decide +kernel
theorem dX10_tellsBy_41 : decode cX10_tellsBy 41 = .ok (.iload_n 2, 1) := by decide +kernel
theorem dX10_tellsBy_42 : decode cX10_tellsBy 42 = .ok (.invokevirtual 138, 3) := by decide +kernel
theorem dX10_tellsBy_45 : decode cX10_tellsBy 45 = .ok (.ireturn, 1) := by decide +kernel
theorem dX10_tellsBy_46 : decode cX10_tellsBy 46 = .ok (.aload_n 0, 1) := by decide +kernel
theorem dX10_tellsBy_47 : decode cX10_tellsBy 47 = .ok (.dup, 1) := by decide +kernel
theorem dX10_tellsBy_48 : decode cX10_tellsBy 48 = .ok (.getfield 95, 3) := by decide +kernel
theorem dX10_tellsBy_51 : decode cX10_tellsBy 51 = .ok (.iconst 1, 1) := by decide +kernel
theorem dX10_tellsBy_52 : decode cX10_tellsBy 52 = .ok (.iload_n 2, 1) := by decide +kernel
theorem dX10_tellsBy_53 : decode cX10_tellsBy 53 = .ok (.ishl, 1) := by decide +kernel
theorem dX10_tellsBy_54 : decode cX10_tellsBy 54 = .ok (.ior, 1) := by decide +kernel
theorem dX10_tellsBy_55 : decode cX10_tellsBy 55 = .ok (.putfield 95, 3) := by decide +kernel
theorem dX10_tellsBy_58 : decode cX10_tellsBy 58 = .ok (.aload_n 0, 1) := by decide +kernel
theorem dX10_tellsBy_59 : decode cX10_tellsBy 59 = .ok (.iconst 0, 1) := by decide +kernel
theorem dX10_tellsBy_60 : decode cX10_tellsBy 60 = .ok (.aload_n 0, 1) := by decide +kernel
theorem dX10_tellsBy_61 : decode cX10_tellsBy 61 = .ok (.getfield 81, 3) := by decide +kernel
theorem dX10_tellsBy_64 : decode cX10_tellsBy 64 = .ok (.iload 4, 2) := by decide +kernel
theorem dX10_tellsBy_66 : decode cX10_tellsBy 66 = .ok (.invokevirtual 108, 3) := by decide +kernel
theorem dX10_tellsBy_69 : decode cX10_tellsBy 69 = .ok (.ireturn, 1) := by decide +kernel
theorem dX10_tellsBy_70 : decode cX10_tellsBy 70 = .ok (.aload_n 0, 1) := by decide +kernel
theorem dX10_tellsBy_71 : decode cX10_tellsBy 71 = .ok (.iload_n 2, 1) := by decide +kernel
theorem dX10_tellsBy_72 : decode cX10_tellsBy 72 = .ok (.iload_n 3, 1) := by decide +kernel
theorem dX10_tellsBy_73 : decode cX10_tellsBy 73 = .ok (.iconst 1, 1) := by decide +kernel
theorem dX10_tellsBy_74 : decode cX10_tellsBy 74 = .ok (.iadd, 1) := by decide +kernel
theorem dX10_tellsBy_75 : decode cX10_tellsBy 75 = .ok (.iload 4, 2) := by decide +kernel
theorem dX10_tellsBy_77 : decode cX10_tellsBy 77 = .ok (.invokevirtual 108, 3) := by decide +kernel
theorem dX10_tellsBy_80 : decode cX10_tellsBy 80 = .ok (.ireturn, 1) := by decide +kernel
theorem dX10_tellsBy_81 : decode cX10_tellsBy 81 = .ok (.aload_n 0, 1) := by decide +kernel
theorem dX10_tellsBy_82 : decode cX10_tellsBy 82 = .ok (.iconst 0, 1) := by decide +kernel
theorem dX10_tellsBy_83 : decode cX10_tellsBy 83 = .ok (.iload_n 2, 1) := by decide +kernel
theorem dX10_tellsBy_84 : decode cX10_tellsBy 84 = .ok (.iload 4, 2) := by decide +kernel
theorem dX10_tellsBy_86 : decode cX10_tellsBy 86 = .ok (.invokevirtual 108, 3) := by decide +kernel
theorem dX10_tellsBy_89 : decode cX10_tellsBy 89 = .ok (.ifCond .eq 23, 3) := by decide +kernel
theorem dX10_tellsBy_92 : decode cX10_tellsBy 92 = .ok (.aload_n 0, 1) := by decide +kernel
theorem dX10_tellsBy_93 : decode cX10_tellsBy 93 = .ok (.iload_n 3, 1) := by decide +kernel
theorem dX10_tellsBy_94 : decode cX10_tellsBy 94 = .ok (.iconst 1, 1) := by decide +kernel
theorem dX10_tellsBy_95 : decode cX10_tellsBy 95 = .ok (.iadd, 1) := by decide +kernel
theorem dX10_tellsBy_96 : decode cX10_tellsBy 96 = .ok (.aload_n 0, 1) := by decide +kernel
theorem dX10_tellsBy_97 : decode cX10_tellsBy 97 = .ok (.getfield 81, 3) := by decide +kernel
theorem dX10_tellsBy_100 : decode cX10_tellsBy 100 = .ok (.iload 4, 2) := by decide +kernel
theorem dX10_tellsBy_102 : decode cX10_tellsBy 102 = .ok (.invokevirtual 108, 3) := by decide +kernel
theorem dX10_tellsBy_105 : decode cX10_tellsBy 105 = .ok (.ifCond .eq 7, 3) := by decide +kernel
theorem dX10_tellsBy_108 : decode cX10_tellsBy 108 = .ok (.iconst 1, 1) := by decide +kernel
theorem dX10_tellsBy_109 : decode cX10_tellsBy 109 = .ok (.goto 4, 3) := by decide +kernel
theorem dX10_tellsBy_112 : decode cX10_tellsBy 112 = .ok (.iconst 0, 1) := by decide +kernel
theorem dX10_tellsBy_113 : decode cX10_tellsBy 113 = .ok (.ireturn, 1) := by decide +kernel
theorem dX10_tellsBy_114 : decode cX10_tellsBy 114 = .ok (.aload_n 0, 1) := by decide +kernel
theorem dX10_tellsBy_115 : decode cX10_tellsBy 115 = .ok (.iconst 0, 1) := by decide +kernel
theorem dX10_tellsBy_116 : decode cX10_tellsBy 116 = .ok (.iload_n 2, 1) := by decide +kernel
theorem dX10_tellsBy_117 : decode cX10_tellsBy 117 = .ok (.iload 4, 2) := by decide +kernel
theorem dX10_tellsBy_119 : decode cX10_tellsBy 119 = .ok (.invokevirtual 108, 3) := by decide +kernel
theorem dX10_tellsBy_122 : decode cX10_tellsBy 122 = .ok (.ifCond .eq 23, 3) := by decide +kernel
theorem dX10_tellsBy_125 : decode cX10_tellsBy 125 = .ok (.aload_n 0, 1) := by decide +kernel
theorem dX10_tellsBy_126 : decode cX10_tellsBy 126 = .ok (.iload_n 2, 1) := by decide +kernel
theorem dX10_tellsBy_127 : decode cX10_tellsBy 127 = .ok (.iconst 1, 1) := by decide +kernel
theorem dX10_tellsBy_128 : decode cX10_tellsBy 128 = .ok (.iadd, 1) := by decide +kernel
theorem dX10_tellsBy_129 : decode cX10_tellsBy 129 = .ok (.aload_n 0, 1) := by decide +kernel
theorem dX10_tellsBy_130 : decode cX10_tellsBy 130 = .ok (.getfield 81, 3) := by decide +kernel
theorem dX10_tellsBy_133 : decode cX10_tellsBy 133 = .ok (.iload 4, 2) := by decide +kernel
theorem dX10_tellsBy_135 : decode cX10_tellsBy 135 = .ok (.invokevirtual 108, 3) := by decide +kernel
theorem dX10_tellsBy_138 : decode cX10_tellsBy 138 = .ok (.ifCond .eq 7, 3) := by decide +kernel
theorem dX10_tellsBy_141 : decode cX10_tellsBy 141 = .ok (.iconst 1, 1) := by decide +kernel
theorem dX10_tellsBy_142 : decode cX10_tellsBy 142 = .ok (.goto 4, 3) := by decide +kernel
theorem dX10_tellsBy_145 : decode cX10_tellsBy 145 = .ok (.iconst 0, 1) := by decide +kernel
theorem dX10_tellsBy_146 : decode cX10_tellsBy 146 = .ok (.ireturn, 1) := by decide +kernel
theorem dX10_usedOn_0 : decode cX10_usedOn 0 = .ok (.aload_n 0, 1) := by decide +kernel
theorem dX10_usedOn_1 : decode cX10_usedOn 1 = .ok (.aload_n 0, 1) := by decide +kernel
theorem dX10_usedOn_2 : decode cX10_usedOn 2 = .ok (.getfield 142, 3) := by decide +kernel
theorem dX10_usedOn_5 : decode cX10_usedOn 5 = .ok (.iload_n 1, 1) := by decide +kernel
theorem dX10_usedOn_6 : decode cX10_usedOn 6 = .ok (.iload_n 2, 1) := by decide +kernel
theorem dX10_usedOn_7 : decode cX10_usedOn 7 = .ok (.iload_n 3, 1) := by decide +kernel
theorem dX10_usedOn_8 : decode cX10_usedOn 8 = .ok (.invokestatic 145, 3) := by decide +kernel
theorem dX10_usedOn_11 : decode cX10_usedOn 11 = .ok (.iadd, 1) := by decide +kernel
theorem dX10_usedOn_12 : decode cX10_usedOn 12 = .ok (.aload_n 0, 1) := by decide +kernel
theorem dX10_usedOn_13 : decode cX10_usedOn 13 = .ok (.getfield 149, 3) := by decide +kernel
theorem dX10_usedOn_16 : decode cX10_usedOn 16 = .ok (.iload_n 2, 1) := by decide +kernel
theorem dX10_usedOn_17 : decode cX10_usedOn 17 = .ok (.invokestatic 152, 3) := by decide +kernel
theorem dX10_usedOn_20 : decode cX10_usedOn 20 = .ok (.iadd, 1) := by decide +kernel
theorem dX10_usedOn_21 : decode cX10_usedOn 21 = .ok (.sipush 9999, 3) := by decide +kernel
theorem dX10_usedOn_24 : decode cX10_usedOn 24 = .ok (.invokestatic 122, 3) := by decide +kernel
theorem dX10_usedOn_27 : decode cX10_usedOn 27 = .ok (.putfield 142, 3) := by decide +kernel
theorem dX10_usedOn_30 : decode cX10_usedOn 30 = .ok (.aload_n 0, 1) := by decide +kernel
theorem dX10_usedOn_31 : decode cX10_usedOn 31 = .ok (.iload_n 1, 1) := by decide +kernel
theorem dX10_usedOn_32 : decode cX10_usedOn 32 = .ok (.iconst 2, 1) := by decide +kernel
theorem dX10_usedOn_33 : decode cX10_usedOn 33 = .ok (.if_icmp .eq 8, 3) := by decide +kernel
theorem dX10_usedOn_36 : decode cX10_usedOn 36 = .ok (.iload_n 1, 1) := by decide +kernel
theorem dX10_usedOn_37 : decode cX10_usedOn 37 = .ok (.iconst 3, 1) := by decide +kernel
theorem dX10_usedOn_38 : decode cX10_usedOn 38 = .ok (.if_icmp .ne 7, 3) := by decide +kernel
theorem dX10_usedOn_41 : decode cX10_usedOn 41 = .ok (.iload_n 3, 1) := by decide +kernel
theorem dX10_usedOn_42 : decode cX10_usedOn 42 = .ok (.goto 4, 3) := by decide +kernel
theorem dX10_usedOn_45 : decode cX10_usedOn 45 = .ok (.iload_n 2, 1) := by decide +kernel
theorem dX10_usedOn_46 : decode cX10_usedOn 46 = .ok (.putfield 149, 3) := by decide +kernel
theorem dX10_usedOn_49 : decode cX10_usedOn 49 = .ok (.aload_n 0, 1) := by decide +kernel
theorem dX10_usedOn_50 : decode cX10_usedOn 50 = .ok (.iload_n 1, 1) := by decide +kernel
theorem dX10_usedOn_51 : decode cX10_usedOn 51 = .ok (.iload_n 2, 1) := by decide +kernel
theorem dX10_usedOn_52 : decode cX10_usedOn 52 = .ok (.iload_n 3, 1) := by decide +kernel
theorem dX10_usedOn_53 : decode cX10_usedOn 53 = .ok (.invokevirtual 155, 3) := by decide +kernel
theorem dX10_usedOn_56 : decode cX10_usedOn 56 = .ok (.ifCond .eq 7, 3) := by decide +kernel
theorem dX10_usedOn_59 : decode cX10_usedOn 59 = .ok (.iconst 1, 1) := by decide +kernel
theorem dX10_usedOn_60 : decode cX10_usedOn 60 = .ok (.goto 4, 3) := by decide +kernel
theorem dX10_usedOn_63 : decode cX10_usedOn 63 = .ok (.iconst 0, 1) := by decide +kernel
theorem dX10_usedOn_64 : decode cX10_usedOn 64 = .ok (.ireturn, 1) := by decide +kernel
theorem dX10_becomesSpare_0 : decode cX10_becomesSpare 0 = .ok (.aload_n 0, 1) := by decide +kernel
theorem dX10_becomesSpare_1 : decode cX10_becomesSpare 1 = .ok (.getfield 7, 3) := by decide +kernel
theorem dX10_becomesSpare_4 : decode cX10_becomesSpare 4 = .ok (.iload_n 1, 1) := by decide +kernel
theorem dX10_becomesSpare_5 : decode cX10_becomesSpare 5 = .ok (.bipush 6, 2) := by decide +kernel
theorem dX10_becomesSpare_7 : decode cX10_becomesSpare 7 = .ok (.iastore, 1) := by decide +kernel
theorem dX10_becomesSpare_8 : decode cX10_becomesSpare 8 = .ok (.aload_n 0, 1) := by decide +kernel
theorem dX10_becomesSpare_9 : decode cX10_becomesSpare 9 = .ok (.getfield 13, 3) := by decide +kernel
theorem dX10_becomesSpare_12 : decode cX10_becomesSpare 12 = .ok (.iload_n 1, 1) := by decide +kernel
theorem dX10_becomesSpare_13 : decode cX10_becomesSpare 13 = .ok (.iconst 5, 1) := by decide +kernel
theorem dX10_becomesSpare_14 : decode cX10_becomesSpare 14 = .ok (.iastore, 1) := by decide +kernel
theorem dX10_becomesSpare_15 : decode cX10_becomesSpare 15 = .ok (.aload_n 0, 1) := by decide +kernel
theorem dX10_becomesSpare_16 : decode cX10_becomesSpare 16 = .ok (.getfield 16, 3) := by decide +kernel
theorem dX10_becomesSpare_19 : decode cX10_becomesSpare 19 = .ok (.iload_n 1, 1) := by decide +kernel
theorem dX10_becomesSpare_20 : decode cX10_becomesSpare 20 = .ok (.iconst 0, 1) := by decide +kernel
theorem dX10_becomesSpare_21 : decode cX10_becomesSpare 21 = .ok (.iastore, 1) := by decide +kernel
theorem dX10_becomesSpare_22 : decode cX10_becomesSpare 22 = .ok (.aload_n 0, 1) := by decide +kernel
theorem dX10_becomesSpare_23 : decode cX10_becomesSpare 23 = .ok (.dup, 1) := by decide +kernel
theorem dX10_becomesSpare_24 : decode cX10_becomesSpare 24 = .ok (.getfield 88, 3) := by decide +kernel
theorem dX10_becomesSpare_27 : decode cX10_becomesSpare 27 = .ok (.iconst 1, 1) := by decide +kernel
theorem dX10_becomesSpare_28 : decode cX10_becomesSpare 28 = .ok (.iload_n 1, 1) := by decide +kernel
theorem dX10_becomesSpare_29 : decode cX10_becomesSpare 29 = .ok (.ishl, 1) := by decide +kernel
theorem dX10_becomesSpare_30 : decode cX10_becomesSpare 30 = .ok (.ior, 1) := by decide +kernel
theorem dX10_becomesSpare_31 : decode cX10_becomesSpare 31 = .ok (.putfield 88, 3) := by decide +kernel
theorem dX10_becomesSpare_34 : decode cX10_becomesSpare 34 = .ok (.aload_n 0, 1) := by decide +kernel
theorem dX10_becomesSpare_35 : decode cX10_becomesSpare 35 = .ok (.dup, 1) := by decide +kernel
theorem dX10_becomesSpare_36 : decode cX10_becomesSpare 36 = .ok (.getfield 95, 3) := by decide +kernel
theorem dX10_becomesSpare_39 : decode cX10_becomesSpare 39 = .ok (.iconst 1, 1) := by decide +kernel
theorem dX10_becomesSpare_40 : decode cX10_becomesSpare 40 = .ok (.iload_n 1, 1) := by decide +kernel
theorem dX10_becomesSpare_41 : decode cX10_becomesSpare 41 = .ok (.ishl, 1) := by decide +kernel
theorem dX10_becomesSpare_42 : decode cX10_becomesSpare 42 = .ok (.ior, 1) := by decide +kernel
theorem dX10_becomesSpare_43 : decode cX10_becomesSpare 43 = .ok (.putfield 95, 3) := by decide +kernel
theorem dX10_becomesSpare_46 : decode cX10_becomesSpare 46 = .ok (.return_, 1) := by decide +kernel
theorem dX10_twisted_0 : decode cX10_twisted 0 = .ok (.bipush 8, 2) := by decide +kernel
theorem dX10_twisted_2 : decode cX10_twisted 2 = .ok (.aload_n 0, 1) := by decide +kernel
theorem dX10_twisted_3 : decode cX10_twisted 3 = .ok (.getfield 149, 3) := by decide +kernel
theorem dX10_twisted_6 : decode cX10_twisted 6 = .ok (.iload_n 1, 1) := by decide +kernel
theorem dX10_twisted_7 : decode cX10_twisted 7 = .ok (.invokestatic 152, 3) := by decide +kernel
theorem dX10_twisted_10 : decode cX10_twisted 10 = .ok (.iadd, 1) := by decide +kernel
theorem dX10_twisted_11 : decode cX10_twisted 11 = .ok (.istore_n 2, 1) := by decide +kernel
theorem dX10_twisted_12 : decode cX10_twisted 12 = .ok (.aload_n 0, 1) := by decide +kernel
theorem dX10_twisted_13 : decode cX10_twisted 13 = .ok (.aload_n 0, 1) := by decide +kernel
theorem dX10_twisted_14 : decode cX10_twisted 14 = .ok (.getfield 142, 3) := by decide +kernel
theorem dX10_twisted_17 : decode cX10_twisted 17 = .ok (.iload_n 2, 1) := by decide +kernel
theorem dX10_twisted_18 : decode cX10_twisted 18 = .ok (.iadd, 1) := by decide +kernel
theorem dX10_twisted_19 : decode cX10_twisted 19 = .ok (.sipush 9999, 3) := by decide +kernel
theorem dX10_twisted_22 : decode cX10_twisted 22 = .ok (.invokestatic 122, 3) := by decide +kernel
theorem dX10_twisted_25 : decode cX10_twisted 25 = .ok (.putfield 142, 3) := by decide +kernel
theorem dX10_twisted_28 : decode cX10_twisted 28 = .ok (.aload_n 0, 1) := by decide +kernel
theorem dX10_twisted_29 : decode cX10_twisted 29 = .ok (.iload_n 1, 1) := by decide +kernel
theorem dX10_twisted_30 : decode cX10_twisted 30 = .ok (.putfield 149, 3) := by decide +kernel
theorem dX10_twisted_33 : decode cX10_twisted 33 = .ok (.aload_n 0, 1) := by decide +kernel
theorem dX10_twisted_34 : decode cX10_twisted 34 = .ok (.dup, 1) := by decide +kernel
theorem dX10_twisted_35 : decode cX10_twisted 35 = .ok (.getfield 19, 3) := by decide +kernel
theorem dX10_twisted_38 : decode cX10_twisted 38 = .ok (.iconst 1, 1) := by decide +kernel
theorem dX10_twisted_39 : decode cX10_twisted 39 = .ok (.isub, 1) := by decide +kernel
theorem dX10_twisted_40 : decode cX10_twisted 40 = .ok (.putfield 19, 3) := by decide +kernel
theorem dX10_twisted_43 : decode cX10_twisted 43 = .ok (.aload_n 0, 1) := by decide +kernel
theorem dX10_twisted_44 : decode cX10_twisted 44 = .ok (.iload_n 1, 1) := by decide +kernel
theorem dX10_twisted_45 : decode cX10_twisted 45 = .ok (.invokevirtual 158, 3) := by decide +kernel
theorem dX10_twisted_48 : decode cX10_twisted 48 = .ok (.iload_n 2, 1) := by decide +kernel
theorem dX10_twisted_49 : decode cX10_twisted 49 = .ok (.ireturn, 1) := by decide +kernel
theorem dX10_here_0 : decode cX10_here 0 = .ok (.aload_n 0, 1) := by decide +kernel
theorem dX10_here_1 : decode cX10_here 1 = .ok (.getfield 162, 3) := by decide +kernel
theorem dX10_here_4 : decode cX10_here 4 = .ok (.aload_n 0, 1) := by decide +kernel
theorem dX10_here_5 : decode cX10_here 5 = .ok (.getfield 38, 3) := by decide +kernel
theorem dX10_here_8 : decode cX10_here 8 = .ok (.aload_n 0, 1) := by decide +kernel
theorem dX10_here_9 : decode cX10_here 9 = .ok (.getfield 165, 3) := by decide +kernel
theorem dX10_here_12 : decode cX10_here 12 = .ok (.iaload, 1) := by decide +kernel
theorem dX10_here_13 : decode cX10_here 13 = .ok (.if_icmp .ge 24, 3) := by decide +kernel
theorem dX10_here_16 : decode cX10_here 16 = .ok (.aload_n 0, 1) := by decide +kernel
theorem dX10_here_17 : decode cX10_here 17 = .ok (.getfield 41, 3) := by decide +kernel
theorem dX10_here_20 : decode cX10_here 20 = .ok (.bipush 100, 2) := by decide +kernel
theorem dX10_here_22 : decode cX10_here 22 = .ok (.aload_n 0, 1) := by decide +kernel
theorem dX10_here_23 : decode cX10_here 23 = .ok (.getfield 165, 3) := by decide +kernel
theorem dX10_here_26 : decode cX10_here 26 = .ok (.imul, 1) := by decide +kernel
theorem dX10_here_27 : decode cX10_here 27 = .ok (.aload_n 0, 1) := by decide +kernel
theorem dX10_here_28 : decode cX10_here 28 = .ok (.getfield 162, 3) := by decide +kernel
theorem dX10_here_31 : decode cX10_here 31 = .ok (.iadd, 1) := by decide +kernel
theorem dX10_here_32 : decode cX10_here 32 = .ok (.laload, 1) := by decide +kernel
theorem dX10_here_33 : decode cX10_here 33 = .ok (.l2i, 1) := by decide +kernel
theorem dX10_here_34 : decode cX10_here 34 = .ok (.goto 6, 3) := by decide +kernel
theorem dX10_here_37 : decode cX10_here 37 = .ok (.sipush (-999), 3) := by decide +kernel
theorem dX10_here_40 : decode cX10_here 40 = .ok (.ireturn, 1) := by decide +kernel
theorem dX10_readDigits_0 : decode cX10_readDigits 0 = .ok (.iconst 0, 1) := by decide +kernel
theorem dX10_readDigits_1 : decode cX10_readDigits 1 = .ok (.istore_n 2, 1) := by decide +kernel
theorem dX10_readDigits_2 : decode cX10_readDigits 2 = .ok (.iconst 0, 1) := by decide +kernel
theorem dX10_readDigits_3 : decode cX10_readDigits 3 = .ok (.istore_n 3, 1) := by decide +kernel
theorem dX10_readDigits_4 : decode cX10_readDigits 4 = .ok (.iload_n 3, 1) := by decide +kernel
theorem dX10_readDigits_5 : decode cX10_readDigits 5 = .ok (.iload_n 1, 1) := by decide +kernel
theorem dX10_readDigits_6 : decode cX10_readDigits 6 = .ok (.if_icmp .ge 87, 3) := by decide +kernel
theorem dX10_readDigits_9 : decode cX10_readDigits 9 = .ok (.aload_n 0, 1) := by decide +kernel
theorem dX10_readDigits_10 : decode cX10_readDigits 10 = .ok (.aload_n 0, 1) := by decide +kernel
theorem dX10_readDigits_11 : decode cX10_readDigits 11 = .ok (.getfield 168, 3) := by decide +kernel
theorem dX10_readDigits_14 : decode cX10_readDigits 14 = .ok (.ifCond .ne 20, 3) := by decide +kernel
theorem dX10_readDigits_17 : decode cX10_readDigits 17 = .ok (.aload_n 0, 1) := by decide +kernel
theorem dX10_readDigits_18 : decode cX10_readDigits 18 = .ok (.invokevirtual 172, 3) := by decide +kernel
theorem dX10_readDigits_21 : decode cX10_readDigits 21 = .ok (.i2l, 1) := by decide +kernel
theorem dX10_readDigits_22 : decode cX10_readDigits 22 = .ok (.ldc2_w 176, 3) := by decide +kernel
theorem dX10_readDigits_25 : decode cX10_readDigits 25 = .ok (.ldc2_w 178, 3) := by decide +kernel
theorem dX10_readDigits_28 : decode cX10_readDigits 28 = .ok (.invokestatic 84, 3) := by decide +kernel
theorem dX10_readDigits_31 : decode cX10_readDigits 31 = .ok (.ifCond .ne 7, 3) := by decide +kernel
theorem dX10_readDigits_34 : decode cX10_readDigits 34 = .ok (.iconst 1, 1) := by decide +kernel
theorem dX10_readDigits_35 : decode cX10_readDigits 35 = .ok (.goto 4, 3) := by decide +kernel
theorem dX10_readDigits_38 : decode cX10_readDigits 38 = .ok (.iconst 0, 1) := by decide +kernel
theorem dX10_readDigits_39 : decode cX10_readDigits 39 = .ok (.putfield 168, 3) := by decide +kernel
theorem dX10_readDigits_42 : decode cX10_readDigits 42 = .ok (.aload_n 0, 1) := by decide +kernel
theorem dX10_readDigits_43 : decode cX10_readDigits 43 = .ok (.getfield 168, 3) := by decide +kernel
theorem dX10_readDigits_46 : decode cX10_readDigits 46 = .ok (.ifCond .eq 7, 3) := by decide +kernel
theorem dX10_readDigits_49 : decode cX10_readDigits 49 = .ok (.iconst 0, 1) := by decide +kernel
theorem dX10_readDigits_50 : decode cX10_readDigits 50 = .ok (.goto 15, 3) := by decide +kernel
theorem dX10_readDigits_53 : decode cX10_readDigits 53 = .ok (.bipush 10, 2) := by decide +kernel
theorem dX10_readDigits_55 : decode cX10_readDigits 55 = .ok (.iload_n 2, 1) := by decide +kernel
theorem dX10_readDigits_56 : decode cX10_readDigits 56 = .ok (.imul, 1) := by decide +kernel
theorem dX10_readDigits_57 : decode cX10_readDigits 57 = .ok (.aload_n 0, 1) := by decide +kernel
theorem dX10_readDigits_58 : decode cX10_readDigits 58 = .ok (.invokevirtual 172, 3) := by decide +kernel
theorem dX10_readDigits_61 : decode cX10_readDigits 61 = .ok (.iadd, 1) := by decide +kernel
theorem dX10_readDigits_62 : decode cX10_readDigits 62 = .ok (.bipush 48, 2) := by decide +kernel
theorem dX10_readDigits_64 : decode cX10_readDigits 64 = .ok (.isub, 1) := by decide +kernel
theorem dX10_readDigits_65 : decode cX10_readDigits 65 = .ok (.istore_n 2, 1) := by decide +kernel
theorem dX10_readDigits_66 : decode cX10_readDigits 66 = .ok (.aload_n 0, 1) := by decide +kernel
theorem dX10_readDigits_67 : decode cX10_readDigits 67 = .ok (.dup, 1) := by decide +kernel
theorem dX10_readDigits_68 : decode cX10_readDigits 68 = .ok (.getfield 162, 3) := by decide +kernel
theorem dX10_readDigits_71 : decode cX10_readDigits 71 = .ok (.aload_n 0, 1) := by decide +kernel
theorem dX10_readDigits_72 : decode cX10_readDigits 72 = .ok (.getfield 168, 3) := by decide +kernel
theorem dX10_readDigits_75 : decode cX10_readDigits 75 = .ok (.ifCond .eq 7, 3) := by decide +kernel
theorem dX10_readDigits_78 : decode cX10_readDigits 78 = .ok (.iconst 0, 1) := by decide +kernel
theorem dX10_readDigits_79 : decode cX10_readDigits 79 = .ok (.goto 4, 3) := by decide +kernel
theorem dX10_readDigits_82 : decode cX10_readDigits 82 = .ok (.iconst 1, 1) := by decide +kernel
theorem dX10_readDigits_83 : decode cX10_readDigits 83 = .ok (.iadd, 1) := by decide +kernel
theorem dX10_readDigits_84 : decode cX10_readDigits 84 = .ok (.putfield 162, 3) := by decide +kernel
theorem dX10_readDigits_87 : decode cX10_readDigits 87 = .ok (.iinc 3 1, 3) := by decide +kernel
theorem dX10_readDigits_90 : decode cX10_readDigits 90 = .ok (.goto (-86), 3) := by decide +kernel
theorem dX10_readDigits_93 : decode cX10_readDigits 93 = .ok (.iload_n 2, 1) := by decide +kernel
end
section
theorem dX10_readDigits_94 : decode cX10_readDigits 94 = .ok (.ireturn, 1) := by decide +kernel
theorem dX10_isLetter_0 : decode cX10_isLetter 0 = .ok (.iload_n 0, 1) := by decide +kernel
theorem dX10_isLetter_1 : decode cX10_isLetter 1 = .ok (.bipush 98, 2) := by decide +kernel
theorem dX10_isLetter_3 : decode cX10_isLetter 3 = .ok (.if_icmp .eq 39, 3) := by decide +kernel
theorem dX10_isLetter_6 : decode cX10_isLetter 6 = .ok (.iload_n 0, 1) := by decide +kernel
theorem dX10_isLetter_7 : decode cX10_isLetter 7 = .ok (.bipush 119, 2) := by decide +kernel
theorem dX10_isLetter_9 : decode cX10_isLetter 9 = .ok (.if_icmp .eq 33, 3) := by decide +kernel
theorem dX10_isLetter_12 : decode cX10_isLetter 12 = .ok (.iload_n 0, 1) := by decide +kernel
theorem dX10_isLetter_13 : decode cX10_isLetter 13 = .ok (.bipush 111, 2) := by decide +kernel
theorem dX10_isLetter_15 : decode cX10_isLetter 15 = .ok (.if_icmp .eq 27, 3) := by decide +kernel
theorem dX10_isLetter_18 : decode cX10_isLetter 18 = .ok (.iload_n 0, 1) := by decide +kernel
theorem dX10_isLetter_19 : decode cX10_isLetter 19 = .ok (.bipush 115, 2) := by decide +kernel
theorem dX10_isLetter_21 : decode cX10_isLetter 21 = .ok (.if_icmp .eq 21, 3) := by decide +kernel
theorem dX10_isLetter_24 : decode cX10_isLetter 24 = .ok (.iload_n 0, 1) := by decide +kernel
theorem dX10_isLetter_25 : decode cX10_isLetter 25 = .ok (.bipush 116, 2) := by decide +kernel
theorem dX10_isLetter_27 : decode cX10_isLetter 27 = .ok (.if_icmp .eq 15, 3) := by decide +kernel
theorem dX10_isLetter_30 : decode cX10_isLetter 30 = .ok (.iload_n 0, 1) := by decide +kernel
theorem dX10_isLetter_31 : decode cX10_isLetter 31 = .ok (.bipush 117, 2) := by decide +kernel
theorem dX10_isLetter_33 : decode cX10_isLetter 33 = .ok (.if_icmp .eq 9, 3) := by decide +kernel
theorem dX10_isLetter_36 : decode cX10_isLetter 36 = .ok (.iload_n 0, 1) := by decide +kernel
theorem dX10_isLetter_37 : decode cX10_isLetter 37 = .ok (.bipush 104, 2) := by decide +kernel
theorem dX10_isLetter_39 : decode cX10_isLetter 39 = .ok (.if_icmp .ne 7, 3) := by decide +kernel
theorem dX10_isLetter_42 : decode cX10_isLetter 42 = .ok (.iconst 1, 1) := by decide +kernel
theorem dX10_isLetter_43 : decode cX10_isLetter 43 = .ok (.goto 4, 3) := by decide +kernel
theorem dX10_isLetter_46 : decode cX10_isLetter 46 = .ok (.iconst 0, 1) := by decide +kernel
theorem dX10_isLetter_47 : decode cX10_isLetter 47 = .ok (.ireturn, 1) := by decide +kernel
theorem dX10_readNumbers_0 : decode cX10_readNumbers 0 = .ok (.aload_n 0, 1) := by decide +kernel
theorem dX10_readNumbers_1 : decode cX10_readNumbers 1 = .ok (.getfield 51, 3) := by decide +kernel
theorem dX10_readNumbers_4 : decode cX10_readNumbers 4 = .ok (.iload_n 2, 1) := by decide +kernel
theorem dX10_readNumbers_5 : decode cX10_readNumbers 5 = .ok (.aload_n 0, 1) := by decide +kernel
theorem dX10_readNumbers_6 : decode cX10_readNumbers 6 = .ok (.iload_n 1, 1) := by decide +kernel
theorem dX10_readNumbers_7 : decode cX10_readNumbers 7 = .ok (.bipush 104, 2) := by decide +kernel
theorem dX10_readNumbers_9 : decode cX10_readNumbers 9 = .ok (.if_icmp .ne 7, 3) := by decide +kernel
theorem dX10_readNumbers_12 : decode cX10_readNumbers 12 = .ok (.iconst 2, 1) := by decide +kernel
theorem dX10_readNumbers_13 : decode cX10_readNumbers 13 = .ok (.goto 4, 3) := by decide +kernel
theorem dX10_readNumbers_16 : decode cX10_readNumbers 16 = .ok (.iconst 1, 1) := by decide +kernel
theorem dX10_readNumbers_17 : decode cX10_readNumbers 17 = .ok (.invokevirtual 180, 3) := by decide +kernel
theorem dX10_readNumbers_20 : decode cX10_readNumbers 20 = .ok (.iastore, 1) := by decide +kernel
theorem dX10_readNumbers_21 : decode cX10_readNumbers 21 = .ok (.iload_n 1, 1) := by decide +kernel
theorem dX10_readNumbers_22 : decode cX10_readNumbers 22 = .ok (.bipush 98, 2) := by decide +kernel
theorem dX10_readNumbers_24 : decode cX10_readNumbers 24 = .ok (.if_icmp .eq 9, 3) := by decide +kernel
theorem dX10_readNumbers_27 : decode cX10_readNumbers 27 = .ok (.iload_n 1, 1) := by decide +kernel
theorem dX10_readNumbers_28 : decode cX10_readNumbers 28 = .ok (.bipush 117, 2) := by decide +kernel
theorem dX10_readNumbers_30 : decode cX10_readNumbers 30 = .ok (.if_icmp .ne 16, 3) := by decide +kernel
theorem dX10_readNumbers_33 : decode cX10_readNumbers 33 = .ok (.aload_n 0, 1) := by decide +kernel
theorem dX10_readNumbers_34 : decode cX10_readNumbers 34 = .ok (.getfield 51, 3) := by decide +kernel
theorem dX10_readNumbers_37 : decode cX10_readNumbers 37 = .ok (.iload_n 2, 1) := by decide +kernel
theorem dX10_readNumbers_38 : decode cX10_readNumbers 38 = .ok (.iconst 1, 1) := by decide +kernel
theorem dX10_readNumbers_39 : decode cX10_readNumbers 39 = .ok (.iadd, 1) := by decide +kernel
theorem dX10_readNumbers_40 : decode cX10_readNumbers 40 = .ok (.aload_n 0, 1) := by decide +kernel
theorem dX10_readNumbers_41 : decode cX10_readNumbers 41 = .ok (.iconst 1, 1) := by decide +kernel
theorem dX10_readNumbers_42 : decode cX10_readNumbers 42 = .ok (.invokevirtual 180, 3) := by decide +kernel
theorem dX10_readNumbers_45 : decode cX10_readNumbers 45 = .ok (.iastore, 1) := by decide +kernel
theorem dX10_readNumbers_46 : decode cX10_readNumbers 46 = .ok (.iload_n 1, 1) := by decide +kernel
theorem dX10_readNumbers_47 : decode cX10_readNumbers 47 = .ok (.bipush 119, 2) := by decide +kernel
theorem dX10_readNumbers_49 : decode cX10_readNumbers 49 = .ok (.if_icmp .ne 16, 3) := by decide +kernel
theorem dX10_readNumbers_52 : decode cX10_readNumbers 52 = .ok (.aload_n 0, 1) := by decide +kernel
theorem dX10_readNumbers_53 : decode cX10_readNumbers 53 = .ok (.getfield 51, 3) := by decide +kernel
theorem dX10_readNumbers_56 : decode cX10_readNumbers 56 = .ok (.iload_n 2, 1) := by decide +kernel
theorem dX10_readNumbers_57 : decode cX10_readNumbers 57 = .ok (.iconst 1, 1) := by decide +kernel
theorem dX10_readNumbers_58 : decode cX10_readNumbers 58 = .ok (.iadd, 1) := by decide +kernel
theorem dX10_readNumbers_59 : decode cX10_readNumbers 59 = .ok (.aload_n 0, 1) := by decide +kernel
theorem dX10_readNumbers_60 : decode cX10_readNumbers 60 = .ok (.iconst 3, 1) := by decide +kernel
theorem dX10_readNumbers_61 : decode cX10_readNumbers 61 = .ok (.invokevirtual 180, 3) := by decide +kernel
theorem dX10_readNumbers_64 : decode cX10_readNumbers 64 = .ok (.iastore, 1) := by decide +kernel
theorem dX10_readNumbers_65 : decode cX10_readNumbers 65 = .ok (.iload_n 1, 1) := by decide +kernel
theorem dX10_readNumbers_66 : decode cX10_readNumbers 66 = .ok (.bipush 117, 2) := by decide +kernel
theorem dX10_readNumbers_68 : decode cX10_readNumbers 68 = .ok (.if_icmp .ne 16, 3) := by decide +kernel
theorem dX10_readNumbers_71 : decode cX10_readNumbers 71 = .ok (.aload_n 0, 1) := by decide +kernel
theorem dX10_readNumbers_72 : decode cX10_readNumbers 72 = .ok (.getfield 51, 3) := by decide +kernel
theorem dX10_readNumbers_75 : decode cX10_readNumbers 75 = .ok (.iload_n 2, 1) := by decide +kernel
theorem dX10_readNumbers_76 : decode cX10_readNumbers 76 = .ok (.iconst 2, 1) := by decide +kernel
theorem dX10_readNumbers_77 : decode cX10_readNumbers 77 = .ok (.iadd, 1) := by decide +kernel
theorem dX10_readNumbers_78 : decode cX10_readNumbers 78 = .ok (.aload_n 0, 1) := by decide +kernel
theorem dX10_readNumbers_79 : decode cX10_readNumbers 79 = .ok (.iconst 1, 1) := by decide +kernel
theorem dX10_readNumbers_80 : decode cX10_readNumbers 80 = .ok (.invokevirtual 180, 3) := by decide +kernel
theorem dX10_readNumbers_83 : decode cX10_readNumbers 83 = .ok (.iastore, 1) := by decide +kernel
theorem dX10_readNumbers_84 : decode cX10_readNumbers 84 = .ok (.return_, 1) := by decide +kernel
theorem dX10_readStatement_0 : decode cX10_readStatement 0 = .ok (.aload_n 0, 1) := by decide +kernel
theorem dX10_readStatement_1 : decode cX10_readStatement 1 = .ok (.getfield 183, 3) := by decide +kernel
theorem dX10_readStatement_4 : decode cX10_readStatement 4 = .ok (.istore_n 1, 1) := by decide +kernel
theorem dX10_readStatement_5 : decode cX10_readStatement 5 = .ok (.aload_n 0, 1) := by decide +kernel
theorem dX10_readStatement_6 : decode cX10_readStatement 6 = .ok (.invokevirtual 172, 3) := by decide +kernel
theorem dX10_readStatement_9 : decode cX10_readStatement 9 = .ok (.istore_n 2, 1) := by decide +kernel
theorem dX10_readStatement_10 : decode cX10_readStatement 10 = .ok (.aload_n 0, 1) := by decide +kernel
theorem dX10_readStatement_11 : decode cX10_readStatement 11 = .ok (.getfield 45, 3) := by decide +kernel
theorem dX10_readStatement_14 : decode cX10_readStatement 14 = .ok (.iload_n 1, 1) := by decide +kernel
theorem dX10_readStatement_15 : decode cX10_readStatement 15 = .ok (.aload_n 0, 1) := by decide +kernel
theorem dX10_readStatement_16 : decode cX10_readStatement 16 = .ok (.getfield 162, 3) := by decide +kernel
theorem dX10_readStatement_19 : decode cX10_readStatement 19 = .ok (.iastore, 1) := by decide +kernel
theorem dX10_readStatement_20 : decode cX10_readStatement 20 = .ok (.aload_n 0, 1) := by decide +kernel
theorem dX10_readStatement_21 : decode cX10_readStatement 21 = .ok (.getfield 48, 3) := by decide +kernel
theorem dX10_readStatement_24 : decode cX10_readStatement 24 = .ok (.iload_n 1, 1) := by decide +kernel
theorem dX10_readStatement_25 : decode cX10_readStatement 25 = .ok (.iload_n 2, 1) := by decide +kernel
theorem dX10_readStatement_26 : decode cX10_readStatement 26 = .ok (.iastore, 1) := by decide +kernel
theorem dX10_readStatement_27 : decode cX10_readStatement 27 = .ok (.aload_n 0, 1) := by decide +kernel
theorem dX10_readStatement_28 : decode cX10_readStatement 28 = .ok (.aload_n 0, 1) := by decide +kernel
theorem dX10_readStatement_29 : decode cX10_readStatement 29 = .ok (.getfield 168, 3) := by decide +kernel
theorem dX10_readStatement_32 : decode cX10_readStatement 32 = .ok (.ifCond .ne 10, 3) := by decide +kernel
theorem dX10_readStatement_35 : decode cX10_readStatement 35 = .ok (.iload_n 2, 1) := by decide +kernel
theorem dX10_readStatement_36 : decode cX10_readStatement 36 = .ok (.invokestatic 186, 3) := by decide +kernel
theorem dX10_readStatement_39 : decode cX10_readStatement 39 = .ok (.ifCond .ne 7, 3) := by decide +kernel
theorem dX10_readStatement_42 : decode cX10_readStatement 42 = .ok (.iconst 1, 1) := by decide +kernel
theorem dX10_readStatement_43 : decode cX10_readStatement 43 = .ok (.goto 4, 3) := by decide +kernel
theorem dX10_readStatement_46 : decode cX10_readStatement 46 = .ok (.iconst 0, 1) := by decide +kernel
theorem dX10_readStatement_47 : decode cX10_readStatement 47 = .ok (.putfield 168, 3) := by decide +kernel
theorem dX10_readStatement_50 : decode cX10_readStatement 50 = .ok (.aload_n 0, 1) := by decide +kernel
theorem dX10_readStatement_51 : decode cX10_readStatement 51 = .ok (.dup, 1) := by decide +kernel
theorem dX10_readStatement_52 : decode cX10_readStatement 52 = .ok (.getfield 162, 3) := by decide +kernel
theorem dX10_readStatement_55 : decode cX10_readStatement 55 = .ok (.aload_n 0, 1) := by decide +kernel
theorem dX10_readStatement_56 : decode cX10_readStatement 56 = .ok (.getfield 168, 3) := by decide +kernel
theorem dX10_readStatement_59 : decode cX10_readStatement 59 = .ok (.ifCond .eq 7, 3) := by decide +kernel
theorem dX10_readStatement_62 : decode cX10_readStatement 62 = .ok (.iconst 0, 1) := by decide +kernel
theorem dX10_readStatement_63 : decode cX10_readStatement 63 = .ok (.goto 4, 3) := by decide +kernel
theorem dX10_readStatement_66 : decode cX10_readStatement 66 = .ok (.iconst 1, 1) := by decide +kernel
theorem dX10_readStatement_67 : decode cX10_readStatement 67 = .ok (.iadd, 1) := by decide +kernel
theorem dX10_readStatement_68 : decode cX10_readStatement 68 = .ok (.putfield 162, 3) := by decide +kernel
theorem dX10_readStatement_71 : decode cX10_readStatement 71 = .ok (.aload_n 0, 1) := by decide +kernel
theorem dX10_readStatement_72 : decode cX10_readStatement 72 = .ok (.getfield 168, 3) := by decide +kernel
theorem dX10_readStatement_75 : decode cX10_readStatement 75 = .ok (.ifCond .ne 11, 3) := by decide +kernel
theorem dX10_readStatement_78 : decode cX10_readStatement 78 = .ok (.aload_n 0, 1) := by decide +kernel
theorem dX10_readStatement_79 : decode cX10_readStatement 79 = .ok (.iload_n 2, 1) := by decide +kernel
theorem dX10_readStatement_80 : decode cX10_readStatement 80 = .ok (.iconst 3, 1) := by decide +kernel
theorem dX10_readStatement_81 : decode cX10_readStatement 81 = .ok (.iload_n 1, 1) := by decide +kernel
theorem dX10_readStatement_82 : decode cX10_readStatement 82 = .ok (.imul, 1) := by decide +kernel
theorem dX10_readStatement_83 : decode cX10_readStatement 83 = .ok (.invokevirtual 189, 3) := by decide +kernel
theorem dX10_readStatement_86 : decode cX10_readStatement 86 = .ok (.aload_n 0, 1) := by decide +kernel
theorem dX10_readStatement_87 : decode cX10_readStatement 87 = .ok (.aload_n 0, 1) := by decide +kernel
theorem dX10_readStatement_88 : decode cX10_readStatement 88 = .ok (.getfield 168, 3) := by decide +kernel
theorem dX10_readStatement_91 : decode cX10_readStatement 91 = .ok (.ifCond .ne 12, 3) := by decide +kernel
theorem dX10_readStatement_94 : decode cX10_readStatement 94 = .ok (.aload_n 0, 1) := by decide +kernel
theorem dX10_readStatement_95 : decode cX10_readStatement 95 = .ok (.invokevirtual 172, 3) := by decide +kernel
theorem dX10_readStatement_98 : decode cX10_readStatement 98 = .ok (.bipush 59, 2) := by decide +kernel
theorem dX10_readStatement_100 : decode cX10_readStatement 100 = .ok (.if_icmp .eq 7, 3) := by decide +kernel
theorem dX10_readStatement_103 : decode cX10_readStatement 103 = .ok (.iconst 1, 1) := by decide +kernel
theorem dX10_readStatement_104 : decode cX10_readStatement 104 = .ok (.goto 4, 3) := by decide +kernel
theorem dX10_readStatement_107 : decode cX10_readStatement 107 = .ok (.iconst 0, 1) := by decide +kernel
theorem dX10_readStatement_108 : decode cX10_readStatement 108 = .ok (.putfield 168, 3) := by decide +kernel
theorem dX10_readStatement_111 : decode cX10_readStatement 111 = .ok (.aload_n 0, 1) := by decide +kernel
theorem dX10_readStatement_112 : decode cX10_readStatement 112 = .ok (.dup, 1) := by decide +kernel
theorem dX10_readStatement_113 : decode cX10_readStatement 113 = .ok (.getfield 162, 3) := by decide +kernel
theorem dX10_readStatement_116 : decode cX10_readStatement 116 = .ok (.aload_n 0, 1) := by decide +kernel
theorem dX10_readStatement_117 : decode cX10_readStatement 117 = .ok (.getfield 168, 3) := by decide +kernel
theorem dX10_readStatement_120 : decode cX10_readStatement 120 = .ok (.ifCond .eq 7, 3) := by decide +kernel
theorem dX10_readStatement_123 : decode cX10_readStatement 123 = .ok (.iconst 0, 1) := by decide +kernel
theorem dX10_readStatement_124 : decode cX10_readStatement 124 = .ok (.goto 4, 3) := by decide +kernel
theorem dX10_readStatement_127 : decode cX10_readStatement 127 = .ok (.iconst 1, 1) := by decide +kernel
theorem dX10_readStatement_128 : decode cX10_readStatement 128 = .ok (.iadd, 1) := by decide +kernel
theorem dX10_readStatement_129 : decode cX10_readStatement 129 = .ok (.putfield 162, 3) := by decide +kernel
theorem dX10_readStatement_132 : decode cX10_readStatement 132 = .ok (.aload_n 0, 1) := by decide +kernel
theorem dX10_readStatement_133 : decode cX10_readStatement 133 = .ok (.dup, 1) := by decide +kernel
theorem dX10_readStatement_134 : decode cX10_readStatement 134 = .ok (.getfield 183, 3) := by decide +kernel
theorem dX10_readStatement_137 : decode cX10_readStatement 137 = .ok (.iconst 1, 1) := by decide +kernel
theorem dX10_readStatement_138 : decode cX10_readStatement 138 = .ok (.iadd, 1) := by decide +kernel
theorem dX10_readStatement_139 : decode cX10_readStatement 139 = .ok (.putfield 183, 3) := by decide +kernel
theorem dX10_readStatement_142 : decode cX10_readStatement 142 = .ok (.return_, 1) := by decide +kernel
theorem dX10_bulbComes_0 : decode cX10_bulbComes 0 = .ok (.iload_n 1, 1) := by decide +kernel
theorem dX10_bulbComes_1 : decode cX10_bulbComes 1 = .ok (.bipush 8, 2) := by decide +kernel
theorem dX10_bulbComes_3 : decode cX10_bulbComes 3 = .ok (.if_icmp .ge 16, 3) := by decide +kernel
theorem dX10_bulbComes_6 : decode cX10_bulbComes 6 = .ok (.aload_n 0, 1) := by decide +kernel
theorem dX10_bulbComes_7 : decode cX10_bulbComes 7 = .ok (.getfield 81, 3) := by decide +kernel
theorem dX10_bulbComes_10 : decode cX10_bulbComes 10 = .ok (.bipush 10, 2) := by decide +kernel
theorem dX10_bulbComes_12 : decode cX10_bulbComes 12 = .ok (.if_icmp .ge 7, 3) := by decide +kernel
theorem dX10_bulbComes_15 : decode cX10_bulbComes 15 = .ok (.iconst 1, 1) := by decide +kernel
theorem dX10_bulbComes_16 : decode cX10_bulbComes 16 = .ok (.goto 4, 3) := by decide +kernel
theorem dX10_bulbComes_19 : decode cX10_bulbComes 19 = .ok (.iconst 0, 1) := by decide +kernel
theorem dX10_bulbComes_20 : decode cX10_bulbComes 20 = .ok (.istore_n 3, 1) := by decide +kernel
theorem dX10_bulbComes_21 : decode cX10_bulbComes 21 = .ok (.iload_n 3, 1) := by decide +kernel
theorem dX10_bulbComes_22 : decode cX10_bulbComes 22 = .ok (.ifCond .eq 73, 3) := by decide +kernel
theorem dX10_bulbComes_25 : decode cX10_bulbComes 25 = .ok (.aload_n 0, 1) := by decide +kernel
theorem dX10_bulbComes_26 : decode cX10_bulbComes 26 = .ok (.getfield 7, 3) := by decide +kernel
theorem dX10_bulbComes_29 : decode cX10_bulbComes 29 = .ok (.aload_n 0, 1) := by decide +kernel
theorem dX10_bulbComes_30 : decode cX10_bulbComes 30 = .ok (.getfield 81, 3) := by decide +kernel
theorem dX10_bulbComes_33 : decode cX10_bulbComes 33 = .ok (.iload_n 1, 1) := by decide +kernel
theorem dX10_bulbComes_34 : decode cX10_bulbComes 34 = .ok (.iastore, 1) := by decide +kernel
theorem dX10_bulbComes_35 : decode cX10_bulbComes 35 = .ok (.aload_n 0, 1) := by decide +kernel
theorem dX10_bulbComes_36 : decode cX10_bulbComes 36 = .ok (.getfield 13, 3) := by decide +kernel
theorem dX10_bulbComes_39 : decode cX10_bulbComes 39 = .ok (.aload_n 0, 1) := by decide +kernel
theorem dX10_bulbComes_40 : decode cX10_bulbComes 40 = .ok (.getfield 81, 3) := by decide +kernel
theorem dX10_bulbComes_43 : decode cX10_bulbComes 43 = .ok (.iload_n 2, 1) := by decide +kernel
theorem dX10_bulbComes_44 : decode cX10_bulbComes 44 = .ok (.iastore, 1) := by decide +kernel
theorem dX10_bulbComes_45 : decode cX10_bulbComes 45 = .ok (.aload_n 0, 1) := by decide +kernel
theorem dX10_bulbComes_46 : decode cX10_bulbComes 46 = .ok (.getfield 16, 3) := by decide +kernel
theorem dX10_bulbComes_49 : decode cX10_bulbComes 49 = .ok (.aload_n 0, 1) := by decide +kernel
theorem dX10_bulbComes_50 : decode cX10_bulbComes 50 = .ok (.getfield 81, 3) := by decide +kernel
theorem dX10_bulbComes_53 : decode cX10_bulbComes 53 = .ok (.iconst 0, 1) := by decide +kernel
theorem dX10_bulbComes_54 : decode cX10_bulbComes 54 = .ok (.iastore, 1) := by decide +kernel
theorem dX10_bulbComes_55 : decode cX10_bulbComes 55 = .ok (.aload_n 0, 1) := by decide +kernel
theorem dX10_bulbComes_56 : decode cX10_bulbComes 56 = .ok (.dup, 1) := by decide +kernel
theorem dX10_bulbComes_57 : decode cX10_bulbComes 57 = .ok (.getfield 88, 3) := by decide +kernel
theorem dX10_bulbComes_60 : decode cX10_bulbComes 60 = .ok (.iconst 1, 1) := by decide +kernel
theorem dX10_bulbComes_61 : decode cX10_bulbComes 61 = .ok (.aload_n 0, 1) := by decide +kernel
theorem dX10_bulbComes_62 : decode cX10_bulbComes 62 = .ok (.getfield 81, 3) := by decide +kernel
theorem dX10_bulbComes_65 : decode cX10_bulbComes 65 = .ok (.ishl, 1) := by decide +kernel
theorem dX10_bulbComes_66 : decode cX10_bulbComes 66 = .ok (.ior, 1) := by decide +kernel
theorem dX10_bulbComes_67 : decode cX10_bulbComes 67 = .ok (.putfield 88, 3) := by decide +kernel
theorem dX10_bulbComes_70 : decode cX10_bulbComes 70 = .ok (.aload_n 0, 1) := by decide +kernel
theorem dX10_bulbComes_71 : decode cX10_bulbComes 71 = .ok (.dup, 1) := by decide +kernel
theorem dX10_bulbComes_72 : decode cX10_bulbComes 72 = .ok (.getfield 95, 3) := by decide +kernel
theorem dX10_bulbComes_75 : decode cX10_bulbComes 75 = .ok (.iconst 1, 1) := by decide +kernel
theorem dX10_bulbComes_76 : decode cX10_bulbComes 76 = .ok (.aload_n 0, 1) := by decide +kernel
theorem dX10_bulbComes_77 : decode cX10_bulbComes 77 = .ok (.getfield 81, 3) := by decide +kernel
theorem dX10_bulbComes_80 : decode cX10_bulbComes 80 = .ok (.ishl, 1) := by decide +kernel
theorem dX10_bulbComes_81 : decode cX10_bulbComes 81 = .ok (.ior, 1) := by decide +kernel
theorem dX10_bulbComes_82 : decode cX10_bulbComes 82 = .ok (.putfield 95, 3) := by decide +kernel
theorem dX10_bulbComes_85 : decode cX10_bulbComes 85 = .ok (.aload_n 0, 1) := by decide +kernel
theorem dX10_bulbComes_86 : decode cX10_bulbComes 86 = .ok (.dup, 1) := by decide +kernel
theorem dX10_bulbComes_87 : decode cX10_bulbComes 87 = .ok (.getfield 81, 3) := by decide +kernel
theorem dX10_bulbComes_90 : decode cX10_bulbComes 90 = .ok (.iconst 1, 1) := by decide +kernel
theorem dX10_bulbComes_91 : decode cX10_bulbComes 91 = .ok (.iadd, 1) := by decide +kernel
theorem dX10_bulbComes_92 : decode cX10_bulbComes 92 = .ok (.putfield 81, 3) := by decide +kernel
theorem dX10_bulbComes_95 : decode cX10_bulbComes 95 = .ok (.iload_n 3, 1) := by decide +kernel
theorem dX10_bulbComes_96 : decode cX10_bulbComes 96 = .ok (.ireturn, 1) := by decide +kernel
theorem dX10_ofBulb_0 : decode cX10_ofBulb 0 = .ok (.aload_n 0, 1) := by decide +kernel
theorem dX10_ofBulb_1 : decode cX10_ofBulb 1 = .ok (.iload_n 2, 1) := by decide +kernel
theorem dX10_ofBulb_2 : decode cX10_ofBulb 2 = .ok (.invokevirtual 193, 3) := by decide +kernel
theorem dX10_ofBulb_5 : decode cX10_ofBulb 5 = .ok (.ifCond .eq 20, 3) := by decide +kernel
theorem dX10_ofBulb_8 : decode cX10_ofBulb 8 = .ok (.iload_n 1, 1) := by decide +kernel
theorem dX10_ofBulb_9 : decode cX10_ofBulb 9 = .ok (.bipush 116, 2) := by decide +kernel
theorem dX10_ofBulb_11 : decode cX10_ofBulb 11 = .ok (.if_icmp .ne 10, 3) := by decide +kernel
theorem dX10_ofBulb_14 : decode cX10_ofBulb 14 = .ok (.aload_n 0, 1) := by decide +kernel
theorem dX10_ofBulb_15 : decode cX10_ofBulb 15 = .ok (.getfield 19, 3) := by decide +kernel
theorem dX10_ofBulb_18 : decode cX10_ofBulb 18 = .ok (.ifCond .le 7, 3) := by decide +kernel
theorem dX10_ofBulb_21 : decode cX10_ofBulb 21 = .ok (.iconst 1, 1) := by decide +kernel
theorem dX10_ofBulb_22 : decode cX10_ofBulb 22 = .ok (.goto 4, 3) := by decide +kernel
theorem dX10_ofBulb_25 : decode cX10_ofBulb 25 = .ok (.iconst 0, 1) := by decide +kernel
theorem dX10_ofBulb_26 : decode cX10_ofBulb 26 = .ok (.istore 4, 2) := by decide +kernel
theorem dX10_ofBulb_28 : decode cX10_ofBulb 28 = .ok (.iload 4, 2) := by decide +kernel
theorem dX10_ofBulb_30 : decode cX10_ofBulb 30 = .ok (.ifCond .eq 16, 3) := by decide +kernel
theorem dX10_ofBulb_33 : decode cX10_ofBulb 33 = .ok (.iload_n 1, 1) := by decide +kernel
theorem dX10_ofBulb_34 : decode cX10_ofBulb 34 = .ok (.bipush 119, 2) := by decide +kernel
theorem dX10_ofBulb_36 : decode cX10_ofBulb 36 = .ok (.if_icmp .ne 10, 3) := by decide +kernel
theorem dX10_ofBulb_39 : decode cX10_ofBulb 39 = .ok (.aload_n 0, 1) := by decide +kernel
theorem dX10_ofBulb_40 : decode cX10_ofBulb 40 = .ok (.getfield 16, 3) := by decide +kernel
theorem dX10_ofBulb_43 : decode cX10_ofBulb 43 = .ok (.iload_n 2, 1) := by decide +kernel
theorem dX10_ofBulb_44 : decode cX10_ofBulb 44 = .ok (.iload_n 3, 1) := by decide +kernel
theorem dX10_ofBulb_45 : decode cX10_ofBulb 45 = .ok (.iastore, 1) := by decide +kernel
theorem dX10_ofBulb_46 : decode cX10_ofBulb 46 = .ok (.iload 4, 2) := by decide +kernel
theorem dX10_ofBulb_48 : decode cX10_ofBulb 48 = .ok (.ifCond .eq 21, 3) := by decide +kernel
theorem dX10_ofBulb_51 : decode cX10_ofBulb 51 = .ok (.iload_n 1, 1) := by decide +kernel
theorem dX10_ofBulb_52 : decode cX10_ofBulb 52 = .ok (.bipush 111, 2) := by decide +kernel
theorem dX10_ofBulb_54 : decode cX10_ofBulb 54 = .ok (.if_icmp .ne 15, 3) := by decide +kernel
theorem dX10_ofBulb_57 : decode cX10_ofBulb 57 = .ok (.aload_n 0, 1) := by decide +kernel
theorem dX10_ofBulb_58 : decode cX10_ofBulb 58 = .ok (.dup, 1) := by decide +kernel
theorem dX10_ofBulb_59 : decode cX10_ofBulb 59 = .ok (.getfield 88, 3) := by decide +kernel
theorem dX10_ofBulb_62 : decode cX10_ofBulb 62 = .ok (.iconst 1, 1) := by decide +kernel
theorem dX10_ofBulb_63 : decode cX10_ofBulb 63 = .ok (.iload_n 2, 1) := by decide +kernel
theorem dX10_ofBulb_64 : decode cX10_ofBulb 64 = .ok (.ishl, 1) := by decide +kernel
theorem dX10_ofBulb_65 : decode cX10_ofBulb 65 = .ok (.ixor, 1) := by decide +kernel
theorem dX10_ofBulb_66 : decode cX10_ofBulb 66 = .ok (.putfield 88, 3) := by decide +kernel
theorem dX10_ofBulb_69 : decode cX10_ofBulb 69 = .ok (.iload 4, 2) := by decide +kernel
theorem dX10_ofBulb_71 : decode cX10_ofBulb 71 = .ok (.ifCond .eq 15, 3) := by decide +kernel
theorem dX10_ofBulb_74 : decode cX10_ofBulb 74 = .ok (.iload_n 1, 1) := by decide +kernel
theorem dX10_ofBulb_75 : decode cX10_ofBulb 75 = .ok (.bipush 116, 2) := by decide +kernel
theorem dX10_ofBulb_77 : decode cX10_ofBulb 77 = .ok (.if_icmp .ne 9, 3) := by decide +kernel
theorem dX10_ofBulb_80 : decode cX10_ofBulb 80 = .ok (.aload_n 0, 1) := by decide +kernel
theorem dX10_ofBulb_81 : decode cX10_ofBulb 81 = .ok (.iload_n 2, 1) := by decide +kernel
theorem dX10_ofBulb_82 : decode cX10_ofBulb 82 = .ok (.invokevirtual 196, 3) := by decide +kernel
theorem dX10_ofBulb_85 : decode cX10_ofBulb 85 = .ok (.pop, 1) := by decide +kernel
theorem dX10_ofBulb_86 : decode cX10_ofBulb 86 = .ok (.iload 4, 2) := by decide +kernel
theorem dX10_ofBulb_88 : decode cX10_ofBulb 88 = .ok (.ireturn, 1) := by decide +kernel
theorem dX10_toolComes_0 : decode cX10_toolComes 0 = .ok (.iload_n 1, 1) := by decide +kernel
theorem dX10_toolComes_1 : decode cX10_toolComes 1 = .ok (.iconst 5, 1) := by decide +kernel
theorem dX10_toolComes_2 : decode cX10_toolComes 2 = .ok (.if_icmp .ge 20, 3) := by decide +kernel
theorem dX10_toolComes_5 : decode cX10_toolComes 5 = .ok (.iload_n 2, 1) := by decide +kernel
theorem dX10_toolComes_6 : decode cX10_toolComes 6 = .ok (.iload_n 3, 1) := by decide +kernel
theorem dX10_toolComes_7 : decode cX10_toolComes 7 = .ok (.if_icmp .gt 15, 3) := by decide +kernel
theorem dX10_toolComes_10 : decode cX10_toolComes 10 = .ok (.aload_n 0, 1) := by decide +kernel
theorem dX10_toolComes_11 : decode cX10_toolComes 11 = .ok (.iload_n 3, 1) := by decide +kernel
theorem dX10_toolComes_12 : decode cX10_toolComes 12 = .ok (.invokevirtual 193, 3) := by decide +kernel
theorem dX10_toolComes_15 : decode cX10_toolComes 15 = .ok (.ifCond .eq 7, 3) := by decide +kernel
theorem dX10_toolComes_18 : decode cX10_toolComes 18 = .ok (.iconst 1, 1) := by decide +kernel
theorem dX10_toolComes_19 : decode cX10_toolComes 19 = .ok (.goto 4, 3) := by decide +kernel
theorem dX10_toolComes_22 : decode cX10_toolComes 22 = .ok (.iconst 0, 1) := by decide +kernel
theorem dX10_toolComes_23 : decode cX10_toolComes 23 = .ok (.istore 4, 2) := by decide +kernel
theorem dX10_toolComes_25 : decode cX10_toolComes 25 = .ok (.iload 4, 2) := by decide +kernel
theorem dX10_toolComes_27 : decode cX10_toolComes 27 = .ok (.ifCond .eq 11, 3) := by decide +kernel
theorem dX10_toolComes_30 : decode cX10_toolComes 30 = .ok (.aload_n 0, 1) := by decide +kernel
theorem dX10_toolComes_31 : decode cX10_toolComes 31 = .ok (.iload_n 1, 1) := by decide +kernel
theorem dX10_toolComes_32 : decode cX10_toolComes 32 = .ok (.iload_n 2, 1) := by decide +kernel
theorem dX10_toolComes_33 : decode cX10_toolComes 33 = .ok (.iload_n 3, 1) := by decide +kernel
theorem dX10_toolComes_34 : decode cX10_toolComes 34 = .ok (.invokevirtual 199, 3) := by decide +kernel
theorem dX10_toolComes_37 : decode cX10_toolComes 37 = .ok (.pop, 1) := by decide +kernel
theorem dX10_toolComes_38 : decode cX10_toolComes 38 = .ok (.iload 4, 2) := by decide +kernel
theorem dX10_toolComes_40 : decode cX10_toolComes 40 = .ok (.ireturn, 1) := by decide +kernel
theorem dX10_hoursCome_0 : decode cX10_hoursCome 0 = .ok (.iload_n 1, 1) := by decide +kernel
theorem dX10_hoursCome_1 : decode cX10_hoursCome 1 = .ok (.i2l, 1) := by decide +kernel
theorem dX10_hoursCome_2 : decode cX10_hoursCome 2 = .ok (.lconst 1, 1) := by decide +kernel
theorem dX10_hoursCome_3 : decode cX10_hoursCome 3 = .ok (.ldc2_w 202, 3) := by decide +kernel
theorem dX10_hoursCome_6 : decode cX10_hoursCome 6 = .ok (.invokestatic 84, 3) := by decide +kernel
theorem dX10_hoursCome_9 : decode cX10_hoursCome 9 = .ok (.ifCond .eq 19, 3) := by decide +kernel
theorem dX10_hoursCome_12 : decode cX10_hoursCome 12 = .ok (.aload_n 0, 1) := by decide +kernel
theorem dX10_hoursCome_13 : decode cX10_hoursCome 13 = .ok (.getfield 105, 3) := by decide +kernel
theorem dX10_hoursCome_16 : decode cX10_hoursCome 16 = .ok (.iload_n 1, 1) := by decide +kernel
theorem dX10_hoursCome_17 : decode cX10_hoursCome 17 = .ok (.iadd, 1) := by decide +kernel
theorem dX10_hoursCome_18 : decode cX10_hoursCome 18 = .ok (.sipush 999, 3) := by decide +kernel
theorem dX10_hoursCome_21 : decode cX10_hoursCome 21 = .ok (.if_icmp .gt 7, 3) := by decide +kernel
theorem dX10_hoursCome_24 : decode cX10_hoursCome 24 = .ok (.iconst 1, 1) := by decide +kernel
theorem dX10_hoursCome_25 : decode cX10_hoursCome 25 = .ok (.goto 4, 3) := by decide +kernel
theorem dX10_hoursCome_28 : decode cX10_hoursCome 28 = .ok (.iconst 0, 1) := by decide +kernel
theorem dX10_hoursCome_29 : decode cX10_hoursCome 29 = .ok (.istore_n 2, 1) := by decide +kernel
theorem dX10_hoursCome_30 : decode cX10_hoursCome 30 = .ok (.iload_n 2, 1) := by decide +kernel
theorem dX10_hoursCome_31 : decode cX10_hoursCome 31 = .ok (.ifCond .eq 8, 3) := by decide +kernel
theorem dX10_hoursCome_34 : decode cX10_hoursCome 34 = .ok (.aload_n 0, 1) := by decide +kernel
theorem dX10_hoursCome_35 : decode cX10_hoursCome 35 = .ok (.iload_n 1, 1) := by decide +kernel
theorem dX10_hoursCome_36 : decode cX10_hoursCome 36 = .ok (.invokevirtual 204, 3) := by decide +kernel
theorem dX10_hoursCome_39 : decode cX10_hoursCome 39 = .ok (.iload_n 2, 1) := by decide +kernel
theorem dX10_hoursCome_40 : decode cX10_hoursCome 40 = .ok (.ireturn, 1) := by decide +kernel
theorem dX10_comesTold_0 : decode cX10_comesTold 0 = .ok (.aload_n 0, 1) := by decide +kernel
theorem dX10_comesTold_1 : decode cX10_comesTold 1 = .ok (.getfield 51, 3) := by decide +kernel
theorem dX10_comesTold_4 : decode cX10_comesTold 4 = .ok (.iconst 3, 1) := by decide +kernel
theorem dX10_comesTold_5 : decode cX10_comesTold 5 = .ok (.iload_n 1, 1) := by decide +kernel
theorem dX10_comesTold_6 : decode cX10_comesTold 6 = .ok (.imul, 1) := by decide +kernel
theorem dX10_comesTold_7 : decode cX10_comesTold 7 = .ok (.iaload, 1) := by decide +kernel
theorem dX10_comesTold_8 : decode cX10_comesTold 8 = .ok (.istore_n 2, 1) := by decide +kernel
theorem dX10_comesTold_9 : decode cX10_comesTold 9 = .ok (.aload_n 0, 1) := by decide +kernel
theorem dX10_comesTold_10 : decode cX10_comesTold 10 = .ok (.getfield 51, 3) := by decide +kernel
theorem dX10_comesTold_13 : decode cX10_comesTold 13 = .ok (.iconst 3, 1) := by decide +kernel
theorem dX10_comesTold_14 : decode cX10_comesTold 14 = .ok (.iload_n 1, 1) := by decide +kernel
theorem dX10_comesTold_15 : decode cX10_comesTold 15 = .ok (.imul, 1) := by decide +kernel
theorem dX10_comesTold_16 : decode cX10_comesTold 16 = .ok (.iconst 1, 1) := by decide +kernel
theorem dX10_comesTold_17 : decode cX10_comesTold 17 = .ok (.iadd, 1) := by decide +kernel
theorem dX10_comesTold_18 : decode cX10_comesTold 18 = .ok (.iaload, 1) := by decide +kernel
theorem dX10_comesTold_19 : decode cX10_comesTold 19 = .ok (.istore_n 3, 1) := by decide +kernel
theorem dX10_comesTold_20 : decode cX10_comesTold 20 = .ok (.aload_n 0, 1) := by decide +kernel
theorem dX10_comesTold_21 : decode cX10_comesTold 21 = .ok (.getfield 48, 3) := by decide +kernel
theorem dX10_comesTold_24 : decode cX10_comesTold 24 = .ok (.iload_n 1, 1) := by decide +kernel
theorem dX10_comesTold_25 : decode cX10_comesTold 25 = .ok (.iaload, 1) := by decide +kernel
theorem dX10_comesTold_26 : decode cX10_comesTold 26 = .ok (.lookupswitch 79 #[(98, 42), (104, 73), (115, 49), (117, 56)], 42) := by decide +kernel
theorem dX10_comesTold_68 : decode cX10_comesTold 68 = .ok (.aload_n 0, 1) := by decide +kernel
theorem dX10_comesTold_69 : decode cX10_comesTold 69 = .ok (.iload_n 2, 1) := by decide +kernel
theorem dX10_comesTold_70 : decode cX10_comesTold 70 = .ok (.iload_n 3, 1) := by decide +kernel
theorem dX10_comesTold_71 : decode cX10_comesTold 71 = .ok (.invokevirtual 207, 3) := by decide +kernel
theorem dX10_comesTold_74 : decode cX10_comesTold 74 = .ok (.ireturn, 1) := by decide +kernel
theorem dX10_comesTold_75 : decode cX10_comesTold 75 = .ok (.aload_n 0, 1) := by decide +kernel
theorem dX10_comesTold_76 : decode cX10_comesTold 76 = .ok (.iload_n 2, 1) := by decide +kernel
theorem dX10_comesTold_77 : decode cX10_comesTold 77 = .ok (.putfield 19, 3) := by decide +kernel
theorem dX10_comesTold_80 : decode cX10_comesTold 80 = .ok (.iconst 1, 1) := by decide +kernel
theorem dX10_comesTold_81 : decode cX10_comesTold 81 = .ok (.ireturn, 1) := by decide +kernel
theorem dX10_comesTold_82 : decode cX10_comesTold 82 = .ok (.aload_n 0, 1) := by decide +kernel
theorem dX10_comesTold_83 : decode cX10_comesTold 83 = .ok (.iload_n 2, 1) := by decide +kernel
theorem dX10_comesTold_84 : decode cX10_comesTold 84 = .ok (.iload_n 3, 1) := by decide +kernel
theorem dX10_comesTold_85 : decode cX10_comesTold 85 = .ok (.aload_n 0, 1) := by decide +kernel
theorem dX10_comesTold_86 : decode cX10_comesTold 86 = .ok (.getfield 51, 3) := by decide +kernel
theorem dX10_comesTold_89 : decode cX10_comesTold 89 = .ok (.iconst 3, 1) := by decide +kernel
theorem dX10_comesTold_90 : decode cX10_comesTold 90 = .ok (.iload_n 1, 1) := by decide +kernel
theorem dX10_comesTold_91 : decode cX10_comesTold 91 = .ok (.imul, 1) := by decide +kernel
theorem dX10_comesTold_92 : decode cX10_comesTold 92 = .ok (.iconst 2, 1) := by decide +kernel
theorem dX10_comesTold_93 : decode cX10_comesTold 93 = .ok (.iadd, 1) := by decide +kernel
theorem dX10_comesTold_94 : decode cX10_comesTold 94 = .ok (.iaload, 1) := by decide +kernel
theorem dX10_comesTold_95 : decode cX10_comesTold 95 = .ok (.invokevirtual 210, 3) := by decide +kernel
theorem dX10_comesTold_98 : decode cX10_comesTold 98 = .ok (.ireturn, 1) := by decide +kernel
theorem dX10_comesTold_99 : decode cX10_comesTold 99 = .ok (.aload_n 0, 1) := by decide +kernel
theorem dX10_comesTold_100 : decode cX10_comesTold 100 = .ok (.iload_n 2, 1) := by decide +kernel
theorem dX10_comesTold_101 : decode cX10_comesTold 101 = .ok (.invokevirtual 213, 3) := by decide +kernel
theorem dX10_comesTold_104 : decode cX10_comesTold 104 = .ok (.ireturn, 1) := by decide +kernel
theorem dX10_comesTold_105 : decode cX10_comesTold 105 = .ok (.aload_n 0, 1) := by decide +kernel
theorem dX10_comesTold_106 : decode cX10_comesTold 106 = .ok (.aload_n 0, 1) := by decide +kernel
theorem dX10_comesTold_107 : decode cX10_comesTold 107 = .ok (.getfield 48, 3) := by decide +kernel
theorem dX10_comesTold_110 : decode cX10_comesTold 110 = .ok (.iload_n 1, 1) := by decide +kernel
theorem dX10_comesTold_111 : decode cX10_comesTold 111 = .ok (.iaload, 1) := by decide +kernel
theorem dX10_comesTold_112 : decode cX10_comesTold 112 = .ok (.iload_n 2, 1) := by decide +kernel
theorem dX10_comesTold_113 : decode cX10_comesTold 113 = .ok (.iload_n 3, 1) := by decide +kernel
theorem dX10_comesTold_114 : decode cX10_comesTold 114 = .ok (.invokevirtual 216, 3) := by decide +kernel
theorem dX10_comesTold_117 : decode cX10_comesTold 117 = .ok (.ireturn, 1) := by decide +kernel
theorem dX10_string_0 : decode cX10_string 0 = .ok (.aload_n 0, 1) := by decide +kernel
theorem dX10_string_1 : decode cX10_string 1 = .ok (.iconst 0, 1) := by decide +kernel
theorem dX10_string_2 : decode cX10_string 2 = .ok (.putfield 78, 3) := by decide +kernel
theorem dX10_string_5 : decode cX10_string 5 = .ok (.aload_n 0, 1) := by decide +kernel
theorem dX10_string_6 : decode cX10_string 6 = .ok (.iload_n 1, 1) := by decide +kernel
theorem dX10_string_7 : decode cX10_string 7 = .ok (.invokevirtual 219, 3) := by decide +kernel
theorem dX10_string_10 : decode cX10_string 10 = .ok (.istore_n 2, 1) := by decide +kernel
theorem dX10_string_11 : decode cX10_string 11 = .ok (.iload_n 2, 1) := by decide +kernel
theorem dX10_string_12 : decode cX10_string 12 = .ok (.ifCond .ne 17, 3) := by decide +kernel
theorem dX10_string_15 : decode cX10_string 15 = .ok (.aload_n 0, 1) := by decide +kernel
theorem dX10_string_16 : decode cX10_string 16 = .ok (.getfield 35, 3) := by decide +kernel
theorem dX10_string_19 : decode cX10_string 19 = .ok (.iload_n 1, 1) := by decide +kernel
theorem dX10_string_20 : decode cX10_string 20 = .ok (.iaload, 1) := by decide +kernel
theorem dX10_string_21 : decode cX10_string 21 = .ok (.ifCond .eq 8, 3) := by decide +kernel
theorem dX10_string_24 : decode cX10_string 24 = .ok (.bipush (-12), 2) := by decide +kernel
theorem dX10_string_26 : decode cX10_string 26 = .ok (.goto 4, 3) := by decide +kernel
theorem dX10_string_29 : decode cX10_string 29 = .ok (.iload_n 2, 1) := by decide +kernel
theorem dX10_string_30 : decode cX10_string 30 = .ok (.istore_n 2, 1) := by decide +kernel
theorem dX10_string_31 : decode cX10_string 31 = .ok (.iload_n 2, 1) := by decide +kernel
theorem dX10_string_32 : decode cX10_string 32 = .ok (.ifCond .ge 5, 3) := by decide +kernel
theorem dX10_string_35 : decode cX10_string 35 = .ok (.iload_n 2, 1) := by decide +kernel
theorem dX10_string_36 : decode cX10_string 36 = .ok (.ireturn, 1) := by decide +kernel
theorem dX10_string_37 : decode cX10_string 37 = .ok (.aload_n 0, 1) := by decide +kernel
theorem dX10_string_38 : decode cX10_string 38 = .ok (.iload_n 1, 1) := by decide +kernel
theorem dX10_string_39 : decode cX10_string 39 = .ok (.putfield 165, 3) := by decide +kernel
theorem dX10_string_42 : decode cX10_string 42 = .ok (.aload_n 0, 1) := by decide +kernel
theorem dX10_string_43 : decode cX10_string 43 = .ok (.iconst 0, 1) := by decide +kernel
theorem dX10_string_44 : decode cX10_string 44 = .ok (.putfield 162, 3) := by decide +kernel
theorem dX10_string_47 : decode cX10_string 47 = .ok (.aload_n 0, 1) := by decide +kernel
theorem dX10_string_48 : decode cX10_string 48 = .ok (.iconst 0, 1) := by decide +kernel
theorem dX10_string_49 : decode cX10_string 49 = .ok (.putfield 168, 3) := by decide +kernel
theorem dX10_string_52 : decode cX10_string 52 = .ok (.aload_n 0, 1) := by decide +kernel
theorem dX10_string_53 : decode cX10_string 53 = .ok (.iconst 0, 1) := by decide +kernel
theorem dX10_string_54 : decode cX10_string 54 = .ok (.putfield 183, 3) := by decide +kernel
theorem dX10_string_57 : decode cX10_string 57 = .ok (.aload_n 0, 1) := by decide +kernel
theorem dX10_string_58 : decode cX10_string 58 = .ok (.getfield 168, 3) := by decide +kernel
theorem dX10_string_61 : decode cX10_string 61 = .ok (.ifCond .ne 30, 3) := by decide +kernel
theorem dX10_string_64 : decode cX10_string 64 = .ok (.aload_n 0, 1) := by decide +kernel
theorem dX10_string_65 : decode cX10_string 65 = .ok (.getfield 183, 3) := by decide +kernel
theorem dX10_string_68 : decode cX10_string 68 = .ok (.ifCond .eq 16, 3) := by decide +kernel
theorem dX10_string_71 : decode cX10_string 71 = .ok (.aload_n 0, 1) := by decide +kernel
theorem dX10_string_72 : decode cX10_string 72 = .ok (.getfield 162, 3) := by decide +kernel
theorem dX10_string_75 : decode cX10_string 75 = .ok (.aload_n 0, 1) := by decide +kernel
theorem dX10_string_76 : decode cX10_string 76 = .ok (.getfield 38, 3) := by decide +kernel
theorem dX10_string_79 : decode cX10_string 79 = .ok (.iload_n 1, 1) := by decide +kernel
theorem dX10_string_80 : decode cX10_string 80 = .ok (.iaload, 1) := by decide +kernel
theorem dX10_string_81 : decode cX10_string 81 = .ok (.if_icmp .ge 10, 3) := by decide +kernel
theorem dX10_string_84 : decode cX10_string 84 = .ok (.aload_n 0, 1) := by decide +kernel
theorem dX10_string_85 : decode cX10_string 85 = .ok (.invokevirtual 222, 3) := by decide +kernel
theorem dX10_string_88 : decode cX10_string 88 = .ok (.goto (-31), 3) := by decide +kernel
theorem dX10_string_91 : decode cX10_string 91 = .ok (.aload_n 0, 1) := by decide +kernel
theorem dX10_string_92 : decode cX10_string 92 = .ok (.getfield 168, 3) := by decide +kernel
theorem dX10_string_95 : decode cX10_string 95 = .ok (.ifCond .eq 12, 3) := by decide +kernel
theorem dX10_string_98 : decode cX10_string 98 = .ok (.sipush (-1000), 3) := by decide +kernel
theorem dX10_string_101 : decode cX10_string 101 = .ok (.aload_n 0, 1) := by decide +kernel
theorem dX10_string_102 : decode cX10_string 102 = .ok (.getfield 162, 3) := by decide +kernel
theorem dX10_string_105 : decode cX10_string 105 = .ok (.isub, 1) := by decide +kernel
theorem dX10_string_106 : decode cX10_string 106 = .ok (.ireturn, 1) := by decide +kernel
theorem dX10_string_107 : decode cX10_string 107 = .ok (.aload_n 0, 1) := by decide +kernel
theorem dX10_string_108 : decode cX10_string 108 = .ok (.invokevirtual 225, 3) := by decide +kernel
theorem dX10_string_111 : decode cX10_string 111 = .ok (.iconst 0, 1) := by decide +kernel
theorem dX10_string_112 : decode cX10_string 112 = .ok (.istore_n 3, 1) := by decide +kernel
theorem dX10_string_113 : decode cX10_string 113 = .ok (.iload_n 3, 1) := by decide +kernel
theorem dX10_string_114 : decode cX10_string 114 = .ok (.aload_n 0, 1) := by decide +kernel
theorem dX10_string_115 : decode cX10_string 115 = .ok (.getfield 183, 3) := by decide +kernel
theorem dX10_string_118 : decode cX10_string 118 = .ok (.if_icmp .ge 32, 3) := by decide +kernel
theorem dX10_string_121 : decode cX10_string 121 = .ok (.aload_n 0, 1) := by decide +kernel
theorem dX10_string_122 : decode cX10_string 122 = .ok (.iload_n 3, 1) := by decide +kernel
theorem dX10_string_123 : decode cX10_string 123 = .ok (.invokevirtual 228, 3) := by decide +kernel
theorem dX10_string_126 : decode cX10_string 126 = .ok (.ifCond .ne 18, 3) := by decide +kernel
theorem dX10_string_129 : decode cX10_string 129 = .ok (.aload_n 0, 1) := by decide +kernel
theorem dX10_string_130 : decode cX10_string 130 = .ok (.invokevirtual 231, 3) := by decide +kernel
theorem dX10_string_133 : decode cX10_string 133 = .ok (.sipush (-2000), 3) := by decide +kernel
theorem dX10_string_136 : decode cX10_string 136 = .ok (.aload_n 0, 1) := by decide +kernel
theorem dX10_string_137 : decode cX10_string 137 = .ok (.getfield 45, 3) := by decide +kernel
theorem dX10_string_140 : decode cX10_string 140 = .ok (.iload_n 3, 1) := by decide +kernel
theorem dX10_string_141 : decode cX10_string 141 = .ok (.iaload, 1) := by decide +kernel
theorem dX10_string_142 : decode cX10_string 142 = .ok (.isub, 1) := by decide +kernel
theorem dX10_string_143 : decode cX10_string 143 = .ok (.ireturn, 1) := by decide +kernel
theorem dX10_string_144 : decode cX10_string 144 = .ok (.iinc 3 1, 3) := by decide +kernel
theorem dX10_string_147 : decode cX10_string 147 = .ok (.goto (-34), 3) := by decide +kernel
theorem dX10_string_150 : decode cX10_string 150 = .ok (.aload_n 0, 1) := by decide +kernel
theorem dX10_string_151 : decode cX10_string 151 = .ok (.getfield 183, 3) := by decide +kernel
theorem dX10_string_154 : decode cX10_string 154 = .ok (.ireturn, 1) := by decide +kernel
theorem dX10_carry_0 : decode cX10_carry 0 = .ok (.aload_n 0, 1) := by decide +kernel
theorem dX10_carry_1 : decode cX10_carry 1 = .ok (.getfield 234, 3) := by decide +kernel
theorem dX10_carry_4 : decode cX10_carry 4 = .ok (.ifCond .eq 13, 3) := by decide +kernel
theorem dX10_carry_7 : decode cX10_carry 7 = .ok (.aload_n 0, 1) := by decide +kernel
theorem dX10_carry_8 : decode cX10_carry 8 = .ok (.getfield 237, 3) := by decide +kernel
theorem dX10_carry_11 : decode cX10_carry 11 = .ok (.aload_n 0, 1) := by decide +kernel
theorem dX10_carry_12 : decode cX10_carry 12 = .ok (.getfield 240, 3) := by decide +kernel
theorem dX10_carry_15 : decode cX10_carry 15 = .ok (.iload_n 1, 1) := by decide +kernel
theorem dX10_carry_16 : decode cX10_carry 16 = .ok (.iastore, 1) := by decide +kernel
theorem dX10_carry_17 : decode cX10_carry 17 = .ok (.aload_n 0, 1) := by decide +kernel
theorem dX10_carry_18 : decode cX10_carry 18 = .ok (.dup, 1) := by decide +kernel
theorem dX10_carry_19 : decode cX10_carry 19 = .ok (.getfield 240, 3) := by decide +kernel
theorem dX10_carry_22 : decode cX10_carry 22 = .ok (.iconst 1, 1) := by decide +kernel
theorem dX10_carry_23 : decode cX10_carry 23 = .ok (.iadd, 1) := by decide +kernel
theorem dX10_carry_24 : decode cX10_carry 24 = .ok (.putfield 240, 3) := by decide +kernel
theorem dX10_carry_27 : decode cX10_carry 27 = .ok (.aload_n 0, 1) := by decide +kernel
theorem dX10_carry_28 : decode cX10_carry 28 = .ok (.getfield 237, 3) := by decide +kernel
theorem dX10_carry_31 : decode cX10_carry 31 = .ok (.aload_n 0, 1) := by decide +kernel
theorem dX10_carry_32 : decode cX10_carry 32 = .ok (.getfield 240, 3) := by decide +kernel
theorem dX10_carry_35 : decode cX10_carry 35 = .ok (.iconst 1, 1) := by decide +kernel
theorem dX10_carry_36 : decode cX10_carry 36 = .ok (.isub, 1) := by decide +kernel
theorem dX10_carry_37 : decode cX10_carry 37 = .ok (.iaload, 1) := by decide +kernel
theorem dX10_carry_38 : decode cX10_carry 38 = .ok (.ireturn, 1) := by decide +kernel
theorem dX10_carryAll_0 : decode cX10_carryAll 0 = .ok (.aload_n 0, 1) := by decide +kernel
theorem dX10_carryAll_1 : decode cX10_carryAll 1 = .ok (.aload_n 1, 1) := by decide +kernel
theorem dX10_carryAll_2 : decode cX10_carryAll 2 = .ok (.putfield 237, 3) := by decide +kernel
theorem dX10_carryAll_5 : decode cX10_carryAll 5 = .ok (.aload_n 0, 1) := by decide +kernel
theorem dX10_carryAll_6 : decode cX10_carryAll 6 = .ok (.iload_n 2, 1) := by decide +kernel
theorem dX10_carryAll_7 : decode cX10_carryAll 7 = .ok (.putfield 234, 3) := by decide +kernel
theorem dX10_carryAll_10 : decode cX10_carryAll 10 = .ok (.aload_n 0, 1) := by decide +kernel
theorem dX10_carryAll_11 : decode cX10_carryAll 11 = .ok (.iconst 0, 1) := by decide +kernel
theorem dX10_carryAll_12 : decode cX10_carryAll 12 = .ok (.putfield 240, 3) := by decide +kernel
theorem dX10_carryAll_15 : decode cX10_carryAll 15 = .ok (.aload_n 0, 1) := by decide +kernel
theorem dX10_carryAll_16 : decode cX10_carryAll 16 = .ok (.aload_n 0, 1) := by decide +kernel
theorem dX10_carryAll_17 : decode cX10_carryAll 17 = .ok (.aload_n 0, 1) := by decide +kernel
theorem dX10_carryAll_18 : decode cX10_carryAll 18 = .ok (.getfield 81, 3) := by decide +kernel
theorem dX10_carryAll_21 : decode cX10_carryAll 21 = .ok (.invokevirtual 243, 3) := by decide +kernel
theorem dX10_carryAll_24 : decode cX10_carryAll 24 = .ok (.putfield 81, 3) := by decide +kernel
theorem dX10_carryAll_27 : decode cX10_carryAll 27 = .ok (.aload_n 0, 1) := by decide +kernel
theorem dX10_carryAll_28 : decode cX10_carryAll 28 = .ok (.aload_n 0, 1) := by decide +kernel
theorem dX10_carryAll_29 : decode cX10_carryAll 29 = .ok (.aload_n 0, 1) := by decide +kernel
theorem dX10_carryAll_30 : decode cX10_carryAll 30 = .ok (.getfield 88, 3) := by decide +kernel
theorem dX10_carryAll_33 : decode cX10_carryAll 33 = .ok (.invokevirtual 243, 3) := by decide +kernel
theorem dX10_carryAll_36 : decode cX10_carryAll 36 = .ok (.putfield 88, 3) := by decide +kernel
theorem dX10_carryAll_39 : decode cX10_carryAll 39 = .ok (.aload_n 0, 1) := by decide +kernel
theorem dX10_carryAll_40 : decode cX10_carryAll 40 = .ok (.aload_n 0, 1) := by decide +kernel
theorem dX10_carryAll_41 : decode cX10_carryAll 41 = .ok (.aload_n 0, 1) := by decide +kernel
theorem dX10_carryAll_42 : decode cX10_carryAll 42 = .ok (.getfield 95, 3) := by decide +kernel
theorem dX10_carryAll_45 : decode cX10_carryAll 45 = .ok (.invokevirtual 243, 3) := by decide +kernel
theorem dX10_carryAll_48 : decode cX10_carryAll 48 = .ok (.putfield 95, 3) := by decide +kernel
theorem dX10_carryAll_51 : decode cX10_carryAll 51 = .ok (.aload_n 0, 1) := by decide +kernel
theorem dX10_carryAll_52 : decode cX10_carryAll 52 = .ok (.aload_n 0, 1) := by decide +kernel
theorem dX10_carryAll_53 : decode cX10_carryAll 53 = .ok (.aload_n 0, 1) := by decide +kernel
theorem dX10_carryAll_54 : decode cX10_carryAll 54 = .ok (.getfield 19, 3) := by decide +kernel
theorem dX10_carryAll_57 : decode cX10_carryAll 57 = .ok (.invokevirtual 243, 3) := by decide +kernel
theorem dX10_carryAll_60 : decode cX10_carryAll 60 = .ok (.putfield 19, 3) := by decide +kernel
theorem dX10_carryAll_63 : decode cX10_carryAll 63 = .ok (.aload_n 0, 1) := by decide +kernel
theorem dX10_carryAll_64 : decode cX10_carryAll 64 = .ok (.aload_n 0, 1) := by decide +kernel
theorem dX10_carryAll_65 : decode cX10_carryAll 65 = .ok (.aload_n 0, 1) := by decide +kernel
theorem dX10_carryAll_66 : decode cX10_carryAll 66 = .ok (.getfield 105, 3) := by decide +kernel
theorem dX10_carryAll_69 : decode cX10_carryAll 69 = .ok (.invokevirtual 243, 3) := by decide +kernel
theorem dX10_carryAll_72 : decode cX10_carryAll 72 = .ok (.putfield 105, 3) := by decide +kernel
theorem dX10_carryAll_75 : decode cX10_carryAll 75 = .ok (.aload_n 0, 1) := by decide +kernel
theorem dX10_carryAll_76 : decode cX10_carryAll 76 = .ok (.aload_n 0, 1) := by decide +kernel
theorem dX10_carryAll_77 : decode cX10_carryAll 77 = .ok (.aload_n 0, 1) := by decide +kernel
theorem dX10_carryAll_78 : decode cX10_carryAll 78 = .ok (.getfield 131, 3) := by decide +kernel
theorem dX10_carryAll_81 : decode cX10_carryAll 81 = .ok (.invokevirtual 243, 3) := by decide +kernel
theorem dX10_carryAll_84 : decode cX10_carryAll 84 = .ok (.putfield 131, 3) := by decide +kernel
theorem dX10_carryAll_87 : decode cX10_carryAll 87 = .ok (.aload_n 0, 1) := by decide +kernel
theorem dX10_carryAll_88 : decode cX10_carryAll 88 = .ok (.aload_n 0, 1) := by decide +kernel
theorem dX10_carryAll_89 : decode cX10_carryAll 89 = .ok (.aload_n 0, 1) := by decide +kernel
theorem dX10_carryAll_90 : decode cX10_carryAll 90 = .ok (.getfield 149, 3) := by decide +kernel
theorem dX10_carryAll_93 : decode cX10_carryAll 93 = .ok (.invokevirtual 243, 3) := by decide +kernel
theorem dX10_carryAll_96 : decode cX10_carryAll 96 = .ok (.putfield 149, 3) := by decide +kernel
theorem dX10_carryAll_99 : decode cX10_carryAll 99 = .ok (.aload_n 0, 1) := by decide +kernel
theorem dX10_carryAll_100 : decode cX10_carryAll 100 = .ok (.aload_n 0, 1) := by decide +kernel
theorem dX10_carryAll_101 : decode cX10_carryAll 101 = .ok (.aload_n 0, 1) := by decide +kernel
theorem dX10_carryAll_102 : decode cX10_carryAll 102 = .ok (.getfield 142, 3) := by decide +kernel
theorem dX10_carryAll_105 : decode cX10_carryAll 105 = .ok (.invokevirtual 243, 3) := by decide +kernel
theorem dX10_carryAll_108 : decode cX10_carryAll 108 = .ok (.putfield 142, 3) := by decide +kernel
theorem dX10_carryAll_111 : decode cX10_carryAll 111 = .ok (.iconst 0, 1) := by decide +kernel
theorem dX10_carryAll_112 : decode cX10_carryAll 112 = .ok (.istore_n 3, 1) := by decide +kernel
theorem dX10_carryAll_113 : decode cX10_carryAll 113 = .ok (.iload_n 3, 1) := by decide +kernel
theorem dX10_carryAll_114 : decode cX10_carryAll 114 = .ok (.bipush 10, 2) := by decide +kernel
theorem dX10_carryAll_116 : decode cX10_carryAll 116 = .ok (.if_icmp .ge 57, 3) := by decide +kernel
theorem dX10_carryAll_119 : decode cX10_carryAll 119 = .ok (.aload_n 0, 1) := by decide +kernel
theorem dX10_carryAll_120 : decode cX10_carryAll 120 = .ok (.getfield 7, 3) := by decide +kernel
theorem dX10_carryAll_123 : decode cX10_carryAll 123 = .ok (.iload_n 3, 1) := by decide +kernel
theorem dX10_carryAll_124 : decode cX10_carryAll 124 = .ok (.aload_n 0, 1) := by decide +kernel
theorem dX10_carryAll_125 : decode cX10_carryAll 125 = .ok (.aload_n 0, 1) := by decide +kernel
theorem dX10_carryAll_126 : decode cX10_carryAll 126 = .ok (.getfield 7, 3) := by decide +kernel
theorem dX10_carryAll_129 : decode cX10_carryAll 129 = .ok (.iload_n 3, 1) := by decide +kernel
theorem dX10_carryAll_130 : decode cX10_carryAll 130 = .ok (.iaload, 1) := by decide +kernel
theorem dX10_carryAll_131 : decode cX10_carryAll 131 = .ok (.invokevirtual 243, 3) := by decide +kernel
theorem dX10_carryAll_134 : decode cX10_carryAll 134 = .ok (.iastore, 1) := by decide +kernel
theorem dX10_carryAll_135 : decode cX10_carryAll 135 = .ok (.aload_n 0, 1) := by decide +kernel
theorem dX10_carryAll_136 : decode cX10_carryAll 136 = .ok (.getfield 13, 3) := by decide +kernel
theorem dX10_carryAll_139 : decode cX10_carryAll 139 = .ok (.iload_n 3, 1) := by decide +kernel
theorem dX10_carryAll_140 : decode cX10_carryAll 140 = .ok (.aload_n 0, 1) := by decide +kernel
theorem dX10_carryAll_141 : decode cX10_carryAll 141 = .ok (.aload_n 0, 1) := by decide +kernel
theorem dX10_carryAll_142 : decode cX10_carryAll 142 = .ok (.getfield 13, 3) := by decide +kernel
theorem dX10_carryAll_145 : decode cX10_carryAll 145 = .ok (.iload_n 3, 1) := by decide +kernel
theorem dX10_carryAll_146 : decode cX10_carryAll 146 = .ok (.iaload, 1) := by decide +kernel
theorem dX10_carryAll_147 : decode cX10_carryAll 147 = .ok (.invokevirtual 243, 3) := by decide +kernel
theorem dX10_carryAll_150 : decode cX10_carryAll 150 = .ok (.iastore, 1) := by decide +kernel
theorem dX10_carryAll_151 : decode cX10_carryAll 151 = .ok (.aload_n 0, 1) := by decide +kernel
theorem dX10_carryAll_152 : decode cX10_carryAll 152 = .ok (.getfield 16, 3) := by decide +kernel
theorem dX10_carryAll_155 : decode cX10_carryAll 155 = .ok (.iload_n 3, 1) := by decide +kernel
theorem dX10_carryAll_156 : decode cX10_carryAll 156 = .ok (.aload_n 0, 1) := by decide +kernel
theorem dX10_carryAll_157 : decode cX10_carryAll 157 = .ok (.aload_n 0, 1) := by decide +kernel
theorem dX10_carryAll_158 : decode cX10_carryAll 158 = .ok (.getfield 16, 3) := by decide +kernel
theorem dX10_carryAll_161 : decode cX10_carryAll 161 = .ok (.iload_n 3, 1) := by decide +kernel
theorem dX10_carryAll_162 : decode cX10_carryAll 162 = .ok (.iaload, 1) := by decide +kernel
theorem dX10_carryAll_163 : decode cX10_carryAll 163 = .ok (.invokevirtual 243, 3) := by decide +kernel
theorem dX10_carryAll_166 : decode cX10_carryAll 166 = .ok (.iastore, 1) := by decide +kernel
theorem dX10_carryAll_167 : decode cX10_carryAll 167 = .ok (.iinc 3 1, 3) := by decide +kernel
theorem dX10_carryAll_170 : decode cX10_carryAll 170 = .ok (.goto (-57), 3) := by decide +kernel
theorem dX10_carryAll_173 : decode cX10_carryAll 173 = .ok (.return_, 1) := by decide +kernel
theorem dX10_think_0 : decode cX10_think 0 = .ok (.aload_n 0, 1) := by decide +kernel
theorem dX10_think_1 : decode cX10_think 1 = .ok (.aload_n 0, 1) := by decide +kernel
theorem dX10_think_2 : decode cX10_think 2 = .ok (.getfield 54, 3) := by decide +kernel
theorem dX10_think_5 : decode cX10_think 5 = .ok (.iconst 1, 1) := by decide +kernel
theorem dX10_think_6 : decode cX10_think 6 = .ok (.invokevirtual 246, 3) := by decide +kernel
theorem dX10_think_9 : decode cX10_think 9 = .ok (.return_, 1) := by decide +kernel
theorem dX10_again_0 : decode cX10_again 0 = .ok (.aload_n 0, 1) := by decide +kernel
theorem dX10_again_1 : decode cX10_again 1 = .ok (.aload_n 0, 1) := by decide +kernel
theorem dX10_again_2 : decode cX10_again 2 = .ok (.getfield 54, 3) := by decide +kernel
theorem dX10_again_5 : decode cX10_again 5 = .ok (.iconst 0, 1) := by decide +kernel
theorem dX10_again_6 : decode cX10_again 6 = .ok (.invokevirtual 246, 3) := by decide +kernel
theorem dX10_again_9 : decode cX10_again 9 = .ok (.return_, 1) := by decide +kernel
theorem dX10_image_0 : decode cX10_image 0 = .ok (.aload_n 0, 1) := by decide +kernel
theorem dX10_image_1 : decode cX10_image 1 = .ok (.iconst 0, 1) := by decide +kernel
theorem dX10_image_2 : decode cX10_image 2 = .ok (.putfield 78, 3) := by decide +kernel
theorem dX10_image_5 : decode cX10_image 5 = .ok (.aload_n 0, 1) := by decide +kernel
theorem dX10_image_6 : decode cX10_image 6 = .ok (.iconst 1, 1) := by decide +kernel
theorem dX10_image_7 : decode cX10_image 7 = .ok (.putfield 250, 3) := by decide +kernel
theorem dX10_image_10 : decode cX10_image 10 = .ok (.aload_n 0, 1) := by decide +kernel
theorem dX10_image_11 : decode cX10_image 11 = .ok (.aload_n 0, 1) := by decide +kernel
theorem dX10_image_12 : decode cX10_image 12 = .ok (.getfield 57, 3) := by decide +kernel
theorem dX10_image_15 : decode cX10_image 15 = .ok (.iconst 1, 1) := by decide +kernel
theorem dX10_image_16 : decode cX10_image 16 = .ok (.invokevirtual 246, 3) := by decide +kernel
theorem dX10_image_19 : decode cX10_image 19 = .ok (.aload_n 0, 1) := by decide +kernel
theorem dX10_image_20 : decode cX10_image 20 = .ok (.getfield 105, 3) := by decide +kernel
theorem dX10_image_23 : decode cX10_image 23 = .ok (.ireturn, 1) := by decide +kernel
theorem dX10_restore_0 : decode cX10_restore 0 = .ok (.aload_n 0, 1) := by decide +kernel
theorem dX10_restore_1 : decode cX10_restore 1 = .ok (.iconst 0, 1) := by decide +kernel
theorem dX10_restore_2 : decode cX10_restore 2 = .ok (.putfield 78, 3) := by decide +kernel
theorem dX10_restore_5 : decode cX10_restore 5 = .ok (.aload_n 0, 1) := by decide +kernel
theorem dX10_restore_6 : decode cX10_restore 6 = .ok (.getfield 250, 3) := by decide +kernel
theorem dX10_restore_9 : decode cX10_restore 9 = .ok (.ifCond .ne 6, 3) := by decide +kernel
theorem dX10_restore_12 : decode cX10_restore 12 = .ok (.bipush (-3), 2) := by decide +kernel
theorem dX10_restore_14 : decode cX10_restore 14 = .ok (.ireturn, 1) := by decide +kernel
theorem dX10_restore_15 : decode cX10_restore 15 = .ok (.aload_n 0, 1) := by decide +kernel
theorem dX10_restore_16 : decode cX10_restore 16 = .ok (.aload_n 0, 1) := by decide +kernel
theorem dX10_restore_17 : decode cX10_restore 17 = .ok (.getfield 57, 3) := by decide +kernel
theorem dX10_restore_20 : decode cX10_restore 20 = .ok (.iconst 0, 1) := by decide +kernel
theorem dX10_restore_21 : decode cX10_restore 21 = .ok (.invokevirtual 246, 3) := by decide +kernel
theorem dX10_restore_24 : decode cX10_restore 24 = .ok (.aload_n 0, 1) := by decide +kernel
theorem dX10_restore_25 : decode cX10_restore 25 = .ok (.getfield 105, 3) := by decide +kernel
theorem dX10_restore_28 : decode cX10_restore 28 = .ok (.ireturn, 1) := by decide +kernel
theorem dX10_bulb_0 : decode cX10_bulb 0 = .ok (.aload_n 0, 1) := by decide +kernel
theorem dX10_bulb_1 : decode cX10_bulb 1 = .ok (.iconst 0, 1) := by decide +kernel
theorem dX10_bulb_2 : decode cX10_bulb 2 = .ok (.putfield 78, 3) := by decide +kernel
theorem dX10_bulb_5 : decode cX10_bulb 5 = .ok (.aload_n 0, 1) := by decide +kernel
theorem dX10_bulb_6 : decode cX10_bulb 6 = .ok (.iload_n 1, 1) := by decide +kernel
theorem dX10_bulb_7 : decode cX10_bulb 7 = .ok (.invokevirtual 193, 3) := by decide +kernel
theorem dX10_bulb_10 : decode cX10_bulb 10 = .ok (.ifCond .eq 15, 3) := by decide +kernel
theorem dX10_bulb_13 : decode cX10_bulb 13 = .ok (.iload_n 2, 1) := by decide +kernel
theorem dX10_bulb_14 : decode cX10_bulb 14 = .ok (.i2l, 1) := by decide +kernel
theorem dX10_bulb_15 : decode cX10_bulb 15 = .ok (.lconst 0, 1) := by decide +kernel
theorem dX10_bulb_16 : decode cX10_bulb 16 = .ok (.ldc2_w 253, 3) := by decide +kernel
theorem dX10_bulb_19 : decode cX10_bulb 19 = .ok (.invokestatic 84, 3) := by decide +kernel
theorem dX10_bulb_22 : decode cX10_bulb 22 = .ok (.ifCond .ne 5, 3) := by decide +kernel
theorem dX10_bulb_25 : decode cX10_bulb 25 = .ok (.iconst (-1), 1) := by decide +kernel
theorem dX10_bulb_26 : decode cX10_bulb 26 = .ok (.ireturn, 1) := by decide +kernel
theorem dX10_bulb_27 : decode cX10_bulb 27 = .ok (.iload_n 2, 1) := by decide +kernel
theorem dX10_bulb_28 : decode cX10_bulb 28 = .ok (.tableswitch 95 0 6 #[44, 51, 58, 65, 74, 83, 89], 44) := by decide +kernel
theorem dX10_bulb_72 : decode cX10_bulb 72 = .ok (.aload_n 0, 1) := by decide +kernel
theorem dX10_bulb_73 : decode cX10_bulb 73 = .ok (.getfield 7, 3) := by decide +kernel
theorem dX10_bulb_76 : decode cX10_bulb 76 = .ok (.iload_n 1, 1) := by decide +kernel
theorem dX10_bulb_77 : decode cX10_bulb 77 = .ok (.iaload, 1) := by decide +kernel
theorem dX10_bulb_78 : decode cX10_bulb 78 = .ok (.ireturn, 1) := by decide +kernel
theorem dX10_bulb_79 : decode cX10_bulb 79 = .ok (.aload_n 0, 1) := by decide +kernel
theorem dX10_bulb_80 : decode cX10_bulb 80 = .ok (.getfield 13, 3) := by decide +kernel
theorem dX10_bulb_83 : decode cX10_bulb 83 = .ok (.iload_n 1, 1) := by decide +kernel
theorem dX10_bulb_84 : decode cX10_bulb 84 = .ok (.iaload, 1) := by decide +kernel
theorem dX10_bulb_85 : decode cX10_bulb 85 = .ok (.ireturn, 1) := by decide +kernel
theorem dX10_bulb_86 : decode cX10_bulb 86 = .ok (.aload_n 0, 1) := by decide +kernel
theorem dX10_bulb_87 : decode cX10_bulb 87 = .ok (.getfield 16, 3) := by decide +kernel
theorem dX10_bulb_90 : decode cX10_bulb 90 = .ok (.iload_n 1, 1) := by decide +kernel
theorem dX10_bulb_91 : decode cX10_bulb 91 = .ok (.iaload, 1) := by decide +kernel
theorem dX10_bulb_92 : decode cX10_bulb 92 = .ok (.ireturn, 1) := by decide +kernel
theorem dX10_bulb_93 : decode cX10_bulb 93 = .ok (.aload_n 0, 1) := by decide +kernel
theorem dX10_bulb_94 : decode cX10_bulb 94 = .ok (.getfield 88, 3) := by decide +kernel
theorem dX10_bulb_97 : decode cX10_bulb 97 = .ok (.iload_n 1, 1) := by decide +kernel
theorem dX10_bulb_98 : decode cX10_bulb 98 = .ok (.ishr, 1) := by decide +kernel
theorem dX10_bulb_99 : decode cX10_bulb 99 = .ok (.iconst 1, 1) := by decide +kernel
theorem dX10_bulb_100 : decode cX10_bulb 100 = .ok (.iand, 1) := by decide +kernel
theorem dX10_bulb_101 : decode cX10_bulb 101 = .ok (.ireturn, 1) := by decide +kernel
theorem dX10_bulb_102 : decode cX10_bulb 102 = .ok (.aload_n 0, 1) := by decide +kernel
theorem dX10_bulb_103 : decode cX10_bulb 103 = .ok (.getfield 95, 3) := by decide +kernel
theorem dX10_bulb_106 : decode cX10_bulb 106 = .ok (.iload_n 1, 1) := by decide +kernel
theorem dX10_bulb_107 : decode cX10_bulb 107 = .ok (.ishr, 1) := by decide +kernel
theorem dX10_bulb_108 : decode cX10_bulb 108 = .ok (.iconst 1, 1) := by decide +kernel
theorem dX10_bulb_109 : decode cX10_bulb 109 = .ok (.iand, 1) := by decide +kernel
theorem dX10_bulb_110 : decode cX10_bulb 110 = .ok (.ireturn, 1) := by decide +kernel
theorem dX10_bulb_111 : decode cX10_bulb 111 = .ok (.aload_n 0, 1) := by decide +kernel
theorem dX10_bulb_112 : decode cX10_bulb 112 = .ok (.iload_n 1, 1) := by decide +kernel
theorem dX10_bulb_113 : decode cX10_bulb 113 = .ok (.invokevirtual 98, 3) := by decide +kernel
theorem dX10_bulb_116 : decode cX10_bulb 116 = .ok (.ireturn, 1) := by decide +kernel
theorem dX10_bulb_117 : decode cX10_bulb 117 = .ok (.aload_n 0, 1) := by decide +kernel
theorem dX10_bulb_118 : decode cX10_bulb 118 = .ok (.iload_n 1, 1) := by decide +kernel
theorem dX10_bulb_119 : decode cX10_bulb 119 = .ok (.invokevirtual 119, 3) := by decide +kernel
theorem dX10_bulb_122 : decode cX10_bulb 122 = .ok (.ireturn, 1) := by decide +kernel
theorem dX10_bulb_123 : decode cX10_bulb 123 = .ok (.aload_n 0, 1) := by decide +kernel
theorem dX10_bulb_124 : decode cX10_bulb 124 = .ok (.iload_n 1, 1) := by decide +kernel
theorem dX10_bulb_125 : decode cX10_bulb 125 = .ok (.aload_n 0, 1) := by decide +kernel
theorem dX10_bulb_126 : decode cX10_bulb 126 = .ok (.getfield 105, 3) := by decide +kernel
theorem dX10_bulb_129 : decode cX10_bulb 129 = .ok (.iconst 1, 1) := by decide +kernel
theorem dX10_bulb_130 : decode cX10_bulb 130 = .ok (.iadd, 1) := by decide +kernel
theorem dX10_bulb_131 : decode cX10_bulb 131 = .ok (.invokevirtual 102, 3) := by decide +kernel
theorem dX10_bulb_134 : decode cX10_bulb 134 = .ok (.ifCond .eq 7, 3) := by decide +kernel
theorem dX10_bulb_137 : decode cX10_bulb 137 = .ok (.iconst 1, 1) := by decide +kernel
theorem dX10_bulb_138 : decode cX10_bulb 138 = .ok (.goto 4, 3) := by decide +kernel
theorem dX10_bulb_141 : decode cX10_bulb 141 = .ok (.iconst 0, 1) := by decide +kernel
theorem dX10_bulb_142 : decode cX10_bulb 142 = .ok (.ireturn, 1) := by decide +kernel
theorem dX10_hangs_0 : decode cX10_hangs 0 = .ok (.aload_n 0, 1) := by decide +kernel
theorem dX10_hangs_1 : decode cX10_hangs 1 = .ok (.iconst 0, 1) := by decide +kernel
theorem dX10_hangs_2 : decode cX10_hangs 2 = .ok (.putfield 78, 3) := by decide +kernel
theorem dX10_hangs_5 : decode cX10_hangs 5 = .ok (.iload_n 1, 1) := by decide +kernel
theorem dX10_hangs_6 : decode cX10_hangs 6 = .ok (.i2l, 1) := by decide +kernel
theorem dX10_hangs_7 : decode cX10_hangs 7 = .ok (.lconst 0, 1) := by decide +kernel
theorem dX10_hangs_8 : decode cX10_hangs 8 = .ok (.ldc2_w 253, 3) := by decide +kernel
theorem dX10_hangs_11 : decode cX10_hangs 11 = .ok (.invokestatic 84, 3) := by decide +kernel
theorem dX10_hangs_14 : decode cX10_hangs 14 = .ok (.ifCond .ne 5, 3) := by decide +kernel
theorem dX10_hangs_17 : decode cX10_hangs 17 = .ok (.iconst (-1), 1) := by decide +kernel
theorem dX10_hangs_18 : decode cX10_hangs 18 = .ok (.ireturn, 1) := by decide +kernel
theorem dX10_hangs_19 : decode cX10_hangs 19 = .ok (.aload_n 0, 1) := by decide +kernel
theorem dX10_hangs_20 : decode cX10_hangs 20 = .ok (.iload_n 1, 1) := by decide +kernel
theorem dX10_hangs_21 : decode cX10_hangs 21 = .ok (.invokevirtual 255, 3) := by decide +kernel
theorem dX10_hangs_24 : decode cX10_hangs 24 = .ok (.ifCond .lt 12, 3) := by decide +kernel
theorem dX10_hangs_27 : decode cX10_hangs 27 = .ok (.aload_n 0, 1) := by decide +kernel
theorem dX10_hangs_28 : decode cX10_hangs 28 = .ok (.getfield 81, 3) := by decide +kernel
theorem dX10_hangs_31 : decode cX10_hangs 31 = .ok (.bipush 10, 2) := by decide +kernel
theorem dX10_hangs_33 : decode cX10_hangs 33 = .ok (.if_icmp .ne 22, 3) := by decide +kernel
theorem dX10_hangs_36 : decode cX10_hangs 36 = .ok (.aload_n 0, 1) := by decide +kernel
theorem dX10_hangs_37 : decode cX10_hangs 37 = .ok (.iload_n 1, 1) := by decide +kernel
theorem dX10_hangs_38 : decode cX10_hangs 38 = .ok (.invokevirtual 255, 3) := by decide +kernel
theorem dX10_hangs_41 : decode cX10_hangs 41 = .ok (.ifCond .ge 11, 3) := by decide +kernel
theorem dX10_hangs_44 : decode cX10_hangs 44 = .ok (.aload_n 0, 1) := by decide +kernel
theorem dX10_hangs_45 : decode cX10_hangs 45 = .ok (.iload_n 1, 1) := by decide +kernel
theorem dX10_hangs_46 : decode cX10_hangs 46 = .ok (.invokevirtual 255, 3) := by decide +kernel
theorem dX10_hangs_49 : decode cX10_hangs 49 = .ok (.goto 5, 3) := by decide +kernel
theorem dX10_hangs_52 : decode cX10_hangs 52 = .ok (.bipush (-2), 2) := by decide +kernel
theorem dX10_hangs_54 : decode cX10_hangs 54 = .ok (.ireturn, 1) := by decide +kernel
theorem dX10_hangs_55 : decode cX10_hangs 55 = .ok (.aload_n 0, 1) := by decide +kernel
theorem dX10_hangs_56 : decode cX10_hangs 56 = .ok (.aload_n 0, 1) := by decide +kernel
theorem dX10_hangs_57 : decode cX10_hangs 57 = .ok (.getfield 29, 3) := by decide +kernel
theorem dX10_hangs_60 : decode cX10_hangs 60 = .ok (.iload_n 1, 1) := by decide +kernel
theorem dX10_hangs_61 : decode cX10_hangs 61 = .ok (.iaload, 1) := by decide +kernel
theorem dX10_hangs_62 : decode cX10_hangs 62 = .ok (.aload_n 0, 1) := by decide +kernel
theorem dX10_hangs_63 : decode cX10_hangs 63 = .ok (.getfield 32, 3) := by decide +kernel
theorem dX10_hangs_66 : decode cX10_hangs 66 = .ok (.iload_n 1, 1) := by decide +kernel
theorem dX10_hangs_67 : decode cX10_hangs 67 = .ok (.iaload, 1) := by decide +kernel
theorem dX10_hangs_68 : decode cX10_hangs 68 = .ok (.invokevirtual 207, 3) := by decide +kernel
theorem dX10_hangs_71 : decode cX10_hangs 71 = .ok (.pop, 1) := by decide +kernel
theorem dX10_hangs_72 : decode cX10_hangs 72 = .ok (.aload_n 0, 1) := by decide +kernel
theorem dX10_hangs_73 : decode cX10_hangs 73 = .ok (.getfield 81, 3) := by decide +kernel
theorem dX10_hangs_76 : decode cX10_hangs 76 = .ok (.iconst 1, 1) := by decide +kernel
theorem dX10_hangs_77 : decode cX10_hangs 77 = .ok (.isub, 1) := by decide +kernel
theorem dX10_hangs_78 : decode cX10_hangs 78 = .ok (.ireturn, 1) := by decide +kernel
theorem dX10_wears_0 : decode cX10_wears 0 = .ok (.aload_n 0, 1) := by decide +kernel
theorem dX10_wears_1 : decode cX10_wears 1 = .ok (.iconst 0, 1) := by decide +kernel
theorem dX10_wears_2 : decode cX10_wears 2 = .ok (.putfield 78, 3) := by decide +kernel
theorem dX10_wears_5 : decode cX10_wears 5 = .ok (.aload_n 0, 1) := by decide +kernel
theorem dX10_wears_6 : decode cX10_wears 6 = .ok (.iload_n 1, 1) := by decide +kernel
theorem dX10_wears_7 : decode cX10_wears 7 = .ok (.invokevirtual 193, 3) := by decide +kernel
theorem dX10_wears_10 : decode cX10_wears 10 = .ok (.ifCond .eq 15, 3) := by decide +kernel
theorem dX10_wears_13 : decode cX10_wears 13 = .ok (.iload_n 2, 1) := by decide +kernel
theorem dX10_wears_14 : decode cX10_wears 14 = .ok (.i2l, 1) := by decide +kernel
theorem dX10_wears_15 : decode cX10_wears 15 = .ok (.lconst 0, 1) := by decide +kernel
theorem dX10_wears_16 : decode cX10_wears 16 = .ok (.ldc2_w 258, 3) := by decide +kernel
theorem dX10_wears_19 : decode cX10_wears 19 = .ok (.invokestatic 84, 3) := by decide +kernel
theorem dX10_wears_22 : decode cX10_wears 22 = .ok (.ifCond .ne 5, 3) := by decide +kernel
theorem dX10_wears_25 : decode cX10_wears 25 = .ok (.iconst (-1), 1) := by decide +kernel
theorem dX10_wears_26 : decode cX10_wears 26 = .ok (.ireturn, 1) := by decide +kernel
theorem dX10_wears_27 : decode cX10_wears 27 = .ok (.aload_n 0, 1) := by decide +kernel
theorem dX10_wears_28 : decode cX10_wears 28 = .ok (.getfield 16, 3) := by decide +kernel
theorem dX10_wears_31 : decode cX10_wears 31 = .ok (.iload_n 1, 1) := by decide +kernel
theorem dX10_wears_32 : decode cX10_wears 32 = .ok (.iaload, 1) := by decide +kernel
theorem dX10_wears_33 : decode cX10_wears 33 = .ok (.istore_n 3, 1) := by decide +kernel
theorem dX10_wears_34 : decode cX10_wears 34 = .ok (.aload_n 0, 1) := by decide +kernel
theorem dX10_wears_35 : decode cX10_wears 35 = .ok (.getfield 16, 3) := by decide +kernel
theorem dX10_wears_38 : decode cX10_wears 38 = .ok (.iload_n 1, 1) := by decide +kernel
theorem dX10_wears_39 : decode cX10_wears 39 = .ok (.iload_n 2, 1) := by decide +kernel
theorem dX10_wears_40 : decode cX10_wears 40 = .ok (.iastore, 1) := by decide +kernel
theorem dX10_wears_41 : decode cX10_wears 41 = .ok (.iload_n 3, 1) := by decide +kernel
theorem dX10_wears_42 : decode cX10_wears 42 = .ok (.ireturn, 1) := by decide +kernel
theorem dX10_breaks_0 : decode cX10_breaks 0 = .ok (.aload_n 0, 1) := by decide +kernel
theorem dX10_breaks_1 : decode cX10_breaks 1 = .ok (.iconst 0, 1) := by decide +kernel
theorem dX10_breaks_2 : decode cX10_breaks 2 = .ok (.putfield 78, 3) := by decide +kernel
theorem dX10_breaks_5 : decode cX10_breaks 5 = .ok (.aload_n 0, 1) := by decide +kernel
theorem dX10_breaks_6 : decode cX10_breaks 6 = .ok (.iload_n 1, 1) := by decide +kernel
theorem dX10_breaks_7 : decode cX10_breaks 7 = .ok (.invokevirtual 193, 3) := by decide +kernel
theorem dX10_breaks_10 : decode cX10_breaks 10 = .ok (.ifCond .ne 5, 3) := by decide +kernel
theorem dX10_breaks_13 : decode cX10_breaks 13 = .ok (.iconst (-1), 1) := by decide +kernel
theorem dX10_breaks_14 : decode cX10_breaks 14 = .ok (.ireturn, 1) := by decide +kernel
theorem dX10_breaks_15 : decode cX10_breaks 15 = .ok (.aload_n 0, 1) := by decide +kernel
theorem dX10_breaks_16 : decode cX10_breaks 16 = .ok (.dup, 1) := by decide +kernel
theorem dX10_breaks_17 : decode cX10_breaks 17 = .ok (.getfield 88, 3) := by decide +kernel
theorem dX10_breaks_20 : decode cX10_breaks 20 = .ok (.iconst 1, 1) := by decide +kernel
theorem dX10_breaks_21 : decode cX10_breaks 21 = .ok (.iload_n 1, 1) := by decide +kernel
theorem dX10_breaks_22 : decode cX10_breaks 22 = .ok (.ishl, 1) := by decide +kernel
theorem dX10_breaks_23 : decode cX10_breaks 23 = .ok (.ixor, 1) := by decide +kernel
theorem dX10_breaks_24 : decode cX10_breaks 24 = .ok (.putfield 88, 3) := by decide +kernel
theorem dX10_breaks_27 : decode cX10_breaks 27 = .ok (.aload_n 0, 1) := by decide +kernel
theorem dX10_breaks_28 : decode cX10_breaks 28 = .ok (.getfield 88, 3) := by decide +kernel
theorem dX10_breaks_31 : decode cX10_breaks 31 = .ok (.iload_n 1, 1) := by decide +kernel
theorem dX10_breaks_32 : decode cX10_breaks 32 = .ok (.ishr, 1) := by decide +kernel
theorem dX10_breaks_33 : decode cX10_breaks 33 = .ok (.iconst 1, 1) := by decide +kernel
theorem dX10_breaks_34 : decode cX10_breaks 34 = .ok (.iand, 1) := by decide +kernel
theorem dX10_breaks_35 : decode cX10_breaks 35 = .ok (.ireturn, 1) := by decide +kernel
theorem dX10_spares_0 : decode cX10_spares 0 = .ok (.aload_n 0, 1) := by decide +kernel
theorem dX10_spares_1 : decode cX10_spares 1 = .ok (.iconst 0, 1) := by decide +kernel
theorem dX10_spares_2 : decode cX10_spares 2 = .ok (.putfield 78, 3) := by decide +kernel
theorem dX10_spares_5 : decode cX10_spares 5 = .ok (.iload_n 1, 1) := by decide +kernel
theorem dX10_spares_6 : decode cX10_spares 6 = .ok (.i2l, 1) := by decide +kernel
theorem dX10_spares_7 : decode cX10_spares 7 = .ok (.lconst 0, 1) := by decide +kernel
theorem dX10_spares_8 : decode cX10_spares 8 = .ok (.ldc2_w 260, 3) := by decide +kernel
theorem dX10_spares_11 : decode cX10_spares 11 = .ok (.invokestatic 84, 3) := by decide +kernel
theorem dX10_spares_14 : decode cX10_spares 14 = .ok (.ifCond .ne 5, 3) := by decide +kernel
theorem dX10_spares_17 : decode cX10_spares 17 = .ok (.iconst (-1), 1) := by decide +kernel
theorem dX10_spares_18 : decode cX10_spares 18 = .ok (.ireturn, 1) := by decide +kernel
theorem dX10_spares_19 : decode cX10_spares 19 = .ok (.aload_n 0, 1) := by decide +kernel
theorem dX10_spares_20 : decode cX10_spares 20 = .ok (.getfield 19, 3) := by decide +kernel
theorem dX10_spares_23 : decode cX10_spares 23 = .ok (.istore_n 2, 1) := by decide +kernel
theorem dX10_spares_24 : decode cX10_spares 24 = .ok (.aload_n 0, 1) := by decide +kernel
theorem dX10_spares_25 : decode cX10_spares 25 = .ok (.iload_n 1, 1) := by decide +kernel
theorem dX10_spares_26 : decode cX10_spares 26 = .ok (.putfield 19, 3) := by decide +kernel
theorem dX10_spares_29 : decode cX10_spares 29 = .ok (.iload_n 2, 1) := by decide +kernel
theorem dX10_spares_30 : decode cX10_spares 30 = .ok (.ireturn, 1) := by decide +kernel
theorem dX10_twist_0 : decode cX10_twist 0 = .ok (.aload_n 0, 1) := by decide +kernel
theorem dX10_twist_1 : decode cX10_twist 1 = .ok (.iconst 0, 1) := by decide +kernel
theorem dX10_twist_2 : decode cX10_twist 2 = .ok (.putfield 78, 3) := by decide +kernel
theorem dX10_twist_5 : decode cX10_twist 5 = .ok (.aload_n 0, 1) := by decide +kernel
theorem dX10_twist_6 : decode cX10_twist 6 = .ok (.iload_n 1, 1) := by decide +kernel
theorem dX10_twist_7 : decode cX10_twist 7 = .ok (.invokevirtual 193, 3) := by decide +kernel
theorem dX10_twist_10 : decode cX10_twist 10 = .ok (.ifCond .ne 5, 3) := by decide +kernel
theorem dX10_twist_13 : decode cX10_twist 13 = .ok (.iconst (-1), 1) := by decide +kernel
theorem dX10_twist_14 : decode cX10_twist 14 = .ok (.ireturn, 1) := by decide +kernel
theorem dX10_twist_15 : decode cX10_twist 15 = .ok (.aload_n 0, 1) := by decide +kernel
theorem dX10_twist_16 : decode cX10_twist 16 = .ok (.getfield 19, 3) := by decide +kernel
theorem dX10_twist_19 : decode cX10_twist 19 = .ok (.ifCond .ne 8, 3) := by decide +kernel
theorem dX10_twist_22 : decode cX10_twist 22 = .ok (.bipush (-3), 2) := by decide +kernel
theorem dX10_twist_24 : decode cX10_twist 24 = .ok (.goto 8, 3) := by decide +kernel
theorem dX10_twist_27 : decode cX10_twist 27 = .ok (.aload_n 0, 1) := by decide +kernel
theorem dX10_twist_28 : decode cX10_twist 28 = .ok (.iload_n 1, 1) := by decide +kernel
theorem dX10_twist_29 : decode cX10_twist 29 = .ok (.invokevirtual 196, 3) := by decide +kernel
theorem dX10_twist_32 : decode cX10_twist 32 = .ok (.ireturn, 1) := by decide +kernel
theorem dX10_isUse_0 : decode cX10_isUse 0 = .ok (.iload_n 1, 1) := by decide +kernel
theorem dX10_isUse_1 : decode cX10_isUse 1 = .ok (.i2l, 1) := by decide +kernel
theorem dX10_isUse_2 : decode cX10_isUse 2 = .ok (.lconst 0, 1) := by decide +kernel
theorem dX10_isUse_3 : decode cX10_isUse 3 = .ok (.ldc2_w 262, 3) := by decide +kernel
theorem dX10_isUse_6 : decode cX10_isUse 6 = .ok (.invokestatic 84, 3) := by decide +kernel
theorem dX10_isUse_9 : decode cX10_isUse 9 = .ok (.ifCond .eq 28, 3) := by decide +kernel
theorem dX10_isUse_12 : decode cX10_isUse 12 = .ok (.aload_n 0, 1) := by decide +kernel
theorem dX10_isUse_13 : decode cX10_isUse 13 = .ok (.iload_n 2, 1) := by decide +kernel
theorem dX10_isUse_14 : decode cX10_isUse 14 = .ok (.invokevirtual 193, 3) := by decide +kernel
theorem dX10_isUse_17 : decode cX10_isUse 17 = .ok (.ifCond .eq 20, 3) := by decide +kernel
theorem dX10_isUse_20 : decode cX10_isUse 20 = .ok (.aload_n 0, 1) := by decide +kernel
theorem dX10_isUse_21 : decode cX10_isUse 21 = .ok (.iload_n 3, 1) := by decide +kernel
theorem dX10_isUse_22 : decode cX10_isUse 22 = .ok (.invokevirtual 193, 3) := by decide +kernel
theorem dX10_isUse_25 : decode cX10_isUse 25 = .ok (.ifCond .eq 12, 3) := by decide +kernel
theorem dX10_isUse_28 : decode cX10_isUse 28 = .ok (.iload_n 2, 1) := by decide +kernel
theorem dX10_isUse_29 : decode cX10_isUse 29 = .ok (.iload_n 3, 1) := by decide +kernel
theorem dX10_isUse_30 : decode cX10_isUse 30 = .ok (.if_icmp .gt 7, 3) := by decide +kernel
theorem dX10_isUse_33 : decode cX10_isUse 33 = .ok (.iconst 1, 1) := by decide +kernel
theorem dX10_isUse_34 : decode cX10_isUse 34 = .ok (.goto 4, 3) := by decide +kernel
theorem dX10_isUse_37 : decode cX10_isUse 37 = .ok (.iconst 0, 1) := by decide +kernel
theorem dX10_isUse_38 : decode cX10_isUse 38 = .ok (.ireturn, 1) := by decide +kernel
theorem dX10_use_0 : decode cX10_use 0 = .ok (.aload_n 0, 1) := by decide +kernel
theorem dX10_use_1 : decode cX10_use 1 = .ok (.iconst 0, 1) := by decide +kernel
theorem dX10_use_2 : decode cX10_use 2 = .ok (.putfield 78, 3) := by decide +kernel
theorem dX10_use_5 : decode cX10_use 5 = .ok (.aload_n 0, 1) := by decide +kernel
theorem dX10_use_6 : decode cX10_use 6 = .ok (.iload_n 1, 1) := by decide +kernel
theorem dX10_use_7 : decode cX10_use 7 = .ok (.iload_n 2, 1) := by decide +kernel
theorem dX10_use_8 : decode cX10_use 8 = .ok (.iload_n 3, 1) := by decide +kernel
theorem dX10_use_9 : decode cX10_use 9 = .ok (.invokevirtual 264, 3) := by decide +kernel
theorem dX10_use_12 : decode cX10_use 12 = .ok (.ifCond .eq 13, 3) := by decide +kernel
theorem dX10_use_15 : decode cX10_use 15 = .ok (.aload_n 0, 1) := by decide +kernel
theorem dX10_use_16 : decode cX10_use 16 = .ok (.iload_n 1, 1) := by decide +kernel
theorem dX10_use_17 : decode cX10_use 17 = .ok (.iload_n 2, 1) := by decide +kernel
theorem dX10_use_18 : decode cX10_use 18 = .ok (.iload_n 3, 1) := by decide +kernel
theorem dX10_use_19 : decode cX10_use 19 = .ok (.invokevirtual 199, 3) := by decide +kernel
theorem dX10_use_22 : decode cX10_use 22 = .ok (.goto 4, 3) := by decide +kernel
theorem dX10_use_25 : decode cX10_use 25 = .ok (.iconst (-1), 1) := by decide +kernel
theorem dX10_use_26 : decode cX10_use 26 = .ok (.ireturn, 1) := by decide +kernel
theorem dX10_hours_0 : decode cX10_hours 0 = .ok (.aload_n 0, 1) := by decide +kernel
theorem dX10_hours_1 : decode cX10_hours 1 = .ok (.iconst 0, 1) := by decide +kernel
theorem dX10_hours_2 : decode cX10_hours 2 = .ok (.putfield 78, 3) := by decide +kernel
theorem dX10_hours_5 : decode cX10_hours 5 = .ok (.iload_n 1, 1) := by decide +kernel
theorem dX10_hours_6 : decode cX10_hours 6 = .ok (.i2l, 1) := by decide +kernel
theorem dX10_hours_7 : decode cX10_hours 7 = .ok (.lconst 1, 1) := by decide +kernel
theorem dX10_hours_8 : decode cX10_hours 8 = .ok (.ldc2_w 202, 3) := by decide +kernel
theorem dX10_hours_11 : decode cX10_hours 11 = .ok (.invokestatic 84, 3) := by decide +kernel
theorem dX10_hours_14 : decode cX10_hours 14 = .ok (.ifCond .ne 5, 3) := by decide +kernel
theorem dX10_hours_17 : decode cX10_hours 17 = .ok (.iconst (-1), 1) := by decide +kernel
theorem dX10_hours_18 : decode cX10_hours 18 = .ok (.ireturn, 1) := by decide +kernel
theorem dX10_hours_19 : decode cX10_hours 19 = .ok (.aload_n 0, 1) := by decide +kernel
theorem dX10_hours_20 : decode cX10_hours 20 = .ok (.getfield 105, 3) := by decide +kernel
theorem dX10_hours_23 : decode cX10_hours 23 = .ok (.iload_n 1, 1) := by decide +kernel
theorem dX10_hours_24 : decode cX10_hours 24 = .ok (.iadd, 1) := by decide +kernel
theorem dX10_hours_25 : decode cX10_hours 25 = .ok (.sipush 999, 3) := by decide +kernel
theorem dX10_hours_28 : decode cX10_hours 28 = .ok (.if_icmp .le 6, 3) := by decide +kernel
theorem dX10_hours_31 : decode cX10_hours 31 = .ok (.bipush (-3), 2) := by decide +kernel
theorem dX10_hours_33 : decode cX10_hours 33 = .ok (.ireturn, 1) := by decide +kernel
theorem dX10_hours_34 : decode cX10_hours 34 = .ok (.aload_n 0, 1) := by decide +kernel
theorem dX10_hours_35 : decode cX10_hours 35 = .ok (.iload_n 1, 1) := by decide +kernel
theorem dX10_hours_36 : decode cX10_hours 36 = .ok (.invokevirtual 204, 3) := by decide +kernel
theorem dX10_hours_39 : decode cX10_hours 39 = .ok (.aload_n 0, 1) := by decide +kernel
theorem dX10_hours_40 : decode cX10_hours 40 = .ok (.getfield 131, 3) := by decide +kernel
theorem dX10_hours_43 : decode cX10_hours 43 = .ok (.ireturn, 1) := by decide +kernel
theorem dX10_then_0 : decode cX10_then 0 = .ok (.aload_n 0, 1) := by decide +kernel
theorem dX10_then_1 : decode cX10_then 1 = .ok (.iconst 0, 1) := by decide +kernel
theorem dX10_then_2 : decode cX10_then 2 = .ok (.putfield 78, 3) := by decide +kernel
theorem dX10_then_5 : decode cX10_then 5 = .ok (.iload_n 1, 1) := by decide +kernel
theorem dX10_then_6 : decode cX10_then 6 = .ok (.i2l, 1) := by decide +kernel
theorem dX10_then_7 : decode cX10_then 7 = .ok (.lconst 0, 1) := by decide +kernel
theorem dX10_then_8 : decode cX10_then 8 = .ok (.ldc2_w 202, 3) := by decide +kernel
theorem dX10_then_11 : decode cX10_then 11 = .ok (.invokestatic 84, 3) := by decide +kernel
theorem dX10_then_14 : decode cX10_then 14 = .ok (.ifCond .eq 15, 3) := by decide +kernel
theorem dX10_then_17 : decode cX10_then 17 = .ok (.iload_n 2, 1) := by decide +kernel
theorem dX10_then_18 : decode cX10_then 18 = .ok (.i2l, 1) := by decide +kernel
theorem dX10_then_19 : decode cX10_then 19 = .ok (.lconst 0, 1) := by decide +kernel
theorem dX10_then_20 : decode cX10_then 20 = .ok (.ldc2_w 267, 3) := by decide +kernel
theorem dX10_then_23 : decode cX10_then 23 = .ok (.invokestatic 84, 3) := by decide +kernel
theorem dX10_then_26 : decode cX10_then 26 = .ok (.ifCond .ne 5, 3) := by decide +kernel
theorem dX10_then_29 : decode cX10_then 29 = .ok (.iconst (-1), 1) := by decide +kernel
theorem dX10_then_30 : decode cX10_then 30 = .ok (.ireturn, 1) := by decide +kernel
theorem dX10_then_31 : decode cX10_then 31 = .ok (.aload_n 0, 1) := by decide +kernel
theorem dX10_then_32 : decode cX10_then 32 = .ok (.invokevirtual 225, 3) := by decide +kernel
theorem dX10_then_35 : decode cX10_then 35 = .ok (.aload_n 0, 1) := by decide +kernel
theorem dX10_then_36 : decode cX10_then 36 = .ok (.iload_n 1, 1) := by decide +kernel
theorem dX10_then_37 : decode cX10_then 37 = .ok (.invokevirtual 204, 3) := by decide +kernel
theorem dX10_then_40 : decode cX10_then 40 = .ok (.iload_n 2, 1) := by decide +kernel
theorem dX10_then_41 : decode cX10_then 41 = .ok (.ifCond .ne 10, 3) := by decide +kernel
theorem dX10_then_44 : decode cX10_then 44 = .ok (.aload_n 0, 1) := by decide +kernel
theorem dX10_then_45 : decode cX10_then 45 = .ok (.getfield 88, 3) := by decide +kernel
theorem dX10_then_48 : decode cX10_then 48 = .ok (.goto 19, 3) := by decide +kernel
theorem dX10_then_51 : decode cX10_then 51 = .ok (.iload_n 2, 1) := by decide +kernel
theorem dX10_then_52 : decode cX10_then 52 = .ok (.iconst 1, 1) := by decide +kernel
theorem dX10_then_53 : decode cX10_then 53 = .ok (.if_icmp .ne 10, 3) := by decide +kernel
theorem dX10_then_56 : decode cX10_then 56 = .ok (.aload_n 0, 1) := by decide +kernel
theorem dX10_then_57 : decode cX10_then 57 = .ok (.getfield 131, 3) := by decide +kernel
theorem dX10_then_60 : decode cX10_then 60 = .ok (.goto 7, 3) := by decide +kernel
theorem dX10_then_63 : decode cX10_then 63 = .ok (.aload_n 0, 1) := by decide +kernel
theorem dX10_then_64 : decode cX10_then 64 = .ok (.invokevirtual 269, 3) := by decide +kernel
theorem dX10_then_67 : decode cX10_then 67 = .ok (.istore_n 3, 1) := by decide +kernel
theorem dX10_then_68 : decode cX10_then 68 = .ok (.aload_n 0, 1) := by decide +kernel
theorem dX10_then_69 : decode cX10_then 69 = .ok (.invokevirtual 231, 3) := by decide +kernel
theorem dX10_then_72 : decode cX10_then 72 = .ok (.iload_n 3, 1) := by decide +kernel
theorem dX10_then_73 : decode cX10_then 73 = .ok (.ireturn, 1) := by decide +kernel
theorem dX10_wornThen_0 : decode cX10_wornThen 0 = .ok (.aload_n 0, 1) := by decide +kernel
theorem dX10_wornThen_1 : decode cX10_wornThen 1 = .ok (.iconst 0, 1) := by decide +kernel
theorem dX10_wornThen_2 : decode cX10_wornThen 2 = .ok (.putfield 78, 3) := by decide +kernel
theorem dX10_wornThen_5 : decode cX10_wornThen 5 = .ok (.aload_n 0, 1) := by decide +kernel
theorem dX10_wornThen_6 : decode cX10_wornThen 6 = .ok (.iload_n 1, 1) := by decide +kernel
theorem dX10_wornThen_7 : decode cX10_wornThen 7 = .ok (.invokevirtual 193, 3) := by decide +kernel
theorem dX10_wornThen_10 : decode cX10_wornThen 10 = .ok (.ifCond .eq 15, 3) := by decide +kernel
theorem dX10_wornThen_13 : decode cX10_wornThen 13 = .ok (.iload_n 2, 1) := by decide +kernel
theorem dX10_wornThen_14 : decode cX10_wornThen 14 = .ok (.i2l, 1) := by decide +kernel
theorem dX10_wornThen_15 : decode cX10_wornThen 15 = .ok (.lconst 0, 1) := by decide +kernel
theorem dX10_wornThen_16 : decode cX10_wornThen 16 = .ok (.ldc2_w 202, 3) := by decide +kernel
theorem dX10_wornThen_19 : decode cX10_wornThen 19 = .ok (.invokestatic 84, 3) := by decide +kernel
theorem dX10_wornThen_22 : decode cX10_wornThen 22 = .ok (.ifCond .ne 5, 3) := by decide +kernel
theorem dX10_wornThen_25 : decode cX10_wornThen 25 = .ok (.iconst (-1), 1) := by decide +kernel
theorem dX10_wornThen_26 : decode cX10_wornThen 26 = .ok (.ireturn, 1) := by decide +kernel
theorem dX10_wornThen_27 : decode cX10_wornThen 27 = .ok (.aload_n 0, 1) := by decide +kernel
theorem dX10_wornThen_28 : decode cX10_wornThen 28 = .ok (.invokevirtual 225, 3) := by decide +kernel
theorem dX10_wornThen_31 : decode cX10_wornThen 31 = .ok (.aload_n 0, 1) := by decide +kernel
theorem dX10_wornThen_32 : decode cX10_wornThen 32 = .ok (.iload_n 2, 1) := by decide +kernel
theorem dX10_wornThen_33 : decode cX10_wornThen 33 = .ok (.invokevirtual 204, 3) := by decide +kernel
theorem dX10_wornThen_36 : decode cX10_wornThen 36 = .ok (.aload_n 0, 1) := by decide +kernel
theorem dX10_wornThen_37 : decode cX10_wornThen 37 = .ok (.getfield 16, 3) := by decide +kernel
theorem dX10_wornThen_40 : decode cX10_wornThen 40 = .ok (.iload_n 1, 1) := by decide +kernel
theorem dX10_wornThen_41 : decode cX10_wornThen 41 = .ok (.iaload, 1) := by decide +kernel
theorem dX10_wornThen_42 : decode cX10_wornThen 42 = .ok (.istore_n 3, 1) := by decide +kernel
theorem dX10_wornThen_43 : decode cX10_wornThen 43 = .ok (.aload_n 0, 1) := by decide +kernel
theorem dX10_wornThen_44 : decode cX10_wornThen 44 = .ok (.invokevirtual 231, 3) := by decide +kernel
theorem dX10_wornThen_47 : decode cX10_wornThen 47 = .ok (.iload_n 3, 1) := by decide +kernel
theorem dX10_wornThen_48 : decode cX10_wornThen 48 = .ok (.ireturn, 1) := by decide +kernel
theorem dX10_goesIn_0 : decode cX10_goesIn 0 = .ok (.bipush 61, 2) := by decide +kernel
theorem dX10_goesIn_2 : decode cX10_goesIn 2 = .ok (.istore_n 2, 1) := by decide +kernel
theorem dX10_goesIn_3 : decode cX10_goesIn 3 = .ok (.aload_n 0, 1) := by decide +kernel
theorem dX10_goesIn_4 : decode cX10_goesIn 4 = .ok (.invokevirtual 225, 3) := by decide +kernel
theorem dX10_goesIn_7 : decode cX10_goesIn 7 = .ok (.iconst 0, 1) := by decide +kernel
theorem dX10_goesIn_8 : decode cX10_goesIn 8 = .ok (.istore_n 3, 1) := by decide +kernel
theorem dX10_goesIn_9 : decode cX10_goesIn 9 = .ok (.iload_n 3, 1) := by decide +kernel
theorem dX10_goesIn_10 : decode cX10_goesIn 10 = .ok (.bipush 60, 2) := by decide +kernel
theorem dX10_goesIn_12 : decode cX10_goesIn 12 = .ok (.if_icmp .gt 38, 3) := by decide +kernel
theorem dX10_goesIn_15 : decode cX10_goesIn 15 = .ok (.iload_n 2, 1) := by decide +kernel
theorem dX10_goesIn_16 : decode cX10_goesIn 16 = .ok (.bipush 61, 2) := by decide +kernel
theorem dX10_goesIn_18 : decode cX10_goesIn 18 = .ok (.if_icmp .ne 32, 3) := by decide +kernel
theorem dX10_goesIn_21 : decode cX10_goesIn 21 = .ok (.aload_n 0, 1) := by decide +kernel
theorem dX10_goesIn_22 : decode cX10_goesIn 22 = .ok (.getfield 88, 3) := by decide +kernel
theorem dX10_goesIn_25 : decode cX10_goesIn 25 = .ok (.iload_n 1, 1) := by decide +kernel
theorem dX10_goesIn_26 : decode cX10_goesIn 26 = .ok (.invokestatic 91, 3) := by decide +kernel
theorem dX10_goesIn_29 : decode cX10_goesIn 29 = .ok (.ifCond .eq 8, 3) := by decide +kernel
theorem dX10_goesIn_32 : decode cX10_goesIn 32 = .ok (.bipush 61, 2) := by decide +kernel
theorem dX10_goesIn_34 : decode cX10_goesIn 34 = .ok (.goto 4, 3) := by decide +kernel
theorem dX10_goesIn_37 : decode cX10_goesIn 37 = .ok (.iload_n 3, 1) := by decide +kernel
theorem dX10_goesIn_38 : decode cX10_goesIn 38 = .ok (.istore_n 2, 1) := by decide +kernel
theorem dX10_goesIn_39 : decode cX10_goesIn 39 = .ok (.aload_n 0, 1) := by decide +kernel
theorem dX10_goesIn_40 : decode cX10_goesIn 40 = .ok (.invokevirtual 134, 3) := by decide +kernel
theorem dX10_goesIn_43 : decode cX10_goesIn 43 = .ok (.pop, 1) := by decide +kernel
theorem dX10_goesIn_44 : decode cX10_goesIn 44 = .ok (.iinc 3 1, 3) := by decide +kernel
theorem dX10_goesIn_47 : decode cX10_goesIn 47 = .ok (.goto (-38), 3) := by decide +kernel
theorem dX10_goesIn_50 : decode cX10_goesIn 50 = .ok (.aload_n 0, 1) := by decide +kernel
theorem dX10_goesIn_51 : decode cX10_goesIn 51 = .ok (.invokevirtual 231, 3) := by decide +kernel
theorem dX10_goesIn_54 : decode cX10_goesIn 54 = .ok (.iload_n 2, 1) := by decide +kernel
theorem dX10_goesIn_55 : decode cX10_goesIn 55 = .ok (.ireturn, 1) := by decide +kernel
theorem dX10_goes_0 : decode cX10_goes 0 = .ok (.aload_n 0, 1) := by decide +kernel
theorem dX10_goes_1 : decode cX10_goes 1 = .ok (.iconst 0, 1) := by decide +kernel
theorem dX10_goes_2 : decode cX10_goes 2 = .ok (.putfield 78, 3) := by decide +kernel
theorem dX10_goes_5 : decode cX10_goes 5 = .ok (.iload_n 1, 1) := by decide +kernel
theorem dX10_goes_6 : decode cX10_goes 6 = .ok (.i2l, 1) := by decide +kernel
theorem dX10_goes_7 : decode cX10_goes 7 = .ok (.ldc2_w 272, 3) := by decide +kernel
theorem dX10_goes_10 : decode cX10_goes 10 = .ok (.aload_n 0, 1) := by decide +kernel
theorem dX10_goes_11 : decode cX10_goes 11 = .ok (.getfield 81, 3) := by decide +kernel
theorem dX10_goes_14 : decode cX10_goes 14 = .ok (.iconst 1, 1) := by decide +kernel
theorem dX10_goes_15 : decode cX10_goes 15 = .ok (.isub, 1) := by decide +kernel
theorem dX10_goes_16 : decode cX10_goes 16 = .ok (.i2l, 1) := by decide +kernel
theorem dX10_goes_17 : decode cX10_goes 17 = .ok (.invokestatic 84, 3) := by decide +kernel
theorem dX10_goes_20 : decode cX10_goes 20 = .ok (.ifCond .ne 5, 3) := by decide +kernel
theorem dX10_goes_23 : decode cX10_goes 23 = .ok (.iconst (-1), 1) := by decide +kernel
theorem dX10_goes_24 : decode cX10_goes 24 = .ok (.ireturn, 1) := by decide +kernel
theorem dX10_goes_25 : decode cX10_goes 25 = .ok (.iload_n 1, 1) := by decide +kernel
theorem dX10_goes_26 : decode cX10_goes 26 = .ok (.ifCond .lt 22, 3) := by decide +kernel
theorem dX10_goes_29 : decode cX10_goes 29 = .ok (.aload_n 0, 1) := by decide +kernel
theorem dX10_goes_30 : decode cX10_goes 30 = .ok (.iload_n 1, 1) := by decide +kernel
theorem dX10_goes_31 : decode cX10_goes 31 = .ok (.invokevirtual 274, 3) := by decide +kernel
theorem dX10_goes_34 : decode cX10_goes 34 = .ok (.istore_n 2, 1) := by decide +kernel
theorem dX10_goes_35 : decode cX10_goes 35 = .ok (.iload_n 2, 1) := by decide +kernel
theorem dX10_goes_36 : decode cX10_goes 36 = .ok (.bipush 61, 2) := by decide +kernel
theorem dX10_goes_38 : decode cX10_goes 38 = .ok (.if_icmp .ne 8, 3) := by decide +kernel
theorem dX10_goes_41 : decode cX10_goes 41 = .ok (.bipush (-4), 2) := by decide +kernel
theorem dX10_goes_43 : decode cX10_goes 43 = .ok (.goto 4, 3) := by decide +kernel
theorem dX10_goes_46 : decode cX10_goes 46 = .ok (.iload_n 2, 1) := by decide +kernel
theorem dX10_goes_47 : decode cX10_goes 47 = .ok (.ireturn, 1) := by decide +kernel
theorem dX10_goes_48 : decode cX10_goes 48 = .ok (.bipush (-4), 2) := by decide +kernel
theorem dX10_goes_50 : decode cX10_goes 50 = .ok (.istore_n 2, 1) := by decide +kernel
theorem dX10_goes_51 : decode cX10_goes 51 = .ok (.bipush 61, 2) := by decide +kernel
theorem dX10_goes_53 : decode cX10_goes 53 = .ok (.istore_n 3, 1) := by decide +kernel
theorem dX10_goes_54 : decode cX10_goes 54 = .ok (.iconst 0, 1) := by decide +kernel
theorem dX10_goes_55 : decode cX10_goes 55 = .ok (.istore 4, 2) := by decide +kernel
theorem dX10_goes_57 : decode cX10_goes 57 = .ok (.iload 4, 2) := by decide +kernel
theorem dX10_goes_59 : decode cX10_goes 59 = .ok (.aload_n 0, 1) := by decide +kernel
theorem dX10_goes_60 : decode cX10_goes 60 = .ok (.getfield 81, 3) := by decide +kernel
theorem dX10_goes_63 : decode cX10_goes 63 = .ok (.if_icmp .ge 60, 3) := by decide +kernel
theorem dX10_goes_66 : decode cX10_goes 66 = .ok (.aload_n 0, 1) := by decide +kernel
theorem dX10_goes_67 : decode cX10_goes 67 = .ok (.getfield 88, 3) := by decide +kernel
theorem dX10_goes_70 : decode cX10_goes 70 = .ok (.iload 4, 2) := by decide +kernel
theorem dX10_goes_72 : decode cX10_goes 72 = .ok (.invokestatic 91, 3) := by decide +kernel
theorem dX10_goes_75 : decode cX10_goes 75 = .ok (.ifCond .eq 12, 3) := by decide +kernel
theorem dX10_goes_78 : decode cX10_goes 78 = .ok (.aload_n 0, 1) := by decide +kernel
theorem dX10_goes_79 : decode cX10_goes 79 = .ok (.iload 4, 2) := by decide +kernel
theorem dX10_goes_81 : decode cX10_goes 81 = .ok (.invokevirtual 274, 3) := by decide +kernel
theorem dX10_goes_84 : decode cX10_goes 84 = .ok (.goto 5, 3) := by decide +kernel
theorem dX10_goes_87 : decode cX10_goes 87 = .ok (.bipush 61, 2) := by decide +kernel
theorem dX10_goes_89 : decode cX10_goes 89 = .ok (.istore 5, 2) := by decide +kernel
theorem dX10_goes_91 : decode cX10_goes 91 = .ok (.iload 5, 2) := by decide +kernel
theorem dX10_goes_93 : decode cX10_goes 93 = .ok (.iload_n 3, 1) := by decide +kernel
theorem dX10_goes_94 : decode cX10_goes 94 = .ok (.if_icmp .ge 8, 3) := by decide +kernel
theorem dX10_goes_97 : decode cX10_goes 97 = .ok (.iload 4, 2) := by decide +kernel
theorem dX10_goes_99 : decode cX10_goes 99 = .ok (.goto 4, 3) := by decide +kernel
theorem dX10_goes_102 : decode cX10_goes 102 = .ok (.iload_n 2, 1) := by decide +kernel
theorem dX10_goes_103 : decode cX10_goes 103 = .ok (.istore_n 2, 1) := by decide +kernel
theorem dX10_goes_104 : decode cX10_goes 104 = .ok (.iload 5, 2) := by decide +kernel
theorem dX10_goes_106 : decode cX10_goes 106 = .ok (.iload_n 3, 1) := by decide +kernel
theorem dX10_goes_107 : decode cX10_goes 107 = .ok (.if_icmp .ge 8, 3) := by decide +kernel
theorem dX10_goes_110 : decode cX10_goes 110 = .ok (.iload 5, 2) := by decide +kernel
theorem dX10_goes_112 : decode cX10_goes 112 = .ok (.goto 4, 3) := by decide +kernel
theorem dX10_goes_115 : decode cX10_goes 115 = .ok (.iload_n 3, 1) := by decide +kernel
theorem dX10_goes_116 : decode cX10_goes 116 = .ok (.istore_n 3, 1) := by decide +kernel
theorem dX10_goes_117 : decode cX10_goes 117 = .ok (.iinc 4 1, 3) := by decide +kernel
theorem dX10_goes_120 : decode cX10_goes 120 = .ok (.goto (-63), 3) := by decide +kernel
theorem dX10_goes_123 : decode cX10_goes 123 = .ok (.iload_n 2, 1) := by decide +kernel
theorem dX10_goes_124 : decode cX10_goes 124 = .ok (.ireturn, 1) := by decide +kernel
theorem dX10_dark_0 : decode cX10_dark 0 = .ok (.aload_n 0, 1) := by decide +kernel
theorem dX10_dark_1 : decode cX10_dark 1 = .ok (.iconst 0, 1) := by decide +kernel
theorem dX10_dark_2 : decode cX10_dark 2 = .ok (.putfield 78, 3) := by decide +kernel
theorem dX10_dark_5 : decode cX10_dark 5 = .ok (.bipush (-4), 2) := by decide +kernel
theorem dX10_dark_7 : decode cX10_dark 7 = .ok (.istore_n 1, 1) := by decide +kernel
theorem dX10_dark_8 : decode cX10_dark 8 = .ok (.aload_n 0, 1) := by decide +kernel
theorem dX10_dark_9 : decode cX10_dark 9 = .ok (.invokevirtual 225, 3) := by decide +kernel
theorem dX10_dark_12 : decode cX10_dark 12 = .ok (.iconst 1, 1) := by decide +kernel
theorem dX10_dark_13 : decode cX10_dark 13 = .ok (.istore_n 2, 1) := by decide +kernel
theorem dX10_dark_14 : decode cX10_dark 14 = .ok (.iload_n 2, 1) := by decide +kernel
theorem dX10_dark_15 : decode cX10_dark 15 = .ok (.bipush 60, 2) := by decide +kernel
theorem dX10_dark_17 : decode cX10_dark 17 = .ok (.if_icmp .gt 27, 3) := by decide +kernel
theorem dX10_dark_20 : decode cX10_dark 20 = .ok (.iload_n 1, 1) := by decide +kernel
theorem dX10_dark_21 : decode cX10_dark 21 = .ok (.ifCond .ge 23, 3) := by decide +kernel
theorem dX10_dark_24 : decode cX10_dark 24 = .ok (.aload_n 0, 1) := by decide +kernel
theorem dX10_dark_25 : decode cX10_dark 25 = .ok (.invokevirtual 134, 3) := by decide +kernel
theorem dX10_dark_28 : decode cX10_dark 28 = .ok (.ifCond .eq 8, 3) := by decide +kernel
theorem dX10_dark_31 : decode cX10_dark 31 = .ok (.bipush (-4), 2) := by decide +kernel
theorem dX10_dark_33 : decode cX10_dark 33 = .ok (.goto 4, 3) := by decide +kernel
theorem dX10_dark_36 : decode cX10_dark 36 = .ok (.iload_n 2, 1) := by decide +kernel
theorem dX10_dark_37 : decode cX10_dark 37 = .ok (.istore_n 1, 1) := by decide +kernel
theorem dX10_dark_38 : decode cX10_dark 38 = .ok (.iinc 2 1, 3) := by decide +kernel
theorem dX10_dark_41 : decode cX10_dark 41 = .ok (.goto (-27), 3) := by decide +kernel
theorem dX10_dark_44 : decode cX10_dark 44 = .ok (.aload_n 0, 1) := by decide +kernel
theorem dX10_dark_45 : decode cX10_dark 45 = .ok (.invokevirtual 231, 3) := by decide +kernel
theorem dX10_dark_48 : decode cX10_dark 48 = .ok (.iload_n 1, 1) := by decide +kernel
theorem dX10_dark_49 : decode cX10_dark 49 = .ok (.ireturn, 1) := by decide +kernel
theorem dX10_faults_0 : decode cX10_faults 0 = .ok (.iconst 0, 1) := by decide +kernel
theorem dX10_faults_1 : decode cX10_faults 1 = .ok (.istore_n 1, 1) := by decide +kernel
theorem dX10_faults_2 : decode cX10_faults 2 = .ok (.iconst 0, 1) := by decide +kernel
theorem dX10_faults_3 : decode cX10_faults 3 = .ok (.istore_n 2, 1) := by decide +kernel
theorem dX10_faults_4 : decode cX10_faults 4 = .ok (.iload_n 2, 1) := by decide +kernel
theorem dX10_faults_5 : decode cX10_faults 5 = .ok (.aload_n 0, 1) := by decide +kernel
theorem dX10_faults_6 : decode cX10_faults 6 = .ok (.getfield 81, 3) := by decide +kernel
theorem dX10_faults_9 : decode cX10_faults 9 = .ok (.if_icmp .ge 33, 3) := by decide +kernel
theorem dX10_faults_12 : decode cX10_faults 12 = .ok (.iload_n 1, 1) := by decide +kernel
theorem dX10_faults_13 : decode cX10_faults 13 = .ok (.aload_n 0, 1) := by decide +kernel
theorem dX10_faults_14 : decode cX10_faults 14 = .ok (.iload_n 2, 1) := by decide +kernel
theorem dX10_faults_15 : decode cX10_faults 15 = .ok (.aload_n 0, 1) := by decide +kernel
theorem dX10_faults_16 : decode cX10_faults 16 = .ok (.getfield 105, 3) := by decide +kernel
theorem dX10_faults_19 : decode cX10_faults 19 = .ok (.iconst 1, 1) := by decide +kernel
theorem dX10_faults_20 : decode cX10_faults 20 = .ok (.iadd, 1) := by decide +kernel
theorem dX10_faults_21 : decode cX10_faults 21 = .ok (.invokevirtual 102, 3) := by decide +kernel
theorem dX10_faults_24 : decode cX10_faults 24 = .ok (.ifCond .eq 7, 3) := by decide +kernel
theorem dX10_faults_27 : decode cX10_faults 27 = .ok (.iconst 0, 1) := by decide +kernel
theorem dX10_faults_28 : decode cX10_faults 28 = .ok (.goto 6, 3) := by decide +kernel
theorem dX10_faults_31 : decode cX10_faults 31 = .ok (.iconst 1, 1) := by decide +kernel
theorem dX10_faults_32 : decode cX10_faults 32 = .ok (.iload_n 2, 1) := by decide +kernel
theorem dX10_faults_33 : decode cX10_faults 33 = .ok (.ishl, 1) := by decide +kernel
theorem dX10_faults_34 : decode cX10_faults 34 = .ok (.ior, 1) := by decide +kernel
theorem dX10_faults_35 : decode cX10_faults 35 = .ok (.istore_n 1, 1) := by decide +kernel
theorem dX10_faults_36 : decode cX10_faults 36 = .ok (.iinc 2 1, 3) := by decide +kernel
theorem dX10_faults_39 : decode cX10_faults 39 = .ok (.goto (-35), 3) := by decide +kernel
theorem dX10_faults_42 : decode cX10_faults 42 = .ok (.iload_n 1, 1) := by decide +kernel
theorem dX10_faults_43 : decode cX10_faults 43 = .ok (.ireturn, 1) := by decide +kernel
theorem dX10_browns_0 : decode cX10_browns 0 = .ok (.iconst 0, 1) := by decide +kernel
theorem dX10_browns_1 : decode cX10_browns 1 = .ok (.istore_n 1, 1) := by decide +kernel
theorem dX10_browns_2 : decode cX10_browns 2 = .ok (.iconst 0, 1) := by decide +kernel
theorem dX10_browns_3 : decode cX10_browns 3 = .ok (.istore_n 2, 1) := by decide +kernel
theorem dX10_browns_4 : decode cX10_browns 4 = .ok (.iload_n 2, 1) := by decide +kernel
theorem dX10_browns_5 : decode cX10_browns 5 = .ok (.aload_n 0, 1) := by decide +kernel
theorem dX10_browns_6 : decode cX10_browns 6 = .ok (.getfield 81, 3) := by decide +kernel
theorem dX10_browns_9 : decode cX10_browns 9 = .ok (.if_icmp .ge 27, 3) := by decide +kernel
theorem dX10_browns_12 : decode cX10_browns 12 = .ok (.iload_n 1, 1) := by decide +kernel
theorem dX10_browns_13 : decode cX10_browns 13 = .ok (.aload_n 0, 1) := by decide +kernel
theorem dX10_browns_14 : decode cX10_browns 14 = .ok (.iload_n 2, 1) := by decide +kernel
theorem dX10_browns_15 : decode cX10_browns 15 = .ok (.invokevirtual 138, 3) := by decide +kernel
theorem dX10_browns_18 : decode cX10_browns 18 = .ok (.ifCond .eq 9, 3) := by decide +kernel
theorem dX10_browns_21 : decode cX10_browns 21 = .ok (.iconst 1, 1) := by decide +kernel
theorem dX10_browns_22 : decode cX10_browns 22 = .ok (.iload_n 2, 1) := by decide +kernel
theorem dX10_browns_23 : decode cX10_browns 23 = .ok (.ishl, 1) := by decide +kernel
theorem dX10_browns_24 : decode cX10_browns 24 = .ok (.goto 4, 3) := by decide +kernel
theorem dX10_browns_27 : decode cX10_browns 27 = .ok (.iconst 0, 1) := by decide +kernel
theorem dX10_browns_28 : decode cX10_browns 28 = .ok (.ior, 1) := by decide +kernel
theorem dX10_browns_29 : decode cX10_browns 29 = .ok (.istore_n 1, 1) := by decide +kernel
theorem dX10_browns_30 : decode cX10_browns 30 = .ok (.iinc 2 1, 3) := by decide +kernel
theorem dX10_browns_33 : decode cX10_browns 33 = .ok (.goto (-29), 3) := by decide +kernel
theorem dX10_browns_36 : decode cX10_browns 36 = .ok (.iload_n 1, 1) := by decide +kernel
theorem dX10_browns_37 : decode cX10_browns 37 = .ok (.ireturn, 1) := by decide +kernel
theorem dX10_longest_0 : decode cX10_longest 0 = .ok (.iconst 0, 1) := by decide +kernel
theorem dX10_longest_1 : decode cX10_longest 1 = .ok (.istore_n 1, 1) := by decide +kernel
theorem dX10_longest_2 : decode cX10_longest 2 = .ok (.iconst 0, 1) := by decide +kernel
theorem dX10_longest_3 : decode cX10_longest 3 = .ok (.istore_n 2, 1) := by decide +kernel
theorem dX10_longest_4 : decode cX10_longest 4 = .ok (.aload_n 0, 1) := by decide +kernel
theorem dX10_longest_5 : decode cX10_longest 5 = .ok (.invokevirtual 225, 3) := by decide +kernel
theorem dX10_longest_8 : decode cX10_longest 8 = .ok (.iconst 0, 1) := by decide +kernel
theorem dX10_longest_9 : decode cX10_longest 9 = .ok (.istore_n 3, 1) := by decide +kernel
theorem dX10_longest_10 : decode cX10_longest 10 = .ok (.iload_n 3, 1) := by decide +kernel
theorem dX10_longest_11 : decode cX10_longest 11 = .ok (.bipush 60, 2) := by decide +kernel
theorem dX10_longest_13 : decode cX10_longest 13 = .ok (.if_icmp .ge 35, 3) := by decide +kernel
theorem dX10_longest_16 : decode cX10_longest 16 = .ok (.aload_n 0, 1) := by decide +kernel
theorem dX10_longest_17 : decode cX10_longest 17 = .ok (.invokevirtual 134, 3) := by decide +kernel
theorem dX10_longest_20 : decode cX10_longest 20 = .ok (.ifCond .eq 9, 3) := by decide +kernel
theorem dX10_longest_23 : decode cX10_longest 23 = .ok (.iload_n 2, 1) := by decide +kernel
theorem dX10_longest_24 : decode cX10_longest 24 = .ok (.iconst 1, 1) := by decide +kernel
theorem dX10_longest_25 : decode cX10_longest 25 = .ok (.iadd, 1) := by decide +kernel
theorem dX10_longest_26 : decode cX10_longest 26 = .ok (.goto 4, 3) := by decide +kernel
theorem dX10_longest_29 : decode cX10_longest 29 = .ok (.iconst 0, 1) := by decide +kernel
theorem dX10_longest_30 : decode cX10_longest 30 = .ok (.istore_n 2, 1) := by decide +kernel
theorem dX10_longest_31 : decode cX10_longest 31 = .ok (.iload_n 2, 1) := by decide +kernel
theorem dX10_longest_32 : decode cX10_longest 32 = .ok (.iload_n 1, 1) := by decide +kernel
theorem dX10_longest_33 : decode cX10_longest 33 = .ok (.if_icmp .le 7, 3) := by decide +kernel
theorem dX10_longest_36 : decode cX10_longest 36 = .ok (.iload_n 2, 1) := by decide +kernel
theorem dX10_longest_37 : decode cX10_longest 37 = .ok (.goto 4, 3) := by decide +kernel
theorem dX10_longest_40 : decode cX10_longest 40 = .ok (.iload_n 1, 1) := by decide +kernel
theorem dX10_longest_41 : decode cX10_longest 41 = .ok (.istore_n 1, 1) := by decide +kernel
theorem dX10_longest_42 : decode cX10_longest 42 = .ok (.iinc 3 1, 3) := by decide +kernel
theorem dX10_longest_45 : decode cX10_longest 45 = .ok (.goto (-35), 3) := by decide +kernel
theorem dX10_longest_48 : decode cX10_longest 48 = .ok (.aload_n 0, 1) := by decide +kernel
theorem dX10_longest_49 : decode cX10_longest 49 = .ok (.invokevirtual 231, 3) := by decide +kernel
theorem dX10_longest_52 : decode cX10_longest 52 = .ok (.iload_n 1, 1) := by decide +kernel
theorem dX10_longest_53 : decode cX10_longest 53 = .ok (.ireturn, 1) := by decide +kernel
theorem dX10_weakest_0 : decode cX10_weakest 0 = .ok (.bipush (-4), 2) := by decide +kernel
theorem dX10_weakest_2 : decode cX10_weakest 2 = .ok (.istore_n 1, 1) := by decide +kernel
theorem dX10_weakest_3 : decode cX10_weakest 3 = .ok (.iconst 0, 1) := by decide +kernel
theorem dX10_weakest_4 : decode cX10_weakest 4 = .ok (.istore_n 2, 1) := by decide +kernel
theorem dX10_weakest_5 : decode cX10_weakest 5 = .ok (.iload_n 2, 1) := by decide +kernel
theorem dX10_weakest_6 : decode cX10_weakest 6 = .ok (.aload_n 0, 1) := by decide +kernel
theorem dX10_weakest_7 : decode cX10_weakest 7 = .ok (.getfield 81, 3) := by decide +kernel
theorem dX10_weakest_10 : decode cX10_weakest 10 = .ok (.if_icmp .ge 57, 3) := by decide +kernel
theorem dX10_weakest_13 : decode cX10_weakest 13 = .ok (.aload_n 0, 1) := by decide +kernel
theorem dX10_weakest_14 : decode cX10_weakest 14 = .ok (.getfield 88, 3) := by decide +kernel
theorem dX10_weakest_17 : decode cX10_weakest 17 = .ok (.iload_n 2, 1) := by decide +kernel
theorem dX10_weakest_18 : decode cX10_weakest 18 = .ok (.invokestatic 91, 3) := by decide +kernel
theorem dX10_weakest_21 : decode cX10_weakest 21 = .ok (.ifCond .eq 38, 3) := by decide +kernel
theorem dX10_weakest_24 : decode cX10_weakest 24 = .ok (.iload_n 1, 1) := by decide +kernel
theorem dX10_weakest_25 : decode cX10_weakest 25 = .ok (.ifCond .lt 30, 3) := by decide +kernel
theorem dX10_weakest_28 : decode cX10_weakest 28 = .ok (.aload_n 0, 1) := by decide +kernel
theorem dX10_weakest_29 : decode cX10_weakest 29 = .ok (.iload_n 2, 1) := by decide +kernel
theorem dX10_weakest_30 : decode cX10_weakest 30 = .ok (.invokevirtual 98, 3) := by decide +kernel
theorem dX10_weakest_33 : decode cX10_weakest 33 = .ok (.aload_n 0, 1) := by decide +kernel
theorem dX10_weakest_34 : decode cX10_weakest 34 = .ok (.getfield 16, 3) := by decide +kernel
theorem dX10_weakest_37 : decode cX10_weakest 37 = .ok (.iload_n 2, 1) := by decide +kernel
theorem dX10_weakest_38 : decode cX10_weakest 38 = .ok (.iaload, 1) := by decide +kernel
theorem dX10_weakest_39 : decode cX10_weakest 39 = .ok (.isub, 1) := by decide +kernel
theorem dX10_weakest_40 : decode cX10_weakest 40 = .ok (.aload_n 0, 1) := by decide +kernel
theorem dX10_weakest_41 : decode cX10_weakest 41 = .ok (.iload_n 1, 1) := by decide +kernel
theorem dX10_weakest_42 : decode cX10_weakest 42 = .ok (.invokevirtual 98, 3) := by decide +kernel
theorem dX10_weakest_45 : decode cX10_weakest 45 = .ok (.aload_n 0, 1) := by decide +kernel
theorem dX10_weakest_46 : decode cX10_weakest 46 = .ok (.getfield 16, 3) := by decide +kernel
theorem dX10_weakest_49 : decode cX10_weakest 49 = .ok (.iload_n 1, 1) := by decide +kernel
theorem dX10_weakest_50 : decode cX10_weakest 50 = .ok (.iaload, 1) := by decide +kernel
theorem dX10_weakest_51 : decode cX10_weakest 51 = .ok (.isub, 1) := by decide +kernel
theorem dX10_weakest_52 : decode cX10_weakest 52 = .ok (.if_icmp .ge 7, 3) := by decide +kernel
theorem dX10_weakest_55 : decode cX10_weakest 55 = .ok (.iload_n 2, 1) := by decide +kernel
theorem dX10_weakest_56 : decode cX10_weakest 56 = .ok (.goto 4, 3) := by decide +kernel
theorem dX10_weakest_59 : decode cX10_weakest 59 = .ok (.iload_n 1, 1) := by decide +kernel
theorem dX10_weakest_60 : decode cX10_weakest 60 = .ok (.istore_n 1, 1) := by decide +kernel
theorem dX10_weakest_61 : decode cX10_weakest 61 = .ok (.iinc 2 1, 3) := by decide +kernel
theorem dX10_weakest_64 : decode cX10_weakest 64 = .ok (.goto (-59), 3) := by decide +kernel
theorem dX10_weakest_67 : decode cX10_weakest 67 = .ok (.iload_n 1, 1) := by decide +kernel
theorem dX10_weakest_68 : decode cX10_weakest 68 = .ok (.ireturn, 1) := by decide +kernel
theorem dX10_lights_0 : decode cX10_lights 0 = .ok (.aload_n 0, 1) := by decide +kernel
theorem dX10_lights_1 : decode cX10_lights 1 = .ok (.iconst 0, 1) := by decide +kernel
theorem dX10_lights_2 : decode cX10_lights 2 = .ok (.putfield 78, 3) := by decide +kernel
theorem dX10_lights_5 : decode cX10_lights 5 = .ok (.iload_n 1, 1) := by decide +kernel
theorem dX10_lights_6 : decode cX10_lights 6 = .ok (.tableswitch 74 0 4 #[34, 54, 59, 64, 69], 34) := by decide +kernel
theorem dX10_lights_40 : decode cX10_lights 40 = .ok (.aload_n 0, 1) := by decide +kernel
theorem dX10_lights_41 : decode cX10_lights 41 = .ok (.getfield 81, 3) := by decide +kernel
theorem dX10_lights_44 : decode cX10_lights 44 = .ok (.ifCond .le 14, 3) := by decide +kernel
theorem dX10_lights_47 : decode cX10_lights 47 = .ok (.aload_n 0, 1) := by decide +kernel
theorem dX10_lights_48 : decode cX10_lights 48 = .ok (.invokevirtual 277, 3) := by decide +kernel
theorem dX10_lights_51 : decode cX10_lights 51 = .ok (.ifCond .ne 7, 3) := by decide +kernel
theorem dX10_lights_54 : decode cX10_lights 54 = .ok (.iconst 1, 1) := by decide +kernel
theorem dX10_lights_55 : decode cX10_lights 55 = .ok (.goto 4, 3) := by decide +kernel
theorem dX10_lights_58 : decode cX10_lights 58 = .ok (.iconst 0, 1) := by decide +kernel
theorem dX10_lights_59 : decode cX10_lights 59 = .ok (.ireturn, 1) := by decide +kernel
theorem dX10_lights_60 : decode cX10_lights 60 = .ok (.aload_n 0, 1) := by decide +kernel
theorem dX10_lights_61 : decode cX10_lights 61 = .ok (.invokevirtual 277, 3) := by decide +kernel
theorem dX10_lights_64 : decode cX10_lights 64 = .ok (.ireturn, 1) := by decide +kernel
theorem dX10_lights_65 : decode cX10_lights 65 = .ok (.aload_n 0, 1) := by decide +kernel
theorem dX10_lights_66 : decode cX10_lights 66 = .ok (.invokevirtual 280, 3) := by decide +kernel
theorem dX10_lights_69 : decode cX10_lights 69 = .ok (.ireturn, 1) := by decide +kernel
theorem dX10_lights_70 : decode cX10_lights 70 = .ok (.aload_n 0, 1) := by decide +kernel
theorem dX10_lights_71 : decode cX10_lights 71 = .ok (.invokevirtual 283, 3) := by decide +kernel
theorem dX10_lights_74 : decode cX10_lights 74 = .ok (.ireturn, 1) := by decide +kernel
theorem dX10_lights_75 : decode cX10_lights 75 = .ok (.aload_n 0, 1) := by decide +kernel
theorem dX10_lights_76 : decode cX10_lights 76 = .ok (.invokevirtual 286, 3) := by decide +kernel
theorem dX10_lights_79 : decode cX10_lights 79 = .ok (.ireturn, 1) := by decide +kernel
theorem dX10_lights_80 : decode cX10_lights 80 = .ok (.iconst (-1), 1) := by decide +kernel
theorem dX10_lights_81 : decode cX10_lights 81 = .ok (.ireturn, 1) := by decide +kernel
theorem dX10_tool_0 : decode cX10_tool 0 = .ok (.aload_n 0, 1) := by decide +kernel
theorem dX10_tool_1 : decode cX10_tool 1 = .ok (.iconst 0, 1) := by decide +kernel
theorem dX10_tool_2 : decode cX10_tool 2 = .ok (.putfield 78, 3) := by decide +kernel
theorem dX10_tool_5 : decode cX10_tool 5 = .ok (.aload_n 0, 1) := by decide +kernel
theorem dX10_tool_6 : decode cX10_tool 6 = .ok (.iload_n 1, 1) := by decide +kernel
theorem dX10_tool_7 : decode cX10_tool 7 = .ok (.iload_n 2, 1) := by decide +kernel
theorem dX10_tool_8 : decode cX10_tool 8 = .ok (.iload_n 3, 1) := by decide +kernel
theorem dX10_tool_9 : decode cX10_tool 9 = .ok (.invokevirtual 264, 3) := by decide +kernel
theorem dX10_tool_12 : decode cX10_tool 12 = .ok (.ifCond .eq 16, 3) := by decide +kernel
theorem dX10_tool_15 : decode cX10_tool 15 = .ok (.iload 4, 2) := by decide +kernel
theorem dX10_tool_17 : decode cX10_tool 17 = .ok (.i2l, 1) := by decide +kernel
theorem dX10_tool_18 : decode cX10_tool 18 = .ok (.lconst 0, 1) := by decide +kernel
theorem dX10_tool_19 : decode cX10_tool 19 = .ok (.ldc2_w 267, 3) := by decide +kernel
theorem dX10_tool_22 : decode cX10_tool 22 = .ok (.invokestatic 84, 3) := by decide +kernel
theorem dX10_tool_25 : decode cX10_tool 25 = .ok (.ifCond .ne 5, 3) := by decide +kernel
theorem dX10_tool_28 : decode cX10_tool 28 = .ok (.iconst (-1), 1) := by decide +kernel
theorem dX10_tool_29 : decode cX10_tool 29 = .ok (.ireturn, 1) := by decide +kernel
theorem dX10_tool_30 : decode cX10_tool 30 = .ok (.iload_n 1, 1) := by decide +kernel
theorem dX10_tool_31 : decode cX10_tool 31 = .ok (.iload_n 2, 1) := by decide +kernel
theorem dX10_tool_32 : decode cX10_tool 32 = .ok (.iload_n 3, 1) := by decide +kernel
theorem dX10_tool_33 : decode cX10_tool 33 = .ok (.invokestatic 145, 3) := by decide +kernel
theorem dX10_tool_36 : decode cX10_tool 36 = .ok (.aload_n 0, 1) := by decide +kernel
theorem dX10_tool_37 : decode cX10_tool 37 = .ok (.getfield 149, 3) := by decide +kernel
theorem dX10_tool_40 : decode cX10_tool 40 = .ok (.iload_n 2, 1) := by decide +kernel
theorem dX10_tool_41 : decode cX10_tool 41 = .ok (.invokestatic 152, 3) := by decide +kernel
theorem dX10_tool_44 : decode cX10_tool 44 = .ok (.iadd, 1) := by decide +kernel
theorem dX10_tool_45 : decode cX10_tool 45 = .ok (.istore 5, 2) := by decide +kernel
theorem dX10_tool_47 : decode cX10_tool 47 = .ok (.aload_n 0, 1) := by decide +kernel
theorem dX10_tool_48 : decode cX10_tool 48 = .ok (.invokevirtual 225, 3) := by decide +kernel
theorem dX10_tool_51 : decode cX10_tool 51 = .ok (.aload_n 0, 1) := by decide +kernel
theorem dX10_tool_52 : decode cX10_tool 52 = .ok (.iload_n 1, 1) := by decide +kernel
theorem dX10_tool_53 : decode cX10_tool 53 = .ok (.iload_n 2, 1) := by decide +kernel
theorem dX10_tool_54 : decode cX10_tool 54 = .ok (.iload_n 3, 1) := by decide +kernel
theorem dX10_tool_55 : decode cX10_tool 55 = .ok (.invokevirtual 199, 3) := by decide +kernel
theorem dX10_tool_58 : decode cX10_tool 58 = .ok (.istore 6, 2) := by decide +kernel
theorem dX10_tool_60 : decode cX10_tool 60 = .ok (.aload_n 0, 1) := by decide +kernel
theorem dX10_tool_61 : decode cX10_tool 61 = .ok (.getfield 149, 3) := by decide +kernel
theorem dX10_tool_64 : decode cX10_tool 64 = .ok (.istore 7, 2) := by decide +kernel
theorem dX10_tool_66 : decode cX10_tool 66 = .ok (.aload_n 0, 1) := by decide +kernel
theorem dX10_tool_67 : decode cX10_tool 67 = .ok (.invokevirtual 231, 3) := by decide +kernel
theorem dX10_tool_70 : decode cX10_tool 70 = .ok (.iload 4, 2) := by decide +kernel
theorem dX10_tool_72 : decode cX10_tool 72 = .ok (.ifCond .ne 8, 3) := by decide +kernel
theorem dX10_tool_75 : decode cX10_tool 75 = .ok (.iload 6, 2) := by decide +kernel
theorem dX10_tool_77 : decode cX10_tool 77 = .ok (.goto 16, 3) := by decide +kernel
theorem dX10_tool_80 : decode cX10_tool 80 = .ok (.iload 4, 2) := by decide +kernel
theorem dX10_tool_82 : decode cX10_tool 82 = .ok (.iconst 1, 1) := by decide +kernel
theorem dX10_tool_83 : decode cX10_tool 83 = .ok (.if_icmp .ne 8, 3) := by decide +kernel
theorem dX10_tool_86 : decode cX10_tool 86 = .ok (.iload 5, 2) := by decide +kernel
theorem dX10_tool_88 : decode cX10_tool 88 = .ok (.goto 5, 3) := by decide +kernel
theorem dX10_tool_91 : decode cX10_tool 91 = .ok (.iload 7, 2) := by decide +kernel
theorem dX10_tool_93 : decode cX10_tool 93 = .ok (.ireturn, 1) := by decide +kernel
theorem dX10_oddsOf_0 : decode cX10_oddsOf 0 = .ok (.iconst 0, 1) := by decide +kernel
theorem dX10_oddsOf_1 : decode cX10_oddsOf 1 = .ok (.istore_n 3, 1) := by decide +kernel
theorem dX10_oddsOf_2 : decode cX10_oddsOf 2 = .ok (.iload_n 1, 1) := by decide +kernel
theorem dX10_oddsOf_3 : decode cX10_oddsOf 3 = .ok (.istore 4, 2) := by decide +kernel
theorem dX10_oddsOf_5 : decode cX10_oddsOf 5 = .ok (.iload 4, 2) := by decide +kernel
theorem dX10_oddsOf_7 : decode cX10_oddsOf 7 = .ok (.iload_n 2, 1) := by decide +kernel
theorem dX10_oddsOf_8 : decode cX10_oddsOf 8 = .ok (.if_icmp .gt 21, 3) := by decide +kernel
theorem dX10_oddsOf_11 : decode cX10_oddsOf 11 = .ok (.iload_n 3, 1) := by decide +kernel
theorem dX10_oddsOf_12 : decode cX10_oddsOf 12 = .ok (.aload_n 0, 1) := by decide +kernel
theorem dX10_oddsOf_13 : decode cX10_oddsOf 13 = .ok (.getfield 16, 3) := by decide +kernel
theorem dX10_oddsOf_16 : decode cX10_oddsOf 16 = .ok (.iload 4, 2) := by decide +kernel
theorem dX10_oddsOf_18 : decode cX10_oddsOf 18 = .ok (.iaload, 1) := by decide +kernel
theorem dX10_oddsOf_19 : decode cX10_oddsOf 19 = .ok (.iconst 1, 1) := by decide +kernel
theorem dX10_oddsOf_20 : decode cX10_oddsOf 20 = .ok (.iadd, 1) := by decide +kernel
theorem dX10_oddsOf_21 : decode cX10_oddsOf 21 = .ok (.iadd, 1) := by decide +kernel
theorem dX10_oddsOf_22 : decode cX10_oddsOf 22 = .ok (.istore_n 3, 1) := by decide +kernel
theorem dX10_oddsOf_23 : decode cX10_oddsOf 23 = .ok (.iinc 4 1, 3) := by decide +kernel
theorem dX10_oddsOf_26 : decode cX10_oddsOf 26 = .ok (.goto (-21), 3) := by decide +kernel
theorem dX10_oddsOf_29 : decode cX10_oddsOf 29 = .ok (.iload_n 3, 1) := by decide +kernel
theorem dX10_oddsOf_30 : decode cX10_oddsOf 30 = .ok (.ireturn, 1) := by decide +kernel
theorem dX10_layStretch_0 : decode cX10_layStretch 0 = .ok (.bipush (-4), 2) := by decide +kernel
theorem dX10_layStretch_2 : decode cX10_layStretch 2 = .ok (.istore_n 3, 1) := by decide +kernel
theorem dX10_layStretch_3 : decode cX10_layStretch 3 = .ok (.iconst 0, 1) := by decide +kernel
theorem dX10_layStretch_4 : decode cX10_layStretch 4 = .ok (.istore 4, 2) := by decide +kernel
theorem dX10_layStretch_6 : decode cX10_layStretch 6 = .ok (.lconst 0, 1) := by decide +kernel
theorem dX10_layStretch_7 : decode cX10_layStretch 7 = .ok (.lstore 5, 2) := by decide +kernel
theorem dX10_layStretch_9 : decode cX10_layStretch 9 = .ok (.iload_n 1, 1) := by decide +kernel
theorem dX10_layStretch_10 : decode cX10_layStretch 10 = .ok (.istore 7, 2) := by decide +kernel
theorem dX10_layStretch_12 : decode cX10_layStretch 12 = .ok (.iload 7, 2) := by decide +kernel
theorem dX10_layStretch_14 : decode cX10_layStretch 14 = .ok (.iload_n 2, 1) := by decide +kernel
theorem dX10_layStretch_15 : decode cX10_layStretch 15 = .ok (.if_icmp .ge 202, 3) := by decide +kernel
theorem dX10_layStretch_18 : decode cX10_layStretch 18 = .ok (.aload_n 0, 1) := by decide +kernel
theorem dX10_layStretch_19 : decode cX10_layStretch 19 = .ok (.getfield 60, 3) := by decide +kernel
theorem dX10_layStretch_22 : decode cX10_layStretch 22 = .ok (.bipush 10, 2) := by decide +kernel
theorem dX10_layStretch_24 : decode cX10_layStretch 24 = .ok (.iload_n 1, 1) := by decide +kernel
theorem dX10_layStretch_25 : decode cX10_layStretch 25 = .ok (.imul, 1) := by decide +kernel
theorem dX10_layStretch_26 : decode cX10_layStretch 26 = .ok (.iload 7, 2) := by decide +kernel
theorem dX10_layStretch_28 : decode cX10_layStretch 28 = .ok (.iadd, 1) := by decide +kernel
theorem dX10_layStretch_29 : decode cX10_layStretch 29 = .ok (.iaload, 1) := by decide +kernel
theorem dX10_layStretch_30 : decode cX10_layStretch 30 = .ok (.istore 8, 2) := by decide +kernel
theorem dX10_layStretch_32 : decode cX10_layStretch 32 = .ok (.aload_n 0, 1) := by decide +kernel
theorem dX10_layStretch_33 : decode cX10_layStretch 33 = .ok (.getfield 60, 3) := by decide +kernel
theorem dX10_layStretch_36 : decode cX10_layStretch 36 = .ok (.bipush 10, 2) := by decide +kernel
theorem dX10_layStretch_38 : decode cX10_layStretch 38 = .ok (.iload 7, 2) := by decide +kernel
theorem dX10_layStretch_40 : decode cX10_layStretch 40 = .ok (.imul, 1) := by decide +kernel
theorem dX10_layStretch_41 : decode cX10_layStretch 41 = .ok (.bipush 10, 2) := by decide +kernel
theorem dX10_layStretch_43 : decode cX10_layStretch 43 = .ok (.iadd, 1) := by decide +kernel
theorem dX10_layStretch_44 : decode cX10_layStretch 44 = .ok (.iload_n 2, 1) := by decide +kernel
theorem dX10_layStretch_45 : decode cX10_layStretch 45 = .ok (.iadd, 1) := by decide +kernel
theorem dX10_layStretch_46 : decode cX10_layStretch 46 = .ok (.iaload, 1) := by decide +kernel
theorem dX10_layStretch_47 : decode cX10_layStretch 47 = .ok (.istore 9, 2) := by decide +kernel
theorem dX10_layStretch_49 : decode cX10_layStretch 49 = .ok (.bipush 6, 2) := by decide +kernel
theorem dX10_layStretch_51 : decode cX10_layStretch 51 = .ok (.iconst 2, 1) := by decide +kernel
theorem dX10_layStretch_52 : decode cX10_layStretch 52 = .ok (.iload 7, 2) := by decide +kernel
theorem dX10_layStretch_54 : decode cX10_layStretch 54 = .ok (.iload_n 1, 1) := by decide +kernel
theorem dX10_layStretch_55 : decode cX10_layStretch 55 = .ok (.isub, 1) := by decide +kernel
theorem dX10_layStretch_56 : decode cX10_layStretch 56 = .ok (.imul, 1) := by decide +kernel
theorem dX10_layStretch_57 : decode cX10_layStretch 57 = .ok (.iadd, 1) := by decide +kernel
theorem dX10_layStretch_58 : decode cX10_layStretch 58 = .ok (.istore 10, 2) := by decide +kernel
theorem dX10_layStretch_60 : decode cX10_layStretch 60 = .ok (.iload 10, 2) := by decide +kernel
theorem dX10_layStretch_62 : decode cX10_layStretch 62 = .ok (.iload 8, 2) := by decide +kernel
theorem dX10_layStretch_64 : decode cX10_layStretch 64 = .ok (.iload 9, 2) := by decide +kernel
theorem dX10_layStretch_66 : decode cX10_layStretch 66 = .ok (.if_icmp .le 8, 3) := by decide +kernel
theorem dX10_layStretch_69 : decode cX10_layStretch 69 = .ok (.iload 8, 2) := by decide +kernel
theorem dX10_layStretch_71 : decode cX10_layStretch 71 = .ok (.goto 5, 3) := by decide +kernel
theorem dX10_layStretch_74 : decode cX10_layStretch 74 = .ok (.iload 9, 2) := by decide +kernel
theorem dX10_layStretch_76 : decode cX10_layStretch 76 = .ok (.iadd, 1) := by decide +kernel
theorem dX10_layStretch_77 : decode cX10_layStretch 77 = .ok (.istore 11, 2) := by decide +kernel
theorem dX10_layStretch_79 : decode cX10_layStretch 79 = .ok (.iload 10, 2) := by decide +kernel
theorem dX10_layStretch_81 : decode cX10_layStretch 81 = .ok (.i2l, 1) := by decide +kernel
theorem dX10_layStretch_82 : decode cX10_layStretch 82 = .ok (.aload_n 0, 1) := by decide +kernel
theorem dX10_layStretch_83 : decode cX10_layStretch 83 = .ok (.iload_n 1, 1) := by decide +kernel
theorem dX10_layStretch_84 : decode cX10_layStretch 84 = .ok (.iload_n 2, 1) := by decide +kernel
theorem dX10_layStretch_85 : decode cX10_layStretch 85 = .ok (.invokevirtual 289, 3) := by decide +kernel
theorem dX10_layStretch_88 : decode cX10_layStretch 88 = .ok (.i2l, 1) := by decide +kernel
theorem dX10_layStretch_89 : decode cX10_layStretch 89 = .ok (.lmul, 1) := by decide +kernel
theorem dX10_layStretch_90 : decode cX10_layStretch 90 = .ok (.aload_n 0, 1) := by decide +kernel
theorem dX10_layStretch_91 : decode cX10_layStretch 91 = .ok (.getfield 66, 3) := by decide +kernel
theorem dX10_layStretch_94 : decode cX10_layStretch 94 = .ok (.bipush 10, 2) := by decide +kernel
theorem dX10_layStretch_96 : decode cX10_layStretch 96 = .ok (.iload_n 1, 1) := by decide +kernel
theorem dX10_layStretch_97 : decode cX10_layStretch 97 = .ok (.imul, 1) := by decide +kernel
theorem dX10_layStretch_98 : decode cX10_layStretch 98 = .ok (.iload 7, 2) := by decide +kernel
theorem dX10_layStretch_100 : decode cX10_layStretch 100 = .ok (.iadd, 1) := by decide +kernel
theorem dX10_layStretch_101 : decode cX10_layStretch 101 = .ok (.laload, 1) := by decide +kernel
theorem dX10_layStretch_102 : decode cX10_layStretch 102 = .ok (.ladd, 1) := by decide +kernel
theorem dX10_layStretch_103 : decode cX10_layStretch 103 = .ok (.aload_n 0, 1) := by decide +kernel
theorem dX10_layStretch_104 : decode cX10_layStretch 104 = .ok (.getfield 66, 3) := by decide +kernel
theorem dX10_layStretch_107 : decode cX10_layStretch 107 = .ok (.bipush 10, 2) := by decide +kernel
theorem dX10_layStretch_109 : decode cX10_layStretch 109 = .ok (.iload 7, 2) := by decide +kernel
theorem dX10_layStretch_111 : decode cX10_layStretch 111 = .ok (.imul, 1) := by decide +kernel
theorem dX10_layStretch_112 : decode cX10_layStretch 112 = .ok (.bipush 10, 2) := by decide +kernel
theorem dX10_layStretch_114 : decode cX10_layStretch 114 = .ok (.iadd, 1) := by decide +kernel
theorem dX10_layStretch_115 : decode cX10_layStretch 115 = .ok (.iload_n 2, 1) := by decide +kernel
theorem dX10_layStretch_116 : decode cX10_layStretch 116 = .ok (.iadd, 1) := by decide +kernel
theorem dX10_layStretch_117 : decode cX10_layStretch 117 = .ok (.laload, 1) := by decide +kernel
theorem dX10_layStretch_118 : decode cX10_layStretch 118 = .ok (.ladd, 1) := by decide +kernel
theorem dX10_layStretch_119 : decode cX10_layStretch 119 = .ok (.lstore 12, 2) := by decide +kernel
theorem dX10_layStretch_121 : decode cX10_layStretch 121 = .ok (.iload 7, 2) := by decide +kernel
theorem dX10_layStretch_123 : decode cX10_layStretch 123 = .ok (.iload_n 1, 1) := by decide +kernel
theorem dX10_layStretch_124 : decode cX10_layStretch 124 = .ok (.if_icmp .eq 11, 3) := by decide +kernel
theorem dX10_layStretch_127 : decode cX10_layStretch 127 = .ok (.lload 12, 2) := by decide +kernel
theorem dX10_layStretch_129 : decode cX10_layStretch 129 = .ok (.lload 5, 2) := by decide +kernel
theorem dX10_layStretch_131 : decode cX10_layStretch 131 = .ok (.lcmp, 1) := by decide +kernel
theorem dX10_layStretch_132 : decode cX10_layStretch 132 = .ok (.ifCond .ge 8, 3) := by decide +kernel
theorem dX10_layStretch_135 : decode cX10_layStretch 135 = .ok (.lload 12, 2) := by decide +kernel
theorem dX10_layStretch_137 : decode cX10_layStretch 137 = .ok (.goto 5, 3) := by decide +kernel
theorem dX10_layStretch_140 : decode cX10_layStretch 140 = .ok (.lload 5, 2) := by decide +kernel
theorem dX10_layStretch_142 : decode cX10_layStretch 142 = .ok (.lstore 5, 2) := by decide +kernel
theorem dX10_layStretch_144 : decode cX10_layStretch 144 = .ok (.iload_n 3, 1) := by decide +kernel
theorem dX10_layStretch_145 : decode cX10_layStretch 145 = .ok (.ifCond .lt 10, 3) := by decide +kernel
theorem dX10_layStretch_148 : decode cX10_layStretch 148 = .ok (.iload 11, 2) := by decide +kernel
theorem dX10_layStretch_150 : decode cX10_layStretch 150 = .ok (.iload 4, 2) := by decide +kernel
theorem dX10_layStretch_152 : decode cX10_layStretch 152 = .ok (.if_icmp .ge 8, 3) := by decide +kernel
theorem dX10_layStretch_155 : decode cX10_layStretch 155 = .ok (.iload 11, 2) := by decide +kernel
theorem dX10_layStretch_157 : decode cX10_layStretch 157 = .ok (.goto 5, 3) := by decide +kernel
theorem dX10_layStretch_160 : decode cX10_layStretch 160 = .ok (.iload 4, 2) := by decide +kernel
theorem dX10_layStretch_162 : decode cX10_layStretch 162 = .ok (.istore 4, 2) := by decide +kernel
theorem dX10_layStretch_164 : decode cX10_layStretch 164 = .ok (.iload_n 3, 1) := by decide +kernel
theorem dX10_layStretch_165 : decode cX10_layStretch 165 = .ok (.ifCond .lt 26, 3) := by decide +kernel
theorem dX10_layStretch_168 : decode cX10_layStretch 168 = .ok (.iload 11, 2) := by decide +kernel
theorem dX10_layStretch_170 : decode cX10_layStretch 170 = .ok (.iload 4, 2) := by decide +kernel
theorem dX10_layStretch_172 : decode cX10_layStretch 172 = .ok (.if_icmp .ne 24, 3) := by decide +kernel
theorem dX10_layStretch_175 : decode cX10_layStretch 175 = .ok (.iload 11, 2) := by decide +kernel
theorem dX10_layStretch_177 : decode cX10_layStretch 177 = .ok (.aload_n 0, 1) := by decide +kernel
theorem dX10_layStretch_178 : decode cX10_layStretch 178 = .ok (.getfield 60, 3) := by decide +kernel
theorem dX10_layStretch_181 : decode cX10_layStretch 181 = .ok (.bipush 10, 2) := by decide +kernel
theorem dX10_layStretch_183 : decode cX10_layStretch 183 = .ok (.iload_n 1, 1) := by decide +kernel
theorem dX10_layStretch_184 : decode cX10_layStretch 184 = .ok (.imul, 1) := by decide +kernel
theorem dX10_layStretch_185 : decode cX10_layStretch 185 = .ok (.iload_n 2, 1) := by decide +kernel
theorem dX10_layStretch_186 : decode cX10_layStretch 186 = .ok (.iadd, 1) := by decide +kernel
theorem dX10_layStretch_187 : decode cX10_layStretch 187 = .ok (.iaload, 1) := by decide +kernel
theorem dX10_layStretch_188 : decode cX10_layStretch 188 = .ok (.if_icmp .ge 8, 3) := by decide +kernel
theorem dX10_layStretch_191 : decode cX10_layStretch 191 = .ok (.iload 7, 2) := by decide +kernel
theorem dX10_layStretch_193 : decode cX10_layStretch 193 = .ok (.goto 4, 3) := by decide +kernel
theorem dX10_layStretch_196 : decode cX10_layStretch 196 = .ok (.iload_n 3, 1) := by decide +kernel
theorem dX10_layStretch_197 : decode cX10_layStretch 197 = .ok (.istore_n 3, 1) := by decide +kernel
theorem dX10_layStretch_198 : decode cX10_layStretch 198 = .ok (.aload_n 0, 1) := by decide +kernel
theorem dX10_layStretch_199 : decode cX10_layStretch 199 = .ok (.getfield 60, 3) := by decide +kernel
theorem dX10_layStretch_202 : decode cX10_layStretch 202 = .ok (.bipush 10, 2) := by decide +kernel
theorem dX10_layStretch_204 : decode cX10_layStretch 204 = .ok (.iload_n 1, 1) := by decide +kernel
theorem dX10_layStretch_205 : decode cX10_layStretch 205 = .ok (.imul, 1) := by decide +kernel
theorem dX10_layStretch_206 : decode cX10_layStretch 206 = .ok (.iload_n 2, 1) := by decide +kernel
theorem dX10_layStretch_207 : decode cX10_layStretch 207 = .ok (.iadd, 1) := by decide +kernel
theorem dX10_layStretch_208 : decode cX10_layStretch 208 = .ok (.iload 4, 2) := by decide +kernel
theorem dX10_layStretch_210 : decode cX10_layStretch 210 = .ok (.iastore, 1) := by decide +kernel
theorem dX10_layStretch_211 : decode cX10_layStretch 211 = .ok (.iinc 7 1, 3) := by decide +kernel
theorem dX10_layStretch_214 : decode cX10_layStretch 214 = .ok (.goto (-202), 3) := by decide +kernel
theorem dX10_layStretch_217 : decode cX10_layStretch 217 = .ok (.aload_n 0, 1) := by decide +kernel
theorem dX10_layStretch_218 : decode cX10_layStretch 218 = .ok (.getfield 60, 3) := by decide +kernel
theorem dX10_layStretch_221 : decode cX10_layStretch 221 = .ok (.bipush 10, 2) := by decide +kernel
theorem dX10_layStretch_223 : decode cX10_layStretch 223 = .ok (.iload_n 1, 1) := by decide +kernel
theorem dX10_layStretch_224 : decode cX10_layStretch 224 = .ok (.imul, 1) := by decide +kernel
theorem dX10_layStretch_225 : decode cX10_layStretch 225 = .ok (.iload_n 2, 1) := by decide +kernel
theorem dX10_layStretch_226 : decode cX10_layStretch 226 = .ok (.iadd, 1) := by decide +kernel
theorem dX10_layStretch_227 : decode cX10_layStretch 227 = .ok (.iload 4, 2) := by decide +kernel
theorem dX10_layStretch_229 : decode cX10_layStretch 229 = .ok (.iastore, 1) := by decide +kernel
theorem dX10_layStretch_230 : decode cX10_layStretch 230 = .ok (.aload_n 0, 1) := by decide +kernel
theorem dX10_layStretch_231 : decode cX10_layStretch 231 = .ok (.getfield 63, 3) := by decide +kernel
theorem dX10_layStretch_234 : decode cX10_layStretch 234 = .ok (.bipush 10, 2) := by decide +kernel
theorem dX10_layStretch_236 : decode cX10_layStretch 236 = .ok (.iload_n 1, 1) := by decide +kernel
theorem dX10_layStretch_237 : decode cX10_layStretch 237 = .ok (.imul, 1) := by decide +kernel
theorem dX10_layStretch_238 : decode cX10_layStretch 238 = .ok (.iload_n 2, 1) := by decide +kernel
theorem dX10_layStretch_239 : decode cX10_layStretch 239 = .ok (.iadd, 1) := by decide +kernel
theorem dX10_layStretch_240 : decode cX10_layStretch 240 = .ok (.iload_n 3, 1) := by decide +kernel
theorem dX10_layStretch_241 : decode cX10_layStretch 241 = .ok (.iastore, 1) := by decide +kernel
theorem dX10_layStretch_242 : decode cX10_layStretch 242 = .ok (.aload_n 0, 1) := by decide +kernel
theorem dX10_layStretch_243 : decode cX10_layStretch 243 = .ok (.getfield 66, 3) := by decide +kernel
theorem dX10_layStretch_246 : decode cX10_layStretch 246 = .ok (.bipush 10, 2) := by decide +kernel
theorem dX10_layStretch_248 : decode cX10_layStretch 248 = .ok (.iload_n 1, 1) := by decide +kernel
theorem dX10_layStretch_249 : decode cX10_layStretch 249 = .ok (.imul, 1) := by decide +kernel
theorem dX10_layStretch_250 : decode cX10_layStretch 250 = .ok (.iload_n 2, 1) := by decide +kernel
theorem dX10_layStretch_251 : decode cX10_layStretch 251 = .ok (.iadd, 1) := by decide +kernel
theorem dX10_layStretch_252 : decode cX10_layStretch 252 = .ok (.lload 5, 2) := by decide +kernel
theorem dX10_layStretch_254 : decode cX10_layStretch 254 = .ok (.lastore, 1) := by decide +kernel
theorem dX10_layStretch_255 : decode cX10_layStretch 255 = .ok (.return_, 1) := by decide +kernel
theorem dX10_layHalves_0 : decode cX10_layHalves 0 = .ok (.iconst 0, 1) := by decide +kernel
theorem dX10_layHalves_1 : decode cX10_layHalves 1 = .ok (.istore_n 1, 1) := by decide +kernel
theorem dX10_layHalves_2 : decode cX10_layHalves 2 = .ok (.iload_n 1, 1) := by decide +kernel
theorem dX10_layHalves_3 : decode cX10_layHalves 3 = .ok (.aload_n 0, 1) := by decide +kernel
theorem dX10_layHalves_4 : decode cX10_layHalves 4 = .ok (.getfield 81, 3) := by decide +kernel
theorem dX10_layHalves_7 : decode cX10_layHalves 7 = .ok (.if_icmp .ge 35, 3) := by decide +kernel
theorem dX10_layHalves_10 : decode cX10_layHalves 10 = .ok (.iconst 0, 1) := by decide +kernel
theorem dX10_layHalves_11 : decode cX10_layHalves 11 = .ok (.istore_n 2, 1) := by decide +kernel
theorem dX10_layHalves_12 : decode cX10_layHalves 12 = .ok (.iload_n 2, 1) := by decide +kernel
theorem dX10_layHalves_13 : decode cX10_layHalves 13 = .ok (.iload_n 1, 1) := by decide +kernel
theorem dX10_layHalves_14 : decode cX10_layHalves 14 = .ok (.iadd, 1) := by decide +kernel
theorem dX10_layHalves_15 : decode cX10_layHalves 15 = .ok (.aload_n 0, 1) := by decide +kernel
theorem dX10_layHalves_16 : decode cX10_layHalves 16 = .ok (.getfield 81, 3) := by decide +kernel
theorem dX10_layHalves_19 : decode cX10_layHalves 19 = .ok (.if_icmp .ge 17, 3) := by decide +kernel
theorem dX10_layHalves_22 : decode cX10_layHalves 22 = .ok (.aload_n 0, 1) := by decide +kernel
theorem dX10_layHalves_23 : decode cX10_layHalves 23 = .ok (.iload_n 2, 1) := by decide +kernel
theorem dX10_layHalves_24 : decode cX10_layHalves 24 = .ok (.iload_n 2, 1) := by decide +kernel
theorem dX10_layHalves_25 : decode cX10_layHalves 25 = .ok (.iload_n 1, 1) := by decide +kernel
theorem dX10_layHalves_26 : decode cX10_layHalves 26 = .ok (.iadd, 1) := by decide +kernel
theorem dX10_layHalves_27 : decode cX10_layHalves 27 = .ok (.invokevirtual 292, 3) := by decide +kernel
theorem dX10_layHalves_30 : decode cX10_layHalves 30 = .ok (.iinc 2 1, 3) := by decide +kernel
theorem dX10_layHalves_33 : decode cX10_layHalves 33 = .ok (.goto (-21), 3) := by decide +kernel
theorem dX10_layHalves_36 : decode cX10_layHalves 36 = .ok (.iinc 1 1, 3) := by decide +kernel
theorem dX10_layHalves_39 : decode cX10_layHalves 39 = .ok (.goto (-37), 3) := by decide +kernel
theorem dX10_layHalves_42 : decode cX10_layHalves 42 = .ok (.return_, 1) := by decide +kernel
theorem dX10_isStretch_0 : decode cX10_isStretch 0 = .ok (.aload_n 0, 1) := by decide +kernel
theorem dX10_isStretch_1 : decode cX10_isStretch 1 = .ok (.iload_n 1, 1) := by decide +kernel
theorem dX10_isStretch_2 : decode cX10_isStretch 2 = .ok (.invokevirtual 193, 3) := by decide +kernel
theorem dX10_isStretch_5 : decode cX10_isStretch 5 = .ok (.ifCond .eq 20, 3) := by decide +kernel
theorem dX10_isStretch_8 : decode cX10_isStretch 8 = .ok (.aload_n 0, 1) := by decide +kernel
theorem dX10_isStretch_9 : decode cX10_isStretch 9 = .ok (.iload_n 2, 1) := by decide +kernel
theorem dX10_isStretch_10 : decode cX10_isStretch 10 = .ok (.invokevirtual 193, 3) := by decide +kernel
theorem dX10_isStretch_13 : decode cX10_isStretch 13 = .ok (.ifCond .eq 12, 3) := by decide +kernel
theorem dX10_isStretch_16 : decode cX10_isStretch 16 = .ok (.iload_n 1, 1) := by decide +kernel
theorem dX10_isStretch_17 : decode cX10_isStretch 17 = .ok (.iload_n 2, 1) := by decide +kernel
theorem dX10_isStretch_18 : decode cX10_isStretch 18 = .ok (.if_icmp .gt 7, 3) := by decide +kernel
theorem dX10_isStretch_21 : decode cX10_isStretch 21 = .ok (.iconst 1, 1) := by decide +kernel
theorem dX10_isStretch_22 : decode cX10_isStretch 22 = .ok (.goto 4, 3) := by decide +kernel
theorem dX10_isStretch_25 : decode cX10_isStretch 25 = .ok (.iconst 0, 1) := by decide +kernel
theorem dX10_isStretch_26 : decode cX10_isStretch 26 = .ok (.ireturn, 1) := by decide +kernel
theorem dX10_halves_0 : decode cX10_halves 0 = .ok (.aload_n 0, 1) := by decide +kernel
theorem dX10_halves_1 : decode cX10_halves 1 = .ok (.iconst 0, 1) := by decide +kernel
theorem dX10_halves_2 : decode cX10_halves 2 = .ok (.putfield 78, 3) := by decide +kernel
theorem dX10_halves_5 : decode cX10_halves 5 = .ok (.aload_n 0, 1) := by decide +kernel
theorem dX10_halves_6 : decode cX10_halves 6 = .ok (.iload_n 1, 1) := by decide +kernel
theorem dX10_halves_7 : decode cX10_halves 7 = .ok (.iload_n 2, 1) := by decide +kernel
theorem dX10_halves_8 : decode cX10_halves 8 = .ok (.invokevirtual 295, 3) := by decide +kernel
theorem dX10_halves_11 : decode cX10_halves 11 = .ok (.ifCond .eq 13, 3) := by decide +kernel
theorem dX10_halves_14 : decode cX10_halves 14 = .ok (.iload_n 3, 1) := by decide +kernel
theorem dX10_halves_15 : decode cX10_halves 15 = .ok (.i2l, 1) := by decide +kernel
theorem dX10_halves_16 : decode cX10_halves 16 = .ok (.lconst 0, 1) := by decide +kernel
theorem dX10_halves_17 : decode cX10_halves 17 = .ok (.lconst 1, 1) := by decide +kernel
theorem dX10_halves_18 : decode cX10_halves 18 = .ok (.invokestatic 84, 3) := by decide +kernel
theorem dX10_halves_21 : decode cX10_halves 21 = .ok (.ifCond .ne 5, 3) := by decide +kernel
theorem dX10_halves_24 : decode cX10_halves 24 = .ok (.iconst (-1), 1) := by decide +kernel
theorem dX10_halves_25 : decode cX10_halves 25 = .ok (.ireturn, 1) := by decide +kernel
theorem dX10_halves_26 : decode cX10_halves 26 = .ok (.aload_n 0, 1) := by decide +kernel
theorem dX10_halves_27 : decode cX10_halves 27 = .ok (.invokevirtual 298, 3) := by decide +kernel
theorem dX10_halves_30 : decode cX10_halves 30 = .ok (.iload_n 3, 1) := by decide +kernel
theorem dX10_halves_31 : decode cX10_halves 31 = .ok (.ifCond .ne 17, 3) := by decide +kernel
theorem dX10_halves_34 : decode cX10_halves 34 = .ok (.aload_n 0, 1) := by decide +kernel
theorem dX10_halves_35 : decode cX10_halves 35 = .ok (.getfield 60, 3) := by decide +kernel
theorem dX10_halves_38 : decode cX10_halves 38 = .ok (.bipush 10, 2) := by decide +kernel
theorem dX10_halves_40 : decode cX10_halves 40 = .ok (.iload_n 1, 1) := by decide +kernel
theorem dX10_halves_41 : decode cX10_halves 41 = .ok (.imul, 1) := by decide +kernel
theorem dX10_halves_42 : decode cX10_halves 42 = .ok (.iload_n 2, 1) := by decide +kernel
theorem dX10_halves_43 : decode cX10_halves 43 = .ok (.iadd, 1) := by decide +kernel
theorem dX10_halves_44 : decode cX10_halves 44 = .ok (.iaload, 1) := by decide +kernel
theorem dX10_halves_45 : decode cX10_halves 45 = .ok (.goto 14, 3) := by decide +kernel
theorem dX10_halves_48 : decode cX10_halves 48 = .ok (.aload_n 0, 1) := by decide +kernel
theorem dX10_halves_49 : decode cX10_halves 49 = .ok (.getfield 63, 3) := by decide +kernel
theorem dX10_halves_52 : decode cX10_halves 52 = .ok (.bipush 10, 2) := by decide +kernel
theorem dX10_halves_54 : decode cX10_halves 54 = .ok (.iload_n 1, 1) := by decide +kernel
theorem dX10_halves_55 : decode cX10_halves 55 = .ok (.imul, 1) := by decide +kernel
theorem dX10_halves_56 : decode cX10_halves 56 = .ok (.iload_n 2, 1) := by decide +kernel
theorem dX10_halves_57 : decode cX10_halves 57 = .ok (.iadd, 1) := by decide +kernel
theorem dX10_halves_58 : decode cX10_halves 58 = .ok (.iaload, 1) := by decide +kernel
theorem dX10_halves_59 : decode cX10_halves 59 = .ok (.ireturn, 1) := by decide +kernel
theorem dX10_divisor_0 : decode cX10_divisor 0 = .ok (.lload_n 0, 1) := by decide +kernel
theorem dX10_divisor_1 : decode cX10_divisor 1 = .ok (.lstore 4, 2) := by decide +kernel
theorem dX10_divisor_3 : decode cX10_divisor 3 = .ok (.lload_n 2, 1) := by decide +kernel
theorem dX10_divisor_4 : decode cX10_divisor 4 = .ok (.lstore 6, 2) := by decide +kernel
theorem dX10_divisor_6 : decode cX10_divisor 6 = .ok (.lload 6, 2) := by decide +kernel
theorem dX10_divisor_8 : decode cX10_divisor 8 = .ok (.lconst 0, 1) := by decide +kernel
theorem dX10_divisor_9 : decode cX10_divisor 9 = .ok (.lcmp, 1) := by decide +kernel
theorem dX10_divisor_10 : decode cX10_divisor 10 = .ok (.ifCond .eq 21, 3) := by decide +kernel
theorem dX10_divisor_13 : decode cX10_divisor 13 = .ok (.lload 4, 2) := by decide +kernel
theorem dX10_divisor_15 : decode cX10_divisor 15 = .ok (.lload 6, 2) := by decide +kernel
theorem dX10_divisor_17 : decode cX10_divisor 17 = .ok (.lrem, 1) := by decide +kernel
theorem dX10_divisor_18 : decode cX10_divisor 18 = .ok (.lstore 8, 2) := by decide +kernel
theorem dX10_divisor_20 : decode cX10_divisor 20 = .ok (.lload 6, 2) := by decide +kernel
theorem dX10_divisor_22 : decode cX10_divisor 22 = .ok (.lstore 4, 2) := by decide +kernel
theorem dX10_divisor_24 : decode cX10_divisor 24 = .ok (.lload 8, 2) := by decide +kernel
theorem dX10_divisor_26 : decode cX10_divisor 26 = .ok (.lstore 6, 2) := by decide +kernel
theorem dX10_divisor_28 : decode cX10_divisor 28 = .ok (.goto (-22), 3) := by decide +kernel
theorem dX10_divisor_31 : decode cX10_divisor 31 = .ok (.lload 4, 2) := by decide +kernel
theorem dX10_divisor_33 : decode cX10_divisor 33 = .ok (.lreturn, 1) := by decide +kernel
theorem dX10_partOf_0 : decode cX10_partOf 0 = .ok (.lload_n 0, 1) := by decide +kernel
theorem dX10_partOf_1 : decode cX10_partOf 1 = .ok (.lconst 0, 1) := by decide +kernel
theorem dX10_partOf_2 : decode cX10_partOf 2 = .ok (.lcmp, 1) := by decide +kernel
theorem dX10_partOf_3 : decode cX10_partOf 3 = .ok (.ifCond .ne 7, 3) := by decide +kernel
theorem dX10_partOf_6 : decode cX10_partOf 6 = .ok (.iload 4, 2) := by decide +kernel
theorem dX10_partOf_8 : decode cX10_partOf 8 = .ok (.i2l, 1) := by decide +kernel
theorem dX10_partOf_9 : decode cX10_partOf 9 = .ok (.lreturn, 1) := by decide +kernel
theorem dX10_partOf_10 : decode cX10_partOf 10 = .ok (.lload_n 0, 1) := by decide +kernel
theorem dX10_partOf_11 : decode cX10_partOf 11 = .ok (.lload_n 2, 1) := by decide +kernel
theorem dX10_partOf_12 : decode cX10_partOf 12 = .ok (.invokestatic 301, 3) := by decide +kernel
theorem dX10_partOf_15 : decode cX10_partOf 15 = .ok (.lstore 5, 2) := by decide +kernel
theorem dX10_partOf_17 : decode cX10_partOf 17 = .ok (.iload 4, 2) := by decide +kernel
theorem dX10_partOf_19 : decode cX10_partOf 19 = .ok (.ifCond .ne 10, 3) := by decide +kernel
theorem dX10_partOf_22 : decode cX10_partOf 22 = .ok (.lload_n 0, 1) := by decide +kernel
theorem dX10_partOf_23 : decode cX10_partOf 23 = .ok (.lload 5, 2) := by decide +kernel
theorem dX10_partOf_25 : decode cX10_partOf 25 = .ok (.ldiv, 1) := by decide +kernel
theorem dX10_partOf_26 : decode cX10_partOf 26 = .ok (.goto 7, 3) := by decide +kernel
theorem dX10_partOf_29 : decode cX10_partOf 29 = .ok (.lload_n 2, 1) := by decide +kernel
theorem dX10_partOf_30 : decode cX10_partOf 30 = .ok (.lload 5, 2) := by decide +kernel
theorem dX10_partOf_32 : decode cX10_partOf 32 = .ok (.ldiv, 1) := by decide +kernel
theorem dX10_partOf_33 : decode cX10_partOf 33 = .ok (.lreturn, 1) := by decide +kernel
theorem dX10_mean_0 : decode cX10_mean 0 = .ok (.aload_n 0, 1) := by decide +kernel
theorem dX10_mean_1 : decode cX10_mean 1 = .ok (.iconst 0, 1) := by decide +kernel
theorem dX10_mean_2 : decode cX10_mean 2 = .ok (.putfield 78, 3) := by decide +kernel
theorem dX10_mean_5 : decode cX10_mean 5 = .ok (.aload_n 0, 1) := by decide +kernel
theorem dX10_mean_6 : decode cX10_mean 6 = .ok (.iload_n 1, 1) := by decide +kernel
theorem dX10_mean_7 : decode cX10_mean 7 = .ok (.iload_n 2, 1) := by decide +kernel
theorem dX10_mean_8 : decode cX10_mean 8 = .ok (.invokevirtual 295, 3) := by decide +kernel
theorem dX10_mean_11 : decode cX10_mean 11 = .ok (.ifCond .eq 13, 3) := by decide +kernel
theorem dX10_mean_14 : decode cX10_mean 14 = .ok (.iload_n 3, 1) := by decide +kernel
theorem dX10_mean_15 : decode cX10_mean 15 = .ok (.i2l, 1) := by decide +kernel
theorem dX10_mean_16 : decode cX10_mean 16 = .ok (.lconst 0, 1) := by decide +kernel
theorem dX10_mean_17 : decode cX10_mean 17 = .ok (.lconst 1, 1) := by decide +kernel
theorem dX10_mean_18 : decode cX10_mean 18 = .ok (.invokestatic 84, 3) := by decide +kernel
theorem dX10_mean_21 : decode cX10_mean 21 = .ok (.ifCond .ne 7, 3) := by decide +kernel
theorem dX10_mean_24 : decode cX10_mean 24 = .ok (.ldc2_w 305, 3) := by decide +kernel
theorem dX10_mean_27 : decode cX10_mean 27 = .ok (.lreturn, 1) := by decide +kernel
theorem dX10_mean_28 : decode cX10_mean 28 = .ok (.aload_n 0, 1) := by decide +kernel
theorem dX10_mean_29 : decode cX10_mean 29 = .ok (.invokevirtual 298, 3) := by decide +kernel
theorem dX10_mean_32 : decode cX10_mean 32 = .ok (.aload_n 0, 1) := by decide +kernel
theorem dX10_mean_33 : decode cX10_mean 33 = .ok (.getfield 66, 3) := by decide +kernel
theorem dX10_mean_36 : decode cX10_mean 36 = .ok (.bipush 10, 2) := by decide +kernel
theorem dX10_mean_38 : decode cX10_mean 38 = .ok (.iload_n 1, 1) := by decide +kernel
theorem dX10_mean_39 : decode cX10_mean 39 = .ok (.imul, 1) := by decide +kernel
theorem dX10_mean_40 : decode cX10_mean 40 = .ok (.iload_n 2, 1) := by decide +kernel
theorem dX10_mean_41 : decode cX10_mean 41 = .ok (.iadd, 1) := by decide +kernel
theorem dX10_mean_42 : decode cX10_mean 42 = .ok (.laload, 1) := by decide +kernel
theorem dX10_mean_43 : decode cX10_mean 43 = .ok (.aload_n 0, 1) := by decide +kernel
theorem dX10_mean_44 : decode cX10_mean 44 = .ok (.iload_n 1, 1) := by decide +kernel
theorem dX10_mean_45 : decode cX10_mean 45 = .ok (.iload_n 2, 1) := by decide +kernel
theorem dX10_mean_46 : decode cX10_mean 46 = .ok (.invokevirtual 289, 3) := by decide +kernel
theorem dX10_mean_49 : decode cX10_mean 49 = .ok (.i2l, 1) := by decide +kernel
theorem dX10_mean_50 : decode cX10_mean 50 = .ok (.iload_n 3, 1) := by decide +kernel
theorem dX10_mean_51 : decode cX10_mean 51 = .ok (.invokestatic 307, 3) := by decide +kernel
theorem dX10_mean_54 : decode cX10_mean 54 = .ok (.lreturn, 1) := by decide +kernel
theorem dX10_layOrder_0 : decode cX10_layOrder 0 = .ok (.iconst 0, 1) := by decide +kernel
theorem dX10_layOrder_1 : decode cX10_layOrder 1 = .ok (.istore_n 3, 1) := by decide +kernel
theorem dX10_layOrder_2 : decode cX10_layOrder 2 = .ok (.iconst 0, 1) := by decide +kernel
theorem dX10_layOrder_3 : decode cX10_layOrder 3 = .ok (.istore 4, 2) := by decide +kernel
theorem dX10_layOrder_5 : decode cX10_layOrder 5 = .ok (.iload 4, 2) := by decide +kernel
theorem dX10_layOrder_7 : decode cX10_layOrder 7 = .ok (.aload_n 0, 1) := by decide +kernel
theorem dX10_layOrder_8 : decode cX10_layOrder 8 = .ok (.getfield 81, 3) := by decide +kernel
theorem dX10_layOrder_11 : decode cX10_layOrder 11 = .ok (.if_icmp .ge 29, 3) := by decide +kernel
theorem dX10_layOrder_14 : decode cX10_layOrder 14 = .ok (.iload_n 1, 1) := by decide +kernel
theorem dX10_layOrder_15 : decode cX10_layOrder 15 = .ok (.iload 4, 2) := by decide +kernel
theorem dX10_layOrder_17 : decode cX10_layOrder 17 = .ok (.invokestatic 91, 3) := by decide +kernel
theorem dX10_layOrder_20 : decode cX10_layOrder 20 = .ok (.ifCond .eq 14, 3) := by decide +kernel
theorem dX10_layOrder_23 : decode cX10_layOrder 23 = .ok (.aload_n 0, 1) := by decide +kernel
theorem dX10_layOrder_24 : decode cX10_layOrder 24 = .ok (.getfield 69, 3) := by decide +kernel
theorem dX10_layOrder_27 : decode cX10_layOrder 27 = .ok (.iload_n 3, 1) := by decide +kernel
theorem dX10_layOrder_28 : decode cX10_layOrder 28 = .ok (.iload 4, 2) := by decide +kernel
theorem dX10_layOrder_30 : decode cX10_layOrder 30 = .ok (.iastore, 1) := by decide +kernel
theorem dX10_layOrder_31 : decode cX10_layOrder 31 = .ok (.iinc 3 1, 3) := by decide +kernel
theorem dX10_layOrder_34 : decode cX10_layOrder 34 = .ok (.iinc 4 1, 3) := by decide +kernel
theorem dX10_layOrder_37 : decode cX10_layOrder 37 = .ok (.goto (-32), 3) := by decide +kernel
theorem dX10_layOrder_40 : decode cX10_layOrder 40 = .ok (.iload_n 2, 1) := by decide +kernel
theorem dX10_layOrder_41 : decode cX10_layOrder 41 = .ok (.istore 4, 2) := by decide +kernel
theorem dX10_layOrder_43 : decode cX10_layOrder 43 = .ok (.iconst 1, 1) := by decide +kernel
theorem dX10_layOrder_44 : decode cX10_layOrder 44 = .ok (.istore 5, 2) := by decide +kernel
theorem dX10_layOrder_46 : decode cX10_layOrder 46 = .ok (.iconst 2, 1) := by decide +kernel
theorem dX10_layOrder_47 : decode cX10_layOrder 47 = .ok (.istore 6, 2) := by decide +kernel
theorem dX10_layOrder_49 : decode cX10_layOrder 49 = .ok (.iload 6, 2) := by decide +kernel
theorem dX10_layOrder_51 : decode cX10_layOrder 51 = .ok (.iload_n 3, 1) := by decide +kernel
theorem dX10_layOrder_52 : decode cX10_layOrder 52 = .ok (.if_icmp .ge 16, 3) := by decide +kernel
theorem dX10_layOrder_55 : decode cX10_layOrder 55 = .ok (.iload 5, 2) := by decide +kernel
theorem dX10_layOrder_57 : decode cX10_layOrder 57 = .ok (.iload 6, 2) := by decide +kernel
theorem dX10_layOrder_59 : decode cX10_layOrder 59 = .ok (.imul, 1) := by decide +kernel
theorem dX10_layOrder_60 : decode cX10_layOrder 60 = .ok (.istore 5, 2) := by decide +kernel
theorem dX10_layOrder_62 : decode cX10_layOrder 62 = .ok (.iinc 6 1, 3) := by decide +kernel
theorem dX10_layOrder_65 : decode cX10_layOrder 65 = .ok (.goto (-16), 3) := by decide +kernel
theorem dX10_layOrder_68 : decode cX10_layOrder 68 = .ok (.iconst 0, 1) := by decide +kernel
theorem dX10_layOrder_69 : decode cX10_layOrder 69 = .ok (.istore 6, 2) := by decide +kernel
theorem dX10_layOrder_71 : decode cX10_layOrder 71 = .ok (.iload 6, 2) := by decide +kernel
theorem dX10_layOrder_73 : decode cX10_layOrder 73 = .ok (.iload_n 3, 1) := by decide +kernel
theorem dX10_layOrder_74 : decode cX10_layOrder 74 = .ok (.if_icmp .ge 94, 3) := by decide +kernel
theorem dX10_layOrder_77 : decode cX10_layOrder 77 = .ok (.iload 4, 2) := by decide +kernel
theorem dX10_layOrder_79 : decode cX10_layOrder 79 = .ok (.iload 5, 2) := by decide +kernel
theorem dX10_layOrder_81 : decode cX10_layOrder 81 = .ok (.idiv, 1) := by decide +kernel
theorem dX10_layOrder_82 : decode cX10_layOrder 82 = .ok (.istore 7, 2) := by decide +kernel
theorem dX10_layOrder_84 : decode cX10_layOrder 84 = .ok (.iload 4, 2) := by decide +kernel
theorem dX10_layOrder_86 : decode cX10_layOrder 86 = .ok (.iload 5, 2) := by decide +kernel
theorem dX10_layOrder_88 : decode cX10_layOrder 88 = .ok (.irem, 1) := by decide +kernel
theorem dX10_layOrder_89 : decode cX10_layOrder 89 = .ok (.istore 4, 2) := by decide +kernel
theorem dX10_layOrder_91 : decode cX10_layOrder 91 = .ok (.aload_n 0, 1) := by decide +kernel
theorem dX10_layOrder_92 : decode cX10_layOrder 92 = .ok (.getfield 72, 3) := by decide +kernel
theorem dX10_layOrder_95 : decode cX10_layOrder 95 = .ok (.iload 6, 2) := by decide +kernel
theorem dX10_layOrder_97 : decode cX10_layOrder 97 = .ok (.aload_n 0, 1) := by decide +kernel
theorem dX10_layOrder_98 : decode cX10_layOrder 98 = .ok (.getfield 69, 3) := by decide +kernel
theorem dX10_layOrder_101 : decode cX10_layOrder 101 = .ok (.iload 7, 2) := by decide +kernel
theorem dX10_layOrder_103 : decode cX10_layOrder 103 = .ok (.iaload, 1) := by decide +kernel
theorem dX10_layOrder_104 : decode cX10_layOrder 104 = .ok (.iastore, 1) := by decide +kernel
theorem dX10_layOrder_105 : decode cX10_layOrder 105 = .ok (.iload 7, 2) := by decide +kernel
theorem dX10_layOrder_107 : decode cX10_layOrder 107 = .ok (.istore 8, 2) := by decide +kernel
theorem dX10_layOrder_109 : decode cX10_layOrder 109 = .ok (.iload 8, 2) := by decide +kernel
theorem dX10_layOrder_111 : decode cX10_layOrder 111 = .ok (.iconst 1, 1) := by decide +kernel
theorem dX10_layOrder_112 : decode cX10_layOrder 112 = .ok (.iadd, 1) := by decide +kernel
theorem dX10_layOrder_113 : decode cX10_layOrder 113 = .ok (.iload_n 3, 1) := by decide +kernel
theorem dX10_layOrder_114 : decode cX10_layOrder 114 = .ok (.if_icmp .ge 25, 3) := by decide +kernel
theorem dX10_layOrder_117 : decode cX10_layOrder 117 = .ok (.aload_n 0, 1) := by decide +kernel
theorem dX10_layOrder_118 : decode cX10_layOrder 118 = .ok (.getfield 69, 3) := by decide +kernel
theorem dX10_layOrder_121 : decode cX10_layOrder 121 = .ok (.iload 8, 2) := by decide +kernel
theorem dX10_layOrder_123 : decode cX10_layOrder 123 = .ok (.aload_n 0, 1) := by decide +kernel
theorem dX10_layOrder_124 : decode cX10_layOrder 124 = .ok (.getfield 69, 3) := by decide +kernel
theorem dX10_layOrder_127 : decode cX10_layOrder 127 = .ok (.iload 8, 2) := by decide +kernel
theorem dX10_layOrder_129 : decode cX10_layOrder 129 = .ok (.iconst 1, 1) := by decide +kernel
theorem dX10_layOrder_130 : decode cX10_layOrder 130 = .ok (.iadd, 1) := by decide +kernel
theorem dX10_layOrder_131 : decode cX10_layOrder 131 = .ok (.iaload, 1) := by decide +kernel
theorem dX10_layOrder_132 : decode cX10_layOrder 132 = .ok (.iastore, 1) := by decide +kernel
theorem dX10_layOrder_133 : decode cX10_layOrder 133 = .ok (.iinc 8 1, 3) := by decide +kernel
theorem dX10_layOrder_136 : decode cX10_layOrder 136 = .ok (.goto (-27), 3) := by decide +kernel
theorem dX10_layOrder_139 : decode cX10_layOrder 139 = .ok (.iload 6, 2) := by decide +kernel
theorem dX10_layOrder_141 : decode cX10_layOrder 141 = .ok (.iload_n 3, 1) := by decide +kernel
theorem dX10_layOrder_142 : decode cX10_layOrder 142 = .ok (.iconst 1, 1) := by decide +kernel
theorem dX10_layOrder_143 : decode cX10_layOrder 143 = .ok (.isub, 1) := by decide +kernel
theorem dX10_layOrder_144 : decode cX10_layOrder 144 = .ok (.if_icmp .ge 15, 3) := by decide +kernel
theorem dX10_layOrder_147 : decode cX10_layOrder 147 = .ok (.iload 5, 2) := by decide +kernel
theorem dX10_layOrder_149 : decode cX10_layOrder 149 = .ok (.iload_n 3, 1) := by decide +kernel
theorem dX10_layOrder_150 : decode cX10_layOrder 150 = .ok (.iconst 1, 1) := by decide +kernel
theorem dX10_layOrder_151 : decode cX10_layOrder 151 = .ok (.isub, 1) := by decide +kernel
theorem dX10_layOrder_152 : decode cX10_layOrder 152 = .ok (.iload 6, 2) := by decide +kernel
theorem dX10_layOrder_154 : decode cX10_layOrder 154 = .ok (.isub, 1) := by decide +kernel
theorem dX10_layOrder_155 : decode cX10_layOrder 155 = .ok (.idiv, 1) := by decide +kernel
theorem dX10_layOrder_156 : decode cX10_layOrder 156 = .ok (.goto 4, 3) := by decide +kernel
theorem dX10_layOrder_159 : decode cX10_layOrder 159 = .ok (.iconst 1, 1) := by decide +kernel
theorem dX10_layOrder_160 : decode cX10_layOrder 160 = .ok (.istore 5, 2) := by decide +kernel
theorem dX10_layOrder_162 : decode cX10_layOrder 162 = .ok (.iinc 6 1, 3) := by decide +kernel
theorem dX10_layOrder_165 : decode cX10_layOrder 165 = .ok (.goto (-94), 3) := by decide +kernel
theorem dX10_layOrder_168 : decode cX10_layOrder 168 = .ok (.iload_n 3, 1) := by decide +kernel
theorem dX10_layOrder_169 : decode cX10_layOrder 169 = .ok (.ireturn, 1) := by decide +kernel
theorem dX10_secondsOf_0 : decode cX10_secondsOf 0 = .ok (.aload_n 0, 1) := by decide +kernel
theorem dX10_secondsOf_1 : decode cX10_secondsOf 1 = .ok (.getfield 149, 3) := by decide +kernel
theorem dX10_secondsOf_4 : decode cX10_secondsOf 4 = .ok (.istore_n 2, 1) := by decide +kernel
theorem dX10_secondsOf_5 : decode cX10_secondsOf 5 = .ok (.iconst 0, 1) := by decide +kernel
theorem dX10_secondsOf_6 : decode cX10_secondsOf 6 = .ok (.istore_n 3, 1) := by decide +kernel
theorem dX10_secondsOf_7 : decode cX10_secondsOf 7 = .ok (.iconst 0, 1) := by decide +kernel
theorem dX10_secondsOf_8 : decode cX10_secondsOf 8 = .ok (.istore 4, 2) := by decide +kernel
theorem dX10_secondsOf_10 : decode cX10_secondsOf 10 = .ok (.iconst 0, 1) := by decide +kernel
theorem dX10_secondsOf_11 : decode cX10_secondsOf 11 = .ok (.istore 5, 2) := by decide +kernel
theorem dX10_secondsOf_13 : decode cX10_secondsOf 13 = .ok (.iload 5, 2) := by decide +kernel
theorem dX10_secondsOf_15 : decode cX10_secondsOf 15 = .ok (.iload_n 1, 1) := by decide +kernel
theorem dX10_secondsOf_16 : decode cX10_secondsOf 16 = .ok (.if_icmp .ge 49, 3) := by decide +kernel
theorem dX10_secondsOf_19 : decode cX10_secondsOf 19 = .ok (.iload_n 3, 1) := by decide +kernel
theorem dX10_secondsOf_20 : decode cX10_secondsOf 20 = .ok (.bipush 8, 2) := by decide +kernel
theorem dX10_secondsOf_22 : decode cX10_secondsOf 22 = .ok (.iload_n 2, 1) := by decide +kernel
theorem dX10_secondsOf_23 : decode cX10_secondsOf 23 = .ok (.aload_n 0, 1) := by decide +kernel
theorem dX10_secondsOf_24 : decode cX10_secondsOf 24 = .ok (.getfield 72, 3) := by decide +kernel
theorem dX10_secondsOf_27 : decode cX10_secondsOf 27 = .ok (.iload 5, 2) := by decide +kernel
theorem dX10_secondsOf_29 : decode cX10_secondsOf 29 = .ok (.iaload, 1) := by decide +kernel
theorem dX10_secondsOf_30 : decode cX10_secondsOf 30 = .ok (.invokestatic 152, 3) := by decide +kernel
theorem dX10_secondsOf_33 : decode cX10_secondsOf 33 = .ok (.iadd, 1) := by decide +kernel
theorem dX10_secondsOf_34 : decode cX10_secondsOf 34 = .ok (.iadd, 1) := by decide +kernel
theorem dX10_secondsOf_35 : decode cX10_secondsOf 35 = .ok (.istore_n 3, 1) := by decide +kernel
theorem dX10_secondsOf_36 : decode cX10_secondsOf 36 = .ok (.aload_n 0, 1) := by decide +kernel
theorem dX10_secondsOf_37 : decode cX10_secondsOf 37 = .ok (.getfield 72, 3) := by decide +kernel
theorem dX10_secondsOf_40 : decode cX10_secondsOf 40 = .ok (.iload 5, 2) := by decide +kernel
theorem dX10_secondsOf_42 : decode cX10_secondsOf 42 = .ok (.iaload, 1) := by decide +kernel
theorem dX10_secondsOf_43 : decode cX10_secondsOf 43 = .ok (.istore_n 2, 1) := by decide +kernel
theorem dX10_secondsOf_44 : decode cX10_secondsOf 44 = .ok (.iload 4, 2) := by decide +kernel
theorem dX10_secondsOf_46 : decode cX10_secondsOf 46 = .ok (.iload_n 3, 1) := by decide +kernel
theorem dX10_secondsOf_47 : decode cX10_secondsOf 47 = .ok (.aload_n 0, 1) := by decide +kernel
theorem dX10_secondsOf_48 : decode cX10_secondsOf 48 = .ok (.getfield 16, 3) := by decide +kernel
theorem dX10_secondsOf_51 : decode cX10_secondsOf 51 = .ok (.iload_n 2, 1) := by decide +kernel
theorem dX10_secondsOf_52 : decode cX10_secondsOf 52 = .ok (.iaload, 1) := by decide +kernel
theorem dX10_secondsOf_53 : decode cX10_secondsOf 53 = .ok (.iconst 1, 1) := by decide +kernel
theorem dX10_secondsOf_54 : decode cX10_secondsOf 54 = .ok (.iadd, 1) := by decide +kernel
theorem dX10_secondsOf_55 : decode cX10_secondsOf 55 = .ok (.imul, 1) := by decide +kernel
theorem dX10_secondsOf_56 : decode cX10_secondsOf 56 = .ok (.iadd, 1) := by decide +kernel
theorem dX10_secondsOf_57 : decode cX10_secondsOf 57 = .ok (.istore 4, 2) := by decide +kernel
theorem dX10_secondsOf_59 : decode cX10_secondsOf 59 = .ok (.iinc 5 1, 3) := by decide +kernel
theorem dX10_secondsOf_62 : decode cX10_secondsOf 62 = .ok (.goto (-49), 3) := by decide +kernel
theorem dX10_secondsOf_65 : decode cX10_secondsOf 65 = .ok (.iload 4, 2) := by decide +kernel
theorem dX10_secondsOf_67 : decode cX10_secondsOf 67 = .ok (.ireturn, 1) := by decide +kernel
theorem dX10_numberOf_0 : decode cX10_numberOf 0 = .ok (.iconst 1, 1) := by decide +kernel
theorem dX10_numberOf_1 : decode cX10_numberOf 1 = .ok (.istore_n 2, 1) := by decide +kernel
theorem dX10_numberOf_2 : decode cX10_numberOf 2 = .ok (.iconst 0, 1) := by decide +kernel
theorem dX10_numberOf_3 : decode cX10_numberOf 3 = .ok (.istore_n 3, 1) := by decide +kernel
theorem dX10_numberOf_4 : decode cX10_numberOf 4 = .ok (.iload_n 3, 1) := by decide +kernel
theorem dX10_numberOf_5 : decode cX10_numberOf 5 = .ok (.iload_n 1, 1) := by decide +kernel
theorem dX10_numberOf_6 : decode cX10_numberOf 6 = .ok (.if_icmp .ge 21, 3) := by decide +kernel
theorem dX10_numberOf_9 : decode cX10_numberOf 9 = .ok (.bipush 10, 2) := by decide +kernel
theorem dX10_numberOf_11 : decode cX10_numberOf 11 = .ok (.iload_n 2, 1) := by decide +kernel
theorem dX10_numberOf_12 : decode cX10_numberOf 12 = .ok (.imul, 1) := by decide +kernel
theorem dX10_numberOf_13 : decode cX10_numberOf 13 = .ok (.aload_n 0, 1) := by decide +kernel
theorem dX10_numberOf_14 : decode cX10_numberOf 14 = .ok (.getfield 72, 3) := by decide +kernel
theorem dX10_numberOf_17 : decode cX10_numberOf 17 = .ok (.iload_n 3, 1) := by decide +kernel
theorem dX10_numberOf_18 : decode cX10_numberOf 18 = .ok (.iaload, 1) := by decide +kernel
theorem dX10_numberOf_19 : decode cX10_numberOf 19 = .ok (.iadd, 1) := by decide +kernel
theorem dX10_numberOf_20 : decode cX10_numberOf 20 = .ok (.istore_n 2, 1) := by decide +kernel
theorem dX10_numberOf_21 : decode cX10_numberOf 21 = .ok (.iinc 3 1, 3) := by decide +kernel
theorem dX10_numberOf_24 : decode cX10_numberOf 24 = .ok (.goto (-20), 3) := by decide +kernel
theorem dX10_numberOf_27 : decode cX10_numberOf 27 = .ok (.iload_n 2, 1) := by decide +kernel
theorem dX10_numberOf_28 : decode cX10_numberOf 28 = .ok (.ireturn, 1) := by decide +kernel
theorem dX10_order_0 : decode cX10_order 0 = .ok (.aload_n 0, 1) := by decide +kernel
theorem dX10_order_1 : decode cX10_order 1 = .ok (.iconst 0, 1) := by decide +kernel
theorem dX10_order_2 : decode cX10_order 2 = .ok (.putfield 78, 3) := by decide +kernel
theorem dX10_order_5 : decode cX10_order 5 = .ok (.iload_n 1, 1) := by decide +kernel
theorem dX10_order_6 : decode cX10_order 6 = .ok (.ifCond .lt 30, 3) := by decide +kernel
theorem dX10_order_9 : decode cX10_order 9 = .ok (.iload_n 1, 1) := by decide +kernel
theorem dX10_order_10 : decode cX10_order 10 = .ok (.aload_n 0, 1) := by decide +kernel
theorem dX10_order_11 : decode cX10_order 11 = .ok (.getfield 81, 3) := by decide +kernel
theorem dX10_order_14 : decode cX10_order 14 = .ok (.ishr, 1) := by decide +kernel
theorem dX10_order_15 : decode cX10_order 15 = .ok (.ifCond .ne 21, 3) := by decide +kernel
theorem dX10_order_18 : decode cX10_order 18 = .ok (.iload_n 1, 1) := by decide +kernel
theorem dX10_order_19 : decode cX10_order 19 = .ok (.invokestatic 311, 3) := by decide +kernel
theorem dX10_order_22 : decode cX10_order 22 = .ok (.iconst 5, 1) := by decide +kernel
theorem dX10_order_23 : decode cX10_order 23 = .ok (.if_icmp .gt 13, 3) := by decide +kernel
theorem dX10_order_26 : decode cX10_order 26 = .ok (.iload_n 2, 1) := by decide +kernel
theorem dX10_order_27 : decode cX10_order 27 = .ok (.i2l, 1) := by decide +kernel
theorem dX10_order_28 : decode cX10_order 28 = .ok (.lconst 0, 1) := by decide +kernel
theorem dX10_order_29 : decode cX10_order 29 = .ok (.lconst 1, 1) := by decide +kernel
theorem dX10_order_30 : decode cX10_order 30 = .ok (.invokestatic 84, 3) := by decide +kernel
theorem dX10_order_33 : decode cX10_order 33 = .ok (.ifCond .ne 5, 3) := by decide +kernel
theorem dX10_order_36 : decode cX10_order 36 = .ok (.iconst (-1), 1) := by decide +kernel
theorem dX10_order_37 : decode cX10_order 37 = .ok (.ireturn, 1) := by decide +kernel
theorem dX10_order_38 : decode cX10_order 38 = .ok (.iconst 1, 1) := by decide +kernel
theorem dX10_order_39 : decode cX10_order 39 = .ok (.istore_n 3, 1) := by decide +kernel
theorem dX10_order_40 : decode cX10_order 40 = .ok (.iconst 2, 1) := by decide +kernel
theorem dX10_order_41 : decode cX10_order 41 = .ok (.istore 4, 2) := by decide +kernel
theorem dX10_order_43 : decode cX10_order 43 = .ok (.iload 4, 2) := by decide +kernel
theorem dX10_order_45 : decode cX10_order 45 = .ok (.iload_n 1, 1) := by decide +kernel
theorem dX10_order_46 : decode cX10_order 46 = .ok (.invokestatic 311, 3) := by decide +kernel
theorem dX10_order_49 : decode cX10_order 49 = .ok (.if_icmp .gt 14, 3) := by decide +kernel
theorem dX10_order_52 : decode cX10_order 52 = .ok (.iload_n 3, 1) := by decide +kernel
theorem dX10_order_53 : decode cX10_order 53 = .ok (.iload 4, 2) := by decide +kernel
theorem dX10_order_55 : decode cX10_order 55 = .ok (.imul, 1) := by decide +kernel
theorem dX10_order_56 : decode cX10_order 56 = .ok (.istore_n 3, 1) := by decide +kernel
theorem dX10_order_57 : decode cX10_order 57 = .ok (.iinc 4 1, 3) := by decide +kernel
theorem dX10_order_60 : decode cX10_order 60 = .ok (.goto (-17), 3) := by decide +kernel
theorem dX10_order_63 : decode cX10_order 63 = .ok (.iconst 1, 1) := by decide +kernel
theorem dX10_order_64 : decode cX10_order 64 = .ok (.istore 4, 2) := by decide +kernel
theorem dX10_order_66 : decode cX10_order 66 = .ok (.iconst (-1), 1) := by decide +kernel
theorem dX10_order_67 : decode cX10_order 67 = .ok (.istore 5, 2) := by decide +kernel
theorem dX10_order_69 : decode cX10_order 69 = .ok (.iconst 0, 1) := by decide +kernel
theorem dX10_order_70 : decode cX10_order 70 = .ok (.istore 6, 2) := by decide +kernel
theorem dX10_order_72 : decode cX10_order 72 = .ok (.iload 6, 2) := by decide +kernel
theorem dX10_order_74 : decode cX10_order 74 = .ok (.iload_n 3, 1) := by decide +kernel
theorem dX10_order_75 : decode cX10_order 75 = .ok (.if_icmp .ge 72, 3) := by decide +kernel
theorem dX10_order_78 : decode cX10_order 78 = .ok (.aload_n 0, 1) := by decide +kernel
theorem dX10_order_79 : decode cX10_order 79 = .ok (.iload_n 1, 1) := by decide +kernel
theorem dX10_order_80 : decode cX10_order 80 = .ok (.iload 6, 2) := by decide +kernel
theorem dX10_order_82 : decode cX10_order 82 = .ok (.invokevirtual 314, 3) := by decide +kernel
theorem dX10_order_85 : decode cX10_order 85 = .ok (.istore 7, 2) := by decide +kernel
theorem dX10_order_87 : decode cX10_order 87 = .ok (.aload_n 0, 1) := by decide +kernel
theorem dX10_order_88 : decode cX10_order 88 = .ok (.iload 7, 2) := by decide +kernel
theorem dX10_order_90 : decode cX10_order 90 = .ok (.invokevirtual 317, 3) := by decide +kernel
theorem dX10_order_93 : decode cX10_order 93 = .ok (.istore 8, 2) := by decide +kernel
theorem dX10_order_95 : decode cX10_order 95 = .ok (.iload 5, 2) := by decide +kernel
theorem dX10_order_97 : decode cX10_order 97 = .ok (.ifCond .lt 10, 3) := by decide +kernel
theorem dX10_order_100 : decode cX10_order 100 = .ok (.iload 8, 2) := by decide +kernel
theorem dX10_order_102 : decode cX10_order 102 = .ok (.iload 5, 2) := by decide +kernel
theorem dX10_order_104 : decode cX10_order 104 = .ok (.if_icmp .ge 12, 3) := by decide +kernel
theorem dX10_order_107 : decode cX10_order 107 = .ok (.aload_n 0, 1) := by decide +kernel
theorem dX10_order_108 : decode cX10_order 108 = .ok (.iload 7, 2) := by decide +kernel
theorem dX10_order_110 : decode cX10_order 110 = .ok (.invokevirtual 320, 3) := by decide +kernel
theorem dX10_order_113 : decode cX10_order 113 = .ok (.goto 5, 3) := by decide +kernel
theorem dX10_order_116 : decode cX10_order 116 = .ok (.iload 4, 2) := by decide +kernel
theorem dX10_order_118 : decode cX10_order 118 = .ok (.istore 4, 2) := by decide +kernel
theorem dX10_order_120 : decode cX10_order 120 = .ok (.iload 5, 2) := by decide +kernel
theorem dX10_order_122 : decode cX10_order 122 = .ok (.ifCond .lt 10, 3) := by decide +kernel
theorem dX10_order_125 : decode cX10_order 125 = .ok (.iload 8, 2) := by decide +kernel
theorem dX10_order_127 : decode cX10_order 127 = .ok (.iload 5, 2) := by decide +kernel
theorem dX10_order_129 : decode cX10_order 129 = .ok (.if_icmp .ge 8, 3) := by decide +kernel
theorem dX10_order_132 : decode cX10_order 132 = .ok (.iload 8, 2) := by decide +kernel
theorem dX10_order_134 : decode cX10_order 134 = .ok (.goto 5, 3) := by decide +kernel
theorem dX10_order_137 : decode cX10_order 137 = .ok (.iload 5, 2) := by decide +kernel
theorem dX10_order_139 : decode cX10_order 139 = .ok (.istore 5, 2) := by decide +kernel
theorem dX10_order_141 : decode cX10_order 141 = .ok (.iinc 6 1, 3) := by decide +kernel
theorem dX10_order_144 : decode cX10_order 144 = .ok (.goto (-72), 3) := by decide +kernel
theorem dX10_order_147 : decode cX10_order 147 = .ok (.iload_n 2, 1) := by decide +kernel
theorem dX10_order_148 : decode cX10_order 148 = .ok (.ifCond .ne 8, 3) := by decide +kernel
theorem dX10_order_151 : decode cX10_order 151 = .ok (.iload 4, 2) := by decide +kernel
theorem dX10_order_153 : decode cX10_order 153 = .ok (.goto 5, 3) := by decide +kernel
theorem dX10_order_156 : decode cX10_order 156 = .ok (.iload 5, 2) := by decide +kernel
theorem dX10_order_158 : decode cX10_order 158 = .ok (.ireturn, 1) := by decide +kernel
theorem dX10_wrongThrees_0 : decode cX10_wrongThrees 0 = .ok (.aload_n 0, 1) := by decide +kernel
theorem dX10_wrongThrees_1 : decode cX10_wrongThrees 1 = .ok (.iload_n 1, 1) := by decide +kernel
theorem dX10_wrongThrees_2 : decode cX10_wrongThrees 2 = .ok (.invokevirtual 219, 3) := by decide +kernel
theorem dX10_wrongThrees_5 : decode cX10_wrongThrees 5 = .ok (.istore_n 2, 1) := by decide +kernel
theorem dX10_wrongThrees_6 : decode cX10_wrongThrees 6 = .ok (.iload_n 2, 1) := by decide +kernel
theorem dX10_wrongThrees_7 : decode cX10_wrongThrees 7 = .ok (.ifCond .ge 5, 3) := by decide +kernel
theorem dX10_wrongThrees_10 : decode cX10_wrongThrees 10 = .ok (.iload_n 2, 1) := by decide +kernel
theorem dX10_wrongThrees_11 : decode cX10_wrongThrees 11 = .ok (.ireturn, 1) := by decide +kernel
theorem dX10_wrongThrees_12 : decode cX10_wrongThrees 12 = .ok (.aload_n 0, 1) := by decide +kernel
theorem dX10_wrongThrees_13 : decode cX10_wrongThrees 13 = .ok (.getfield 38, 3) := by decide +kernel
theorem dX10_wrongThrees_16 : decode cX10_wrongThrees 16 = .ok (.iload_n 1, 1) := by decide +kernel
theorem dX10_wrongThrees_17 : decode cX10_wrongThrees 17 = .ok (.iaload, 1) := by decide +kernel
theorem dX10_wrongThrees_18 : decode cX10_wrongThrees 18 = .ok (.iconst 3, 1) := by decide +kernel
theorem dX10_wrongThrees_19 : decode cX10_wrongThrees 19 = .ok (.irem, 1) := by decide +kernel
theorem dX10_wrongThrees_20 : decode cX10_wrongThrees 20 = .ok (.ifCond .ne 7, 3) := by decide +kernel
theorem dX10_wrongThrees_23 : decode cX10_wrongThrees 23 = .ok (.iconst 1, 1) := by decide +kernel
theorem dX10_wrongThrees_24 : decode cX10_wrongThrees 24 = .ok (.goto 4, 3) := by decide +kernel
theorem dX10_wrongThrees_27 : decode cX10_wrongThrees 27 = .ok (.iconst 0, 1) := by decide +kernel
theorem dX10_wrongThrees_28 : decode cX10_wrongThrees 28 = .ok (.istore_n 3, 1) := by decide +kernel
theorem dX10_wrongThrees_29 : decode cX10_wrongThrees 29 = .ok (.iconst 0, 1) := by decide +kernel
theorem dX10_wrongThrees_30 : decode cX10_wrongThrees 30 = .ok (.istore 4, 2) := by decide +kernel
theorem dX10_wrongThrees_32 : decode cX10_wrongThrees 32 = .ok (.iload 4, 2) := by decide +kernel
theorem dX10_wrongThrees_34 : decode cX10_wrongThrees 34 = .ok (.iconst 2, 1) := by decide +kernel
theorem dX10_wrongThrees_35 : decode cX10_wrongThrees 35 = .ok (.iadd, 1) := by decide +kernel
theorem dX10_wrongThrees_36 : decode cX10_wrongThrees 36 = .ok (.aload_n 0, 1) := by decide +kernel
theorem dX10_wrongThrees_37 : decode cX10_wrongThrees 37 = .ok (.getfield 38, 3) := by decide +kernel
theorem dX10_wrongThrees_40 : decode cX10_wrongThrees 40 = .ok (.iload_n 1, 1) := by decide +kernel
theorem dX10_wrongThrees_41 : decode cX10_wrongThrees 41 = .ok (.iaload, 1) := by decide +kernel
theorem dX10_wrongThrees_42 : decode cX10_wrongThrees 42 = .ok (.if_icmp .ge 82, 3) := by decide +kernel
theorem dX10_wrongThrees_45 : decode cX10_wrongThrees 45 = .ok (.iload_n 3, 1) := by decide +kernel
theorem dX10_wrongThrees_46 : decode cX10_wrongThrees 46 = .ok (.ifCond .eq 78, 3) := by decide +kernel
theorem dX10_wrongThrees_49 : decode cX10_wrongThrees 49 = .ok (.aload_n 0, 1) := by decide +kernel
theorem dX10_wrongThrees_50 : decode cX10_wrongThrees 50 = .ok (.getfield 41, 3) := by decide +kernel
theorem dX10_wrongThrees_53 : decode cX10_wrongThrees 53 = .ok (.bipush 100, 2) := by decide +kernel
theorem dX10_wrongThrees_55 : decode cX10_wrongThrees 55 = .ok (.iload_n 1, 1) := by decide +kernel
theorem dX10_wrongThrees_56 : decode cX10_wrongThrees 56 = .ok (.imul, 1) := by decide +kernel
theorem dX10_wrongThrees_57 : decode cX10_wrongThrees 57 = .ok (.iload 4, 2) := by decide +kernel
theorem dX10_wrongThrees_59 : decode cX10_wrongThrees 59 = .ok (.iadd, 1) := by decide +kernel
theorem dX10_wrongThrees_60 : decode cX10_wrongThrees 60 = .ok (.laload, 1) := by decide +kernel
theorem dX10_wrongThrees_61 : decode cX10_wrongThrees 61 = .ok (.lstore 5, 2) := by decide +kernel
theorem dX10_wrongThrees_63 : decode cX10_wrongThrees 63 = .ok (.aload_n 0, 1) := by decide +kernel
theorem dX10_wrongThrees_64 : decode cX10_wrongThrees 64 = .ok (.getfield 41, 3) := by decide +kernel
theorem dX10_wrongThrees_67 : decode cX10_wrongThrees 67 = .ok (.bipush 100, 2) := by decide +kernel
theorem dX10_wrongThrees_69 : decode cX10_wrongThrees 69 = .ok (.iload_n 1, 1) := by decide +kernel
theorem dX10_wrongThrees_70 : decode cX10_wrongThrees 70 = .ok (.imul, 1) := by decide +kernel
theorem dX10_wrongThrees_71 : decode cX10_wrongThrees 71 = .ok (.iload 4, 2) := by decide +kernel
theorem dX10_wrongThrees_73 : decode cX10_wrongThrees 73 = .ok (.iadd, 1) := by decide +kernel
theorem dX10_wrongThrees_74 : decode cX10_wrongThrees 74 = .ok (.iconst 1, 1) := by decide +kernel
theorem dX10_wrongThrees_75 : decode cX10_wrongThrees 75 = .ok (.iadd, 1) := by decide +kernel
theorem dX10_wrongThrees_76 : decode cX10_wrongThrees 76 = .ok (.laload, 1) := by decide +kernel
theorem dX10_wrongThrees_77 : decode cX10_wrongThrees 77 = .ok (.lstore 7, 2) := by decide +kernel
theorem dX10_wrongThrees_79 : decode cX10_wrongThrees 79 = .ok (.lload 5, 2) := by decide +kernel
theorem dX10_wrongThrees_81 : decode cX10_wrongThrees 81 = .ok (.lconst 0, 1) := by decide +kernel
theorem dX10_wrongThrees_82 : decode cX10_wrongThrees 82 = .ok (.aload_n 0, 1) := by decide +kernel
theorem dX10_wrongThrees_83 : decode cX10_wrongThrees 83 = .ok (.getfield 81, 3) := by decide +kernel
theorem dX10_wrongThrees_86 : decode cX10_wrongThrees 86 = .ok (.iconst 1, 1) := by decide +kernel
theorem dX10_wrongThrees_87 : decode cX10_wrongThrees 87 = .ok (.isub, 1) := by decide +kernel
theorem dX10_wrongThrees_88 : decode cX10_wrongThrees 88 = .ok (.i2l, 1) := by decide +kernel
theorem dX10_wrongThrees_89 : decode cX10_wrongThrees 89 = .ok (.invokestatic 84, 3) := by decide +kernel
theorem dX10_wrongThrees_92 : decode cX10_wrongThrees 92 = .ok (.ifCond .eq 24, 3) := by decide +kernel
theorem dX10_wrongThrees_95 : decode cX10_wrongThrees 95 = .ok (.lload 7, 2) := by decide +kernel
theorem dX10_wrongThrees_97 : decode cX10_wrongThrees 97 = .ok (.lload 5, 2) := by decide +kernel
theorem dX10_wrongThrees_99 : decode cX10_wrongThrees 99 = .ok (.aload_n 0, 1) := by decide +kernel
theorem dX10_wrongThrees_100 : decode cX10_wrongThrees 100 = .ok (.getfield 81, 3) := by decide +kernel
theorem dX10_wrongThrees_103 : decode cX10_wrongThrees 103 = .ok (.iconst 1, 1) := by decide +kernel
theorem dX10_wrongThrees_104 : decode cX10_wrongThrees 104 = .ok (.isub, 1) := by decide +kernel
theorem dX10_wrongThrees_105 : decode cX10_wrongThrees 105 = .ok (.i2l, 1) := by decide +kernel
theorem dX10_wrongThrees_106 : decode cX10_wrongThrees 106 = .ok (.invokestatic 84, 3) := by decide +kernel
theorem dX10_wrongThrees_109 : decode cX10_wrongThrees 109 = .ok (.ifCond .eq 7, 3) := by decide +kernel
theorem dX10_wrongThrees_112 : decode cX10_wrongThrees 112 = .ok (.iconst 1, 1) := by decide +kernel
theorem dX10_wrongThrees_113 : decode cX10_wrongThrees 113 = .ok (.goto 4, 3) := by decide +kernel
theorem dX10_wrongThrees_116 : decode cX10_wrongThrees 116 = .ok (.iconst 0, 1) := by decide +kernel
theorem dX10_wrongThrees_117 : decode cX10_wrongThrees 117 = .ok (.istore_n 3, 1) := by decide +kernel
theorem dX10_wrongThrees_118 : decode cX10_wrongThrees 118 = .ok (.iinc 4 3, 3) := by decide +kernel
theorem dX10_wrongThrees_121 : decode cX10_wrongThrees 121 = .ok (.goto (-89), 3) := by decide +kernel
theorem dX10_wrongThrees_124 : decode cX10_wrongThrees 124 = .ok (.iload_n 3, 1) := by decide +kernel
theorem dX10_wrongThrees_125 : decode cX10_wrongThrees 125 = .ok (.ifCond .eq 7, 3) := by decide +kernel
theorem dX10_wrongThrees_128 : decode cX10_wrongThrees 128 = .ok (.iconst 0, 1) := by decide +kernel
theorem dX10_wrongThrees_129 : decode cX10_wrongThrees 129 = .ok (.goto 5, 3) := by decide +kernel
theorem dX10_wrongThrees_132 : decode cX10_wrongThrees 132 = .ok (.bipush (-13), 2) := by decide +kernel
theorem dX10_wrongThrees_134 : decode cX10_wrongThrees 134 = .ok (.ireturn, 1) := by decide +kernel
theorem dX10_isSuspect_0 : decode cX10_isSuspect 0 = .ok (.iconst 1, 1) := by decide +kernel
theorem dX10_isSuspect_1 : decode cX10_isSuspect 1 = .ok (.istore_n 3, 1) := by decide +kernel
theorem dX10_isSuspect_2 : decode cX10_isSuspect 2 = .ok (.iconst 0, 1) := by decide +kernel
theorem dX10_isSuspect_3 : decode cX10_isSuspect 3 = .ok (.istore 4, 2) := by decide +kernel
theorem dX10_isSuspect_5 : decode cX10_isSuspect 5 = .ok (.iload 4, 2) := by decide +kernel
theorem dX10_isSuspect_7 : decode cX10_isSuspect 7 = .ok (.aload_n 0, 1) := by decide +kernel
theorem dX10_isSuspect_8 : decode cX10_isSuspect 8 = .ok (.getfield 38, 3) := by decide +kernel
theorem dX10_isSuspect_11 : decode cX10_isSuspect 11 = .ok (.iload_n 1, 1) := by decide +kernel
theorem dX10_isSuspect_12 : decode cX10_isSuspect 12 = .ok (.iaload, 1) := by decide +kernel
theorem dX10_isSuspect_13 : decode cX10_isSuspect 13 = .ok (.if_icmp .ge 105, 3) := by decide +kernel
theorem dX10_isSuspect_16 : decode cX10_isSuspect 16 = .ok (.iload_n 3, 1) := by decide +kernel
theorem dX10_isSuspect_17 : decode cX10_isSuspect 17 = .ok (.ifCond .eq 101, 3) := by decide +kernel
theorem dX10_isSuspect_20 : decode cX10_isSuspect 20 = .ok (.aload_n 0, 1) := by decide +kernel
theorem dX10_isSuspect_21 : decode cX10_isSuspect 21 = .ok (.getfield 41, 3) := by decide +kernel
theorem dX10_isSuspect_24 : decode cX10_isSuspect 24 = .ok (.bipush 100, 2) := by decide +kernel
theorem dX10_isSuspect_26 : decode cX10_isSuspect 26 = .ok (.iload_n 1, 1) := by decide +kernel
theorem dX10_isSuspect_27 : decode cX10_isSuspect 27 = .ok (.imul, 1) := by decide +kernel
theorem dX10_isSuspect_28 : decode cX10_isSuspect 28 = .ok (.iload 4, 2) := by decide +kernel
theorem dX10_isSuspect_30 : decode cX10_isSuspect 30 = .ok (.iadd, 1) := by decide +kernel
theorem dX10_isSuspect_31 : decode cX10_isSuspect 31 = .ok (.laload, 1) := by decide +kernel
theorem dX10_isSuspect_32 : decode cX10_isSuspect 32 = .ok (.l2i, 1) := by decide +kernel
theorem dX10_isSuspect_33 : decode cX10_isSuspect 33 = .ok (.istore 5, 2) := by decide +kernel
theorem dX10_isSuspect_35 : decode cX10_isSuspect 35 = .ok (.aload_n 0, 1) := by decide +kernel
theorem dX10_isSuspect_36 : decode cX10_isSuspect 36 = .ok (.getfield 41, 3) := by decide +kernel
theorem dX10_isSuspect_39 : decode cX10_isSuspect 39 = .ok (.bipush 100, 2) := by decide +kernel
theorem dX10_isSuspect_41 : decode cX10_isSuspect 41 = .ok (.iload_n 1, 1) := by decide +kernel
theorem dX10_isSuspect_42 : decode cX10_isSuspect 42 = .ok (.imul, 1) := by decide +kernel
theorem dX10_isSuspect_43 : decode cX10_isSuspect 43 = .ok (.iload 4, 2) := by decide +kernel
theorem dX10_isSuspect_45 : decode cX10_isSuspect 45 = .ok (.iadd, 1) := by decide +kernel
theorem dX10_isSuspect_46 : decode cX10_isSuspect 46 = .ok (.iconst 1, 1) := by decide +kernel
theorem dX10_isSuspect_47 : decode cX10_isSuspect 47 = .ok (.iadd, 1) := by decide +kernel
theorem dX10_isSuspect_48 : decode cX10_isSuspect 48 = .ok (.laload, 1) := by decide +kernel
theorem dX10_isSuspect_49 : decode cX10_isSuspect 49 = .ok (.l2i, 1) := by decide +kernel
theorem dX10_isSuspect_50 : decode cX10_isSuspect 50 = .ok (.istore 6, 2) := by decide +kernel
theorem dX10_isSuspect_52 : decode cX10_isSuspect 52 = .ok (.iconst 1, 1) := by decide +kernel
theorem dX10_isSuspect_53 : decode cX10_isSuspect 53 = .ok (.iload 6, 2) := by decide +kernel
theorem dX10_isSuspect_55 : decode cX10_isSuspect 55 = .ok (.iconst 1, 1) := by decide +kernel
theorem dX10_isSuspect_56 : decode cX10_isSuspect 56 = .ok (.iadd, 1) := by decide +kernel
theorem dX10_isSuspect_57 : decode cX10_isSuspect 57 = .ok (.ishl, 1) := by decide +kernel
theorem dX10_isSuspect_58 : decode cX10_isSuspect 58 = .ok (.iconst 1, 1) := by decide +kernel
theorem dX10_isSuspect_59 : decode cX10_isSuspect 59 = .ok (.iload 5, 2) := by decide +kernel
theorem dX10_isSuspect_61 : decode cX10_isSuspect 61 = .ok (.ishl, 1) := by decide +kernel
theorem dX10_isSuspect_62 : decode cX10_isSuspect 62 = .ok (.isub, 1) := by decide +kernel
theorem dX10_isSuspect_63 : decode cX10_isSuspect 63 = .ok (.istore 7, 2) := by decide +kernel
theorem dX10_isSuspect_65 : decode cX10_isSuspect 65 = .ok (.iload_n 2, 1) := by decide +kernel
theorem dX10_isSuspect_66 : decode cX10_isSuspect 66 = .ok (.iload 7, 2) := by decide +kernel
theorem dX10_isSuspect_68 : decode cX10_isSuspect 68 = .ok (.iconst (-1), 1) := by decide +kernel
theorem dX10_isSuspect_69 : decode cX10_isSuspect 69 = .ok (.ixor, 1) := by decide +kernel
theorem dX10_isSuspect_70 : decode cX10_isSuspect 70 = .ok (.iand, 1) := by decide +kernel
theorem dX10_isSuspect_71 : decode cX10_isSuspect 71 = .ok (.ifCond .ne 7, 3) := by decide +kernel
theorem dX10_isSuspect_74 : decode cX10_isSuspect 74 = .ok (.iconst 1, 1) := by decide +kernel
theorem dX10_isSuspect_75 : decode cX10_isSuspect 75 = .ok (.goto 4, 3) := by decide +kernel
theorem dX10_isSuspect_78 : decode cX10_isSuspect 78 = .ok (.iconst 0, 1) := by decide +kernel
theorem dX10_isSuspect_79 : decode cX10_isSuspect 79 = .ok (.aload_n 0, 1) := by decide +kernel
theorem dX10_isSuspect_80 : decode cX10_isSuspect 80 = .ok (.getfield 41, 3) := by decide +kernel
theorem dX10_isSuspect_83 : decode cX10_isSuspect 83 = .ok (.bipush 100, 2) := by decide +kernel
theorem dX10_isSuspect_85 : decode cX10_isSuspect 85 = .ok (.iload_n 1, 1) := by decide +kernel
theorem dX10_isSuspect_86 : decode cX10_isSuspect 86 = .ok (.imul, 1) := by decide +kernel
theorem dX10_isSuspect_87 : decode cX10_isSuspect 87 = .ok (.iload 4, 2) := by decide +kernel
theorem dX10_isSuspect_89 : decode cX10_isSuspect 89 = .ok (.iadd, 1) := by decide +kernel
theorem dX10_isSuspect_90 : decode cX10_isSuspect 90 = .ok (.iconst 2, 1) := by decide +kernel
theorem dX10_isSuspect_91 : decode cX10_isSuspect 91 = .ok (.iadd, 1) := by decide +kernel
theorem dX10_isSuspect_92 : decode cX10_isSuspect 92 = .ok (.laload, 1) := by decide +kernel
theorem dX10_isSuspect_93 : decode cX10_isSuspect 93 = .ok (.lconst 1, 1) := by decide +kernel
theorem dX10_isSuspect_94 : decode cX10_isSuspect 94 = .ok (.lcmp, 1) := by decide +kernel
theorem dX10_isSuspect_95 : decode cX10_isSuspect 95 = .ok (.ifCond .ne 7, 3) := by decide +kernel
theorem dX10_isSuspect_98 : decode cX10_isSuspect 98 = .ok (.iconst 1, 1) := by decide +kernel
theorem dX10_isSuspect_99 : decode cX10_isSuspect 99 = .ok (.goto 4, 3) := by decide +kernel
theorem dX10_isSuspect_102 : decode cX10_isSuspect 102 = .ok (.iconst 0, 1) := by decide +kernel
theorem dX10_isSuspect_103 : decode cX10_isSuspect 103 = .ok (.if_icmp .ne 7, 3) := by decide +kernel
theorem dX10_isSuspect_106 : decode cX10_isSuspect 106 = .ok (.iconst 1, 1) := by decide +kernel
theorem dX10_isSuspect_107 : decode cX10_isSuspect 107 = .ok (.goto 4, 3) := by decide +kernel
theorem dX10_isSuspect_110 : decode cX10_isSuspect 110 = .ok (.iconst 0, 1) := by decide +kernel
theorem dX10_isSuspect_111 : decode cX10_isSuspect 111 = .ok (.istore_n 3, 1) := by decide +kernel
theorem dX10_isSuspect_112 : decode cX10_isSuspect 112 = .ok (.iinc 4 3, 3) := by decide +kernel
theorem dX10_isSuspect_115 : decode cX10_isSuspect 115 = .ok (.goto (-110), 3) := by decide +kernel
theorem dX10_isSuspect_118 : decode cX10_isSuspect 118 = .ok (.iload_n 3, 1) := by decide +kernel
theorem dX10_isSuspect_119 : decode cX10_isSuspect 119 = .ok (.ireturn, 1) := by decide +kernel
theorem dX10_suspects_0 : decode cX10_suspects 0 = .ok (.aload_n 0, 1) := by decide +kernel
theorem dX10_suspects_1 : decode cX10_suspects 1 = .ok (.iconst 0, 1) := by decide +kernel
theorem dX10_suspects_2 : decode cX10_suspects 2 = .ok (.putfield 78, 3) := by decide +kernel
theorem dX10_suspects_5 : decode cX10_suspects 5 = .ok (.iload_n 2, 1) := by decide +kernel
theorem dX10_suspects_6 : decode cX10_suspects 6 = .ok (.i2l, 1) := by decide +kernel
theorem dX10_suspects_7 : decode cX10_suspects 7 = .ok (.lconst 0, 1) := by decide +kernel
theorem dX10_suspects_8 : decode cX10_suspects 8 = .ok (.lconst 1, 1) := by decide +kernel
theorem dX10_suspects_9 : decode cX10_suspects 9 = .ok (.invokestatic 84, 3) := by decide +kernel
theorem dX10_suspects_12 : decode cX10_suspects 12 = .ok (.ifCond .eq 11, 3) := by decide +kernel
theorem dX10_suspects_15 : decode cX10_suspects 15 = .ok (.aload_n 0, 1) := by decide +kernel
theorem dX10_suspects_16 : decode cX10_suspects 16 = .ok (.iload_n 1, 1) := by decide +kernel
theorem dX10_suspects_17 : decode cX10_suspects 17 = .ok (.invokevirtual 323, 3) := by decide +kernel
theorem dX10_suspects_20 : decode cX10_suspects 20 = .ok (.goto 4, 3) := by decide +kernel
theorem dX10_suspects_23 : decode cX10_suspects 23 = .ok (.iconst (-1), 1) := by decide +kernel
theorem dX10_suspects_24 : decode cX10_suspects 24 = .ok (.istore_n 3, 1) := by decide +kernel
theorem dX10_suspects_25 : decode cX10_suspects 25 = .ok (.iload_n 3, 1) := by decide +kernel
theorem dX10_suspects_26 : decode cX10_suspects 26 = .ok (.ifCond .ge 5, 3) := by decide +kernel
theorem dX10_suspects_29 : decode cX10_suspects 29 = .ok (.iload_n 3, 1) := by decide +kernel
theorem dX10_suspects_30 : decode cX10_suspects 30 = .ok (.ireturn, 1) := by decide +kernel
theorem dX10_suspects_31 : decode cX10_suspects 31 = .ok (.iconst 0, 1) := by decide +kernel
theorem dX10_suspects_32 : decode cX10_suspects 32 = .ok (.istore 4, 2) := by decide +kernel
theorem dX10_suspects_34 : decode cX10_suspects 34 = .ok (.iconst 0, 1) := by decide +kernel
theorem dX10_suspects_35 : decode cX10_suspects 35 = .ok (.istore 5, 2) := by decide +kernel
theorem dX10_suspects_37 : decode cX10_suspects 37 = .ok (.iconst 0, 1) := by decide +kernel
theorem dX10_suspects_38 : decode cX10_suspects 38 = .ok (.istore 6, 2) := by decide +kernel
theorem dX10_suspects_40 : decode cX10_suspects 40 = .ok (.iload 6, 2) := by decide +kernel
theorem dX10_suspects_42 : decode cX10_suspects 42 = .ok (.aload_n 0, 1) := by decide +kernel
theorem dX10_suspects_43 : decode cX10_suspects 43 = .ok (.getfield 81, 3) := by decide +kernel
theorem dX10_suspects_46 : decode cX10_suspects 46 = .ok (.if_icmp .ge 82, 3) := by decide +kernel
theorem dX10_suspects_49 : decode cX10_suspects 49 = .ok (.iload 4, 2) := by decide +kernel
theorem dX10_suspects_51 : decode cX10_suspects 51 = .ok (.aload_n 0, 1) := by decide +kernel
theorem dX10_suspects_52 : decode cX10_suspects 52 = .ok (.iload_n 1, 1) := by decide +kernel
theorem dX10_suspects_53 : decode cX10_suspects 53 = .ok (.iconst 1, 1) := by decide +kernel
theorem dX10_suspects_54 : decode cX10_suspects 54 = .ok (.iload 6, 2) := by decide +kernel
theorem dX10_suspects_56 : decode cX10_suspects 56 = .ok (.ishl, 1) := by decide +kernel
theorem dX10_suspects_57 : decode cX10_suspects 57 = .ok (.invokevirtual 326, 3) := by decide +kernel
theorem dX10_suspects_60 : decode cX10_suspects 60 = .ok (.ifCond .eq 10, 3) := by decide +kernel
theorem dX10_suspects_63 : decode cX10_suspects 63 = .ok (.iconst 1, 1) := by decide +kernel
theorem dX10_suspects_64 : decode cX10_suspects 64 = .ok (.iload 6, 2) := by decide +kernel
theorem dX10_suspects_66 : decode cX10_suspects 66 = .ok (.ishl, 1) := by decide +kernel
theorem dX10_suspects_67 : decode cX10_suspects 67 = .ok (.goto 4, 3) := by decide +kernel
theorem dX10_suspects_70 : decode cX10_suspects 70 = .ok (.iconst 0, 1) := by decide +kernel
theorem dX10_suspects_71 : decode cX10_suspects 71 = .ok (.ior, 1) := by decide +kernel
theorem dX10_suspects_72 : decode cX10_suspects 72 = .ok (.istore 4, 2) := by decide +kernel
theorem dX10_suspects_74 : decode cX10_suspects 74 = .ok (.iload 6, 2) := by decide +kernel
theorem dX10_suspects_76 : decode cX10_suspects 76 = .ok (.iconst 1, 1) := by decide +kernel
theorem dX10_suspects_77 : decode cX10_suspects 77 = .ok (.iadd, 1) := by decide +kernel
theorem dX10_suspects_78 : decode cX10_suspects 78 = .ok (.istore 7, 2) := by decide +kernel
theorem dX10_suspects_80 : decode cX10_suspects 80 = .ok (.iload 7, 2) := by decide +kernel
theorem dX10_suspects_82 : decode cX10_suspects 82 = .ok (.aload_n 0, 1) := by decide +kernel
theorem dX10_suspects_83 : decode cX10_suspects 83 = .ok (.getfield 81, 3) := by decide +kernel
theorem dX10_suspects_86 : decode cX10_suspects 86 = .ok (.if_icmp .ge 36, 3) := by decide +kernel
theorem dX10_suspects_89 : decode cX10_suspects 89 = .ok (.iload 5, 2) := by decide +kernel
theorem dX10_suspects_91 : decode cX10_suspects 91 = .ok (.aload_n 0, 1) := by decide +kernel
theorem dX10_suspects_92 : decode cX10_suspects 92 = .ok (.iload_n 1, 1) := by decide +kernel
theorem dX10_suspects_93 : decode cX10_suspects 93 = .ok (.iconst 1, 1) := by decide +kernel
theorem dX10_suspects_94 : decode cX10_suspects 94 = .ok (.iload 6, 2) := by decide +kernel
theorem dX10_suspects_96 : decode cX10_suspects 96 = .ok (.ishl, 1) := by decide +kernel
theorem dX10_suspects_97 : decode cX10_suspects 97 = .ok (.iconst 1, 1) := by decide +kernel
theorem dX10_suspects_98 : decode cX10_suspects 98 = .ok (.iload 7, 2) := by decide +kernel
theorem dX10_suspects_100 : decode cX10_suspects 100 = .ok (.ishl, 1) := by decide +kernel
theorem dX10_suspects_101 : decode cX10_suspects 101 = .ok (.ior, 1) := by decide +kernel
theorem dX10_suspects_102 : decode cX10_suspects 102 = .ok (.invokevirtual 326, 3) := by decide +kernel
theorem dX10_suspects_105 : decode cX10_suspects 105 = .ok (.ifCond .eq 7, 3) := by decide +kernel
theorem dX10_suspects_108 : decode cX10_suspects 108 = .ok (.iconst 1, 1) := by decide +kernel
theorem dX10_suspects_109 : decode cX10_suspects 109 = .ok (.goto 4, 3) := by decide +kernel
theorem dX10_suspects_112 : decode cX10_suspects 112 = .ok (.iconst 0, 1) := by decide +kernel
theorem dX10_suspects_113 : decode cX10_suspects 113 = .ok (.iadd, 1) := by decide +kernel
theorem dX10_suspects_114 : decode cX10_suspects 114 = .ok (.istore 5, 2) := by decide +kernel
theorem dX10_suspects_116 : decode cX10_suspects 116 = .ok (.iinc 7 1, 3) := by decide +kernel
theorem dX10_suspects_119 : decode cX10_suspects 119 = .ok (.goto (-39), 3) := by decide +kernel
theorem dX10_suspects_122 : decode cX10_suspects 122 = .ok (.iinc 6 1, 3) := by decide +kernel
theorem dX10_suspects_125 : decode cX10_suspects 125 = .ok (.goto (-85), 3) := by decide +kernel
theorem dX10_suspects_128 : decode cX10_suspects 128 = .ok (.iload_n 2, 1) := by decide +kernel
theorem dX10_suspects_129 : decode cX10_suspects 129 = .ok (.ifCond .ne 8, 3) := by decide +kernel
theorem dX10_suspects_132 : decode cX10_suspects 132 = .ok (.iload 4, 2) := by decide +kernel
theorem dX10_suspects_134 : decode cX10_suspects 134 = .ok (.goto 5, 3) := by decide +kernel
theorem dX10_suspects_137 : decode cX10_suspects 137 = .ok (.iload 5, 2) := by decide +kernel
theorem dX10_suspects_139 : decode cX10_suspects 139 = .ok (.ireturn, 1) := by decide +kernel
theorem dX10_changeOut_0 : decode cX10_changeOut 0 = .ok (.iload_n 1, 1) := by decide +kernel
theorem dX10_changeOut_1 : decode cX10_changeOut 1 = .ok (.istore_n 2, 1) := by decide +kernel
theorem dX10_changeOut_2 : decode cX10_changeOut 2 = .ok (.iconst 0, 1) := by decide +kernel
theorem dX10_changeOut_3 : decode cX10_changeOut 3 = .ok (.istore_n 3, 1) := by decide +kernel
theorem dX10_changeOut_4 : decode cX10_changeOut 4 = .ok (.iload_n 3, 1) := by decide +kernel
theorem dX10_changeOut_5 : decode cX10_changeOut 5 = .ok (.aload_n 0, 1) := by decide +kernel
theorem dX10_changeOut_6 : decode cX10_changeOut 6 = .ok (.getfield 81, 3) := by decide +kernel
theorem dX10_changeOut_9 : decode cX10_changeOut 9 = .ok (.if_icmp .ge 32, 3) := by decide +kernel
theorem dX10_changeOut_12 : decode cX10_changeOut 12 = .ok (.aload_n 0, 1) := by decide +kernel
theorem dX10_changeOut_13 : decode cX10_changeOut 13 = .ok (.getfield 88, 3) := by decide +kernel
theorem dX10_changeOut_16 : decode cX10_changeOut 16 = .ok (.iload_n 3, 1) := by decide +kernel
theorem dX10_changeOut_17 : decode cX10_changeOut 17 = .ok (.invokestatic 91, 3) := by decide +kernel
theorem dX10_changeOut_20 : decode cX10_changeOut 20 = .ok (.ifCond .ne 15, 3) := by decide +kernel
theorem dX10_changeOut_23 : decode cX10_changeOut 23 = .ok (.iload_n 2, 1) := by decide +kernel
theorem dX10_changeOut_24 : decode cX10_changeOut 24 = .ok (.ifCond .le 11, 3) := by decide +kernel
theorem dX10_changeOut_27 : decode cX10_changeOut 27 = .ok (.aload_n 0, 1) := by decide +kernel
theorem dX10_changeOut_28 : decode cX10_changeOut 28 = .ok (.iload_n 3, 1) := by decide +kernel
theorem dX10_changeOut_29 : decode cX10_changeOut 29 = .ok (.invokevirtual 158, 3) := by decide +kernel
theorem dX10_changeOut_32 : decode cX10_changeOut 32 = .ok (.iinc 2 (-1), 3) := by decide +kernel
theorem dX10_changeOut_35 : decode cX10_changeOut 35 = .ok (.iinc 3 1, 3) := by decide +kernel
theorem dX10_changeOut_38 : decode cX10_changeOut 38 = .ok (.goto (-34), 3) := by decide +kernel
theorem dX10_changeOut_41 : decode cX10_changeOut 41 = .ok (.iload_n 2, 1) := by decide +kernel
theorem dX10_changeOut_42 : decode cX10_changeOut 42 = .ok (.ireturn, 1) := by decide +kernel
theorem dX10_buy_0 : decode cX10_buy 0 = .ok (.aload_n 0, 1) := by decide +kernel
theorem dX10_buy_1 : decode cX10_buy 1 = .ok (.iconst 0, 1) := by decide +kernel
theorem dX10_buy_2 : decode cX10_buy 2 = .ok (.putfield 78, 3) := by decide +kernel
theorem dX10_buy_5 : decode cX10_buy 5 = .ok (.iload_n 1, 1) := by decide +kernel
theorem dX10_buy_6 : decode cX10_buy 6 = .ok (.i2l, 1) := by decide +kernel
theorem dX10_buy_7 : decode cX10_buy 7 = .ok (.lconst 0, 1) := by decide +kernel
theorem dX10_buy_8 : decode cX10_buy 8 = .ok (.ldc2_w 202, 3) := by decide +kernel
theorem dX10_buy_11 : decode cX10_buy 11 = .ok (.invokestatic 84, 3) := by decide +kernel
theorem dX10_buy_14 : decode cX10_buy 14 = .ok (.ifCond .ne 5, 3) := by decide +kernel
theorem dX10_buy_17 : decode cX10_buy 17 = .ok (.iconst (-1), 1) := by decide +kernel
theorem dX10_buy_18 : decode cX10_buy 18 = .ok (.ireturn, 1) := by decide +kernel
theorem dX10_buy_19 : decode cX10_buy 19 = .ok (.bipush (-4), 2) := by decide +kernel
theorem dX10_buy_21 : decode cX10_buy 21 = .ok (.istore_n 2, 1) := by decide +kernel
theorem dX10_buy_22 : decode cX10_buy 22 = .ok (.aload_n 0, 1) := by decide +kernel
theorem dX10_buy_23 : decode cX10_buy 23 = .ok (.invokevirtual 225, 3) := by decide +kernel
theorem dX10_buy_26 : decode cX10_buy 26 = .ok (.iconst 0, 1) := by decide +kernel
theorem dX10_buy_27 : decode cX10_buy 27 = .ok (.istore_n 3, 1) := by decide +kernel
theorem dX10_buy_28 : decode cX10_buy 28 = .ok (.iload_n 3, 1) := by decide +kernel
theorem dX10_buy_29 : decode cX10_buy 29 = .ok (.bipush 9, 2) := by decide +kernel
theorem dX10_buy_31 : decode cX10_buy 31 = .ok (.if_icmp .gt 69, 3) := by decide +kernel
theorem dX10_buy_34 : decode cX10_buy 34 = .ok (.iload_n 2, 1) := by decide +kernel
theorem dX10_buy_35 : decode cX10_buy 35 = .ok (.ifCond .ge 65, 3) := by decide +kernel
theorem dX10_buy_38 : decode cX10_buy 38 = .ok (.iload_n 3, 1) := by decide +kernel
theorem dX10_buy_39 : decode cX10_buy 39 = .ok (.istore 4, 2) := by decide +kernel
theorem dX10_buy_41 : decode cX10_buy 41 = .ok (.iconst 1, 1) := by decide +kernel
theorem dX10_buy_42 : decode cX10_buy 42 = .ok (.istore 5, 2) := by decide +kernel
theorem dX10_buy_44 : decode cX10_buy 44 = .ok (.iconst 0, 1) := by decide +kernel
theorem dX10_buy_45 : decode cX10_buy 45 = .ok (.istore 6, 2) := by decide +kernel
theorem dX10_buy_47 : decode cX10_buy 47 = .ok (.iload 6, 2) := by decide +kernel
theorem dX10_buy_49 : decode cX10_buy 49 = .ok (.iload_n 1, 1) := by decide +kernel
theorem dX10_buy_50 : decode cX10_buy 50 = .ok (.if_icmp .ge 28, 3) := by decide +kernel
theorem dX10_buy_53 : decode cX10_buy 53 = .ok (.iload 5, 2) := by decide +kernel
theorem dX10_buy_55 : decode cX10_buy 55 = .ok (.ifCond .eq 23, 3) := by decide +kernel
theorem dX10_buy_58 : decode cX10_buy 58 = .ok (.aload_n 0, 1) := by decide +kernel
theorem dX10_buy_59 : decode cX10_buy 59 = .ok (.iload 4, 2) := by decide +kernel
theorem dX10_buy_61 : decode cX10_buy 61 = .ok (.invokevirtual 329, 3) := by decide +kernel
theorem dX10_buy_64 : decode cX10_buy 64 = .ok (.istore 4, 2) := by decide +kernel
theorem dX10_buy_66 : decode cX10_buy 66 = .ok (.aload_n 0, 1) := by decide +kernel
theorem dX10_buy_67 : decode cX10_buy 67 = .ok (.invokevirtual 134, 3) := by decide +kernel
theorem dX10_buy_70 : decode cX10_buy 70 = .ok (.istore 5, 2) := by decide +kernel
theorem dX10_buy_72 : decode cX10_buy 72 = .ok (.iinc 6 1, 3) := by decide +kernel
theorem dX10_buy_75 : decode cX10_buy 75 = .ok (.goto (-28), 3) := by decide +kernel
theorem dX10_buy_78 : decode cX10_buy 78 = .ok (.aload_n 0, 1) := by decide +kernel
theorem dX10_buy_79 : decode cX10_buy 79 = .ok (.invokevirtual 231, 3) := by decide +kernel
theorem dX10_buy_82 : decode cX10_buy 82 = .ok (.iload 5, 2) := by decide +kernel
theorem dX10_buy_84 : decode cX10_buy 84 = .ok (.ifCond .eq 7, 3) := by decide +kernel
theorem dX10_buy_87 : decode cX10_buy 87 = .ok (.iload_n 3, 1) := by decide +kernel
theorem dX10_buy_88 : decode cX10_buy 88 = .ok (.goto 5, 3) := by decide +kernel
theorem dX10_buy_91 : decode cX10_buy 91 = .ok (.bipush (-4), 2) := by decide +kernel
theorem dX10_buy_93 : decode cX10_buy 93 = .ok (.istore_n 2, 1) := by decide +kernel
theorem dX10_buy_94 : decode cX10_buy 94 = .ok (.iinc 3 1, 3) := by decide +kernel
theorem dX10_buy_97 : decode cX10_buy 97 = .ok (.goto (-69), 3) := by decide +kernel
theorem dX10_buy_100 : decode cX10_buy 100 = .ok (.iload_n 2, 1) := by decide +kernel
theorem dX10_buy_101 : decode cX10_buy 101 = .ok (.ireturn, 1) := by decide +kernel
theorem dX10_lightOf_0 : decode cX10_lightOf 0 = .ok (.aload_n 0, 1) := by decide +kernel
theorem dX10_lightOf_1 : decode cX10_lightOf 1 = .ok (.iload_n 1, 1) := by decide +kernel
theorem dX10_lightOf_2 : decode cX10_lightOf 2 = .ok (.putfield 125, 3) := by decide +kernel
theorem dX10_lightOf_5 : decode cX10_lightOf 5 = .ok (.aload_n 0, 1) := by decide +kernel
theorem dX10_lightOf_6 : decode cX10_lightOf 6 = .ok (.iconst 0, 1) := by decide +kernel
theorem dX10_lightOf_7 : decode cX10_lightOf 7 = .ok (.putfield 116, 3) := by decide +kernel
theorem dX10_lightOf_10 : decode cX10_lightOf 10 = .ok (.aload_n 0, 1) := by decide +kernel
theorem dX10_lightOf_11 : decode cX10_lightOf 11 = .ok (.invokevirtual 225, 3) := by decide +kernel
theorem dX10_lightOf_14 : decode cX10_lightOf 14 = .ok (.aload_n 0, 1) := by decide +kernel
theorem dX10_lightOf_15 : decode cX10_lightOf 15 = .ok (.iload_n 2, 1) := by decide +kernel
theorem dX10_lightOf_16 : decode cX10_lightOf 16 = .ok (.invokevirtual 204, 3) := by decide +kernel
theorem dX10_lightOf_19 : decode cX10_lightOf 19 = .ok (.aload_n 0, 1) := by decide +kernel
theorem dX10_lightOf_20 : decode cX10_lightOf 20 = .ok (.invokevirtual 231, 3) := by decide +kernel
theorem dX10_lightOf_23 : decode cX10_lightOf 23 = .ok (.aload_n 0, 1) := by decide +kernel
theorem dX10_lightOf_24 : decode cX10_lightOf 24 = .ok (.iconst 0, 1) := by decide +kernel
theorem dX10_lightOf_25 : decode cX10_lightOf 25 = .ok (.putfield 125, 3) := by decide +kernel
theorem dX10_lightOf_28 : decode cX10_lightOf 28 = .ok (.aload_n 0, 1) := by decide +kernel
theorem dX10_lightOf_29 : decode cX10_lightOf 29 = .ok (.getfield 116, 3) := by decide +kernel
theorem dX10_lightOf_32 : decode cX10_lightOf 32 = .ok (.ireturn, 1) := by decide +kernel
theorem dX10_light_0 : decode cX10_light 0 = .ok (.aload_n 0, 1) := by decide +kernel
theorem dX10_light_1 : decode cX10_light 1 = .ok (.iconst 0, 1) := by decide +kernel
theorem dX10_light_2 : decode cX10_light 2 = .ok (.putfield 78, 3) := by decide +kernel
theorem dX10_light_5 : decode cX10_light 5 = .ok (.iload_n 1, 1) := by decide +kernel
theorem dX10_light_6 : decode cX10_light 6 = .ok (.ifCond .lt 27, 3) := by decide +kernel
theorem dX10_light_9 : decode cX10_light 9 = .ok (.iload_n 1, 1) := by decide +kernel
theorem dX10_light_10 : decode cX10_light 10 = .ok (.ifCond .le 11, 3) := by decide +kernel
theorem dX10_light_13 : decode cX10_light 13 = .ok (.iload_n 1, 1) := by decide +kernel
theorem dX10_light_14 : decode cX10_light 14 = .ok (.aload_n 0, 1) := by decide +kernel
theorem dX10_light_15 : decode cX10_light 15 = .ok (.getfield 81, 3) := by decide +kernel
theorem dX10_light_18 : decode cX10_light 18 = .ok (.if_icmp .ge 15, 3) := by decide +kernel
theorem dX10_light_21 : decode cX10_light 21 = .ok (.iload_n 2, 1) := by decide +kernel
theorem dX10_light_22 : decode cX10_light 22 = .ok (.i2l, 1) := by decide +kernel
theorem dX10_light_23 : decode cX10_light 23 = .ok (.lconst 0, 1) := by decide +kernel
theorem dX10_light_24 : decode cX10_light 24 = .ok (.ldc2_w 332, 3) := by decide +kernel
theorem dX10_light_27 : decode cX10_light 27 = .ok (.invokestatic 84, 3) := by decide +kernel
theorem dX10_light_30 : decode cX10_light 30 = .ok (.ifCond .ne 7, 3) := by decide +kernel
theorem dX10_light_33 : decode cX10_light 33 = .ok (.iconst (-1), 1) := by decide +kernel
theorem dX10_light_34 : decode cX10_light 34 = .ok (.goto 9, 3) := by decide +kernel
theorem dX10_light_37 : decode cX10_light 37 = .ok (.aload_n 0, 1) := by decide +kernel
theorem dX10_light_38 : decode cX10_light 38 = .ok (.iload_n 1, 1) := by decide +kernel
theorem dX10_light_39 : decode cX10_light 39 = .ok (.iload_n 2, 1) := by decide +kernel
theorem dX10_light_40 : decode cX10_light 40 = .ok (.invokevirtual 334, 3) := by decide +kernel
theorem dX10_light_43 : decode cX10_light 43 = .ok (.ireturn, 1) := by decide +kernel
theorem dX10_split_0 : decode cX10_split 0 = .ok (.aload_n 0, 1) := by decide +kernel
theorem dX10_split_1 : decode cX10_split 1 = .ok (.iconst 0, 1) := by decide +kernel
theorem dX10_split_2 : decode cX10_split 2 = .ok (.putfield 78, 3) := by decide +kernel
theorem dX10_split_5 : decode cX10_split 5 = .ok (.iload_n 1, 1) := by decide +kernel
theorem dX10_split_6 : decode cX10_split 6 = .ok (.i2l, 1) := by decide +kernel
theorem dX10_split_7 : decode cX10_split 7 = .ok (.lconst 0, 1) := by decide +kernel
theorem dX10_split_8 : decode cX10_split 8 = .ok (.ldc2_w 332, 3) := by decide +kernel
theorem dX10_split_11 : decode cX10_split 11 = .ok (.invokestatic 84, 3) := by decide +kernel
theorem dX10_split_14 : decode cX10_split 14 = .ok (.ifCond .eq 13, 3) := by decide +kernel
theorem dX10_split_17 : decode cX10_split 17 = .ok (.iload_n 2, 1) := by decide +kernel
theorem dX10_split_18 : decode cX10_split 18 = .ok (.i2l, 1) := by decide +kernel
theorem dX10_split_19 : decode cX10_split 19 = .ok (.lconst 0, 1) := by decide +kernel
theorem dX10_split_20 : decode cX10_split 20 = .ok (.lconst 1, 1) := by decide +kernel
theorem dX10_split_21 : decode cX10_split 21 = .ok (.invokestatic 84, 3) := by decide +kernel
theorem dX10_split_24 : decode cX10_split 24 = .ok (.ifCond .ne 5, 3) := by decide +kernel
theorem dX10_split_27 : decode cX10_split 27 = .ok (.iconst (-1), 1) := by decide +kernel
theorem dX10_split_28 : decode cX10_split 28 = .ok (.ireturn, 1) := by decide +kernel
theorem dX10_split_29 : decode cX10_split 29 = .ok (.iconst 0, 1) := by decide +kernel
theorem dX10_split_30 : decode cX10_split 30 = .ok (.istore_n 3, 1) := by decide +kernel
theorem dX10_split_31 : decode cX10_split 31 = .ok (.iconst (-1), 1) := by decide +kernel
theorem dX10_split_32 : decode cX10_split 32 = .ok (.istore 4, 2) := by decide +kernel
theorem dX10_split_34 : decode cX10_split 34 = .ok (.iconst 0, 1) := by decide +kernel
theorem dX10_split_35 : decode cX10_split 35 = .ok (.istore 5, 2) := by decide +kernel
theorem dX10_split_37 : decode cX10_split 37 = .ok (.iload 5, 2) := by decide +kernel
theorem dX10_split_39 : decode cX10_split 39 = .ok (.ifCond .eq 12, 3) := by decide +kernel
theorem dX10_split_42 : decode cX10_split 42 = .ok (.iload 5, 2) := by decide +kernel
theorem dX10_split_44 : decode cX10_split 44 = .ok (.aload_n 0, 1) := by decide +kernel
theorem dX10_split_45 : decode cX10_split 45 = .ok (.getfield 81, 3) := by decide +kernel
theorem dX10_split_48 : decode cX10_split 48 = .ok (.if_icmp .ge 48, 3) := by decide +kernel
theorem dX10_split_51 : decode cX10_split 51 = .ok (.aload_n 0, 1) := by decide +kernel
theorem dX10_split_52 : decode cX10_split 52 = .ok (.iload 5, 2) := by decide +kernel
theorem dX10_split_54 : decode cX10_split 54 = .ok (.iload_n 1, 1) := by decide +kernel
theorem dX10_split_55 : decode cX10_split 55 = .ok (.invokevirtual 334, 3) := by decide +kernel
theorem dX10_split_58 : decode cX10_split 58 = .ok (.istore 6, 2) := by decide +kernel
theorem dX10_split_60 : decode cX10_split 60 = .ok (.iload 6, 2) := by decide +kernel
theorem dX10_split_62 : decode cX10_split 62 = .ok (.iload 4, 2) := by decide +kernel
theorem dX10_split_64 : decode cX10_split 64 = .ok (.if_icmp .le 8, 3) := by decide +kernel
theorem dX10_split_67 : decode cX10_split 67 = .ok (.iload 5, 2) := by decide +kernel
theorem dX10_split_69 : decode cX10_split 69 = .ok (.goto 4, 3) := by decide +kernel
theorem dX10_split_72 : decode cX10_split 72 = .ok (.iload_n 3, 1) := by decide +kernel
theorem dX10_split_73 : decode cX10_split 73 = .ok (.istore_n 3, 1) := by decide +kernel
theorem dX10_split_74 : decode cX10_split 74 = .ok (.iload 6, 2) := by decide +kernel
theorem dX10_split_76 : decode cX10_split 76 = .ok (.iload 4, 2) := by decide +kernel
theorem dX10_split_78 : decode cX10_split 78 = .ok (.if_icmp .le 8, 3) := by decide +kernel
theorem dX10_split_81 : decode cX10_split 81 = .ok (.iload 6, 2) := by decide +kernel
theorem dX10_split_83 : decode cX10_split 83 = .ok (.goto 5, 3) := by decide +kernel
theorem dX10_split_86 : decode cX10_split 86 = .ok (.iload 4, 2) := by decide +kernel
theorem dX10_split_88 : decode cX10_split 88 = .ok (.istore 4, 2) := by decide +kernel
theorem dX10_split_90 : decode cX10_split 90 = .ok (.iinc 5 1, 3) := by decide +kernel
theorem dX10_split_93 : decode cX10_split 93 = .ok (.goto (-56), 3) := by decide +kernel
theorem dX10_split_96 : decode cX10_split 96 = .ok (.iload_n 2, 1) := by decide +kernel
theorem dX10_split_97 : decode cX10_split 97 = .ok (.ifCond .ne 7, 3) := by decide +kernel
theorem dX10_split_100 : decode cX10_split 100 = .ok (.iload_n 3, 1) := by decide +kernel
theorem dX10_split_101 : decode cX10_split 101 = .ok (.goto 5, 3) := by decide +kernel
theorem dX10_split_104 : decode cX10_split 104 = .ok (.iload 4, 2) := by decide +kernel
theorem dX10_split_106 : decode cX10_split 106 = .ok (.ireturn, 1) := by decide +kernel
theorem dX10_beat_0 : decode cX10_beat 0 = .ok (.aload_n 0, 1) := by decide +kernel
theorem dX10_beat_1 : decode cX10_beat 1 = .ok (.iconst 0, 1) := by decide +kernel
theorem dX10_beat_2 : decode cX10_beat 2 = .ok (.putfield 78, 3) := by decide +kernel
theorem dX10_beat_5 : decode cX10_beat 5 = .ok (.aload_n 0, 1) := by decide +kernel
theorem dX10_beat_6 : decode cX10_beat 6 = .ok (.iload_n 1, 1) := by decide +kernel
theorem dX10_beat_7 : decode cX10_beat 7 = .ok (.invokevirtual 193, 3) := by decide +kernel
theorem dX10_beat_10 : decode cX10_beat 10 = .ok (.ifCond .eq 25, 3) := by decide +kernel
theorem dX10_beat_13 : decode cX10_beat 13 = .ok (.iload_n 2, 1) := by decide +kernel
theorem dX10_beat_14 : decode cX10_beat 14 = .ok (.i2l, 1) := by decide +kernel
theorem dX10_beat_15 : decode cX10_beat 15 = .ok (.lconst 0, 1) := by decide +kernel
theorem dX10_beat_16 : decode cX10_beat 16 = .ok (.ldc2_w 202, 3) := by decide +kernel
theorem dX10_beat_19 : decode cX10_beat 19 = .ok (.invokestatic 84, 3) := by decide +kernel
theorem dX10_beat_22 : decode cX10_beat 22 = .ok (.ifCond .eq 13, 3) := by decide +kernel
theorem dX10_beat_25 : decode cX10_beat 25 = .ok (.iload_n 3, 1) := by decide +kernel
theorem dX10_beat_26 : decode cX10_beat 26 = .ok (.i2l, 1) := by decide +kernel
theorem dX10_beat_27 : decode cX10_beat 27 = .ok (.lconst 0, 1) := by decide +kernel
theorem dX10_beat_28 : decode cX10_beat 28 = .ok (.lconst 1, 1) := by decide +kernel
theorem dX10_beat_29 : decode cX10_beat 29 = .ok (.invokestatic 84, 3) := by decide +kernel
theorem dX10_beat_32 : decode cX10_beat 32 = .ok (.ifCond .ne 5, 3) := by decide +kernel
theorem dX10_beat_35 : decode cX10_beat 35 = .ok (.iconst (-1), 1) := by decide +kernel
theorem dX10_beat_36 : decode cX10_beat 36 = .ok (.ireturn, 1) := by decide +kernel
theorem dX10_beat_37 : decode cX10_beat 37 = .ok (.iconst 0, 1) := by decide +kernel
theorem dX10_beat_38 : decode cX10_beat 38 = .ok (.istore 4, 2) := by decide +kernel
theorem dX10_beat_40 : decode cX10_beat 40 = .ok (.iconst (-1), 1) := by decide +kernel
theorem dX10_beat_41 : decode cX10_beat 41 = .ok (.istore 5, 2) := by decide +kernel
theorem dX10_beat_43 : decode cX10_beat 43 = .ok (.aload_n 0, 1) := by decide +kernel
theorem dX10_beat_44 : decode cX10_beat 44 = .ok (.invokevirtual 225, 3) := by decide +kernel
theorem dX10_beat_47 : decode cX10_beat 47 = .ok (.iconst 0, 1) := by decide +kernel
theorem dX10_beat_48 : decode cX10_beat 48 = .ok (.istore 6, 2) := by decide +kernel
theorem dX10_beat_50 : decode cX10_beat 50 = .ok (.iload 6, 2) := by decide +kernel
theorem dX10_beat_52 : decode cX10_beat 52 = .ok (.bipush 10, 2) := by decide +kernel
theorem dX10_beat_54 : decode cX10_beat 54 = .ok (.if_icmp .ge 88, 3) := by decide +kernel
theorem dX10_beat_57 : decode cX10_beat 57 = .ok (.aload_n 0, 1) := by decide +kernel
theorem dX10_beat_58 : decode cX10_beat 58 = .ok (.getfield 13, 3) := by decide +kernel
theorem dX10_beat_61 : decode cX10_beat 61 = .ok (.iload_n 1, 1) := by decide +kernel
theorem dX10_beat_62 : decode cX10_beat 62 = .ok (.iload 6, 2) := by decide +kernel
theorem dX10_beat_64 : decode cX10_beat 64 = .ok (.iastore, 1) := by decide +kernel
theorem dX10_beat_65 : decode cX10_beat 65 = .ok (.iconst 0, 1) := by decide +kernel
theorem dX10_beat_66 : decode cX10_beat 66 = .ok (.istore 7, 2) := by decide +kernel
theorem dX10_beat_68 : decode cX10_beat 68 = .ok (.iconst 0, 1) := by decide +kernel
theorem dX10_beat_69 : decode cX10_beat 69 = .ok (.istore 8, 2) := by decide +kernel
theorem dX10_beat_71 : decode cX10_beat 71 = .ok (.iload 8, 2) := by decide +kernel
theorem dX10_beat_73 : decode cX10_beat 73 = .ok (.iload_n 2, 1) := by decide +kernel
theorem dX10_beat_74 : decode cX10_beat 74 = .ok (.if_icmp .ge 26, 3) := by decide +kernel
theorem dX10_beat_77 : decode cX10_beat 77 = .ok (.iload 7, 2) := by decide +kernel
theorem dX10_beat_79 : decode cX10_beat 79 = .ok (.aload_n 0, 1) := by decide +kernel
theorem dX10_beat_80 : decode cX10_beat 80 = .ok (.invokevirtual 134, 3) := by decide +kernel
theorem dX10_beat_83 : decode cX10_beat 83 = .ok (.ifCond .eq 7, 3) := by decide +kernel
theorem dX10_beat_86 : decode cX10_beat 86 = .ok (.iconst 1, 1) := by decide +kernel
theorem dX10_beat_87 : decode cX10_beat 87 = .ok (.goto 4, 3) := by decide +kernel
theorem dX10_beat_90 : decode cX10_beat 90 = .ok (.iconst 0, 1) := by decide +kernel
theorem dX10_beat_91 : decode cX10_beat 91 = .ok (.iadd, 1) := by decide +kernel
theorem dX10_beat_92 : decode cX10_beat 92 = .ok (.istore 7, 2) := by decide +kernel
theorem dX10_beat_94 : decode cX10_beat 94 = .ok (.iinc 8 1, 3) := by decide +kernel
theorem dX10_beat_97 : decode cX10_beat 97 = .ok (.goto (-26), 3) := by decide +kernel
theorem dX10_beat_100 : decode cX10_beat 100 = .ok (.aload_n 0, 1) := by decide +kernel
theorem dX10_beat_101 : decode cX10_beat 101 = .ok (.invokevirtual 231, 3) := by decide +kernel
theorem dX10_beat_104 : decode cX10_beat 104 = .ok (.iload 7, 2) := by decide +kernel
theorem dX10_beat_106 : decode cX10_beat 106 = .ok (.iload 5, 2) := by decide +kernel
theorem dX10_beat_108 : decode cX10_beat 108 = .ok (.if_icmp .le 8, 3) := by decide +kernel
theorem dX10_beat_111 : decode cX10_beat 111 = .ok (.iload 6, 2) := by decide +kernel
theorem dX10_beat_113 : decode cX10_beat 113 = .ok (.goto 5, 3) := by decide +kernel
theorem dX10_beat_116 : decode cX10_beat 116 = .ok (.iload 4, 2) := by decide +kernel
theorem dX10_beat_118 : decode cX10_beat 118 = .ok (.istore 4, 2) := by decide +kernel
theorem dX10_beat_120 : decode cX10_beat 120 = .ok (.iload 7, 2) := by decide +kernel
theorem dX10_beat_122 : decode cX10_beat 122 = .ok (.iload 5, 2) := by decide +kernel
theorem dX10_beat_124 : decode cX10_beat 124 = .ok (.if_icmp .le 8, 3) := by decide +kernel
theorem dX10_beat_127 : decode cX10_beat 127 = .ok (.iload 7, 2) := by decide +kernel
theorem dX10_beat_129 : decode cX10_beat 129 = .ok (.goto 5, 3) := by decide +kernel
theorem dX10_beat_132 : decode cX10_beat 132 = .ok (.iload 5, 2) := by decide +kernel
theorem dX10_beat_134 : decode cX10_beat 134 = .ok (.istore 5, 2) := by decide +kernel
theorem dX10_beat_136 : decode cX10_beat 136 = .ok (.iinc 6 1, 3) := by decide +kernel
theorem dX10_beat_139 : decode cX10_beat 139 = .ok (.goto (-89), 3) := by decide +kernel
theorem dX10_beat_142 : decode cX10_beat 142 = .ok (.iload_n 3, 1) := by decide +kernel
theorem dX10_beat_143 : decode cX10_beat 143 = .ok (.ifCond .ne 8, 3) := by decide +kernel
theorem dX10_beat_146 : decode cX10_beat 146 = .ok (.iload 4, 2) := by decide +kernel
theorem dX10_beat_148 : decode cX10_beat 148 = .ok (.goto 5, 3) := by decide +kernel
theorem dX10_beat_151 : decode cX10_beat 151 = .ok (.iload 5, 2) := by decide +kernel
theorem dX10_beat_153 : decode cX10_beat 153 = .ok (.ireturn, 1) := by decide +kernel
theorem dX10_end_0 : decode cX10_end 0 = .ok (.aload_n 0, 1) := by decide +kernel
theorem dX10_end_1 : decode cX10_end 1 = .ok (.iconst 0, 1) := by decide +kernel
theorem dX10_end_2 : decode cX10_end 2 = .ok (.putfield 78, 3) := by decide +kernel
theorem dX10_end_5 : decode cX10_end 5 = .ok (.iload_n 1, 1) := by decide +kernel
theorem dX10_end_6 : decode cX10_end 6 = .ok (.i2l, 1) := by decide +kernel
theorem dX10_end_7 : decode cX10_end 7 = .ok (.lconst 0, 1) := by decide +kernel
theorem dX10_end_8 : decode cX10_end 8 = .ok (.lconst 1, 1) := by decide +kernel
theorem dX10_end_9 : decode cX10_end 9 = .ok (.invokestatic 84, 3) := by decide +kernel
theorem dX10_end_12 : decode cX10_end 12 = .ok (.ifCond .ne 5, 3) := by decide +kernel
theorem dX10_end_15 : decode cX10_end 15 = .ok (.iconst (-1), 1) := by decide +kernel
theorem dX10_end_16 : decode cX10_end 16 = .ok (.ireturn, 1) := by decide +kernel
theorem dX10_end_17 : decode cX10_end 17 = .ok (.iconst 0, 1) := by decide +kernel
theorem dX10_end_18 : decode cX10_end 18 = .ok (.istore_n 2, 1) := by decide +kernel
theorem dX10_end_19 : decode cX10_end 19 = .ok (.iconst 0, 1) := by decide +kernel
end
section
theorem dX10_end_20 : decode cX10_end 20 = .ok (.istore_n 3, 1) := by decide +kernel
theorem dX10_end_21 : decode cX10_end 21 = .ok (.iconst 0, 1) := by decide +kernel
theorem dX10_end_22 : decode cX10_end 22 = .ok (.istore 4, 2) := by decide +kernel
theorem dX10_end_24 : decode cX10_end 24 = .ok (.iload 4, 2) := by decide +kernel
theorem dX10_end_26 : decode cX10_end 26 = .ok (.aload_n 0, 1) := by decide +kernel
theorem dX10_end_27 : decode cX10_end 27 = .ok (.getfield 81, 3) := by decide +kernel
theorem dX10_end_30 : decode cX10_end 30 = .ok (.if_icmp .ge 46, 3) := by decide +kernel
theorem dX10_end_33 : decode cX10_end 33 = .ok (.iload_n 2, 1) := by decide +kernel
theorem dX10_end_34 : decode cX10_end 34 = .ok (.iload 4, 2) := by decide +kernel
theorem dX10_end_36 : decode cX10_end 36 = .ok (.aload_n 0, 1) := by decide +kernel
theorem dX10_end_37 : decode cX10_end 37 = .ok (.getfield 16, 3) := by decide +kernel
theorem dX10_end_40 : decode cX10_end 40 = .ok (.iload 4, 2) := by decide +kernel
theorem dX10_end_42 : decode cX10_end 42 = .ok (.iaload, 1) := by decide +kernel
theorem dX10_end_43 : decode cX10_end 43 = .ok (.iconst 1, 1) := by decide +kernel
theorem dX10_end_44 : decode cX10_end 44 = .ok (.iadd, 1) := by decide +kernel
theorem dX10_end_45 : decode cX10_end 45 = .ok (.imul, 1) := by decide +kernel
theorem dX10_end_46 : decode cX10_end 46 = .ok (.iadd, 1) := by decide +kernel
theorem dX10_end_47 : decode cX10_end 47 = .ok (.istore_n 2, 1) := by decide +kernel
theorem dX10_end_48 : decode cX10_end 48 = .ok (.iload_n 3, 1) := by decide +kernel
theorem dX10_end_49 : decode cX10_end 49 = .ok (.aload_n 0, 1) := by decide +kernel
theorem dX10_end_50 : decode cX10_end 50 = .ok (.getfield 81, 3) := by decide +kernel
theorem dX10_end_53 : decode cX10_end 53 = .ok (.iconst 1, 1) := by decide +kernel
theorem dX10_end_54 : decode cX10_end 54 = .ok (.isub, 1) := by decide +kernel
theorem dX10_end_55 : decode cX10_end 55 = .ok (.iload 4, 2) := by decide +kernel
theorem dX10_end_57 : decode cX10_end 57 = .ok (.isub, 1) := by decide +kernel
theorem dX10_end_58 : decode cX10_end 58 = .ok (.aload_n 0, 1) := by decide +kernel
theorem dX10_end_59 : decode cX10_end 59 = .ok (.getfield 16, 3) := by decide +kernel
theorem dX10_end_62 : decode cX10_end 62 = .ok (.iload 4, 2) := by decide +kernel
theorem dX10_end_64 : decode cX10_end 64 = .ok (.iaload, 1) := by decide +kernel
theorem dX10_end_65 : decode cX10_end 65 = .ok (.iconst 1, 1) := by decide +kernel
theorem dX10_end_66 : decode cX10_end 66 = .ok (.iadd, 1) := by decide +kernel
theorem dX10_end_67 : decode cX10_end 67 = .ok (.imul, 1) := by decide +kernel
theorem dX10_end_68 : decode cX10_end 68 = .ok (.iadd, 1) := by decide +kernel
theorem dX10_end_69 : decode cX10_end 69 = .ok (.istore_n 3, 1) := by decide +kernel
theorem dX10_end_70 : decode cX10_end 70 = .ok (.iinc 4 1, 3) := by decide +kernel
theorem dX10_end_73 : decode cX10_end 73 = .ok (.goto (-49), 3) := by decide +kernel
theorem dX10_end_76 : decode cX10_end 76 = .ok (.iload_n 1, 1) := by decide +kernel
theorem dX10_end_77 : decode cX10_end 77 = .ok (.ifCond .ne 16, 3) := by decide +kernel
theorem dX10_end_80 : decode cX10_end 80 = .ok (.iload_n 3, 1) := by decide +kernel
theorem dX10_end_81 : decode cX10_end 81 = .ok (.iload_n 2, 1) := by decide +kernel
theorem dX10_end_82 : decode cX10_end 82 = .ok (.if_icmp .ge 7, 3) := by decide +kernel
theorem dX10_end_85 : decode cX10_end 85 = .ok (.iconst 1, 1) := by decide +kernel
theorem dX10_end_86 : decode cX10_end 86 = .ok (.goto 17, 3) := by decide +kernel
theorem dX10_end_89 : decode cX10_end 89 = .ok (.iconst 0, 1) := by decide +kernel
theorem dX10_end_90 : decode cX10_end 90 = .ok (.goto 13, 3) := by decide +kernel
theorem dX10_end_93 : decode cX10_end 93 = .ok (.iload_n 3, 1) := by decide +kernel
theorem dX10_end_94 : decode cX10_end 94 = .ok (.iload_n 2, 1) := by decide +kernel
theorem dX10_end_95 : decode cX10_end 95 = .ok (.if_icmp .ge 7, 3) := by decide +kernel
theorem dX10_end_98 : decode cX10_end 98 = .ok (.iload_n 3, 1) := by decide +kernel
theorem dX10_end_99 : decode cX10_end 99 = .ok (.goto 4, 3) := by decide +kernel
theorem dX10_end_102 : decode cX10_end 102 = .ok (.iload_n 2, 1) := by decide +kernel
theorem dX10_end_103 : decode cX10_end 103 = .ok (.ireturn, 1) := by decide +kernel
theorem dX10_leastOf_0 : decode cX10_leastOf 0 = .ok (.iload_n 0, 1) := by decide +kernel
theorem dX10_leastOf_1 : decode cX10_leastOf 1 = .ok (.ifCond .ne 9, 3) := by decide +kernel
theorem dX10_leastOf_4 : decode cX10_leastOf 4 = .ok (.ldc2_w 337, 3) := by decide +kernel
theorem dX10_leastOf_7 : decode cX10_leastOf 7 = .ok (.goto 17, 3) := by decide +kernel
theorem dX10_leastOf_10 : decode cX10_leastOf 10 = .ok (.iload_n 0, 1) := by decide +kernel
theorem dX10_leastOf_11 : decode cX10_leastOf 11 = .ok (.iconst 1, 1) := by decide +kernel
theorem dX10_leastOf_12 : decode cX10_leastOf 12 = .ok (.if_icmp .ne 9, 3) := by decide +kernel
theorem dX10_leastOf_15 : decode cX10_leastOf 15 = .ok (.ldc2_w 339, 3) := by decide +kernel
theorem dX10_leastOf_18 : decode cX10_leastOf 18 = .ok (.goto 6, 3) := by decide +kernel
theorem dX10_leastOf_21 : decode cX10_leastOf 21 = .ok (.ldc2_w 341, 3) := by decide +kernel
theorem dX10_leastOf_24 : decode cX10_leastOf 24 = .ok (.lreturn, 1) := by decide +kernel
theorem dX10_isSkipped_0 : decode cX10_isSkipped 0 = .ok (.aload_n 0, 1) := by decide +kernel
theorem dX10_isSkipped_1 : decode cX10_isSkipped 1 = .ok (.getfield 41, 3) := by decide +kernel
theorem dX10_isSkipped_4 : decode cX10_isSkipped 4 = .ok (.bipush 100, 2) := by decide +kernel
theorem dX10_isSkipped_6 : decode cX10_isSkipped 6 = .ok (.iload_n 1, 1) := by decide +kernel
theorem dX10_isSkipped_7 : decode cX10_isSkipped 7 = .ok (.imul, 1) := by decide +kernel
theorem dX10_isSkipped_8 : decode cX10_isSkipped 8 = .ok (.iload_n 2, 1) := by decide +kernel
theorem dX10_isSkipped_9 : decode cX10_isSkipped 9 = .ok (.iadd, 1) := by decide +kernel
theorem dX10_isSkipped_10 : decode cX10_isSkipped 10 = .ok (.laload, 1) := by decide +kernel
theorem dX10_isSkipped_11 : decode cX10_isSkipped 11 = .ok (.aload_n 0, 1) := by decide +kernel
theorem dX10_isSkipped_12 : decode cX10_isSkipped 12 = .ok (.getfield 35, 3) := by decide +kernel
theorem dX10_isSkipped_15 : decode cX10_isSkipped 15 = .ok (.iload_n 1, 1) := by decide +kernel
theorem dX10_isSkipped_16 : decode cX10_isSkipped 16 = .ok (.iaload, 1) := by decide +kernel
theorem dX10_isSkipped_17 : decode cX10_isSkipped 17 = .ok (.invokestatic 343, 3) := by decide +kernel
theorem dX10_isSkipped_20 : decode cX10_isSkipped 20 = .ok (.lcmp, 1) := by decide +kernel
theorem dX10_isSkipped_21 : decode cX10_isSkipped 21 = .ok (.ifCond .ne 7, 3) := by decide +kernel
theorem dX10_isSkipped_24 : decode cX10_isSkipped 24 = .ok (.iconst 1, 1) := by decide +kernel
theorem dX10_isSkipped_25 : decode cX10_isSkipped 25 = .ok (.goto 4, 3) := by decide +kernel
theorem dX10_isSkipped_28 : decode cX10_isSkipped 28 = .ok (.iconst 0, 1) := by decide +kernel
theorem dX10_isSkipped_29 : decode cX10_isSkipped 29 = .ok (.ireturn, 1) := by decide +kernel
theorem dX10_isWornRow_0 : decode cX10_isWornRow 0 = .ok (.iconst 1, 1) := by decide +kernel
theorem dX10_isWornRow_1 : decode cX10_isWornRow 1 = .ok (.istore 4, 2) := by decide +kernel
theorem dX10_isWornRow_3 : decode cX10_isWornRow 3 = .ok (.aload_n 0, 1) := by decide +kernel
theorem dX10_isWornRow_4 : decode cX10_isWornRow 4 = .ok (.iload_n 3, 1) := by decide +kernel
theorem dX10_isWornRow_5 : decode cX10_isWornRow 5 = .ok (.invokevirtual 204, 3) := by decide +kernel
theorem dX10_isWornRow_8 : decode cX10_isWornRow 8 = .ok (.iconst 0, 1) := by decide +kernel
theorem dX10_isWornRow_9 : decode cX10_isWornRow 9 = .ok (.istore 5, 2) := by decide +kernel
theorem dX10_isWornRow_11 : decode cX10_isWornRow 11 = .ok (.iload 5, 2) := by decide +kernel
theorem dX10_isWornRow_13 : decode cX10_isWornRow 13 = .ok (.aload_n 0, 1) := by decide +kernel
theorem dX10_isWornRow_14 : decode cX10_isWornRow 14 = .ok (.getfield 38, 3) := by decide +kernel
theorem dX10_isWornRow_17 : decode cX10_isWornRow 17 = .ok (.iload_n 1, 1) := by decide +kernel
theorem dX10_isWornRow_18 : decode cX10_isWornRow 18 = .ok (.iaload, 1) := by decide +kernel
theorem dX10_isWornRow_19 : decode cX10_isWornRow 19 = .ok (.if_icmp .ge 59, 3) := by decide +kernel
theorem dX10_isWornRow_22 : decode cX10_isWornRow 22 = .ok (.iload 4, 2) := by decide +kernel
theorem dX10_isWornRow_24 : decode cX10_isWornRow 24 = .ok (.ifCond .eq 54, 3) := by decide +kernel
theorem dX10_isWornRow_27 : decode cX10_isWornRow 27 = .ok (.aload_n 0, 1) := by decide +kernel
theorem dX10_isWornRow_28 : decode cX10_isWornRow 28 = .ok (.iload_n 1, 1) := by decide +kernel
theorem dX10_isWornRow_29 : decode cX10_isWornRow 29 = .ok (.iload 5, 2) := by decide +kernel
theorem dX10_isWornRow_31 : decode cX10_isWornRow 31 = .ok (.invokevirtual 347, 3) := by decide +kernel
theorem dX10_isWornRow_34 : decode cX10_isWornRow 34 = .ok (.ifCond .ne 26, 3) := by decide +kernel
theorem dX10_isWornRow_37 : decode cX10_isWornRow 37 = .ok (.aload_n 0, 1) := by decide +kernel
theorem dX10_isWornRow_38 : decode cX10_isWornRow 38 = .ok (.getfield 41, 3) := by decide +kernel
theorem dX10_isWornRow_41 : decode cX10_isWornRow 41 = .ok (.bipush 100, 2) := by decide +kernel
theorem dX10_isWornRow_43 : decode cX10_isWornRow 43 = .ok (.iload_n 1, 1) := by decide +kernel
theorem dX10_isWornRow_44 : decode cX10_isWornRow 44 = .ok (.imul, 1) := by decide +kernel
theorem dX10_isWornRow_45 : decode cX10_isWornRow 45 = .ok (.iload 5, 2) := by decide +kernel
theorem dX10_isWornRow_47 : decode cX10_isWornRow 47 = .ok (.iadd, 1) := by decide +kernel
theorem dX10_isWornRow_48 : decode cX10_isWornRow 48 = .ok (.laload, 1) := by decide +kernel
theorem dX10_isWornRow_49 : decode cX10_isWornRow 49 = .ok (.aload_n 0, 1) := by decide +kernel
theorem dX10_isWornRow_50 : decode cX10_isWornRow 50 = .ok (.getfield 16, 3) := by decide +kernel
theorem dX10_isWornRow_53 : decode cX10_isWornRow 53 = .ok (.iload_n 2, 1) := by decide +kernel
theorem dX10_isWornRow_54 : decode cX10_isWornRow 54 = .ok (.iaload, 1) := by decide +kernel
theorem dX10_isWornRow_55 : decode cX10_isWornRow 55 = .ok (.i2l, 1) := by decide +kernel
theorem dX10_isWornRow_56 : decode cX10_isWornRow 56 = .ok (.lcmp, 1) := by decide +kernel
theorem dX10_isWornRow_57 : decode cX10_isWornRow 57 = .ok (.ifCond .ne 7, 3) := by decide +kernel
theorem dX10_isWornRow_60 : decode cX10_isWornRow 60 = .ok (.iconst 1, 1) := by decide +kernel
theorem dX10_isWornRow_61 : decode cX10_isWornRow 61 = .ok (.goto 4, 3) := by decide +kernel
theorem dX10_isWornRow_64 : decode cX10_isWornRow 64 = .ok (.iconst 0, 1) := by decide +kernel
theorem dX10_isWornRow_65 : decode cX10_isWornRow 65 = .ok (.istore 4, 2) := by decide +kernel
theorem dX10_isWornRow_67 : decode cX10_isWornRow 67 = .ok (.aload_n 0, 1) := by decide +kernel
theorem dX10_isWornRow_68 : decode cX10_isWornRow 68 = .ok (.invokevirtual 134, 3) := by decide +kernel
theorem dX10_isWornRow_71 : decode cX10_isWornRow 71 = .ok (.pop, 1) := by decide +kernel
theorem dX10_isWornRow_72 : decode cX10_isWornRow 72 = .ok (.iinc 5 1, 3) := by decide +kernel
theorem dX10_isWornRow_75 : decode cX10_isWornRow 75 = .ok (.goto (-64), 3) := by decide +kernel
theorem dX10_isWornRow_78 : decode cX10_isWornRow 78 = .ok (.aload_n 0, 1) := by decide +kernel
theorem dX10_isWornRow_79 : decode cX10_isWornRow 79 = .ok (.invokevirtual 231, 3) := by decide +kernel
theorem dX10_isWornRow_82 : decode cX10_isWornRow 82 = .ok (.iload 4, 2) := by decide +kernel
theorem dX10_isWornRow_84 : decode cX10_isWornRow 84 = .ok (.ireturn, 1) := by decide +kernel
theorem dX10_whatIs_0 : decode cX10_whatIs 0 = .ok (.aload_n 0, 1) := by decide +kernel
theorem dX10_whatIs_1 : decode cX10_whatIs 1 = .ok (.iconst 0, 1) := by decide +kernel
theorem dX10_whatIs_2 : decode cX10_whatIs 2 = .ok (.putfield 78, 3) := by decide +kernel
theorem dX10_whatIs_5 : decode cX10_whatIs 5 = .ok (.aload_n 0, 1) := by decide +kernel
theorem dX10_whatIs_6 : decode cX10_whatIs 6 = .ok (.iload_n 2, 1) := by decide +kernel
theorem dX10_whatIs_7 : decode cX10_whatIs 7 = .ok (.invokevirtual 193, 3) := by decide +kernel
theorem dX10_whatIs_10 : decode cX10_whatIs 10 = .ok (.ifCond .eq 21, 3) := by decide +kernel
theorem dX10_whatIs_13 : decode cX10_whatIs 13 = .ok (.iload_n 3, 1) := by decide +kernel
theorem dX10_whatIs_14 : decode cX10_whatIs 14 = .ok (.i2l, 1) := by decide +kernel
theorem dX10_whatIs_15 : decode cX10_whatIs 15 = .ok (.lconst 0, 1) := by decide +kernel
theorem dX10_whatIs_16 : decode cX10_whatIs 16 = .ok (.lconst 1, 1) := by decide +kernel
theorem dX10_whatIs_17 : decode cX10_whatIs 17 = .ok (.invokestatic 84, 3) := by decide +kernel
theorem dX10_whatIs_20 : decode cX10_whatIs 20 = .ok (.ifCond .eq 11, 3) := by decide +kernel
theorem dX10_whatIs_23 : decode cX10_whatIs 23 = .ok (.aload_n 0, 1) := by decide +kernel
theorem dX10_whatIs_24 : decode cX10_whatIs 24 = .ok (.iload_n 1, 1) := by decide +kernel
theorem dX10_whatIs_25 : decode cX10_whatIs 25 = .ok (.invokevirtual 219, 3) := by decide +kernel
theorem dX10_whatIs_28 : decode cX10_whatIs 28 = .ok (.goto 4, 3) := by decide +kernel
theorem dX10_whatIs_31 : decode cX10_whatIs 31 = .ok (.iconst (-1), 1) := by decide +kernel
theorem dX10_whatIs_32 : decode cX10_whatIs 32 = .ok (.istore 4, 2) := by decide +kernel
theorem dX10_whatIs_34 : decode cX10_whatIs 34 = .ok (.iload 4, 2) := by decide +kernel
theorem dX10_whatIs_36 : decode cX10_whatIs 36 = .ok (.ifCond .ge 6, 3) := by decide +kernel
theorem dX10_whatIs_39 : decode cX10_whatIs 39 = .ok (.iload 4, 2) := by decide +kernel
theorem dX10_whatIs_41 : decode cX10_whatIs 41 = .ok (.ireturn, 1) := by decide +kernel
theorem dX10_whatIs_42 : decode cX10_whatIs 42 = .ok (.iconst 0, 1) := by decide +kernel
theorem dX10_whatIs_43 : decode cX10_whatIs 43 = .ok (.istore 5, 2) := by decide +kernel
theorem dX10_whatIs_45 : decode cX10_whatIs 45 = .ok (.aload_n 0, 1) := by decide +kernel
theorem dX10_whatIs_46 : decode cX10_whatIs 46 = .ok (.invokevirtual 225, 3) := by decide +kernel
theorem dX10_whatIs_49 : decode cX10_whatIs 49 = .ok (.iconst 0, 1) := by decide +kernel
theorem dX10_whatIs_50 : decode cX10_whatIs 50 = .ok (.istore 6, 2) := by decide +kernel
theorem dX10_whatIs_52 : decode cX10_whatIs 52 = .ok (.iload 6, 2) := by decide +kernel
theorem dX10_whatIs_54 : decode cX10_whatIs 54 = .ok (.iload_n 3, 1) := by decide +kernel
theorem dX10_whatIs_55 : decode cX10_whatIs 55 = .ok (.ifCond .ne 8, 3) := by decide +kernel
theorem dX10_whatIs_58 : decode cX10_whatIs 58 = .ok (.bipush 8, 2) := by decide +kernel
theorem dX10_whatIs_60 : decode cX10_whatIs 60 = .ok (.goto 5, 3) := by decide +kernel
theorem dX10_whatIs_63 : decode cX10_whatIs 63 = .ok (.bipush 10, 2) := by decide +kernel
theorem dX10_whatIs_65 : decode cX10_whatIs 65 = .ok (.if_icmp .ge 75, 3) := by decide +kernel
theorem dX10_whatIs_68 : decode cX10_whatIs 68 = .ok (.aload_n 0, 1) := by decide +kernel
theorem dX10_whatIs_69 : decode cX10_whatIs 69 = .ok (.getfield 7, 3) := by decide +kernel
theorem dX10_whatIs_72 : decode cX10_whatIs 72 = .ok (.iload_n 2, 1) := by decide +kernel
theorem dX10_whatIs_73 : decode cX10_whatIs 73 = .ok (.iload_n 3, 1) := by decide +kernel
theorem dX10_whatIs_74 : decode cX10_whatIs 74 = .ok (.ifCond .ne 8, 3) := by decide +kernel
theorem dX10_whatIs_77 : decode cX10_whatIs 77 = .ok (.iload 6, 2) := by decide +kernel
theorem dX10_whatIs_79 : decode cX10_whatIs 79 = .ok (.goto 9, 3) := by decide +kernel
theorem dX10_whatIs_82 : decode cX10_whatIs 82 = .ok (.aload_n 0, 1) := by decide +kernel
theorem dX10_whatIs_83 : decode cX10_whatIs 83 = .ok (.getfield 7, 3) := by decide +kernel
theorem dX10_whatIs_86 : decode cX10_whatIs 86 = .ok (.iload_n 2, 1) := by decide +kernel
theorem dX10_whatIs_87 : decode cX10_whatIs 87 = .ok (.iaload, 1) := by decide +kernel
theorem dX10_whatIs_88 : decode cX10_whatIs 88 = .ok (.iastore, 1) := by decide +kernel
theorem dX10_whatIs_89 : decode cX10_whatIs 89 = .ok (.aload_n 0, 1) := by decide +kernel
theorem dX10_whatIs_90 : decode cX10_whatIs 90 = .ok (.getfield 13, 3) := by decide +kernel
theorem dX10_whatIs_93 : decode cX10_whatIs 93 = .ok (.iload_n 2, 1) := by decide +kernel
theorem dX10_whatIs_94 : decode cX10_whatIs 94 = .ok (.iload_n 3, 1) := by decide +kernel
theorem dX10_whatIs_95 : decode cX10_whatIs 95 = .ok (.iconst 1, 1) := by decide +kernel
theorem dX10_whatIs_96 : decode cX10_whatIs 96 = .ok (.if_icmp .ne 8, 3) := by decide +kernel
theorem dX10_whatIs_99 : decode cX10_whatIs 99 = .ok (.iload 6, 2) := by decide +kernel
theorem dX10_whatIs_101 : decode cX10_whatIs 101 = .ok (.goto 9, 3) := by decide +kernel
theorem dX10_whatIs_104 : decode cX10_whatIs 104 = .ok (.aload_n 0, 1) := by decide +kernel
theorem dX10_whatIs_105 : decode cX10_whatIs 105 = .ok (.getfield 13, 3) := by decide +kernel
theorem dX10_whatIs_108 : decode cX10_whatIs 108 = .ok (.iload_n 2, 1) := by decide +kernel
theorem dX10_whatIs_109 : decode cX10_whatIs 109 = .ok (.iaload, 1) := by decide +kernel
theorem dX10_whatIs_110 : decode cX10_whatIs 110 = .ok (.iastore, 1) := by decide +kernel
theorem dX10_whatIs_111 : decode cX10_whatIs 111 = .ok (.iload 5, 2) := by decide +kernel
theorem dX10_whatIs_113 : decode cX10_whatIs 113 = .ok (.aload_n 0, 1) := by decide +kernel
theorem dX10_whatIs_114 : decode cX10_whatIs 114 = .ok (.iload_n 1, 1) := by decide +kernel
theorem dX10_whatIs_115 : decode cX10_whatIs 115 = .ok (.iload_n 2, 1) := by decide +kernel
theorem dX10_whatIs_116 : decode cX10_whatIs 116 = .ok (.iconst 0, 1) := by decide +kernel
theorem dX10_whatIs_117 : decode cX10_whatIs 117 = .ok (.invokevirtual 350, 3) := by decide +kernel
theorem dX10_whatIs_120 : decode cX10_whatIs 120 = .ok (.ifCond .eq 10, 3) := by decide +kernel
theorem dX10_whatIs_123 : decode cX10_whatIs 123 = .ok (.iconst 1, 1) := by decide +kernel
theorem dX10_whatIs_124 : decode cX10_whatIs 124 = .ok (.iload 6, 2) := by decide +kernel
theorem dX10_whatIs_126 : decode cX10_whatIs 126 = .ok (.ishl, 1) := by decide +kernel
theorem dX10_whatIs_127 : decode cX10_whatIs 127 = .ok (.goto 4, 3) := by decide +kernel
theorem dX10_whatIs_130 : decode cX10_whatIs 130 = .ok (.iconst 0, 1) := by decide +kernel
theorem dX10_whatIs_131 : decode cX10_whatIs 131 = .ok (.ior, 1) := by decide +kernel
theorem dX10_whatIs_132 : decode cX10_whatIs 132 = .ok (.istore 5, 2) := by decide +kernel
theorem dX10_whatIs_134 : decode cX10_whatIs 134 = .ok (.iinc 6 1, 3) := by decide +kernel
theorem dX10_whatIs_137 : decode cX10_whatIs 137 = .ok (.goto (-85), 3) := by decide +kernel
theorem dX10_whatIs_140 : decode cX10_whatIs 140 = .ok (.iload 5, 2) := by decide +kernel
theorem dX10_whatIs_142 : decode cX10_whatIs 142 = .ok (.ireturn, 1) := by decide +kernel
theorem dX10_wornFrom_0 : decode cX10_wornFrom 0 = .ok (.aload_n 0, 1) := by decide +kernel
theorem dX10_wornFrom_1 : decode cX10_wornFrom 1 = .ok (.iconst 0, 1) := by decide +kernel
theorem dX10_wornFrom_2 : decode cX10_wornFrom 2 = .ok (.putfield 78, 3) := by decide +kernel
theorem dX10_wornFrom_5 : decode cX10_wornFrom 5 = .ok (.aload_n 0, 1) := by decide +kernel
theorem dX10_wornFrom_6 : decode cX10_wornFrom 6 = .ok (.iload_n 2, 1) := by decide +kernel
theorem dX10_wornFrom_7 : decode cX10_wornFrom 7 = .ok (.invokevirtual 193, 3) := by decide +kernel
theorem dX10_wornFrom_10 : decode cX10_wornFrom 10 = .ok (.ifCond .eq 23, 3) := by decide +kernel
theorem dX10_wornFrom_13 : decode cX10_wornFrom 13 = .ok (.iload_n 3, 1) := by decide +kernel
theorem dX10_wornFrom_14 : decode cX10_wornFrom 14 = .ok (.i2l, 1) := by decide +kernel
theorem dX10_wornFrom_15 : decode cX10_wornFrom 15 = .ok (.lconst 0, 1) := by decide +kernel
theorem dX10_wornFrom_16 : decode cX10_wornFrom 16 = .ok (.ldc2_w 267, 3) := by decide +kernel
theorem dX10_wornFrom_19 : decode cX10_wornFrom 19 = .ok (.invokestatic 84, 3) := by decide +kernel
theorem dX10_wornFrom_22 : decode cX10_wornFrom 22 = .ok (.ifCond .eq 11, 3) := by decide +kernel
theorem dX10_wornFrom_25 : decode cX10_wornFrom 25 = .ok (.aload_n 0, 1) := by decide +kernel
theorem dX10_wornFrom_26 : decode cX10_wornFrom 26 = .ok (.iload_n 1, 1) := by decide +kernel
theorem dX10_wornFrom_27 : decode cX10_wornFrom 27 = .ok (.invokevirtual 219, 3) := by decide +kernel
theorem dX10_wornFrom_30 : decode cX10_wornFrom 30 = .ok (.goto 4, 3) := by decide +kernel
theorem dX10_wornFrom_33 : decode cX10_wornFrom 33 = .ok (.iconst (-1), 1) := by decide +kernel
theorem dX10_wornFrom_34 : decode cX10_wornFrom 34 = .ok (.istore 4, 2) := by decide +kernel
theorem dX10_wornFrom_36 : decode cX10_wornFrom 36 = .ok (.iload 4, 2) := by decide +kernel
theorem dX10_wornFrom_38 : decode cX10_wornFrom 38 = .ok (.ifCond .ge 6, 3) := by decide +kernel
theorem dX10_wornFrom_41 : decode cX10_wornFrom 41 = .ok (.iload 4, 2) := by decide +kernel
theorem dX10_wornFrom_43 : decode cX10_wornFrom 43 = .ok (.ireturn, 1) := by decide +kernel
theorem dX10_wornFrom_44 : decode cX10_wornFrom 44 = .ok (.iconst 0, 1) := by decide +kernel
theorem dX10_wornFrom_45 : decode cX10_wornFrom 45 = .ok (.istore 5, 2) := by decide +kernel
theorem dX10_wornFrom_47 : decode cX10_wornFrom 47 = .ok (.bipush (-4), 2) := by decide +kernel
theorem dX10_wornFrom_49 : decode cX10_wornFrom 49 = .ok (.istore 6, 2) := by decide +kernel
theorem dX10_wornFrom_51 : decode cX10_wornFrom 51 = .ok (.bipush (-4), 2) := by decide +kernel
theorem dX10_wornFrom_53 : decode cX10_wornFrom 53 = .ok (.istore 7, 2) := by decide +kernel
theorem dX10_wornFrom_55 : decode cX10_wornFrom 55 = .ok (.aload_n 0, 1) := by decide +kernel
theorem dX10_wornFrom_56 : decode cX10_wornFrom 56 = .ok (.invokevirtual 225, 3) := by decide +kernel
theorem dX10_wornFrom_59 : decode cX10_wornFrom 59 = .ok (.iconst 0, 1) := by decide +kernel
theorem dX10_wornFrom_60 : decode cX10_wornFrom 60 = .ok (.istore 8, 2) := by decide +kernel
theorem dX10_wornFrom_62 : decode cX10_wornFrom 62 = .ok (.iload 8, 2) := by decide +kernel
theorem dX10_wornFrom_64 : decode cX10_wornFrom 64 = .ok (.bipush 100, 2) := by decide +kernel
theorem dX10_wornFrom_66 : decode cX10_wornFrom 66 = .ok (.if_icmp .ge 74, 3) := by decide +kernel
theorem dX10_wornFrom_69 : decode cX10_wornFrom 69 = .ok (.aload_n 0, 1) := by decide +kernel
theorem dX10_wornFrom_70 : decode cX10_wornFrom 70 = .ok (.getfield 16, 3) := by decide +kernel
theorem dX10_wornFrom_73 : decode cX10_wornFrom 73 = .ok (.iload_n 2, 1) := by decide +kernel
theorem dX10_wornFrom_74 : decode cX10_wornFrom 74 = .ok (.iload 8, 2) := by decide +kernel
theorem dX10_wornFrom_76 : decode cX10_wornFrom 76 = .ok (.iastore, 1) := by decide +kernel
theorem dX10_wornFrom_77 : decode cX10_wornFrom 77 = .ok (.aload_n 0, 1) := by decide +kernel
theorem dX10_wornFrom_78 : decode cX10_wornFrom 78 = .ok (.iload_n 1, 1) := by decide +kernel
theorem dX10_wornFrom_79 : decode cX10_wornFrom 79 = .ok (.iload_n 2, 1) := by decide +kernel
theorem dX10_wornFrom_80 : decode cX10_wornFrom 80 = .ok (.iconst 1, 1) := by decide +kernel
theorem dX10_wornFrom_81 : decode cX10_wornFrom 81 = .ok (.invokevirtual 350, 3) := by decide +kernel
theorem dX10_wornFrom_84 : decode cX10_wornFrom 84 = .ok (.istore 9, 2) := by decide +kernel
theorem dX10_wornFrom_86 : decode cX10_wornFrom 86 = .ok (.iload 5, 2) := by decide +kernel
theorem dX10_wornFrom_88 : decode cX10_wornFrom 88 = .ok (.iload 9, 2) := by decide +kernel
theorem dX10_wornFrom_90 : decode cX10_wornFrom 90 = .ok (.ifCond .eq 7, 3) := by decide +kernel
theorem dX10_wornFrom_93 : decode cX10_wornFrom 93 = .ok (.iconst 1, 1) := by decide +kernel
theorem dX10_wornFrom_94 : decode cX10_wornFrom 94 = .ok (.goto 4, 3) := by decide +kernel
theorem dX10_wornFrom_97 : decode cX10_wornFrom 97 = .ok (.iconst 0, 1) := by decide +kernel
theorem dX10_wornFrom_98 : decode cX10_wornFrom 98 = .ok (.iadd, 1) := by decide +kernel
theorem dX10_wornFrom_99 : decode cX10_wornFrom 99 = .ok (.istore 5, 2) := by decide +kernel
theorem dX10_wornFrom_101 : decode cX10_wornFrom 101 = .ok (.iload 9, 2) := by decide +kernel
theorem dX10_wornFrom_103 : decode cX10_wornFrom 103 = .ok (.ifCond .eq 13, 3) := by decide +kernel
theorem dX10_wornFrom_106 : decode cX10_wornFrom 106 = .ok (.iload 6, 2) := by decide +kernel
theorem dX10_wornFrom_108 : decode cX10_wornFrom 108 = .ok (.ifCond .ge 8, 3) := by decide +kernel
theorem dX10_wornFrom_111 : decode cX10_wornFrom 111 = .ok (.iload 8, 2) := by decide +kernel
theorem dX10_wornFrom_113 : decode cX10_wornFrom 113 = .ok (.goto 5, 3) := by decide +kernel
theorem dX10_wornFrom_116 : decode cX10_wornFrom 116 = .ok (.iload 6, 2) := by decide +kernel
theorem dX10_wornFrom_118 : decode cX10_wornFrom 118 = .ok (.istore 6, 2) := by decide +kernel
theorem dX10_wornFrom_120 : decode cX10_wornFrom 120 = .ok (.iload 9, 2) := by decide +kernel
theorem dX10_wornFrom_122 : decode cX10_wornFrom 122 = .ok (.ifCond .eq 8, 3) := by decide +kernel
theorem dX10_wornFrom_125 : decode cX10_wornFrom 125 = .ok (.iload 8, 2) := by decide +kernel
theorem dX10_wornFrom_127 : decode cX10_wornFrom 127 = .ok (.goto 5, 3) := by decide +kernel
theorem dX10_wornFrom_130 : decode cX10_wornFrom 130 = .ok (.iload 7, 2) := by decide +kernel
theorem dX10_wornFrom_132 : decode cX10_wornFrom 132 = .ok (.istore 7, 2) := by decide +kernel
theorem dX10_wornFrom_134 : decode cX10_wornFrom 134 = .ok (.iinc 8 1, 3) := by decide +kernel
theorem dX10_wornFrom_137 : decode cX10_wornFrom 137 = .ok (.goto (-75), 3) := by decide +kernel
theorem dX10_wornFrom_140 : decode cX10_wornFrom 140 = .ok (.iload_n 3, 1) := by decide +kernel
theorem dX10_wornFrom_141 : decode cX10_wornFrom 141 = .ok (.ifCond .ne 8, 3) := by decide +kernel
theorem dX10_wornFrom_144 : decode cX10_wornFrom 144 = .ok (.iload 5, 2) := by decide +kernel
theorem dX10_wornFrom_146 : decode cX10_wornFrom 146 = .ok (.goto 15, 3) := by decide +kernel
theorem dX10_wornFrom_149 : decode cX10_wornFrom 149 = .ok (.iload_n 3, 1) := by decide +kernel
theorem dX10_wornFrom_150 : decode cX10_wornFrom 150 = .ok (.iconst 1, 1) := by decide +kernel
theorem dX10_wornFrom_151 : decode cX10_wornFrom 151 = .ok (.if_icmp .ne 8, 3) := by decide +kernel
theorem dX10_wornFrom_154 : decode cX10_wornFrom 154 = .ok (.iload 6, 2) := by decide +kernel
theorem dX10_wornFrom_156 : decode cX10_wornFrom 156 = .ok (.goto 5, 3) := by decide +kernel
theorem dX10_wornFrom_159 : decode cX10_wornFrom 159 = .ok (.iload 7, 2) := by decide +kernel
theorem dX10_wornFrom_161 : decode cX10_wornFrom 161 = .ok (.ireturn, 1) := by decide +kernel
theorem dX10_frost_0 : decode cX10_frost 0 = .ok (.aload_n 0, 1) := by decide +kernel
theorem dX10_frost_1 : decode cX10_frost 1 = .ok (.iconst 0, 1) := by decide +kernel
theorem dX10_frost_2 : decode cX10_frost 2 = .ok (.putfield 78, 3) := by decide +kernel
theorem dX10_frost_5 : decode cX10_frost 5 = .ok (.aload_n 0, 1) := by decide +kernel
theorem dX10_frost_6 : decode cX10_frost 6 = .ok (.iload_n 1, 1) := by decide +kernel
theorem dX10_frost_7 : decode cX10_frost 7 = .ok (.invokevirtual 193, 3) := by decide +kernel
theorem dX10_frost_10 : decode cX10_frost 10 = .ok (.ifCond .eq 40, 3) := by decide +kernel
theorem dX10_frost_13 : decode cX10_frost 13 = .ok (.iload_n 2, 1) := by decide +kernel
theorem dX10_frost_14 : decode cX10_frost 14 = .ok (.i2l, 1) := by decide +kernel
theorem dX10_frost_15 : decode cX10_frost 15 = .ok (.lconst 0, 1) := by decide +kernel
theorem dX10_frost_16 : decode cX10_frost 16 = .ok (.ldc2_w 253, 3) := by decide +kernel
theorem dX10_frost_19 : decode cX10_frost 19 = .ok (.invokestatic 84, 3) := by decide +kernel
theorem dX10_frost_22 : decode cX10_frost 22 = .ok (.ifCond .eq 28, 3) := by decide +kernel
theorem dX10_frost_25 : decode cX10_frost 25 = .ok (.iload_n 3, 1) := by decide +kernel
theorem dX10_frost_26 : decode cX10_frost 26 = .ok (.i2l, 1) := by decide +kernel
theorem dX10_frost_27 : decode cX10_frost 27 = .ok (.ldc2_w 267, 3) := by decide +kernel
theorem dX10_frost_30 : decode cX10_frost 30 = .ok (.ldc2_w 353, 3) := by decide +kernel
theorem dX10_frost_33 : decode cX10_frost 33 = .ok (.invokestatic 84, 3) := by decide +kernel
theorem dX10_frost_36 : decode cX10_frost 36 = .ok (.ifCond .eq 14, 3) := by decide +kernel
theorem dX10_frost_39 : decode cX10_frost 39 = .ok (.iload 4, 2) := by decide +kernel
theorem dX10_frost_41 : decode cX10_frost 41 = .ok (.i2l, 1) := by decide +kernel
theorem dX10_frost_42 : decode cX10_frost 42 = .ok (.lconst 0, 1) := by decide +kernel
theorem dX10_frost_43 : decode cX10_frost 43 = .ok (.lconst 1, 1) := by decide +kernel
theorem dX10_frost_44 : decode cX10_frost 44 = .ok (.invokestatic 84, 3) := by decide +kernel
theorem dX10_frost_47 : decode cX10_frost 47 = .ok (.ifCond .ne 7, 3) := by decide +kernel
theorem dX10_frost_50 : decode cX10_frost 50 = .ok (.ldc2_w 305, 3) := by decide +kernel
theorem dX10_frost_53 : decode cX10_frost 53 = .ok (.lreturn, 1) := by decide +kernel
theorem dX10_frost_54 : decode cX10_frost 54 = .ok (.lconst 0, 1) := by decide +kernel
theorem dX10_frost_55 : decode cX10_frost 55 = .ok (.lstore 5, 2) := by decide +kernel
theorem dX10_frost_57 : decode cX10_frost 57 = .ok (.lconst 1, 1) := by decide +kernel
theorem dX10_frost_58 : decode cX10_frost 58 = .ok (.lstore 7, 2) := by decide +kernel
theorem dX10_frost_60 : decode cX10_frost 60 = .ok (.iconst 0, 1) := by decide +kernel
theorem dX10_frost_61 : decode cX10_frost 61 = .ok (.istore 9, 2) := by decide +kernel
theorem dX10_frost_63 : decode cX10_frost 63 = .ok (.iload 9, 2) := by decide +kernel
theorem dX10_frost_65 : decode cX10_frost 65 = .ok (.iload_n 2, 1) := by decide +kernel
theorem dX10_frost_66 : decode cX10_frost 66 = .ok (.if_icmp .ge 16, 3) := by decide +kernel
theorem dX10_frost_69 : decode cX10_frost 69 = .ok (.lload 7, 2) := by decide +kernel
theorem dX10_frost_71 : decode cX10_frost 71 = .ok (.iload_n 3, 1) := by decide +kernel
theorem dX10_frost_72 : decode cX10_frost 72 = .ok (.i2l, 1) := by decide +kernel
theorem dX10_frost_73 : decode cX10_frost 73 = .ok (.lmul, 1) := by decide +kernel
theorem dX10_frost_74 : decode cX10_frost 74 = .ok (.lstore 7, 2) := by decide +kernel
theorem dX10_frost_76 : decode cX10_frost 76 = .ok (.iinc 9 1, 3) := by decide +kernel
theorem dX10_frost_79 : decode cX10_frost 79 = .ok (.goto (-16), 3) := by decide +kernel
theorem dX10_frost_82 : decode cX10_frost 82 = .ok (.aload_n 0, 1) := by decide +kernel
theorem dX10_frost_83 : decode cX10_frost 83 = .ok (.invokevirtual 225, 3) := by decide +kernel
theorem dX10_frost_86 : decode cX10_frost 86 = .ok (.iconst 0, 1) := by decide +kernel
theorem dX10_frost_87 : decode cX10_frost 87 = .ok (.istore 9, 2) := by decide +kernel
theorem dX10_frost_89 : decode cX10_frost 89 = .ok (.iload 9, 2) := by decide +kernel
theorem dX10_frost_91 : decode cX10_frost 91 = .ok (.iconst 1, 1) := by decide +kernel
theorem dX10_frost_92 : decode cX10_frost 92 = .ok (.iload_n 2, 1) := by decide +kernel
theorem dX10_frost_93 : decode cX10_frost 93 = .ok (.ishl, 1) := by decide +kernel
theorem dX10_frost_94 : decode cX10_frost 94 = .ok (.if_icmp .ge 105, 3) := by decide +kernel
theorem dX10_frost_97 : decode cX10_frost 97 = .ok (.lconst 1, 1) := by decide +kernel
theorem dX10_frost_98 : decode cX10_frost 98 = .ok (.lstore 10, 2) := by decide +kernel
theorem dX10_frost_100 : decode cX10_frost 100 = .ok (.iconst 0, 1) := by decide +kernel
theorem dX10_frost_101 : decode cX10_frost 101 = .ok (.istore 12, 2) := by decide +kernel
theorem dX10_frost_103 : decode cX10_frost 103 = .ok (.iload 12, 2) := by decide +kernel
theorem dX10_frost_105 : decode cX10_frost 105 = .ok (.iload_n 2, 1) := by decide +kernel
theorem dX10_frost_106 : decode cX10_frost 106 = .ok (.if_icmp .ge 56, 3) := by decide +kernel
theorem dX10_frost_109 : decode cX10_frost 109 = .ok (.lload 10, 2) := by decide +kernel
theorem dX10_frost_111 : decode cX10_frost 111 = .ok (.iload 9, 2) := by decide +kernel
theorem dX10_frost_113 : decode cX10_frost 113 = .ok (.iload 12, 2) := by decide +kernel
theorem dX10_frost_115 : decode cX10_frost 115 = .ok (.invokestatic 91, 3) := by decide +kernel
theorem dX10_frost_118 : decode cX10_frost 118 = .ok (.ifCond .eq 7, 3) := by decide +kernel
theorem dX10_frost_121 : decode cX10_frost 121 = .ok (.lconst 1, 1) := by decide +kernel
theorem dX10_frost_122 : decode cX10_frost 122 = .ok (.goto 7, 3) := by decide +kernel
theorem dX10_frost_125 : decode cX10_frost 125 = .ok (.iload_n 3, 1) := by decide +kernel
theorem dX10_frost_126 : decode cX10_frost 126 = .ok (.iconst 1, 1) := by decide +kernel
theorem dX10_frost_127 : decode cX10_frost 127 = .ok (.isub, 1) := by decide +kernel
theorem dX10_frost_128 : decode cX10_frost 128 = .ok (.i2l, 1) := by decide +kernel
theorem dX10_frost_129 : decode cX10_frost 129 = .ok (.lmul, 1) := by decide +kernel
theorem dX10_frost_130 : decode cX10_frost 130 = .ok (.lstore 10, 2) := by decide +kernel
theorem dX10_frost_132 : decode cX10_frost 132 = .ok (.aload_n 0, 1) := by decide +kernel
theorem dX10_frost_133 : decode cX10_frost 133 = .ok (.iload 9, 2) := by decide +kernel
theorem dX10_frost_135 : decode cX10_frost 135 = .ok (.iload 12, 2) := by decide +kernel
theorem dX10_frost_137 : decode cX10_frost 137 = .ok (.invokestatic 91, 3) := by decide +kernel
theorem dX10_frost_140 : decode cX10_frost 140 = .ok (.ifCond .eq 7, 3) := by decide +kernel
theorem dX10_frost_143 : decode cX10_frost 143 = .ok (.iconst 2, 1) := by decide +kernel
theorem dX10_frost_144 : decode cX10_frost 144 = .ok (.goto 4, 3) := by decide +kernel
theorem dX10_frost_147 : decode cX10_frost 147 = .ok (.iconst 1, 1) := by decide +kernel
theorem dX10_frost_148 : decode cX10_frost 148 = .ok (.putfield 23, 3) := by decide +kernel
theorem dX10_frost_151 : decode cX10_frost 151 = .ok (.aload_n 0, 1) := by decide +kernel
theorem dX10_frost_152 : decode cX10_frost 152 = .ok (.invokevirtual 134, 3) := by decide +kernel
theorem dX10_frost_155 : decode cX10_frost 155 = .ok (.pop, 1) := by decide +kernel
theorem dX10_frost_156 : decode cX10_frost 156 = .ok (.iinc 12 1, 3) := by decide +kernel
theorem dX10_frost_159 : decode cX10_frost 159 = .ok (.goto (-56), 3) := by decide +kernel
theorem dX10_frost_162 : decode cX10_frost 162 = .ok (.aload_n 0, 1) := by decide +kernel
theorem dX10_frost_163 : decode cX10_frost 163 = .ok (.iconst 1, 1) := by decide +kernel
theorem dX10_frost_164 : decode cX10_frost 164 = .ok (.putfield 23, 3) := by decide +kernel
theorem dX10_frost_167 : decode cX10_frost 167 = .ok (.lload 5, 2) := by decide +kernel
theorem dX10_frost_169 : decode cX10_frost 169 = .ok (.aload_n 0, 1) := by decide +kernel
theorem dX10_frost_170 : decode cX10_frost 170 = .ok (.getfield 88, 3) := by decide +kernel
theorem dX10_frost_173 : decode cX10_frost 173 = .ok (.iload_n 1, 1) := by decide +kernel
theorem dX10_frost_174 : decode cX10_frost 174 = .ok (.invokestatic 91, 3) := by decide +kernel
theorem dX10_frost_177 : decode cX10_frost 177 = .ok (.ifCond .eq 8, 3) := by decide +kernel
theorem dX10_frost_180 : decode cX10_frost 180 = .ok (.lload 10, 2) := by decide +kernel
theorem dX10_frost_182 : decode cX10_frost 182 = .ok (.goto 4, 3) := by decide +kernel
theorem dX10_frost_185 : decode cX10_frost 185 = .ok (.lconst 0, 1) := by decide +kernel
theorem dX10_frost_186 : decode cX10_frost 186 = .ok (.ladd, 1) := by decide +kernel
theorem dX10_frost_187 : decode cX10_frost 187 = .ok (.lstore 5, 2) := by decide +kernel
theorem dX10_frost_189 : decode cX10_frost 189 = .ok (.aload_n 0, 1) := by decide +kernel
theorem dX10_frost_190 : decode cX10_frost 190 = .ok (.invokevirtual 231, 3) := by decide +kernel
theorem dX10_frost_193 : decode cX10_frost 193 = .ok (.iinc 9 1, 3) := by decide +kernel
theorem dX10_frost_196 : decode cX10_frost 196 = .ok (.goto (-107), 3) := by decide +kernel
theorem dX10_frost_199 : decode cX10_frost 199 = .ok (.lload 5, 2) := by decide +kernel
theorem dX10_frost_201 : decode cX10_frost 201 = .ok (.lload 7, 2) := by decide +kernel
theorem dX10_frost_203 : decode cX10_frost 203 = .ok (.iload 4, 2) := by decide +kernel
theorem dX10_frost_205 : decode cX10_frost 205 = .ok (.invokestatic 307, 3) := by decide +kernel
theorem dX10_frost_208 : decode cX10_frost 208 = .ok (.lreturn, 1) := by decide +kernel
theorem dX10_share_0 : decode cX10_share 0 = .ok (.aload_n 0, 1) := by decide +kernel
theorem dX10_share_1 : decode cX10_share 1 = .ok (.iconst 0, 1) := by decide +kernel
theorem dX10_share_2 : decode cX10_share 2 = .ok (.putfield 78, 3) := by decide +kernel
theorem dX10_share_5 : decode cX10_share 5 = .ok (.aload_n 0, 1) := by decide +kernel
theorem dX10_share_6 : decode cX10_share 6 = .ok (.iload_n 1, 1) := by decide +kernel
theorem dX10_share_7 : decode cX10_share 7 = .ok (.invokevirtual 193, 3) := by decide +kernel
theorem dX10_share_10 : decode cX10_share 10 = .ok (.ifCond .eq 13, 3) := by decide +kernel
theorem dX10_share_13 : decode cX10_share 13 = .ok (.iload_n 2, 1) := by decide +kernel
theorem dX10_share_14 : decode cX10_share 14 = .ok (.i2l, 1) := by decide +kernel
theorem dX10_share_15 : decode cX10_share 15 = .ok (.lconst 0, 1) := by decide +kernel
theorem dX10_share_16 : decode cX10_share 16 = .ok (.lconst 1, 1) := by decide +kernel
theorem dX10_share_17 : decode cX10_share 17 = .ok (.invokestatic 84, 3) := by decide +kernel
theorem dX10_share_20 : decode cX10_share 20 = .ok (.ifCond .ne 7, 3) := by decide +kernel
theorem dX10_share_23 : decode cX10_share 23 = .ok (.ldc2_w 305, 3) := by decide +kernel
theorem dX10_share_26 : decode cX10_share 26 = .ok (.lreturn, 1) := by decide +kernel
theorem dX10_share_27 : decode cX10_share 27 = .ok (.aload_n 0, 1) := by decide +kernel
theorem dX10_share_28 : decode cX10_share 28 = .ok (.getfield 16, 3) := by decide +kernel
theorem dX10_share_31 : decode cX10_share 31 = .ok (.iload_n 1, 1) := by decide +kernel
theorem dX10_share_32 : decode cX10_share 32 = .ok (.iaload, 1) := by decide +kernel
theorem dX10_share_33 : decode cX10_share 33 = .ok (.i2l, 1) := by decide +kernel
theorem dX10_share_34 : decode cX10_share 34 = .ok (.aload_n 0, 1) := by decide +kernel
theorem dX10_share_35 : decode cX10_share 35 = .ok (.invokevirtual 269, 3) := by decide +kernel
theorem dX10_share_38 : decode cX10_share 38 = .ok (.i2l, 1) := by decide +kernel
theorem dX10_share_39 : decode cX10_share 39 = .ok (.iload_n 2, 1) := by decide +kernel
theorem dX10_share_40 : decode cX10_share 40 = .ok (.invokestatic 307, 3) := by decide +kernel
theorem dX10_share_43 : decode cX10_share 43 = .ok (.lreturn, 1) := by decide +kernel
theorem dX10_forged_0 : decode cX10_forged 0 = .ok (.aload_n 0, 1) := by decide +kernel
theorem dX10_forged_1 : decode cX10_forged 1 = .ok (.iconst 0, 1) := by decide +kernel
theorem dX10_forged_2 : decode cX10_forged 2 = .ok (.putfield 78, 3) := by decide +kernel
theorem dX10_forged_5 : decode cX10_forged 5 = .ok (.aload_n 0, 1) := by decide +kernel
theorem dX10_forged_6 : decode cX10_forged 6 = .ok (.iload_n 1, 1) := by decide +kernel
theorem dX10_forged_7 : decode cX10_forged 7 = .ok (.invokevirtual 219, 3) := by decide +kernel
theorem dX10_forged_10 : decode cX10_forged 10 = .ok (.istore_n 2, 1) := by decide +kernel
theorem dX10_forged_11 : decode cX10_forged 11 = .ok (.iload_n 2, 1) := by decide +kernel
theorem dX10_forged_12 : decode cX10_forged 12 = .ok (.ifCond .ge 5, 3) := by decide +kernel
theorem dX10_forged_15 : decode cX10_forged 15 = .ok (.iload_n 2, 1) := by decide +kernel
theorem dX10_forged_16 : decode cX10_forged 16 = .ok (.ireturn, 1) := by decide +kernel
theorem dX10_forged_17 : decode cX10_forged 17 = .ok (.iconst 0, 1) := by decide +kernel
theorem dX10_forged_18 : decode cX10_forged 18 = .ok (.istore_n 3, 1) := by decide +kernel
theorem dX10_forged_19 : decode cX10_forged 19 = .ok (.iload_n 3, 1) := by decide +kernel
theorem dX10_forged_20 : decode cX10_forged 20 = .ok (.aload_n 0, 1) := by decide +kernel
theorem dX10_forged_21 : decode cX10_forged 21 = .ok (.getfield 38, 3) := by decide +kernel
theorem dX10_forged_24 : decode cX10_forged 24 = .ok (.iload_n 1, 1) := by decide +kernel
theorem dX10_forged_25 : decode cX10_forged 25 = .ok (.iaload, 1) := by decide +kernel
theorem dX10_forged_26 : decode cX10_forged 26 = .ok (.if_icmp .ge 41, 3) := by decide +kernel
theorem dX10_forged_29 : decode cX10_forged 29 = .ok (.iload_n 3, 1) := by decide +kernel
theorem dX10_forged_30 : decode cX10_forged 30 = .ok (.aload_n 0, 1) := by decide +kernel
theorem dX10_forged_31 : decode cX10_forged 31 = .ok (.getfield 81, 3) := by decide +kernel
theorem dX10_forged_34 : decode cX10_forged 34 = .ok (.if_icmp .ge 25, 3) := by decide +kernel
theorem dX10_forged_37 : decode cX10_forged 37 = .ok (.aload_n 0, 1) := by decide +kernel
theorem dX10_forged_38 : decode cX10_forged 38 = .ok (.getfield 41, 3) := by decide +kernel
theorem dX10_forged_41 : decode cX10_forged 41 = .ok (.bipush 100, 2) := by decide +kernel
theorem dX10_forged_43 : decode cX10_forged 43 = .ok (.iload_n 1, 1) := by decide +kernel
theorem dX10_forged_44 : decode cX10_forged 44 = .ok (.imul, 1) := by decide +kernel
theorem dX10_forged_45 : decode cX10_forged 45 = .ok (.iload_n 3, 1) := by decide +kernel
theorem dX10_forged_46 : decode cX10_forged 46 = .ok (.iadd, 1) := by decide +kernel
theorem dX10_forged_47 : decode cX10_forged 47 = .ok (.laload, 1) := by decide +kernel
theorem dX10_forged_48 : decode cX10_forged 48 = .ok (.aload_n 0, 1) := by decide +kernel
theorem dX10_forged_49 : decode cX10_forged 49 = .ok (.getfield 7, 3) := by decide +kernel
theorem dX10_forged_52 : decode cX10_forged 52 = .ok (.iload_n 3, 1) := by decide +kernel
theorem dX10_forged_53 : decode cX10_forged 53 = .ok (.iaload, 1) := by decide +kernel
theorem dX10_forged_54 : decode cX10_forged 54 = .ok (.i2l, 1) := by decide +kernel
theorem dX10_forged_55 : decode cX10_forged 55 = .ok (.lcmp, 1) := by decide +kernel
theorem dX10_forged_56 : decode cX10_forged 56 = .ok (.ifCond .eq 5, 3) := by decide +kernel
theorem dX10_forged_59 : decode cX10_forged 59 = .ok (.iload_n 3, 1) := by decide +kernel
theorem dX10_forged_60 : decode cX10_forged 60 = .ok (.ireturn, 1) := by decide +kernel
theorem dX10_forged_61 : decode cX10_forged 61 = .ok (.iinc 3 1, 3) := by decide +kernel
theorem dX10_forged_64 : decode cX10_forged 64 = .ok (.goto (-45), 3) := by decide +kernel
theorem dX10_forged_67 : decode cX10_forged 67 = .ok (.bipush (-4), 2) := by decide +kernel
theorem dX10_forged_69 : decode cX10_forged 69 = .ok (.ireturn, 1) := by decide +kernel
theorem dX10_judge_0 : decode cX10_judge 0 = .ok (.aload_n 0, 1) := by decide +kernel
theorem dX10_judge_1 : decode cX10_judge 1 = .ok (.iconst 0, 1) := by decide +kernel
theorem dX10_judge_2 : decode cX10_judge 2 = .ok (.putfield 78, 3) := by decide +kernel
theorem dX10_judge_5 : decode cX10_judge 5 = .ok (.aload_n 0, 1) := by decide +kernel
theorem dX10_judge_6 : decode cX10_judge 6 = .ok (.iload_n 1, 1) := by decide +kernel
theorem dX10_judge_7 : decode cX10_judge 7 = .ok (.invokevirtual 219, 3) := by decide +kernel
theorem dX10_judge_10 : decode cX10_judge 10 = .ok (.istore_n 2, 1) := by decide +kernel
theorem dX10_judge_11 : decode cX10_judge 11 = .ok (.iload_n 2, 1) := by decide +kernel
theorem dX10_judge_12 : decode cX10_judge 12 = .ok (.ifCond .ge 5, 3) := by decide +kernel
theorem dX10_judge_15 : decode cX10_judge 15 = .ok (.iload_n 2, 1) := by decide +kernel
theorem dX10_judge_16 : decode cX10_judge 16 = .ok (.ireturn, 1) := by decide +kernel
theorem dX10_judge_17 : decode cX10_judge 17 = .ok (.bipush (-4), 2) := by decide +kernel
theorem dX10_judge_19 : decode cX10_judge 19 = .ok (.istore_n 3, 1) := by decide +kernel
theorem dX10_judge_20 : decode cX10_judge 20 = .ok (.aload_n 0, 1) := by decide +kernel
theorem dX10_judge_21 : decode cX10_judge 21 = .ok (.invokevirtual 225, 3) := by decide +kernel
theorem dX10_judge_24 : decode cX10_judge 24 = .ok (.iconst 0, 1) := by decide +kernel
theorem dX10_judge_25 : decode cX10_judge 25 = .ok (.istore 4, 2) := by decide +kernel
theorem dX10_judge_27 : decode cX10_judge 27 = .ok (.iload 4, 2) := by decide +kernel
theorem dX10_judge_29 : decode cX10_judge 29 = .ok (.aload_n 0, 1) := by decide +kernel
theorem dX10_judge_30 : decode cX10_judge 30 = .ok (.getfield 38, 3) := by decide +kernel
theorem dX10_judge_33 : decode cX10_judge 33 = .ok (.iload_n 1, 1) := by decide +kernel
theorem dX10_judge_34 : decode cX10_judge 34 = .ok (.iaload, 1) := by decide +kernel
theorem dX10_judge_35 : decode cX10_judge 35 = .ok (.if_icmp .ge 60, 3) := by decide +kernel
theorem dX10_judge_38 : decode cX10_judge 38 = .ok (.iload_n 3, 1) := by decide +kernel
theorem dX10_judge_39 : decode cX10_judge 39 = .ok (.ifCond .ge 56, 3) := by decide +kernel
theorem dX10_judge_42 : decode cX10_judge 42 = .ok (.aload_n 0, 1) := by decide +kernel
theorem dX10_judge_43 : decode cX10_judge 43 = .ok (.iload_n 1, 1) := by decide +kernel
theorem dX10_judge_44 : decode cX10_judge 44 = .ok (.iload 4, 2) := by decide +kernel
theorem dX10_judge_46 : decode cX10_judge 46 = .ok (.invokevirtual 347, 3) := by decide +kernel
theorem dX10_judge_49 : decode cX10_judge 49 = .ok (.ifCond .ne 32, 3) := by decide +kernel
theorem dX10_judge_52 : decode cX10_judge 52 = .ok (.aload_n 0, 1) := by decide +kernel
theorem dX10_judge_53 : decode cX10_judge 53 = .ok (.getfield 41, 3) := by decide +kernel
theorem dX10_judge_56 : decode cX10_judge 56 = .ok (.bipush 100, 2) := by decide +kernel
theorem dX10_judge_58 : decode cX10_judge 58 = .ok (.iload_n 1, 1) := by decide +kernel
theorem dX10_judge_59 : decode cX10_judge 59 = .ok (.imul, 1) := by decide +kernel
theorem dX10_judge_60 : decode cX10_judge 60 = .ok (.iload 4, 2) := by decide +kernel
theorem dX10_judge_62 : decode cX10_judge 62 = .ok (.iadd, 1) := by decide +kernel
theorem dX10_judge_63 : decode cX10_judge 63 = .ok (.laload, 1) := by decide +kernel
theorem dX10_judge_64 : decode cX10_judge 64 = .ok (.aload_n 0, 1) := by decide +kernel
theorem dX10_judge_65 : decode cX10_judge 65 = .ok (.getfield 88, 3) := by decide +kernel
theorem dX10_judge_68 : decode cX10_judge 68 = .ok (.invokestatic 311, 3) := by decide +kernel
theorem dX10_judge_71 : decode cX10_judge 71 = .ok (.i2l, 1) := by decide +kernel
theorem dX10_judge_72 : decode cX10_judge 72 = .ok (.lcmp, 1) := by decide +kernel
theorem dX10_judge_73 : decode cX10_judge 73 = .ok (.ifCond .eq 8, 3) := by decide +kernel
theorem dX10_judge_76 : decode cX10_judge 76 = .ok (.iload 4, 2) := by decide +kernel
theorem dX10_judge_78 : decode cX10_judge 78 = .ok (.goto 5, 3) := by decide +kernel
theorem dX10_judge_81 : decode cX10_judge 81 = .ok (.bipush (-4), 2) := by decide +kernel
theorem dX10_judge_83 : decode cX10_judge 83 = .ok (.istore_n 3, 1) := by decide +kernel
theorem dX10_judge_84 : decode cX10_judge 84 = .ok (.aload_n 0, 1) := by decide +kernel
theorem dX10_judge_85 : decode cX10_judge 85 = .ok (.invokevirtual 134, 3) := by decide +kernel
theorem dX10_judge_88 : decode cX10_judge 88 = .ok (.pop, 1) := by decide +kernel
theorem dX10_judge_89 : decode cX10_judge 89 = .ok (.iinc 4 1, 3) := by decide +kernel
theorem dX10_judge_92 : decode cX10_judge 92 = .ok (.goto (-65), 3) := by decide +kernel
theorem dX10_judge_95 : decode cX10_judge 95 = .ok (.aload_n 0, 1) := by decide +kernel
theorem dX10_judge_96 : decode cX10_judge 96 = .ok (.invokevirtual 231, 3) := by decide +kernel
theorem dX10_judge_99 : decode cX10_judge 99 = .ok (.iload_n 3, 1) := by decide +kernel
theorem dX10_judge_100 : decode cX10_judge 100 = .ok (.ireturn, 1) := by decide +kernel
theorem dX10_drawBelow_0 : decode cX10_drawBelow 0 = .ok (.aload_n 0, 1) := by decide +kernel
theorem dX10_drawBelow_1 : decode cX10_drawBelow 1 = .ok (.aload_n 0, 1) := by decide +kernel
theorem dX10_drawBelow_2 : decode cX10_drawBelow 2 = .ok (.getfield 355, 3) := by decide +kernel
theorem dX10_drawBelow_5 : decode cX10_drawBelow 5 = .ok (.ldc_w 358, 3) := by decide +kernel
theorem dX10_drawBelow_8 : decode cX10_drawBelow 8 = .ok (.imul, 1) := by decide +kernel
theorem dX10_drawBelow_9 : decode cX10_drawBelow 9 = .ok (.sipush 12345, 3) := by decide +kernel
theorem dX10_drawBelow_12 : decode cX10_drawBelow 12 = .ok (.iadd, 1) := by decide +kernel
theorem dX10_drawBelow_13 : decode cX10_drawBelow 13 = .ok (.putfield 355, 3) := by decide +kernel
theorem dX10_drawBelow_16 : decode cX10_drawBelow 16 = .ok (.aload_n 0, 1) := by decide +kernel
theorem dX10_drawBelow_17 : decode cX10_drawBelow 17 = .ok (.getfield 355, 3) := by decide +kernel
theorem dX10_drawBelow_20 : decode cX10_drawBelow 20 = .ok (.ldc_w 359, 3) := by decide +kernel
theorem dX10_drawBelow_23 : decode cX10_drawBelow 23 = .ok (.iand, 1) := by decide +kernel
theorem dX10_drawBelow_24 : decode cX10_drawBelow 24 = .ok (.ldc_w 360, 3) := by decide +kernel
theorem dX10_drawBelow_27 : decode cX10_drawBelow 27 = .ok (.idiv, 1) := by decide +kernel
theorem dX10_drawBelow_28 : decode cX10_drawBelow 28 = .ok (.iload_n 1, 1) := by decide +kernel
theorem dX10_drawBelow_29 : decode cX10_drawBelow 29 = .ok (.irem, 1) := by decide +kernel
theorem dX10_drawBelow_30 : decode cX10_drawBelow 30 = .ok (.ireturn, 1) := by decide +kernel
theorem dX10_winters_0 : decode cX10_winters 0 = .ok (.aload_n 0, 1) := by decide +kernel
theorem dX10_winters_1 : decode cX10_winters 1 = .ok (.iconst 0, 1) := by decide +kernel
theorem dX10_winters_2 : decode cX10_winters 2 = .ok (.putfield 78, 3) := by decide +kernel
theorem dX10_winters_5 : decode cX10_winters 5 = .ok (.iload_n 1, 1) := by decide +kernel
theorem dX10_winters_6 : decode cX10_winters 6 = .ok (.i2l, 1) := by decide +kernel
theorem dX10_winters_7 : decode cX10_winters 7 = .ok (.lconst 1, 1) := by decide +kernel
theorem dX10_winters_8 : decode cX10_winters 8 = .ok (.ldc2_w 353, 3) := by decide +kernel
theorem dX10_winters_11 : decode cX10_winters 11 = .ok (.invokestatic 84, 3) := by decide +kernel
theorem dX10_winters_14 : decode cX10_winters 14 = .ok (.ifCond .eq 13, 3) := by decide +kernel
theorem dX10_winters_17 : decode cX10_winters 17 = .ok (.iload_n 3, 1) := by decide +kernel
theorem dX10_winters_18 : decode cX10_winters 18 = .ok (.i2l, 1) := by decide +kernel
theorem dX10_winters_19 : decode cX10_winters 19 = .ok (.lconst 0, 1) := by decide +kernel
theorem dX10_winters_20 : decode cX10_winters 20 = .ok (.lconst 1, 1) := by decide +kernel
theorem dX10_winters_21 : decode cX10_winters 21 = .ok (.invokestatic 84, 3) := by decide +kernel
theorem dX10_winters_24 : decode cX10_winters 24 = .ok (.ifCond .ne 5, 3) := by decide +kernel
theorem dX10_winters_27 : decode cX10_winters 27 = .ok (.iconst (-1), 1) := by decide +kernel
theorem dX10_winters_28 : decode cX10_winters 28 = .ok (.ireturn, 1) := by decide +kernel
theorem dX10_winters_29 : decode cX10_winters 29 = .ok (.aload_n 0, 1) := by decide +kernel
theorem dX10_winters_30 : decode cX10_winters 30 = .ok (.iload_n 2, 1) := by decide +kernel
theorem dX10_winters_31 : decode cX10_winters 31 = .ok (.putfield 355, 3) := by decide +kernel
theorem dX10_winters_34 : decode cX10_winters 34 = .ok (.iconst 0, 1) := by decide +kernel
theorem dX10_winters_35 : decode cX10_winters 35 = .ok (.istore 4, 2) := by decide +kernel
theorem dX10_winters_37 : decode cX10_winters 37 = .ok (.aload_n 0, 1) := by decide +kernel
theorem dX10_winters_38 : decode cX10_winters 38 = .ok (.getfield 131, 3) := by decide +kernel
theorem dX10_winters_41 : decode cX10_winters 41 = .ok (.istore 5, 2) := by decide +kernel
theorem dX10_winters_43 : decode cX10_winters 43 = .ok (.aload_n 0, 1) := by decide +kernel
theorem dX10_winters_44 : decode cX10_winters 44 = .ok (.invokevirtual 225, 3) := by decide +kernel
theorem dX10_winters_47 : decode cX10_winters 47 = .ok (.iconst 0, 1) := by decide +kernel
theorem dX10_winters_48 : decode cX10_winters 48 = .ok (.istore 6, 2) := by decide +kernel
theorem dX10_winters_50 : decode cX10_winters 50 = .ok (.iload 6, 2) := by decide +kernel
theorem dX10_winters_52 : decode cX10_winters 52 = .ok (.iload_n 1, 1) := by decide +kernel
theorem dX10_winters_53 : decode cX10_winters 53 = .ok (.if_icmp .ge 81, 3) := by decide +kernel
theorem dX10_winters_56 : decode cX10_winters 56 = .ok (.iconst 0, 1) := by decide +kernel
theorem dX10_winters_57 : decode cX10_winters 57 = .ok (.istore 7, 2) := by decide +kernel
theorem dX10_winters_59 : decode cX10_winters 59 = .ok (.iload 7, 2) := by decide +kernel
theorem dX10_winters_61 : decode cX10_winters 61 = .ok (.aload_n 0, 1) := by decide +kernel
theorem dX10_winters_62 : decode cX10_winters 62 = .ok (.getfield 81, 3) := by decide +kernel
theorem dX10_winters_65 : decode cX10_winters 65 = .ok (.if_icmp .ge 22, 3) := by decide +kernel
theorem dX10_winters_68 : decode cX10_winters 68 = .ok (.aload_n 0, 1) := by decide +kernel
theorem dX10_winters_69 : decode cX10_winters 69 = .ok (.getfield 13, 3) := by decide +kernel
theorem dX10_winters_72 : decode cX10_winters 72 = .ok (.iload 7, 2) := by decide +kernel
theorem dX10_winters_74 : decode cX10_winters 74 = .ok (.aload_n 0, 1) := by decide +kernel
theorem dX10_winters_75 : decode cX10_winters 75 = .ok (.bipush 10, 2) := by decide +kernel
theorem dX10_winters_77 : decode cX10_winters 77 = .ok (.invokevirtual 361, 3) := by decide +kernel
theorem dX10_winters_80 : decode cX10_winters 80 = .ok (.iastore, 1) := by decide +kernel
theorem dX10_winters_81 : decode cX10_winters 81 = .ok (.iinc 7 1, 3) := by decide +kernel
theorem dX10_winters_84 : decode cX10_winters 84 = .ok (.goto (-25), 3) := by decide +kernel
theorem dX10_winters_87 : decode cX10_winters 87 = .ok (.aload_n 0, 1) := by decide +kernel
theorem dX10_winters_88 : decode cX10_winters 88 = .ok (.bipush 20, 2) := by decide +kernel
theorem dX10_winters_90 : decode cX10_winters 90 = .ok (.invokevirtual 204, 3) := by decide +kernel
theorem dX10_winters_93 : decode cX10_winters 93 = .ok (.iload 4, 2) := by decide +kernel
theorem dX10_winters_95 : decode cX10_winters 95 = .ok (.iload_n 3, 1) := by decide +kernel
theorem dX10_winters_96 : decode cX10_winters 96 = .ok (.ifCond .ne 13, 3) := by decide +kernel
theorem dX10_winters_99 : decode cX10_winters 99 = .ok (.aload_n 0, 1) := by decide +kernel
theorem dX10_winters_100 : decode cX10_winters 100 = .ok (.getfield 131, 3) := by decide +kernel
theorem dX10_winters_103 : decode cX10_winters 103 = .ok (.iload 5, 2) := by decide +kernel
theorem dX10_winters_105 : decode cX10_winters 105 = .ok (.isub, 1) := by decide +kernel
theorem dX10_winters_106 : decode cX10_winters 106 = .ok (.goto 15, 3) := by decide +kernel
theorem dX10_winters_109 : decode cX10_winters 109 = .ok (.aload_n 0, 1) := by decide +kernel
theorem dX10_winters_110 : decode cX10_winters 110 = .ok (.getfield 81, 3) := by decide +kernel
theorem dX10_winters_113 : decode cX10_winters 113 = .ok (.aload_n 0, 1) := by decide +kernel
theorem dX10_winters_114 : decode cX10_winters 114 = .ok (.getfield 88, 3) := by decide +kernel
theorem dX10_winters_117 : decode cX10_winters 117 = .ok (.invokestatic 311, 3) := by decide +kernel
theorem dX10_winters_120 : decode cX10_winters 120 = .ok (.isub, 1) := by decide +kernel
theorem dX10_winters_121 : decode cX10_winters 121 = .ok (.iadd, 1) := by decide +kernel
theorem dX10_winters_122 : decode cX10_winters 122 = .ok (.istore 4, 2) := by decide +kernel
theorem dX10_winters_124 : decode cX10_winters 124 = .ok (.aload_n 0, 1) := by decide +kernel
theorem dX10_winters_125 : decode cX10_winters 125 = .ok (.invokevirtual 231, 3) := by decide +kernel
theorem dX10_winters_128 : decode cX10_winters 128 = .ok (.iinc 6 1, 3) := by decide +kernel
theorem dX10_winters_131 : decode cX10_winters 131 = .ok (.goto (-81), 3) := by decide +kernel
theorem dX10_winters_134 : decode cX10_winters 134 = .ok (.iload 4, 2) := by decide +kernel
theorem dX10_winters_136 : decode cX10_winters 136 = .ok (.ireturn, 1) := by decide +kernel
theorem dX10_count_0 : decode cX10_count 0 = .ok (.aload_n 0, 1) := by decide +kernel
theorem dX10_count_1 : decode cX10_count 1 = .ok (.iconst 0, 1) := by decide +kernel
theorem dX10_count_2 : decode cX10_count 2 = .ok (.putfield 78, 3) := by decide +kernel
theorem dX10_count_5 : decode cX10_count 5 = .ok (.iload_n 1, 1) := by decide +kernel
theorem dX10_count_6 : decode cX10_count 6 = .ok (.tableswitch 86 0 7 #[46, 51, 56, 61, 66, 71, 76, 81], 46) := by decide +kernel
theorem dX10_count_52 : decode cX10_count 52 = .ok (.aload_n 0, 1) := by decide +kernel
theorem dX10_count_53 : decode cX10_count 53 = .ok (.getfield 81, 3) := by decide +kernel
theorem dX10_count_56 : decode cX10_count 56 = .ok (.ireturn, 1) := by decide +kernel
theorem dX10_count_57 : decode cX10_count 57 = .ok (.aload_n 0, 1) := by decide +kernel
theorem dX10_count_58 : decode cX10_count 58 = .ok (.getfield 105, 3) := by decide +kernel
theorem dX10_count_61 : decode cX10_count 61 = .ok (.ireturn, 1) := by decide +kernel
theorem dX10_count_62 : decode cX10_count 62 = .ok (.aload_n 0, 1) := by decide +kernel
theorem dX10_count_63 : decode cX10_count 63 = .ok (.getfield 131, 3) := by decide +kernel
theorem dX10_count_66 : decode cX10_count 66 = .ok (.ireturn, 1) := by decide +kernel
theorem dX10_count_67 : decode cX10_count 67 = .ok (.aload_n 0, 1) := by decide +kernel
theorem dX10_count_68 : decode cX10_count 68 = .ok (.getfield 19, 3) := by decide +kernel
theorem dX10_count_71 : decode cX10_count 71 = .ok (.ireturn, 1) := by decide +kernel
theorem dX10_count_72 : decode cX10_count 72 = .ok (.aload_n 0, 1) := by decide +kernel
theorem dX10_count_73 : decode cX10_count 73 = .ok (.getfield 142, 3) := by decide +kernel
theorem dX10_count_76 : decode cX10_count 76 = .ok (.ireturn, 1) := by decide +kernel
theorem dX10_count_77 : decode cX10_count 77 = .ok (.aload_n 0, 1) := by decide +kernel
theorem dX10_count_78 : decode cX10_count 78 = .ok (.getfield 149, 3) := by decide +kernel
theorem dX10_count_81 : decode cX10_count 81 = .ok (.ireturn, 1) := by decide +kernel
theorem dX10_count_82 : decode cX10_count 82 = .ok (.aload_n 0, 1) := by decide +kernel
theorem dX10_count_83 : decode cX10_count 83 = .ok (.getfield 88, 3) := by decide +kernel
theorem dX10_count_86 : decode cX10_count 86 = .ok (.ireturn, 1) := by decide +kernel
theorem dX10_count_87 : decode cX10_count 87 = .ok (.aload_n 0, 1) := by decide +kernel
theorem dX10_count_88 : decode cX10_count 88 = .ok (.getfield 95, 3) := by decide +kernel
theorem dX10_count_91 : decode cX10_count 91 = .ok (.ireturn, 1) := by decide +kernel
theorem dX10_count_92 : decode cX10_count 92 = .ok (.iconst (-1), 1) := by decide +kernel
theorem dX10_count_93 : decode cX10_count 93 = .ok (.ireturn, 1) := by decide +kernel
theorem dX10_wrongKept_0 : decode cX10_wrongKept 0 = .ok (.iload_n 1, 1) := by decide +kernel
theorem dX10_wrongKept_1 : decode cX10_wrongKept 1 = .ok (.i2l, 1) := by decide +kernel
theorem dX10_wrongKept_2 : decode cX10_wrongKept 2 = .ok (.lconst 0, 1) := by decide +kernel
theorem dX10_wrongKept_3 : decode cX10_wrongKept 3 = .ok (.ldc2_w 253, 3) := by decide +kernel
theorem dX10_wrongKept_6 : decode cX10_wrongKept 6 = .ok (.invokestatic 84, 3) := by decide +kernel
theorem dX10_wrongKept_9 : decode cX10_wrongKept 9 = .ok (.ifCond .ne 7, 3) := by decide +kernel
theorem dX10_wrongKept_12 : decode cX10_wrongKept 12 = .ok (.iconst (-1), 1) := by decide +kernel
theorem dX10_wrongKept_13 : decode cX10_wrongKept 13 = .ok (.goto 33, 3) := by decide +kernel
theorem dX10_wrongKept_16 : decode cX10_wrongKept 16 = .ok (.aload_n 0, 1) := by decide +kernel
theorem dX10_wrongKept_17 : decode cX10_wrongKept 17 = .ok (.getfield 26, 3) := by decide +kernel
theorem dX10_wrongKept_20 : decode cX10_wrongKept 20 = .ok (.iload_n 1, 1) := by decide +kernel
theorem dX10_wrongKept_21 : decode cX10_wrongKept 21 = .ok (.iaload, 1) := by decide +kernel
theorem dX10_wrongKept_22 : decode cX10_wrongKept 22 = .ok (.ifCond .ne 8, 3) := by decide +kernel
theorem dX10_wrongKept_25 : decode cX10_wrongKept 25 = .ok (.bipush (-11), 2) := by decide +kernel
theorem dX10_wrongKept_27 : decode cX10_wrongKept 27 = .ok (.goto 19, 3) := by decide +kernel
theorem dX10_wrongKept_30 : decode cX10_wrongKept 30 = .ok (.aload_n 0, 1) := by decide +kernel
theorem dX10_wrongKept_31 : decode cX10_wrongKept 31 = .ok (.getfield 26, 3) := by decide +kernel
theorem dX10_wrongKept_34 : decode cX10_wrongKept 34 = .ok (.iload_n 1, 1) := by decide +kernel
theorem dX10_wrongKept_35 : decode cX10_wrongKept 35 = .ok (.iaload, 1) := by decide +kernel
theorem dX10_wrongKept_36 : decode cX10_wrongKept 36 = .ok (.iconst 2, 1) := by decide +kernel
theorem dX10_wrongKept_37 : decode cX10_wrongKept 37 = .ok (.if_icmp .ne 8, 3) := by decide +kernel
theorem dX10_wrongKept_40 : decode cX10_wrongKept 40 = .ok (.bipush (-12), 2) := by decide +kernel
theorem dX10_wrongKept_42 : decode cX10_wrongKept 42 = .ok (.goto 4, 3) := by decide +kernel
theorem dX10_wrongKept_45 : decode cX10_wrongKept 45 = .ok (.iconst 0, 1) := by decide +kernel
theorem dX10_wrongKept_46 : decode cX10_wrongKept 46 = .ok (.ireturn, 1) := by decide +kernel
theorem dX10_keep_0 : decode cX10_keep 0 = .ok (.aload_n 0, 1) := by decide +kernel
theorem dX10_keep_1 : decode cX10_keep 1 = .ok (.iconst 0, 1) := by decide +kernel
theorem dX10_keep_2 : decode cX10_keep 2 = .ok (.putfield 78, 3) := by decide +kernel
theorem dX10_keep_5 : decode cX10_keep 5 = .ok (.iload_n 1, 1) := by decide +kernel
theorem dX10_keep_6 : decode cX10_keep 6 = .ok (.i2l, 1) := by decide +kernel
theorem dX10_keep_7 : decode cX10_keep 7 = .ok (.lconst 0, 1) := by decide +kernel
theorem dX10_keep_8 : decode cX10_keep 8 = .ok (.ldc2_w 253, 3) := by decide +kernel
theorem dX10_keep_11 : decode cX10_keep 11 = .ok (.invokestatic 84, 3) := by decide +kernel
theorem dX10_keep_14 : decode cX10_keep 14 = .ok (.ifCond .eq 43, 3) := by decide +kernel
theorem dX10_keep_17 : decode cX10_keep 17 = .ok (.iload_n 2, 1) := by decide +kernel
theorem dX10_keep_18 : decode cX10_keep 18 = .ok (.i2l, 1) := by decide +kernel
theorem dX10_keep_19 : decode cX10_keep 19 = .ok (.lconst 0, 1) := by decide +kernel
theorem dX10_keep_20 : decode cX10_keep 20 = .ok (.lconst 1, 1) := by decide +kernel
theorem dX10_keep_21 : decode cX10_keep 21 = .ok (.invokestatic 84, 3) := by decide +kernel
theorem dX10_keep_24 : decode cX10_keep 24 = .ok (.ifCond .eq 33, 3) := by decide +kernel
theorem dX10_keep_27 : decode cX10_keep 27 = .ok (.iload_n 2, 1) := by decide +kernel
theorem dX10_keep_28 : decode cX10_keep 28 = .ok (.iconst 1, 1) := by decide +kernel
theorem dX10_keep_29 : decode cX10_keep 29 = .ok (.if_icmp .ne 30, 3) := by decide +kernel
theorem dX10_keep_32 : decode cX10_keep 32 = .ok (.iload_n 3, 1) := by decide +kernel
theorem dX10_keep_33 : decode cX10_keep 33 = .ok (.i2l, 1) := by decide +kernel
theorem dX10_keep_34 : decode cX10_keep 34 = .ok (.lconst 0, 1) := by decide +kernel
theorem dX10_keep_35 : decode cX10_keep 35 = .ok (.ldc2_w 253, 3) := by decide +kernel
theorem dX10_keep_38 : decode cX10_keep 38 = .ok (.invokestatic 84, 3) := by decide +kernel
theorem dX10_keep_41 : decode cX10_keep 41 = .ok (.ifCond .eq 16, 3) := by decide +kernel
theorem dX10_keep_44 : decode cX10_keep 44 = .ok (.iload 4, 2) := by decide +kernel
theorem dX10_keep_46 : decode cX10_keep 46 = .ok (.i2l, 1) := by decide +kernel
theorem dX10_keep_47 : decode cX10_keep 47 = .ok (.lconst 0, 1) := by decide +kernel
theorem dX10_keep_48 : decode cX10_keep 48 = .ok (.ldc2_w 260, 3) := by decide +kernel
theorem dX10_keep_51 : decode cX10_keep 51 = .ok (.invokestatic 84, 3) := by decide +kernel
theorem dX10_keep_54 : decode cX10_keep 54 = .ok (.ifCond .ne 5, 3) := by decide +kernel
theorem dX10_keep_57 : decode cX10_keep 57 = .ok (.iconst (-1), 1) := by decide +kernel
theorem dX10_keep_58 : decode cX10_keep 58 = .ok (.ireturn, 1) := by decide +kernel
theorem dX10_keep_59 : decode cX10_keep 59 = .ok (.aload_n 0, 1) := by decide +kernel
theorem dX10_keep_60 : decode cX10_keep 60 = .ok (.getfield 26, 3) := by decide +kernel
theorem dX10_keep_63 : decode cX10_keep 63 = .ok (.iload_n 1, 1) := by decide +kernel
theorem dX10_keep_64 : decode cX10_keep 64 = .ok (.iload_n 2, 1) := by decide +kernel
theorem dX10_keep_65 : decode cX10_keep 65 = .ok (.iastore, 1) := by decide +kernel
theorem dX10_keep_66 : decode cX10_keep 66 = .ok (.aload_n 0, 1) := by decide +kernel
theorem dX10_keep_67 : decode cX10_keep 67 = .ok (.getfield 29, 3) := by decide +kernel
theorem dX10_keep_70 : decode cX10_keep 70 = .ok (.iload_n 1, 1) := by decide +kernel
theorem dX10_keep_71 : decode cX10_keep 71 = .ok (.iload_n 2, 1) := by decide +kernel
theorem dX10_keep_72 : decode cX10_keep 72 = .ok (.iconst 1, 1) := by decide +kernel
theorem dX10_keep_73 : decode cX10_keep 73 = .ok (.if_icmp .ne 7, 3) := by decide +kernel
theorem dX10_keep_76 : decode cX10_keep 76 = .ok (.iload_n 3, 1) := by decide +kernel
theorem dX10_keep_77 : decode cX10_keep 77 = .ok (.goto 4, 3) := by decide +kernel
theorem dX10_keep_80 : decode cX10_keep 80 = .ok (.iconst 0, 1) := by decide +kernel
theorem dX10_keep_81 : decode cX10_keep 81 = .ok (.iastore, 1) := by decide +kernel
theorem dX10_keep_82 : decode cX10_keep 82 = .ok (.aload_n 0, 1) := by decide +kernel
theorem dX10_keep_83 : decode cX10_keep 83 = .ok (.getfield 32, 3) := by decide +kernel
theorem dX10_keep_86 : decode cX10_keep 86 = .ok (.iload_n 1, 1) := by decide +kernel
theorem dX10_keep_87 : decode cX10_keep 87 = .ok (.iload_n 2, 1) := by decide +kernel
theorem dX10_keep_88 : decode cX10_keep 88 = .ok (.iconst 1, 1) := by decide +kernel
theorem dX10_keep_89 : decode cX10_keep 89 = .ok (.if_icmp .ne 8, 3) := by decide +kernel
theorem dX10_keep_92 : decode cX10_keep 92 = .ok (.iload 4, 2) := by decide +kernel
theorem dX10_keep_94 : decode cX10_keep 94 = .ok (.goto 4, 3) := by decide +kernel
theorem dX10_keep_97 : decode cX10_keep 97 = .ok (.iconst 0, 1) := by decide +kernel
theorem dX10_keep_98 : decode cX10_keep 98 = .ok (.iastore, 1) := by decide +kernel
theorem dX10_keep_99 : decode cX10_keep 99 = .ok (.iconst 0, 1) := by decide +kernel
theorem dX10_keep_100 : decode cX10_keep 100 = .ok (.ireturn, 1) := by decide +kernel
theorem dX10_wrongRow_0 : decode cX10_wrongRow 0 = .ok (.iload_n 1, 1) := by decide +kernel
theorem dX10_wrongRow_1 : decode cX10_wrongRow 1 = .ok (.i2l, 1) := by decide +kernel
theorem dX10_wrongRow_2 : decode cX10_wrongRow 2 = .ok (.lconst 0, 1) := by decide +kernel
theorem dX10_wrongRow_3 : decode cX10_wrongRow 3 = .ok (.ldc2_w 253, 3) := by decide +kernel
theorem dX10_wrongRow_6 : decode cX10_wrongRow 6 = .ok (.invokestatic 84, 3) := by decide +kernel
theorem dX10_wrongRow_9 : decode cX10_wrongRow 9 = .ok (.ifCond .ne 7, 3) := by decide +kernel
theorem dX10_wrongRow_12 : decode cX10_wrongRow 12 = .ok (.iconst (-1), 1) := by decide +kernel
theorem dX10_wrongRow_13 : decode cX10_wrongRow 13 = .ok (.goto 33, 3) := by decide +kernel
theorem dX10_wrongRow_16 : decode cX10_wrongRow 16 = .ok (.aload_n 0, 1) := by decide +kernel
theorem dX10_wrongRow_17 : decode cX10_wrongRow 17 = .ok (.getfield 26, 3) := by decide +kernel
theorem dX10_wrongRow_20 : decode cX10_wrongRow 20 = .ok (.iload_n 1, 1) := by decide +kernel
theorem dX10_wrongRow_21 : decode cX10_wrongRow 21 = .ok (.iaload, 1) := by decide +kernel
theorem dX10_wrongRow_22 : decode cX10_wrongRow 22 = .ok (.ifCond .ne 8, 3) := by decide +kernel
theorem dX10_wrongRow_25 : decode cX10_wrongRow 25 = .ok (.bipush (-11), 2) := by decide +kernel
theorem dX10_wrongRow_27 : decode cX10_wrongRow 27 = .ok (.goto 19, 3) := by decide +kernel
theorem dX10_wrongRow_30 : decode cX10_wrongRow 30 = .ok (.aload_n 0, 1) := by decide +kernel
theorem dX10_wrongRow_31 : decode cX10_wrongRow 31 = .ok (.getfield 26, 3) := by decide +kernel
theorem dX10_wrongRow_34 : decode cX10_wrongRow 34 = .ok (.iload_n 1, 1) := by decide +kernel
theorem dX10_wrongRow_35 : decode cX10_wrongRow 35 = .ok (.iaload, 1) := by decide +kernel
theorem dX10_wrongRow_36 : decode cX10_wrongRow 36 = .ok (.iconst 2, 1) := by decide +kernel
theorem dX10_wrongRow_37 : decode cX10_wrongRow 37 = .ok (.if_icmp .eq 8, 3) := by decide +kernel
theorem dX10_wrongRow_40 : decode cX10_wrongRow 40 = .ok (.bipush (-12), 2) := by decide +kernel
theorem dX10_wrongRow_42 : decode cX10_wrongRow 42 = .ok (.goto 4, 3) := by decide +kernel
theorem dX10_wrongRow_45 : decode cX10_wrongRow 45 = .ok (.iconst 0, 1) := by decide +kernel
theorem dX10_wrongRow_46 : decode cX10_wrongRow 46 = .ok (.ireturn, 1) := by decide +kernel
theorem dX10_narrowed_0 : decode cX10_narrowed 0 = .ok (.iload_n 1, 1) := by decide +kernel
theorem dX10_narrowed_1 : decode cX10_narrowed 1 = .ok (.ifCond .ne 9, 3) := by decide +kernel
theorem dX10_narrowed_4 : decode cX10_narrowed 4 = .ok (.iload_n 0, 1) := by decide +kernel
theorem dX10_narrowed_5 : decode cX10_narrowed 5 = .ok (.i2b, 1) := by decide +kernel
theorem dX10_narrowed_6 : decode cX10_narrowed 6 = .ok (.i2l, 1) := by decide +kernel
theorem dX10_narrowed_7 : decode cX10_narrowed 7 = .ok (.goto 16, 3) := by decide +kernel
theorem dX10_narrowed_10 : decode cX10_narrowed 10 = .ok (.iload_n 1, 1) := by decide +kernel
theorem dX10_narrowed_11 : decode cX10_narrowed 11 = .ok (.iconst 1, 1) := by decide +kernel
theorem dX10_narrowed_12 : decode cX10_narrowed 12 = .ok (.if_icmp .ne 9, 3) := by decide +kernel
theorem dX10_narrowed_15 : decode cX10_narrowed 15 = .ok (.iload_n 0, 1) := by decide +kernel
theorem dX10_narrowed_16 : decode cX10_narrowed 16 = .ok (.i2s, 1) := by decide +kernel
theorem dX10_narrowed_17 : decode cX10_narrowed 17 = .ok (.i2l, 1) := by decide +kernel
theorem dX10_narrowed_18 : decode cX10_narrowed 18 = .ok (.goto 5, 3) := by decide +kernel
theorem dX10_narrowed_21 : decode cX10_narrowed 21 = .ok (.iload_n 0, 1) := by decide +kernel
theorem dX10_narrowed_22 : decode cX10_narrowed 22 = .ok (.i2l, 1) := by decide +kernel
theorem dX10_narrowed_23 : decode cX10_narrowed 23 = .ok (.lreturn, 1) := by decide +kernel
theorem dX10_row_0 : decode cX10_row 0 = .ok (.aload_n 0, 1) := by decide +kernel
theorem dX10_row_1 : decode cX10_row 1 = .ok (.iconst 0, 1) := by decide +kernel
theorem dX10_row_2 : decode cX10_row 2 = .ok (.putfield 78, 3) := by decide +kernel
theorem dX10_row_5 : decode cX10_row 5 = .ok (.iload_n 1, 1) := by decide +kernel
theorem dX10_row_6 : decode cX10_row 6 = .ok (.i2l, 1) := by decide +kernel
theorem dX10_row_7 : decode cX10_row 7 = .ok (.lconst 0, 1) := by decide +kernel
theorem dX10_row_8 : decode cX10_row 8 = .ok (.ldc2_w 253, 3) := by decide +kernel
theorem dX10_row_11 : decode cX10_row 11 = .ok (.invokestatic 84, 3) := by decide +kernel
theorem dX10_row_14 : decode cX10_row 14 = .ok (.ifCond .eq 21, 3) := by decide +kernel
theorem dX10_row_17 : decode cX10_row 17 = .ok (.iload_n 2, 1) := by decide +kernel
theorem dX10_row_18 : decode cX10_row 18 = .ok (.i2l, 1) := by decide +kernel
theorem dX10_row_19 : decode cX10_row 19 = .ok (.lconst 0, 1) := by decide +kernel
theorem dX10_row_20 : decode cX10_row 20 = .ok (.ldc2_w 267, 3) := by decide +kernel
theorem dX10_row_23 : decode cX10_row 23 = .ok (.invokestatic 84, 3) := by decide +kernel
theorem dX10_row_26 : decode cX10_row 26 = .ok (.ifCond .eq 9, 3) := by decide +kernel
theorem dX10_row_29 : decode cX10_row 29 = .ok (.iload_n 3, 1) := by decide +kernel
theorem dX10_row_30 : decode cX10_row 30 = .ok (.bipush 100, 2) := by decide +kernel
theorem dX10_row_32 : decode cX10_row 32 = .ok (.if_icmp .le 5, 3) := by decide +kernel
theorem dX10_row_35 : decode cX10_row 35 = .ok (.iconst (-1), 1) := by decide +kernel
theorem dX10_row_36 : decode cX10_row 36 = .ok (.ireturn, 1) := by decide +kernel
theorem dX10_row_37 : decode cX10_row 37 = .ok (.iload_n 3, 1) := by decide +kernel
theorem dX10_row_38 : decode cX10_row 38 = .ok (.ifCond .ge 6, 3) := by decide +kernel
theorem dX10_row_41 : decode cX10_row 41 = .ok (.bipush (-14), 2) := by decide +kernel
theorem dX10_row_43 : decode cX10_row 43 = .ok (.ireturn, 1) := by decide +kernel
theorem dX10_row_44 : decode cX10_row 44 = .ok (.aload_n 0, 1) := by decide +kernel
theorem dX10_row_45 : decode cX10_row 45 = .ok (.getfield 26, 3) := by decide +kernel
theorem dX10_row_48 : decode cX10_row 48 = .ok (.iload_n 1, 1) := by decide +kernel
theorem dX10_row_49 : decode cX10_row 49 = .ok (.iconst 2, 1) := by decide +kernel
theorem dX10_row_50 : decode cX10_row 50 = .ok (.iastore, 1) := by decide +kernel
theorem dX10_row_51 : decode cX10_row 51 = .ok (.aload_n 0, 1) := by decide +kernel
theorem dX10_row_52 : decode cX10_row 52 = .ok (.getfield 35, 3) := by decide +kernel
theorem dX10_row_55 : decode cX10_row 55 = .ok (.iload_n 1, 1) := by decide +kernel
theorem dX10_row_56 : decode cX10_row 56 = .ok (.iload_n 2, 1) := by decide +kernel
theorem dX10_row_57 : decode cX10_row 57 = .ok (.iastore, 1) := by decide +kernel
theorem dX10_row_58 : decode cX10_row 58 = .ok (.aload_n 0, 1) := by decide +kernel
theorem dX10_row_59 : decode cX10_row 59 = .ok (.getfield 38, 3) := by decide +kernel
theorem dX10_row_62 : decode cX10_row 62 = .ok (.iload_n 1, 1) := by decide +kernel
theorem dX10_row_63 : decode cX10_row 63 = .ok (.iload_n 3, 1) := by decide +kernel
theorem dX10_row_64 : decode cX10_row 64 = .ok (.iastore, 1) := by decide +kernel
theorem dX10_row_65 : decode cX10_row 65 = .ok (.iconst 0, 1) := by decide +kernel
theorem dX10_row_66 : decode cX10_row 66 = .ok (.istore 4, 2) := by decide +kernel
theorem dX10_row_68 : decode cX10_row 68 = .ok (.iload 4, 2) := by decide +kernel
theorem dX10_row_70 : decode cX10_row 70 = .ok (.bipush 100, 2) := by decide +kernel
theorem dX10_row_72 : decode cX10_row 72 = .ok (.if_icmp .ge 22, 3) := by decide +kernel
theorem dX10_row_75 : decode cX10_row 75 = .ok (.aload_n 0, 1) := by decide +kernel
theorem dX10_row_76 : decode cX10_row 76 = .ok (.getfield 41, 3) := by decide +kernel
theorem dX10_row_79 : decode cX10_row 79 = .ok (.bipush 100, 2) := by decide +kernel
theorem dX10_row_81 : decode cX10_row 81 = .ok (.iload_n 1, 1) := by decide +kernel
theorem dX10_row_82 : decode cX10_row 82 = .ok (.imul, 1) := by decide +kernel
theorem dX10_row_83 : decode cX10_row 83 = .ok (.iload 4, 2) := by decide +kernel
theorem dX10_row_85 : decode cX10_row 85 = .ok (.iadd, 1) := by decide +kernel
theorem dX10_row_86 : decode cX10_row 86 = .ok (.lconst 0, 1) := by decide +kernel
theorem dX10_row_87 : decode cX10_row 87 = .ok (.lastore, 1) := by decide +kernel
theorem dX10_row_88 : decode cX10_row 88 = .ok (.iinc 4 1, 3) := by decide +kernel
theorem dX10_row_91 : decode cX10_row 91 = .ok (.goto (-23), 3) := by decide +kernel
theorem dX10_row_94 : decode cX10_row 94 = .ok (.iconst 0, 1) := by decide +kernel
theorem dX10_row_95 : decode cX10_row 95 = .ok (.ireturn, 1) := by decide +kernel
theorem dX10_put_0 : decode cX10_put 0 = .ok (.aload_n 0, 1) := by decide +kernel
theorem dX10_put_1 : decode cX10_put 1 = .ok (.iconst 0, 1) := by decide +kernel
theorem dX10_put_2 : decode cX10_put 2 = .ok (.putfield 78, 3) := by decide +kernel
theorem dX10_put_5 : decode cX10_put 5 = .ok (.aload_n 0, 1) := by decide +kernel
theorem dX10_put_6 : decode cX10_put 6 = .ok (.iload_n 1, 1) := by decide +kernel
theorem dX10_put_7 : decode cX10_put 7 = .ok (.invokevirtual 219, 3) := by decide +kernel
theorem dX10_put_10 : decode cX10_put 10 = .ok (.istore 4, 2) := by decide +kernel
theorem dX10_put_12 : decode cX10_put 12 = .ok (.iload 4, 2) := by decide +kernel
theorem dX10_put_14 : decode cX10_put 14 = .ok (.ifCond .ge 6, 3) := by decide +kernel
theorem dX10_put_17 : decode cX10_put 17 = .ok (.iload 4, 2) := by decide +kernel
theorem dX10_put_19 : decode cX10_put 19 = .ok (.ireturn, 1) := by decide +kernel
theorem dX10_put_20 : decode cX10_put 20 = .ok (.iload_n 2, 1) := by decide +kernel
theorem dX10_put_21 : decode cX10_put 21 = .ok (.i2l, 1) := by decide +kernel
theorem dX10_put_22 : decode cX10_put 22 = .ok (.lconst 0, 1) := by decide +kernel
theorem dX10_put_23 : decode cX10_put 23 = .ok (.aload_n 0, 1) := by decide +kernel
theorem dX10_put_24 : decode cX10_put 24 = .ok (.getfield 38, 3) := by decide +kernel
theorem dX10_put_27 : decode cX10_put 27 = .ok (.iload_n 1, 1) := by decide +kernel
theorem dX10_put_28 : decode cX10_put 28 = .ok (.iaload, 1) := by decide +kernel
theorem dX10_put_29 : decode cX10_put 29 = .ok (.iconst 1, 1) := by decide +kernel
theorem dX10_put_30 : decode cX10_put 30 = .ok (.isub, 1) := by decide +kernel
theorem dX10_put_31 : decode cX10_put 31 = .ok (.i2l, 1) := by decide +kernel
theorem dX10_put_32 : decode cX10_put 32 = .ok (.invokestatic 84, 3) := by decide +kernel
theorem dX10_put_35 : decode cX10_put 35 = .ok (.ifCond .ne 6, 3) := by decide +kernel
theorem dX10_put_38 : decode cX10_put 38 = .ok (.bipush (-13), 2) := by decide +kernel
theorem dX10_put_40 : decode cX10_put 40 = .ok (.ireturn, 1) := by decide +kernel
theorem dX10_put_41 : decode cX10_put 41 = .ok (.aload_n 0, 1) := by decide +kernel
theorem dX10_put_42 : decode cX10_put 42 = .ok (.getfield 41, 3) := by decide +kernel
theorem dX10_put_45 : decode cX10_put 45 = .ok (.bipush 100, 2) := by decide +kernel
theorem dX10_put_47 : decode cX10_put 47 = .ok (.iload_n 1, 1) := by decide +kernel
theorem dX10_put_48 : decode cX10_put 48 = .ok (.imul, 1) := by decide +kernel
theorem dX10_put_49 : decode cX10_put 49 = .ok (.iload_n 2, 1) := by decide +kernel
theorem dX10_put_50 : decode cX10_put 50 = .ok (.iadd, 1) := by decide +kernel
theorem dX10_put_51 : decode cX10_put 51 = .ok (.iload_n 3, 1) := by decide +kernel
theorem dX10_put_52 : decode cX10_put 52 = .ok (.aload_n 0, 1) := by decide +kernel
theorem dX10_put_53 : decode cX10_put 53 = .ok (.getfield 35, 3) := by decide +kernel
theorem dX10_put_56 : decode cX10_put 56 = .ok (.iload_n 1, 1) := by decide +kernel
theorem dX10_put_57 : decode cX10_put 57 = .ok (.iaload, 1) := by decide +kernel
theorem dX10_put_58 : decode cX10_put 58 = .ok (.invokestatic 364, 3) := by decide +kernel
theorem dX10_put_61 : decode cX10_put 61 = .ok (.lastore, 1) := by decide +kernel
theorem dX10_put_62 : decode cX10_put 62 = .ok (.iconst 0, 1) := by decide +kernel
theorem dX10_put_63 : decode cX10_put 63 = .ok (.ireturn, 1) := by decide +kernel
theorem dX10_element_0 : decode cX10_element 0 = .ok (.aload_n 0, 1) := by decide +kernel
theorem dX10_element_1 : decode cX10_element 1 = .ok (.iload_n 1, 1) := by decide +kernel
theorem dX10_element_2 : decode cX10_element 2 = .ok (.invokevirtual 219, 3) := by decide +kernel
theorem dX10_element_5 : decode cX10_element 5 = .ok (.istore_n 3, 1) := by decide +kernel
theorem dX10_element_6 : decode cX10_element 6 = .ok (.aload_n 0, 1) := by decide +kernel
theorem dX10_element_7 : decode cX10_element 7 = .ok (.iload_n 3, 1) := by decide +kernel
theorem dX10_element_8 : decode cX10_element 8 = .ok (.iconst (-1), 1) := by decide +kernel
theorem dX10_element_9 : decode cX10_element 9 = .ok (.if_icmp .ne 7, 3) := by decide +kernel
theorem dX10_element_12 : decode cX10_element 12 = .ok (.iconst 1, 1) := by decide +kernel
theorem dX10_element_13 : decode cX10_element 13 = .ok (.goto 30, 3) := by decide +kernel
theorem dX10_element_16 : decode cX10_element 16 = .ok (.iload_n 3, 1) := by decide +kernel
theorem dX10_element_17 : decode cX10_element 17 = .ok (.ifCond .lt 21, 3) := by decide +kernel
theorem dX10_element_20 : decode cX10_element 20 = .ok (.iload_n 2, 1) := by decide +kernel
theorem dX10_element_21 : decode cX10_element 21 = .ok (.i2l, 1) := by decide +kernel
theorem dX10_element_22 : decode cX10_element 22 = .ok (.lconst 0, 1) := by decide +kernel
theorem dX10_element_23 : decode cX10_element 23 = .ok (.aload_n 0, 1) := by decide +kernel
theorem dX10_element_24 : decode cX10_element 24 = .ok (.getfield 38, 3) := by decide +kernel
theorem dX10_element_27 : decode cX10_element 27 = .ok (.iload_n 1, 1) := by decide +kernel
theorem dX10_element_28 : decode cX10_element 28 = .ok (.iaload, 1) := by decide +kernel
theorem dX10_element_29 : decode cX10_element 29 = .ok (.iconst 1, 1) := by decide +kernel
theorem dX10_element_30 : decode cX10_element 30 = .ok (.isub, 1) := by decide +kernel
theorem dX10_element_31 : decode cX10_element 31 = .ok (.i2l, 1) := by decide +kernel
theorem dX10_element_32 : decode cX10_element 32 = .ok (.invokestatic 84, 3) := by decide +kernel
theorem dX10_element_35 : decode cX10_element 35 = .ok (.ifCond .ne 7, 3) := by decide +kernel
theorem dX10_element_38 : decode cX10_element 38 = .ok (.iconst 2, 1) := by decide +kernel
theorem dX10_element_39 : decode cX10_element 39 = .ok (.goto 4, 3) := by decide +kernel
theorem dX10_element_42 : decode cX10_element 42 = .ok (.iconst 0, 1) := by decide +kernel
theorem dX10_element_43 : decode cX10_element 43 = .ok (.putfield 78, 3) := by decide +kernel
theorem dX10_element_46 : decode cX10_element 46 = .ok (.aload_n 0, 1) := by decide +kernel
theorem dX10_element_47 : decode cX10_element 47 = .ok (.getfield 78, 3) := by decide +kernel
theorem dX10_element_50 : decode cX10_element 50 = .ok (.ifCond .le 7, 3) := by decide +kernel
theorem dX10_element_53 : decode cX10_element 53 = .ok (.lconst 0, 1) := by decide +kernel
theorem dX10_element_54 : decode cX10_element 54 = .ok (.goto 14, 3) := by decide +kernel
theorem dX10_element_57 : decode cX10_element 57 = .ok (.aload_n 0, 1) := by decide +kernel
theorem dX10_element_58 : decode cX10_element 58 = .ok (.getfield 41, 3) := by decide +kernel
theorem dX10_element_61 : decode cX10_element 61 = .ok (.bipush 100, 2) := by decide +kernel
theorem dX10_element_63 : decode cX10_element 63 = .ok (.iload_n 1, 1) := by decide +kernel
theorem dX10_element_64 : decode cX10_element 64 = .ok (.imul, 1) := by decide +kernel
theorem dX10_element_65 : decode cX10_element 65 = .ok (.iload_n 2, 1) := by decide +kernel
theorem dX10_element_66 : decode cX10_element 66 = .ok (.iadd, 1) := by decide +kernel
theorem dX10_element_67 : decode cX10_element 67 = .ok (.laload, 1) := by decide +kernel
theorem dX10_element_68 : decode cX10_element 68 = .ok (.lreturn, 1) := by decide +kernel
theorem dX10_copy_0 : decode cX10_copy 0 = .ok (.aload_n 0, 1) := by decide +kernel
theorem dX10_copy_1 : decode cX10_copy 1 = .ok (.iconst 0, 1) := by decide +kernel
theorem dX10_copy_2 : decode cX10_copy 2 = .ok (.putfield 78, 3) := by decide +kernel
theorem dX10_copy_5 : decode cX10_copy 5 = .ok (.iload_n 1, 1) := by decide +kernel
theorem dX10_copy_6 : decode cX10_copy 6 = .ok (.i2l, 1) := by decide +kernel
theorem dX10_copy_7 : decode cX10_copy 7 = .ok (.lconst 0, 1) := by decide +kernel
theorem dX10_copy_8 : decode cX10_copy 8 = .ok (.ldc2_w 253, 3) := by decide +kernel
theorem dX10_copy_11 : decode cX10_copy 11 = .ok (.invokestatic 84, 3) := by decide +kernel
theorem dX10_copy_14 : decode cX10_copy 14 = .ok (.ifCond .eq 15, 3) := by decide +kernel
theorem dX10_copy_17 : decode cX10_copy 17 = .ok (.iload_n 3, 1) := by decide +kernel
theorem dX10_copy_18 : decode cX10_copy 18 = .ok (.i2l, 1) := by decide +kernel
theorem dX10_copy_19 : decode cX10_copy 19 = .ok (.lconst 0, 1) := by decide +kernel
theorem dX10_copy_20 : decode cX10_copy 20 = .ok (.ldc2_w 253, 3) := by decide +kernel
theorem dX10_copy_23 : decode cX10_copy 23 = .ok (.invokestatic 84, 3) := by decide +kernel
theorem dX10_copy_26 : decode cX10_copy 26 = .ok (.ifCond .ne 5, 3) := by decide +kernel
theorem dX10_copy_29 : decode cX10_copy 29 = .ok (.iconst (-1), 1) := by decide +kernel
theorem dX10_copy_30 : decode cX10_copy 30 = .ok (.ireturn, 1) := by decide +kernel
theorem dX10_copy_31 : decode cX10_copy 31 = .ok (.aload_n 0, 1) := by decide +kernel
theorem dX10_copy_32 : decode cX10_copy 32 = .ok (.getfield 26, 3) := by decide +kernel
theorem dX10_copy_35 : decode cX10_copy 35 = .ok (.iload_n 1, 1) := by decide +kernel
theorem dX10_copy_36 : decode cX10_copy 36 = .ok (.iaload, 1) := by decide +kernel
theorem dX10_copy_37 : decode cX10_copy 37 = .ok (.ifCond .eq 12, 3) := by decide +kernel
theorem dX10_copy_40 : decode cX10_copy 40 = .ok (.aload_n 0, 1) := by decide +kernel
theorem dX10_copy_41 : decode cX10_copy 41 = .ok (.getfield 26, 3) := by decide +kernel
theorem dX10_copy_44 : decode cX10_copy 44 = .ok (.iload_n 3, 1) := by decide +kernel
theorem dX10_copy_45 : decode cX10_copy 45 = .ok (.iaload, 1) := by decide +kernel
theorem dX10_copy_46 : decode cX10_copy 46 = .ok (.ifCond .ne 6, 3) := by decide +kernel
theorem dX10_copy_49 : decode cX10_copy 49 = .ok (.bipush (-11), 2) := by decide +kernel
theorem dX10_copy_51 : decode cX10_copy 51 = .ok (.ireturn, 1) := by decide +kernel
theorem dX10_copy_52 : decode cX10_copy 52 = .ok (.aload_n 0, 1) := by decide +kernel
theorem dX10_copy_53 : decode cX10_copy 53 = .ok (.getfield 26, 3) := by decide +kernel
theorem dX10_copy_56 : decode cX10_copy 56 = .ok (.iload_n 1, 1) := by decide +kernel
theorem dX10_copy_57 : decode cX10_copy 57 = .ok (.iaload, 1) := by decide +kernel
theorem dX10_copy_58 : decode cX10_copy 58 = .ok (.iconst 2, 1) := by decide +kernel
theorem dX10_copy_59 : decode cX10_copy 59 = .ok (.if_icmp .ne 28, 3) := by decide +kernel
theorem dX10_copy_62 : decode cX10_copy 62 = .ok (.aload_n 0, 1) := by decide +kernel
theorem dX10_copy_63 : decode cX10_copy 63 = .ok (.getfield 26, 3) := by decide +kernel
theorem dX10_copy_66 : decode cX10_copy 66 = .ok (.iload_n 3, 1) := by decide +kernel
theorem dX10_copy_67 : decode cX10_copy 67 = .ok (.iaload, 1) := by decide +kernel
theorem dX10_copy_68 : decode cX10_copy 68 = .ok (.iconst 2, 1) := by decide +kernel
theorem dX10_copy_69 : decode cX10_copy 69 = .ok (.if_icmp .ne 18, 3) := by decide +kernel
theorem dX10_copy_72 : decode cX10_copy 72 = .ok (.aload_n 0, 1) := by decide +kernel
theorem dX10_copy_73 : decode cX10_copy 73 = .ok (.getfield 35, 3) := by decide +kernel
theorem dX10_copy_76 : decode cX10_copy 76 = .ok (.iload_n 1, 1) := by decide +kernel
theorem dX10_copy_77 : decode cX10_copy 77 = .ok (.iaload, 1) := by decide +kernel
theorem dX10_copy_78 : decode cX10_copy 78 = .ok (.aload_n 0, 1) := by decide +kernel
theorem dX10_copy_79 : decode cX10_copy 79 = .ok (.getfield 35, 3) := by decide +kernel
theorem dX10_copy_82 : decode cX10_copy 82 = .ok (.iload_n 3, 1) := by decide +kernel
theorem dX10_copy_83 : decode cX10_copy 83 = .ok (.iaload, 1) := by decide +kernel
theorem dX10_copy_84 : decode cX10_copy 84 = .ok (.if_icmp .eq 6, 3) := by decide +kernel
theorem dX10_copy_87 : decode cX10_copy 87 = .ok (.bipush (-12), 2) := by decide +kernel
theorem dX10_copy_89 : decode cX10_copy 89 = .ok (.ireturn, 1) := by decide +kernel
theorem dX10_copy_90 : decode cX10_copy 90 = .ok (.iload 5, 2) := by decide +kernel
theorem dX10_copy_92 : decode cX10_copy 92 = .ok (.ifCond .lt 39, 3) := by decide +kernel
theorem dX10_copy_95 : decode cX10_copy 95 = .ok (.iload_n 2, 1) := by decide +kernel
theorem dX10_copy_96 : decode cX10_copy 96 = .ok (.ifCond .lt 35, 3) := by decide +kernel
theorem dX10_copy_99 : decode cX10_copy 99 = .ok (.iload 4, 2) := by decide +kernel
theorem dX10_copy_101 : decode cX10_copy 101 = .ok (.ifCond .lt 30, 3) := by decide +kernel
theorem dX10_copy_104 : decode cX10_copy 104 = .ok (.iload_n 2, 1) := by decide +kernel
theorem dX10_copy_105 : decode cX10_copy 105 = .ok (.aload_n 0, 1) := by decide +kernel
theorem dX10_copy_106 : decode cX10_copy 106 = .ok (.getfield 38, 3) := by decide +kernel
theorem dX10_copy_109 : decode cX10_copy 109 = .ok (.iload_n 1, 1) := by decide +kernel
theorem dX10_copy_110 : decode cX10_copy 110 = .ok (.iaload, 1) := by decide +kernel
theorem dX10_copy_111 : decode cX10_copy 111 = .ok (.iload 5, 2) := by decide +kernel
theorem dX10_copy_113 : decode cX10_copy 113 = .ok (.isub, 1) := by decide +kernel
theorem dX10_copy_114 : decode cX10_copy 114 = .ok (.if_icmp .gt 17, 3) := by decide +kernel
theorem dX10_copy_117 : decode cX10_copy 117 = .ok (.iload 4, 2) := by decide +kernel
theorem dX10_copy_119 : decode cX10_copy 119 = .ok (.aload_n 0, 1) := by decide +kernel
theorem dX10_copy_120 : decode cX10_copy 120 = .ok (.getfield 38, 3) := by decide +kernel
theorem dX10_copy_123 : decode cX10_copy 123 = .ok (.iload_n 3, 1) := by decide +kernel
theorem dX10_copy_124 : decode cX10_copy 124 = .ok (.iaload, 1) := by decide +kernel
theorem dX10_copy_125 : decode cX10_copy 125 = .ok (.iload 5, 2) := by decide +kernel
theorem dX10_copy_127 : decode cX10_copy 127 = .ok (.isub, 1) := by decide +kernel
theorem dX10_copy_128 : decode cX10_copy 128 = .ok (.if_icmp .le 6, 3) := by decide +kernel
theorem dX10_copy_131 : decode cX10_copy 131 = .ok (.bipush (-13), 2) := by decide +kernel
theorem dX10_copy_133 : decode cX10_copy 133 = .ok (.ireturn, 1) := by decide +kernel
theorem dX10_copy_134 : decode cX10_copy 134 = .ok (.iconst 0, 1) := by decide +kernel
theorem dX10_copy_135 : decode cX10_copy 135 = .ok (.istore 6, 2) := by decide +kernel
theorem dX10_copy_137 : decode cX10_copy 137 = .ok (.iload 6, 2) := by decide +kernel
theorem dX10_copy_139 : decode cX10_copy 139 = .ok (.iload 5, 2) := by decide +kernel
theorem dX10_copy_141 : decode cX10_copy 141 = .ok (.if_icmp .ge 30, 3) := by decide +kernel
theorem dX10_copy_144 : decode cX10_copy 144 = .ok (.aload_n 0, 1) := by decide +kernel
theorem dX10_copy_145 : decode cX10_copy 145 = .ok (.getfield 75, 3) := by decide +kernel
theorem dX10_copy_148 : decode cX10_copy 148 = .ok (.iload 6, 2) := by decide +kernel
theorem dX10_copy_150 : decode cX10_copy 150 = .ok (.aload_n 0, 1) := by decide +kernel
theorem dX10_copy_151 : decode cX10_copy 151 = .ok (.getfield 41, 3) := by decide +kernel
theorem dX10_copy_154 : decode cX10_copy 154 = .ok (.bipush 100, 2) := by decide +kernel
theorem dX10_copy_156 : decode cX10_copy 156 = .ok (.iload_n 1, 1) := by decide +kernel
theorem dX10_copy_157 : decode cX10_copy 157 = .ok (.imul, 1) := by decide +kernel
theorem dX10_copy_158 : decode cX10_copy 158 = .ok (.iload_n 2, 1) := by decide +kernel
theorem dX10_copy_159 : decode cX10_copy 159 = .ok (.iadd, 1) := by decide +kernel
theorem dX10_copy_160 : decode cX10_copy 160 = .ok (.iload 6, 2) := by decide +kernel
theorem dX10_copy_162 : decode cX10_copy 162 = .ok (.iadd, 1) := by decide +kernel
theorem dX10_copy_163 : decode cX10_copy 163 = .ok (.laload, 1) := by decide +kernel
theorem dX10_copy_164 : decode cX10_copy 164 = .ok (.lastore, 1) := by decide +kernel
theorem dX10_copy_165 : decode cX10_copy 165 = .ok (.iinc 6 1, 3) := by decide +kernel
theorem dX10_copy_168 : decode cX10_copy 168 = .ok (.goto (-31), 3) := by decide +kernel
theorem dX10_copy_171 : decode cX10_copy 171 = .ok (.iconst 0, 1) := by decide +kernel
theorem dX10_copy_172 : decode cX10_copy 172 = .ok (.istore 6, 2) := by decide +kernel
theorem dX10_copy_174 : decode cX10_copy 174 = .ok (.iload 6, 2) := by decide +kernel
theorem dX10_copy_176 : decode cX10_copy 176 = .ok (.iload 5, 2) := by decide +kernel
theorem dX10_copy_178 : decode cX10_copy 178 = .ok (.if_icmp .ge 31, 3) := by decide +kernel
theorem dX10_copy_181 : decode cX10_copy 181 = .ok (.aload_n 0, 1) := by decide +kernel
theorem dX10_copy_182 : decode cX10_copy 182 = .ok (.getfield 41, 3) := by decide +kernel
theorem dX10_copy_185 : decode cX10_copy 185 = .ok (.bipush 100, 2) := by decide +kernel
theorem dX10_copy_187 : decode cX10_copy 187 = .ok (.iload_n 3, 1) := by decide +kernel
theorem dX10_copy_188 : decode cX10_copy 188 = .ok (.imul, 1) := by decide +kernel
theorem dX10_copy_189 : decode cX10_copy 189 = .ok (.iload 4, 2) := by decide +kernel
theorem dX10_copy_191 : decode cX10_copy 191 = .ok (.iadd, 1) := by decide +kernel
theorem dX10_copy_192 : decode cX10_copy 192 = .ok (.iload 6, 2) := by decide +kernel
theorem dX10_copy_194 : decode cX10_copy 194 = .ok (.iadd, 1) := by decide +kernel
theorem dX10_copy_195 : decode cX10_copy 195 = .ok (.aload_n 0, 1) := by decide +kernel
theorem dX10_copy_196 : decode cX10_copy 196 = .ok (.getfield 75, 3) := by decide +kernel
theorem dX10_copy_199 : decode cX10_copy 199 = .ok (.iload 6, 2) := by decide +kernel
theorem dX10_copy_201 : decode cX10_copy 201 = .ok (.laload, 1) := by decide +kernel
theorem dX10_copy_202 : decode cX10_copy 202 = .ok (.lastore, 1) := by decide +kernel
theorem dX10_copy_203 : decode cX10_copy 203 = .ok (.iinc 6 1, 3) := by decide +kernel
theorem dX10_copy_206 : decode cX10_copy 206 = .ok (.goto (-32), 3) := by decide +kernel
theorem dX10_copy_209 : decode cX10_copy 209 = .ok (.iload 5, 2) := by decide +kernel
theorem dX10_copy_211 : decode cX10_copy 211 = .ok (.ireturn, 1) := by decide +kernel
theorem dX10_costOf_0 : decode cX10_costOf 0 = .ok (.iload_n 0, 1) := by decide +kernel
theorem dX10_costOf_1 : decode cX10_costOf 1 = .ok (.tableswitch 62 0 6 #[43, 45, 47, 51, 53, 56, 60], 43) := by decide +kernel
theorem dX10_costOf_44 : decode cX10_costOf 44 = .ok (.iload_n 1, 1) := by decide +kernel
theorem dX10_costOf_45 : decode cX10_costOf 45 = .ok (.ireturn, 1) := by decide +kernel
theorem dX10_costOf_46 : decode cX10_costOf 46 = .ok (.iconst 1, 1) := by decide +kernel
theorem dX10_costOf_47 : decode cX10_costOf 47 = .ok (.ireturn, 1) := by decide +kernel
theorem dX10_costOf_48 : decode cX10_costOf 48 = .ok (.iconst 2, 1) := by decide +kernel
theorem dX10_costOf_49 : decode cX10_costOf 49 = .ok (.iload_n 1, 1) := by decide +kernel
theorem dX10_costOf_50 : decode cX10_costOf 50 = .ok (.iadd, 1) := by decide +kernel
theorem dX10_costOf_51 : decode cX10_costOf 51 = .ok (.ireturn, 1) := by decide +kernel
theorem dX10_costOf_52 : decode cX10_costOf 52 = .ok (.iconst 0, 1) := by decide +kernel
theorem dX10_costOf_53 : decode cX10_costOf 53 = .ok (.ireturn, 1) := by decide +kernel
theorem dX10_costOf_54 : decode cX10_costOf 54 = .ok (.bipush 7, 2) := by decide +kernel
theorem dX10_costOf_56 : decode cX10_costOf 56 = .ok (.ireturn, 1) := by decide +kernel
theorem dX10_costOf_57 : decode cX10_costOf 57 = .ok (.iconst 2, 1) := by decide +kernel
theorem dX10_costOf_58 : decode cX10_costOf 58 = .ok (.iload_n 1, 1) := by decide +kernel
theorem dX10_costOf_59 : decode cX10_costOf 59 = .ok (.imul, 1) := by decide +kernel
theorem dX10_costOf_60 : decode cX10_costOf 60 = .ok (.ireturn, 1) := by decide +kernel
theorem dX10_costOf_61 : decode cX10_costOf 61 = .ok (.iconst 3, 1) := by decide +kernel
theorem dX10_costOf_62 : decode cX10_costOf 62 = .ok (.ireturn, 1) := by decide +kernel
theorem dX10_costOf_63 : decode cX10_costOf 63 = .ok (.iconst 2, 1) := by decide +kernel
theorem dX10_costOf_64 : decode cX10_costOf 64 = .ok (.iload_n 1, 1) := by decide +kernel
theorem dX10_costOf_65 : decode cX10_costOf 65 = .ok (.imul, 1) := by decide +kernel
theorem dX10_costOf_66 : decode cX10_costOf 66 = .ok (.iconst 1, 1) := by decide +kernel
theorem dX10_costOf_67 : decode cX10_costOf 67 = .ok (.iadd, 1) := by decide +kernel
theorem dX10_costOf_68 : decode cX10_costOf 68 = .ok (.ireturn, 1) := by decide +kernel
theorem dX10_cost_0 : decode cX10_cost 0 = .ok (.aload_n 0, 1) := by decide +kernel
theorem dX10_cost_1 : decode cX10_cost 1 = .ok (.iconst 0, 1) := by decide +kernel
theorem dX10_cost_2 : decode cX10_cost 2 = .ok (.putfield 78, 3) := by decide +kernel
theorem dX10_cost_5 : decode cX10_cost 5 = .ok (.aload_n 0, 1) := by decide +kernel
theorem dX10_cost_6 : decode cX10_cost 6 = .ok (.iload_n 1, 1) := by decide +kernel
theorem dX10_cost_7 : decode cX10_cost 7 = .ok (.invokevirtual 255, 3) := by decide +kernel
theorem dX10_cost_10 : decode cX10_cost 10 = .ok (.ifCond .ge 11, 3) := by decide +kernel
theorem dX10_cost_13 : decode cX10_cost 13 = .ok (.aload_n 0, 1) := by decide +kernel
theorem dX10_cost_14 : decode cX10_cost 14 = .ok (.iload_n 1, 1) := by decide +kernel
theorem dX10_cost_15 : decode cX10_cost 15 = .ok (.invokevirtual 255, 3) := by decide +kernel
theorem dX10_cost_18 : decode cX10_cost 18 = .ok (.goto 18, 3) := by decide +kernel
theorem dX10_cost_21 : decode cX10_cost 21 = .ok (.aload_n 0, 1) := by decide +kernel
theorem dX10_cost_22 : decode cX10_cost 22 = .ok (.getfield 29, 3) := by decide +kernel
theorem dX10_cost_25 : decode cX10_cost 25 = .ok (.iload_n 1, 1) := by decide +kernel
theorem dX10_cost_26 : decode cX10_cost 26 = .ok (.iaload, 1) := by decide +kernel
theorem dX10_cost_27 : decode cX10_cost 27 = .ok (.aload_n 0, 1) := by decide +kernel
theorem dX10_cost_28 : decode cX10_cost 28 = .ok (.getfield 32, 3) := by decide +kernel
theorem dX10_cost_31 : decode cX10_cost 31 = .ok (.iload_n 1, 1) := by decide +kernel
theorem dX10_cost_32 : decode cX10_cost 32 = .ok (.iaload, 1) := by decide +kernel
theorem dX10_cost_33 : decode cX10_cost 33 = .ok (.invokestatic 368, 3) := by decide +kernel
theorem dX10_cost_36 : decode cX10_cost 36 = .ok (.ireturn, 1) := by decide +kernel
theorem dX10_toss_0 : decode cX10_toss 0 = .ok (.aload_n 0, 1) := by decide +kernel
theorem dX10_toss_1 : decode cX10_toss 1 = .ok (.iconst 0, 1) := by decide +kernel
theorem dX10_toss_2 : decode cX10_toss 2 = .ok (.putfield 78, 3) := by decide +kernel
theorem dX10_toss_5 : decode cX10_toss 5 = .ok (.aload_n 0, 1) := by decide +kernel
theorem dX10_toss_6 : decode cX10_toss 6 = .ok (.iload_n 1, 1) := by decide +kernel
theorem dX10_toss_7 : decode cX10_toss 7 = .ok (.invokevirtual 255, 3) := by decide +kernel
theorem dX10_toss_10 : decode cX10_toss 10 = .ok (.ifCond .ge 9, 3) := by decide +kernel
theorem dX10_toss_13 : decode cX10_toss 13 = .ok (.aload_n 0, 1) := by decide +kernel
theorem dX10_toss_14 : decode cX10_toss 14 = .ok (.iload_n 1, 1) := by decide +kernel
theorem dX10_toss_15 : decode cX10_toss 15 = .ok (.invokevirtual 255, 3) := by decide +kernel
theorem dX10_toss_18 : decode cX10_toss 18 = .ok (.ireturn, 1) := by decide +kernel
theorem dX10_toss_19 : decode cX10_toss 19 = .ok (.aload_n 0, 1) := by decide +kernel
theorem dX10_toss_20 : decode cX10_toss 20 = .ok (.getfield 29, 3) := by decide +kernel
theorem dX10_toss_23 : decode cX10_toss 23 = .ok (.iload_n 1, 1) := by decide +kernel
theorem dX10_toss_24 : decode cX10_toss 24 = .ok (.iaload, 1) := by decide +kernel
theorem dX10_toss_25 : decode cX10_toss 25 = .ok (.istore_n 2, 1) := by decide +kernel
theorem dX10_toss_26 : decode cX10_toss 26 = .ok (.aload_n 0, 1) := by decide +kernel
theorem dX10_toss_27 : decode cX10_toss 27 = .ok (.getfield 32, 3) := by decide +kernel
theorem dX10_toss_30 : decode cX10_toss 30 = .ok (.iload_n 1, 1) := by decide +kernel
theorem dX10_toss_31 : decode cX10_toss 31 = .ok (.iaload, 1) := by decide +kernel
theorem dX10_toss_32 : decode cX10_toss 32 = .ok (.istore_n 3, 1) := by decide +kernel
theorem dX10_toss_33 : decode cX10_toss 33 = .ok (.iload_n 2, 1) := by decide +kernel
theorem dX10_toss_34 : decode cX10_toss 34 = .ok (.iconst 2, 1) := by decide +kernel
theorem dX10_toss_35 : decode cX10_toss 35 = .ok (.if_icmp .eq 18, 3) := by decide +kernel
theorem dX10_toss_38 : decode cX10_toss 38 = .ok (.iload_n 2, 1) := by decide +kernel
theorem dX10_toss_39 : decode cX10_toss 39 = .ok (.iconst 3, 1) := by decide +kernel
theorem dX10_toss_40 : decode cX10_toss 40 = .ok (.if_icmp .eq 13, 3) := by decide +kernel
theorem dX10_toss_43 : decode cX10_toss 43 = .ok (.iload_n 2, 1) := by decide +kernel
theorem dX10_toss_44 : decode cX10_toss 44 = .ok (.bipush 6, 2) := by decide +kernel
theorem dX10_toss_46 : decode cX10_toss 46 = .ok (.if_icmp .eq 7, 3) := by decide +kernel
theorem dX10_toss_49 : decode cX10_toss 49 = .ok (.iload_n 3, 1) := by decide +kernel
theorem dX10_toss_50 : decode cX10_toss 50 = .ok (.ifCond .ne 6, 3) := by decide +kernel
theorem dX10_toss_53 : decode cX10_toss 53 = .ok (.bipush (-15), 2) := by decide +kernel
theorem dX10_toss_55 : decode cX10_toss 55 = .ok (.ireturn, 1) := by decide +kernel
theorem dX10_toss_56 : decode cX10_toss 56 = .ok (.iload_n 2, 1) := by decide +kernel
theorem dX10_toss_57 : decode cX10_toss 57 = .ok (.iconst 4, 1) := by decide +kernel
theorem dX10_toss_58 : decode cX10_toss 58 = .ok (.if_icmp .ne 10, 3) := by decide +kernel
theorem dX10_toss_61 : decode cX10_toss 61 = .ok (.bipush 100, 2) := by decide +kernel
theorem dX10_toss_63 : decode cX10_toss 63 = .ok (.iload_n 3, 1) := by decide +kernel
theorem dX10_toss_64 : decode cX10_toss 64 = .ok (.iadd, 1) := by decide +kernel
theorem dX10_toss_65 : decode cX10_toss 65 = .ok (.goto 27, 3) := by decide +kernel
theorem dX10_toss_68 : decode cX10_toss 68 = .ok (.iload_n 2, 1) := by decide +kernel
theorem dX10_toss_69 : decode cX10_toss 69 = .ok (.iconst 5, 1) := by decide +kernel
theorem dX10_toss_70 : decode cX10_toss 70 = .ok (.if_icmp .eq 9, 3) := by decide +kernel
theorem dX10_toss_73 : decode cX10_toss 73 = .ok (.iload_n 2, 1) := by decide +kernel
theorem dX10_toss_74 : decode cX10_toss 74 = .ok (.bipush 7, 2) := by decide +kernel
theorem dX10_toss_76 : decode cX10_toss 76 = .ok (.if_icmp .ne 15, 3) := by decide +kernel
theorem dX10_toss_79 : decode cX10_toss 79 = .ok (.sipush 200, 3) := by decide +kernel
theorem dX10_toss_82 : decode cX10_toss 82 = .ok (.iload_n 2, 1) := by decide +kernel
theorem dX10_toss_83 : decode cX10_toss 83 = .ok (.iload_n 3, 1) := by decide +kernel
theorem dX10_toss_84 : decode cX10_toss 84 = .ok (.invokestatic 368, 3) := by decide +kernel
theorem dX10_toss_87 : decode cX10_toss 87 = .ok (.iadd, 1) := by decide +kernel
theorem dX10_toss_88 : decode cX10_toss 88 = .ok (.goto 4, 3) := by decide +kernel
theorem dX10_toss_91 : decode cX10_toss 91 = .ok (.iload_n 3, 1) := by decide +kernel
theorem dX10_toss_92 : decode cX10_toss 92 = .ok (.ireturn, 1) := by decide +kernel
theorem dJ6_bitCount_0f7a4_0 : decode cJ6_bitCount_0f7a4 0 = .ok (.iload_n 0, 1) := by decide +kernel
theorem dJ6_bitCount_0f7a4_1 : decode cJ6_bitCount_0f7a4 1 = .ok (.iload_n 0, 1) := by decide +kernel
theorem dJ6_bitCount_0f7a4_2 : decode cJ6_bitCount_0f7a4 2 = .ok (.iconst 1, 1) := by decide +kernel
theorem dJ6_bitCount_0f7a4_3 : decode cJ6_bitCount_0f7a4 3 = .ok (.iushr, 1) := by decide +kernel
theorem dJ6_bitCount_0f7a4_4 : decode cJ6_bitCount_0f7a4 4 = .ok (.ldc_w 265, 3) := by decide +kernel
theorem dJ6_bitCount_0f7a4_7 : decode cJ6_bitCount_0f7a4 7 = .ok (.iand, 1) := by decide +kernel
theorem dJ6_bitCount_0f7a4_8 : decode cJ6_bitCount_0f7a4 8 = .ok (.isub, 1) := by decide +kernel
theorem dJ6_bitCount_0f7a4_9 : decode cJ6_bitCount_0f7a4 9 = .ok (.istore_n 0, 1) := by decide +kernel
theorem dJ6_bitCount_0f7a4_10 : decode cJ6_bitCount_0f7a4 10 = .ok (.iload_n 0, 1) := by decide +kernel
theorem dJ6_bitCount_0f7a4_11 : decode cJ6_bitCount_0f7a4 11 = .ok (.ldc_w 266, 3) := by decide +kernel
theorem dJ6_bitCount_0f7a4_14 : decode cJ6_bitCount_0f7a4 14 = .ok (.iand, 1) := by decide +kernel
theorem dJ6_bitCount_0f7a4_15 : decode cJ6_bitCount_0f7a4 15 = .ok (.iload_n 0, 1) := by decide +kernel
theorem dJ6_bitCount_0f7a4_16 : decode cJ6_bitCount_0f7a4 16 = .ok (.iconst 2, 1) := by decide +kernel
theorem dJ6_bitCount_0f7a4_17 : decode cJ6_bitCount_0f7a4 17 = .ok (.iushr, 1) := by decide +kernel
theorem dJ6_bitCount_0f7a4_18 : decode cJ6_bitCount_0f7a4 18 = .ok (.ldc_w 266, 3) := by decide +kernel
theorem dJ6_bitCount_0f7a4_21 : decode cJ6_bitCount_0f7a4 21 = .ok (.iand, 1) := by decide +kernel
theorem dJ6_bitCount_0f7a4_22 : decode cJ6_bitCount_0f7a4 22 = .ok (.iadd, 1) := by decide +kernel
theorem dJ6_bitCount_0f7a4_23 : decode cJ6_bitCount_0f7a4 23 = .ok (.istore_n 0, 1) := by decide +kernel
theorem dJ6_bitCount_0f7a4_24 : decode cJ6_bitCount_0f7a4 24 = .ok (.iload_n 0, 1) := by decide +kernel
theorem dJ6_bitCount_0f7a4_25 : decode cJ6_bitCount_0f7a4 25 = .ok (.iload_n 0, 1) := by decide +kernel
theorem dJ6_bitCount_0f7a4_26 : decode cJ6_bitCount_0f7a4 26 = .ok (.iconst 4, 1) := by decide +kernel
theorem dJ6_bitCount_0f7a4_27 : decode cJ6_bitCount_0f7a4 27 = .ok (.iushr, 1) := by decide +kernel
theorem dJ6_bitCount_0f7a4_28 : decode cJ6_bitCount_0f7a4 28 = .ok (.iadd, 1) := by decide +kernel
theorem dJ6_bitCount_0f7a4_29 : decode cJ6_bitCount_0f7a4 29 = .ok (.ldc_w 267, 3) := by decide +kernel
theorem dJ6_bitCount_0f7a4_32 : decode cJ6_bitCount_0f7a4 32 = .ok (.iand, 1) := by decide +kernel
theorem dJ6_bitCount_0f7a4_33 : decode cJ6_bitCount_0f7a4 33 = .ok (.istore_n 0, 1) := by decide +kernel
theorem dJ6_bitCount_0f7a4_34 : decode cJ6_bitCount_0f7a4 34 = .ok (.iload_n 0, 1) := by decide +kernel
theorem dJ6_bitCount_0f7a4_35 : decode cJ6_bitCount_0f7a4 35 = .ok (.iload_n 0, 1) := by decide +kernel
theorem dJ6_bitCount_0f7a4_36 : decode cJ6_bitCount_0f7a4 36 = .ok (.bipush 8, 2) := by decide +kernel
theorem dJ6_bitCount_0f7a4_38 : decode cJ6_bitCount_0f7a4 38 = .ok (.iushr, 1) := by decide +kernel
theorem dJ6_bitCount_0f7a4_39 : decode cJ6_bitCount_0f7a4 39 = .ok (.iadd, 1) := by decide +kernel
theorem dJ6_bitCount_0f7a4_40 : decode cJ6_bitCount_0f7a4 40 = .ok (.istore_n 0, 1) := by decide +kernel
theorem dJ6_bitCount_0f7a4_41 : decode cJ6_bitCount_0f7a4 41 = .ok (.iload_n 0, 1) := by decide +kernel
theorem dJ6_bitCount_0f7a4_42 : decode cJ6_bitCount_0f7a4 42 = .ok (.iload_n 0, 1) := by decide +kernel
theorem dJ6_bitCount_0f7a4_43 : decode cJ6_bitCount_0f7a4 43 = .ok (.bipush 16, 2) := by decide +kernel
theorem dJ6_bitCount_0f7a4_45 : decode cJ6_bitCount_0f7a4 45 = .ok (.iushr, 1) := by decide +kernel
theorem dJ6_bitCount_0f7a4_46 : decode cJ6_bitCount_0f7a4 46 = .ok (.iadd, 1) := by decide +kernel
theorem dJ6_bitCount_0f7a4_47 : decode cJ6_bitCount_0f7a4 47 = .ok (.istore_n 0, 1) := by decide +kernel
theorem dJ6_bitCount_0f7a4_48 : decode cJ6_bitCount_0f7a4 48 = .ok (.iload_n 0, 1) := by decide +kernel
theorem dJ6_bitCount_0f7a4_49 : decode cJ6_bitCount_0f7a4 49 = .ok (.bipush 63, 2) := by decide +kernel
theorem dJ6_bitCount_0f7a4_51 : decode cJ6_bitCount_0f7a4 51 = .ok (.iand, 1) := by decide +kernel
theorem dJ6_bitCount_0f7a4_52 : decode cJ6_bitCount_0f7a4 52 = .ok (.ireturn, 1) := by decide +kernel
theorem dJ9_abs_0f7a4_0 : decode cJ9_abs_0f7a4 0 = .ok (.iload_n 0, 1) := by decide +kernel
theorem dJ9_abs_0f7a4_1 : decode cJ9_abs_0f7a4 1 = .ok (.ifCond .ge 8, 3) := by decide +kernel
theorem dJ9_abs_0f7a4_4 : decode cJ9_abs_0f7a4 4 = .ok (.iload_n 0, 1) := by decide +kernel
theorem dJ9_abs_0f7a4_5 : decode cJ9_abs_0f7a4 5 = .ok (.ineg, 1) := by decide +kernel
theorem dJ9_abs_0f7a4_6 : decode cJ9_abs_0f7a4 6 = .ok (.goto 4, 3) := by decide +kernel
theorem dJ9_abs_0f7a4_9 : decode cJ9_abs_0f7a4 9 = .ok (.iload_n 0, 1) := by decide +kernel
theorem dJ9_abs_0f7a4_10 : decode cJ9_abs_0f7a4 10 = .ok (.ireturn, 1) := by decide +kernel
theorem dJ9_max_7cf53_0 : decode cJ9_max_7cf53 0 = .ok (.iload_n 0, 1) := by decide +kernel
theorem dJ9_max_7cf53_1 : decode cJ9_max_7cf53 1 = .ok (.iload_n 1, 1) := by decide +kernel
theorem dJ9_max_7cf53_2 : decode cJ9_max_7cf53 2 = .ok (.if_icmp .lt 7, 3) := by decide +kernel
theorem dJ9_max_7cf53_5 : decode cJ9_max_7cf53 5 = .ok (.iload_n 0, 1) := by decide +kernel
theorem dJ9_max_7cf53_6 : decode cJ9_max_7cf53 6 = .ok (.goto 4, 3) := by decide +kernel
theorem dJ9_max_7cf53_9 : decode cJ9_max_7cf53 9 = .ok (.iload_n 1, 1) := by decide +kernel
theorem dJ9_max_7cf53_10 : decode cJ9_max_7cf53 10 = .ok (.ireturn, 1) := by decide +kernel
theorem dJ9_min_7cf53_0 : decode cJ9_min_7cf53 0 = .ok (.iload_n 0, 1) := by decide +kernel
theorem dJ9_min_7cf53_1 : decode cJ9_min_7cf53 1 = .ok (.iload_n 1, 1) := by decide +kernel
theorem dJ9_min_7cf53_2 : decode cJ9_min_7cf53 2 = .ok (.if_icmp .gt 7, 3) := by decide +kernel
theorem dJ9_min_7cf53_5 : decode cJ9_min_7cf53 5 = .ok (.iload_n 0, 1) := by decide +kernel
theorem dJ9_min_7cf53_6 : decode cJ9_min_7cf53 6 = .ok (.goto 4, 3) := by decide +kernel
theorem dJ9_min_7cf53_9 : decode cJ9_min_7cf53 9 = .ok (.iload_n 1, 1) := by decide +kernel
theorem dJ9_min_7cf53_10 : decode cJ9_min_7cf53 10 = .ok (.ireturn, 1) := by decide +kernel
theorem dL_element_0 : decode cL_element 0 = .ok (.aload_n 3, 1) := by decide +kernel
theorem dL_element_1 : decode cL_element 1 = .ok (.iconst 0, 1) := by decide +kernel
theorem dL_element_2 : decode cL_element 2 = .ok (.aload_n 0, 1) := by decide +kernel
theorem dL_element_3 : decode cL_element 3 = .ok (.iload_n 1, 1) := by decide +kernel
theorem dL_element_4 : decode cL_element 4 = .ok (.iload_n 2, 1) := by decide +kernel
theorem dL_element_5 : decode cL_element 5 = .ok (.invokevirtual 7, 3) := by decide +kernel
theorem dL_element_8 : decode cL_element 8 = .ok (.lastore, 1) := by decide +kernel
theorem dL_element_9 : decode cL_element 9 = .ok (.goto 11, 3) := by decide +kernel
theorem dL_element_12 : decode cL_element 12 = .ok (.astore 4, 2) := by decide +kernel
theorem dL_element_14 : decode cL_element 14 = .ok (.iconst 1, 1) := by decide +kernel
theorem dL_element_15 : decode cL_element 15 = .ok (.ireturn, 1) := by decide +kernel
theorem dL_element_16 : decode cL_element 16 = .ok (.astore 4, 2) := by decide +kernel
theorem dL_element_18 : decode cL_element 18 = .ok (.iconst 2, 1) := by decide +kernel
theorem dL_element_19 : decode cL_element 19 = .ok (.ireturn, 1) := by decide +kernel
theorem dL_element_20 : decode cL_element 20 = .ok (.iconst 0, 1) := by decide +kernel
theorem dL_element_21 : decode cL_element 21 = .ok (.ireturn, 1) := by decide +kernel
theorem dL_law_0 : decode cL_law 0 = .ok (.new 8, 3) := by decide +kernel
theorem dL_law_3 : decode cL_law 3 = .ok (.dup, 1) := by decide +kernel
theorem dL_law_4 : decode cL_law 4 = .ok (.invokespecial 17, 3) := by decide +kernel
theorem dL_law_7 : decode cL_law 7 = .ok (.astore_n 1, 1) := by decide +kernel
theorem dL_law_8 : decode cL_law 8 = .ok (.new 18, 3) := by decide +kernel
theorem dL_law_11 : decode cL_law 11 = .ok (.dup, 1) := by decide +kernel
theorem dL_law_12 : decode cL_law 12 = .ok (.invokespecial 20, 3) := by decide +kernel
theorem dL_law_15 : decode cL_law 15 = .ok (.astore_n 2, 1) := by decide +kernel
theorem dL_law_16 : decode cL_law 16 = .ok (.iconst 1, 1) := by decide +kernel
theorem dL_law_17 : decode cL_law 17 = .ok (.newarray .long, 2) := by decide +kernel
theorem dL_law_19 : decode cL_law 19 = .ok (.astore_n 3, 1) := by decide +kernel
theorem dL_law_20 : decode cL_law 20 = .ok (.iconst 0, 1) := by decide +kernel
theorem dL_law_21 : decode cL_law 21 = .ok (.istore 4, 2) := by decide +kernel
theorem dL_law_23 : decode cL_law 23 = .ok (.iload 4, 2) := by decide +kernel
theorem dL_law_25 : decode cL_law 25 = .ok (.aload_n 0, 1) := by decide +kernel
theorem dL_law_26 : decode cL_law 26 = .ok (.arraylength, 1) := by decide +kernel
theorem dL_law_27 : decode cL_law 27 = .ok (.bipush 6, 2) := by decide +kernel
theorem dL_law_29 : decode cL_law 29 = .ok (.isub, 1) := by decide +kernel
theorem dL_law_30 : decode cL_law 30 = .ok (.if_icmp .gt 1710, 3) := by decide +kernel
theorem dL_law_33 : decode cL_law 33 = .ok (.aload_n 0, 1) := by decide +kernel
theorem dL_law_34 : decode cL_law 34 = .ok (.iload 4, 2) := by decide +kernel
theorem dL_law_36 : decode cL_law 36 = .ok (.iaload, 1) := by decide +kernel
theorem dL_law_37 : decode cL_law 37 = .ok (.bipush 63, 2) := by decide +kernel
theorem dL_law_39 : decode cL_law 39 = .ok (.iand, 1) := by decide +kernel
theorem dL_law_40 : decode cL_law 40 = .ok (.tableswitch 1694 0 40 #[180, 205, 242, 267, 304, 329, 354, 379, 428, 453, 490, 527, 552, 565, 590, 651, 700, 750, 787, 824, 849, 886, 923, 972, 997, 1046, 1095, 1157, 1195, 1220, 1245, 1294, 1307, 1320, 1345, 1406, 1455, 1504, 1571, 1644, 1669], 180) := by decide +kernel
theorem dL_law_220 : decode cL_law 220 = .ok (.aload_n 1, 1) := by decide +kernel
theorem dL_law_221 : decode cL_law 221 = .ok (.aload_n 0, 1) := by decide +kernel
theorem dL_law_222 : decode cL_law 222 = .ok (.iload 4, 2) := by decide +kernel
theorem dL_law_224 : decode cL_law 224 = .ok (.iconst 1, 1) := by decide +kernel
theorem dL_law_225 : decode cL_law 225 = .ok (.iadd, 1) := by decide +kernel
theorem dL_law_226 : decode cL_law 226 = .ok (.iaload, 1) := by decide +kernel
theorem dL_law_227 : decode cL_law 227 = .ok (.invokevirtual 21, 3) := by decide +kernel
theorem dL_law_230 : decode cL_law 230 = .ok (.aload_n 2, 1) := by decide +kernel
theorem dL_law_231 : decode cL_law 231 = .ok (.aload_n 0, 1) := by decide +kernel
theorem dL_law_232 : decode cL_law 232 = .ok (.iload 4, 2) := by decide +kernel
theorem dL_law_234 : decode cL_law 234 = .ok (.iconst 1, 1) := by decide +kernel
theorem dL_law_235 : decode cL_law 235 = .ok (.iadd, 1) := by decide +kernel
theorem dL_law_236 : decode cL_law 236 = .ok (.iaload, 1) := by decide +kernel
theorem dL_law_237 : decode cL_law 237 = .ok (.invokevirtual 25, 3) := by decide +kernel
theorem dL_law_240 : decode cL_law 240 = .ok (.if_icmp .eq 1494, 3) := by decide +kernel
theorem dL_law_243 : decode cL_law 243 = .ok (.iconst 0, 1) := by decide +kernel
theorem dL_law_244 : decode cL_law 244 = .ok (.ireturn, 1) := by decide +kernel
theorem dL_law_245 : decode cL_law 245 = .ok (.aload_n 1, 1) := by decide +kernel
theorem dL_law_246 : decode cL_law 246 = .ok (.aload_n 0, 1) := by decide +kernel
theorem dL_law_247 : decode cL_law 247 = .ok (.iload 4, 2) := by decide +kernel
theorem dL_law_249 : decode cL_law 249 = .ok (.iconst 1, 1) := by decide +kernel
theorem dL_law_250 : decode cL_law 250 = .ok (.iadd, 1) := by decide +kernel
theorem dL_law_251 : decode cL_law 251 = .ok (.iaload, 1) := by decide +kernel
theorem dL_law_252 : decode cL_law 252 = .ok (.aload_n 0, 1) := by decide +kernel
theorem dL_law_253 : decode cL_law 253 = .ok (.iload 4, 2) := by decide +kernel
theorem dL_law_255 : decode cL_law 255 = .ok (.iconst 2, 1) := by decide +kernel
theorem dL_law_256 : decode cL_law 256 = .ok (.iadd, 1) := by decide +kernel
theorem dL_law_257 : decode cL_law 257 = .ok (.iaload, 1) := by decide +kernel
theorem dL_law_258 : decode cL_law 258 = .ok (.invokevirtual 26, 3) := by decide +kernel
theorem dL_law_261 : decode cL_law 261 = .ok (.aload_n 2, 1) := by decide +kernel
theorem dL_law_262 : decode cL_law 262 = .ok (.aload_n 0, 1) := by decide +kernel
theorem dL_law_263 : decode cL_law 263 = .ok (.iload 4, 2) := by decide +kernel
theorem dL_law_265 : decode cL_law 265 = .ok (.iconst 1, 1) := by decide +kernel
theorem dL_law_266 : decode cL_law 266 = .ok (.iadd, 1) := by decide +kernel
theorem dL_law_267 : decode cL_law 267 = .ok (.iaload, 1) := by decide +kernel
theorem dL_law_268 : decode cL_law 268 = .ok (.aload_n 0, 1) := by decide +kernel
theorem dL_law_269 : decode cL_law 269 = .ok (.iload 4, 2) := by decide +kernel
theorem dL_law_271 : decode cL_law 271 = .ok (.iconst 2, 1) := by decide +kernel
theorem dL_law_272 : decode cL_law 272 = .ok (.iadd, 1) := by decide +kernel
theorem dL_law_273 : decode cL_law 273 = .ok (.iaload, 1) := by decide +kernel
theorem dL_law_274 : decode cL_law 274 = .ok (.invokevirtual 30, 3) := by decide +kernel
theorem dL_law_277 : decode cL_law 277 = .ok (.if_icmp .eq 1457, 3) := by decide +kernel
theorem dL_law_280 : decode cL_law 280 = .ok (.iconst 0, 1) := by decide +kernel
theorem dL_law_281 : decode cL_law 281 = .ok (.ireturn, 1) := by decide +kernel
theorem dL_law_282 : decode cL_law 282 = .ok (.aload_n 1, 1) := by decide +kernel
theorem dL_law_283 : decode cL_law 283 = .ok (.aload_n 0, 1) := by decide +kernel
theorem dL_law_284 : decode cL_law 284 = .ok (.iload 4, 2) := by decide +kernel
theorem dL_law_286 : decode cL_law 286 = .ok (.iconst 1, 1) := by decide +kernel
theorem dL_law_287 : decode cL_law 287 = .ok (.iadd, 1) := by decide +kernel
theorem dL_law_288 : decode cL_law 288 = .ok (.iaload, 1) := by decide +kernel
theorem dL_law_289 : decode cL_law 289 = .ok (.invokevirtual 31, 3) := by decide +kernel
theorem dL_law_292 : decode cL_law 292 = .ok (.aload_n 2, 1) := by decide +kernel
theorem dL_law_293 : decode cL_law 293 = .ok (.aload_n 0, 1) := by decide +kernel
theorem dL_law_294 : decode cL_law 294 = .ok (.iload 4, 2) := by decide +kernel
theorem dL_law_296 : decode cL_law 296 = .ok (.iconst 1, 1) := by decide +kernel
theorem dL_law_297 : decode cL_law 297 = .ok (.iadd, 1) := by decide +kernel
theorem dL_law_298 : decode cL_law 298 = .ok (.iaload, 1) := by decide +kernel
theorem dL_law_299 : decode cL_law 299 = .ok (.invokevirtual 34, 3) := by decide +kernel
theorem dL_law_302 : decode cL_law 302 = .ok (.if_icmp .eq 1432, 3) := by decide +kernel
theorem dL_law_305 : decode cL_law 305 = .ok (.iconst 0, 1) := by decide +kernel
theorem dL_law_306 : decode cL_law 306 = .ok (.ireturn, 1) := by decide +kernel
theorem dL_law_307 : decode cL_law 307 = .ok (.aload_n 1, 1) := by decide +kernel
theorem dL_law_308 : decode cL_law 308 = .ok (.aload_n 0, 1) := by decide +kernel
theorem dL_law_309 : decode cL_law 309 = .ok (.iload 4, 2) := by decide +kernel
theorem dL_law_311 : decode cL_law 311 = .ok (.iconst 1, 1) := by decide +kernel
theorem dL_law_312 : decode cL_law 312 = .ok (.iadd, 1) := by decide +kernel
theorem dL_law_313 : decode cL_law 313 = .ok (.iaload, 1) := by decide +kernel
theorem dL_law_314 : decode cL_law 314 = .ok (.aload_n 0, 1) := by decide +kernel
theorem dL_law_315 : decode cL_law 315 = .ok (.iload 4, 2) := by decide +kernel
theorem dL_law_317 : decode cL_law 317 = .ok (.iconst 2, 1) := by decide +kernel
theorem dL_law_318 : decode cL_law 318 = .ok (.iadd, 1) := by decide +kernel
theorem dL_law_319 : decode cL_law 319 = .ok (.iaload, 1) := by decide +kernel
theorem dL_law_320 : decode cL_law 320 = .ok (.invokevirtual 35, 3) := by decide +kernel
theorem dL_law_323 : decode cL_law 323 = .ok (.aload_n 2, 1) := by decide +kernel
theorem dL_law_324 : decode cL_law 324 = .ok (.aload_n 0, 1) := by decide +kernel
theorem dL_law_325 : decode cL_law 325 = .ok (.iload 4, 2) := by decide +kernel
theorem dL_law_327 : decode cL_law 327 = .ok (.iconst 1, 1) := by decide +kernel
theorem dL_law_328 : decode cL_law 328 = .ok (.iadd, 1) := by decide +kernel
theorem dL_law_329 : decode cL_law 329 = .ok (.iaload, 1) := by decide +kernel
theorem dL_law_330 : decode cL_law 330 = .ok (.aload_n 0, 1) := by decide +kernel
theorem dL_law_331 : decode cL_law 331 = .ok (.iload 4, 2) := by decide +kernel
theorem dL_law_333 : decode cL_law 333 = .ok (.iconst 2, 1) := by decide +kernel
theorem dL_law_334 : decode cL_law 334 = .ok (.iadd, 1) := by decide +kernel
theorem dL_law_335 : decode cL_law 335 = .ok (.iaload, 1) := by decide +kernel
theorem dL_law_336 : decode cL_law 336 = .ok (.invokevirtual 38, 3) := by decide +kernel
theorem dL_law_339 : decode cL_law 339 = .ok (.if_icmp .eq 1395, 3) := by decide +kernel
theorem dL_law_342 : decode cL_law 342 = .ok (.iconst 0, 1) := by decide +kernel
theorem dL_law_343 : decode cL_law 343 = .ok (.ireturn, 1) := by decide +kernel
theorem dL_law_344 : decode cL_law 344 = .ok (.aload_n 1, 1) := by decide +kernel
theorem dL_law_345 : decode cL_law 345 = .ok (.aload_n 0, 1) := by decide +kernel
theorem dL_law_346 : decode cL_law 346 = .ok (.iload 4, 2) := by decide +kernel
theorem dL_law_348 : decode cL_law 348 = .ok (.iconst 1, 1) := by decide +kernel
theorem dL_law_349 : decode cL_law 349 = .ok (.iadd, 1) := by decide +kernel
theorem dL_law_350 : decode cL_law 350 = .ok (.iaload, 1) := by decide +kernel
theorem dL_law_351 : decode cL_law 351 = .ok (.invokevirtual 39, 3) := by decide +kernel
theorem dL_law_354 : decode cL_law 354 = .ok (.aload_n 2, 1) := by decide +kernel
theorem dL_law_355 : decode cL_law 355 = .ok (.aload_n 0, 1) := by decide +kernel
theorem dL_law_356 : decode cL_law 356 = .ok (.iload 4, 2) := by decide +kernel
theorem dL_law_358 : decode cL_law 358 = .ok (.iconst 1, 1) := by decide +kernel
theorem dL_law_359 : decode cL_law 359 = .ok (.iadd, 1) := by decide +kernel
theorem dL_law_360 : decode cL_law 360 = .ok (.iaload, 1) := by decide +kernel
theorem dL_law_361 : decode cL_law 361 = .ok (.invokevirtual 42, 3) := by decide +kernel
theorem dL_law_364 : decode cL_law 364 = .ok (.if_icmp .eq 1370, 3) := by decide +kernel
theorem dL_law_367 : decode cL_law 367 = .ok (.iconst 0, 1) := by decide +kernel
theorem dL_law_368 : decode cL_law 368 = .ok (.ireturn, 1) := by decide +kernel
theorem dL_law_369 : decode cL_law 369 = .ok (.aload_n 1, 1) := by decide +kernel
theorem dL_law_370 : decode cL_law 370 = .ok (.aload_n 0, 1) := by decide +kernel
theorem dL_law_371 : decode cL_law 371 = .ok (.iload 4, 2) := by decide +kernel
theorem dL_law_373 : decode cL_law 373 = .ok (.iconst 1, 1) := by decide +kernel
theorem dL_law_374 : decode cL_law 374 = .ok (.iadd, 1) := by decide +kernel
theorem dL_law_375 : decode cL_law 375 = .ok (.iaload, 1) := by decide +kernel
theorem dL_law_376 : decode cL_law 376 = .ok (.invokevirtual 43, 3) := by decide +kernel
theorem dL_law_379 : decode cL_law 379 = .ok (.aload_n 2, 1) := by decide +kernel
theorem dL_law_380 : decode cL_law 380 = .ok (.aload_n 0, 1) := by decide +kernel
theorem dL_law_381 : decode cL_law 381 = .ok (.iload 4, 2) := by decide +kernel
theorem dL_law_383 : decode cL_law 383 = .ok (.iconst 1, 1) := by decide +kernel
theorem dL_law_384 : decode cL_law 384 = .ok (.iadd, 1) := by decide +kernel
theorem dL_law_385 : decode cL_law 385 = .ok (.iaload, 1) := by decide +kernel
theorem dL_law_386 : decode cL_law 386 = .ok (.invokevirtual 46, 3) := by decide +kernel
theorem dL_law_389 : decode cL_law 389 = .ok (.if_icmp .eq 1345, 3) := by decide +kernel
theorem dL_law_392 : decode cL_law 392 = .ok (.iconst 0, 1) := by decide +kernel
theorem dL_law_393 : decode cL_law 393 = .ok (.ireturn, 1) := by decide +kernel
theorem dL_law_394 : decode cL_law 394 = .ok (.aload_n 1, 1) := by decide +kernel
theorem dL_law_395 : decode cL_law 395 = .ok (.aload_n 0, 1) := by decide +kernel
theorem dL_law_396 : decode cL_law 396 = .ok (.iload 4, 2) := by decide +kernel
theorem dL_law_398 : decode cL_law 398 = .ok (.iconst 1, 1) := by decide +kernel
theorem dL_law_399 : decode cL_law 399 = .ok (.iadd, 1) := by decide +kernel
theorem dL_law_400 : decode cL_law 400 = .ok (.iaload, 1) := by decide +kernel
theorem dL_law_401 : decode cL_law 401 = .ok (.invokevirtual 47, 3) := by decide +kernel
theorem dL_law_404 : decode cL_law 404 = .ok (.aload_n 2, 1) := by decide +kernel
theorem dL_law_405 : decode cL_law 405 = .ok (.aload_n 0, 1) := by decide +kernel
theorem dL_law_406 : decode cL_law 406 = .ok (.iload 4, 2) := by decide +kernel
theorem dL_law_408 : decode cL_law 408 = .ok (.iconst 1, 1) := by decide +kernel
theorem dL_law_409 : decode cL_law 409 = .ok (.iadd, 1) := by decide +kernel
theorem dL_law_410 : decode cL_law 410 = .ok (.iaload, 1) := by decide +kernel
theorem dL_law_411 : decode cL_law 411 = .ok (.invokevirtual 50, 3) := by decide +kernel
theorem dL_law_414 : decode cL_law 414 = .ok (.if_icmp .eq 1320, 3) := by decide +kernel
theorem dL_law_417 : decode cL_law 417 = .ok (.iconst 0, 1) := by decide +kernel
theorem dL_law_418 : decode cL_law 418 = .ok (.ireturn, 1) := by decide +kernel
theorem dL_law_419 : decode cL_law 419 = .ok (.aload_n 1, 1) := by decide +kernel
theorem dL_law_420 : decode cL_law 420 = .ok (.aload_n 0, 1) := by decide +kernel
theorem dL_law_421 : decode cL_law 421 = .ok (.iload 4, 2) := by decide +kernel
theorem dL_law_423 : decode cL_law 423 = .ok (.iconst 1, 1) := by decide +kernel
theorem dL_law_424 : decode cL_law 424 = .ok (.iadd, 1) := by decide +kernel
theorem dL_law_425 : decode cL_law 425 = .ok (.iaload, 1) := by decide +kernel
theorem dL_law_426 : decode cL_law 426 = .ok (.aload_n 0, 1) := by decide +kernel
theorem dL_law_427 : decode cL_law 427 = .ok (.iload 4, 2) := by decide +kernel
theorem dL_law_429 : decode cL_law 429 = .ok (.iconst 2, 1) := by decide +kernel
theorem dL_law_430 : decode cL_law 430 = .ok (.iadd, 1) := by decide +kernel
theorem dL_law_431 : decode cL_law 431 = .ok (.iaload, 1) := by decide +kernel
theorem dL_law_432 : decode cL_law 432 = .ok (.aload_n 0, 1) := by decide +kernel
theorem dL_law_433 : decode cL_law 433 = .ok (.iload 4, 2) := by decide +kernel
theorem dL_law_435 : decode cL_law 435 = .ok (.iconst 3, 1) := by decide +kernel
theorem dL_law_436 : decode cL_law 436 = .ok (.iadd, 1) := by decide +kernel
theorem dL_law_437 : decode cL_law 437 = .ok (.iaload, 1) := by decide +kernel
theorem dL_law_438 : decode cL_law 438 = .ok (.invokevirtual 51, 3) := by decide +kernel
theorem dL_law_441 : decode cL_law 441 = .ok (.aload_n 2, 1) := by decide +kernel
theorem dL_law_442 : decode cL_law 442 = .ok (.aload_n 0, 1) := by decide +kernel
theorem dL_law_443 : decode cL_law 443 = .ok (.iload 4, 2) := by decide +kernel
theorem dL_law_445 : decode cL_law 445 = .ok (.iconst 1, 1) := by decide +kernel
theorem dL_law_446 : decode cL_law 446 = .ok (.iadd, 1) := by decide +kernel
theorem dL_law_447 : decode cL_law 447 = .ok (.iaload, 1) := by decide +kernel
theorem dL_law_448 : decode cL_law 448 = .ok (.aload_n 0, 1) := by decide +kernel
theorem dL_law_449 : decode cL_law 449 = .ok (.iload 4, 2) := by decide +kernel
theorem dL_law_451 : decode cL_law 451 = .ok (.iconst 2, 1) := by decide +kernel
theorem dL_law_452 : decode cL_law 452 = .ok (.iadd, 1) := by decide +kernel
theorem dL_law_453 : decode cL_law 453 = .ok (.iaload, 1) := by decide +kernel
theorem dL_law_454 : decode cL_law 454 = .ok (.aload_n 0, 1) := by decide +kernel
theorem dL_law_455 : decode cL_law 455 = .ok (.iload 4, 2) := by decide +kernel
theorem dL_law_457 : decode cL_law 457 = .ok (.iconst 3, 1) := by decide +kernel
theorem dL_law_458 : decode cL_law 458 = .ok (.iadd, 1) := by decide +kernel
theorem dL_law_459 : decode cL_law 459 = .ok (.iaload, 1) := by decide +kernel
theorem dL_law_460 : decode cL_law 460 = .ok (.invokevirtual 55, 3) := by decide +kernel
theorem dL_law_463 : decode cL_law 463 = .ok (.if_icmp .eq 1271, 3) := by decide +kernel
theorem dL_law_466 : decode cL_law 466 = .ok (.iconst 0, 1) := by decide +kernel
theorem dL_law_467 : decode cL_law 467 = .ok (.ireturn, 1) := by decide +kernel
theorem dL_law_468 : decode cL_law 468 = .ok (.aload_n 1, 1) := by decide +kernel
theorem dL_law_469 : decode cL_law 469 = .ok (.aload_n 0, 1) := by decide +kernel
theorem dL_law_470 : decode cL_law 470 = .ok (.iload 4, 2) := by decide +kernel
theorem dL_law_472 : decode cL_law 472 = .ok (.iconst 1, 1) := by decide +kernel
theorem dL_law_473 : decode cL_law 473 = .ok (.iadd, 1) := by decide +kernel
theorem dL_law_474 : decode cL_law 474 = .ok (.iaload, 1) := by decide +kernel
theorem dL_law_475 : decode cL_law 475 = .ok (.invokevirtual 56, 3) := by decide +kernel
theorem dL_law_478 : decode cL_law 478 = .ok (.aload_n 2, 1) := by decide +kernel
theorem dL_law_479 : decode cL_law 479 = .ok (.aload_n 0, 1) := by decide +kernel
theorem dL_law_480 : decode cL_law 480 = .ok (.iload 4, 2) := by decide +kernel
theorem dL_law_482 : decode cL_law 482 = .ok (.iconst 1, 1) := by decide +kernel
theorem dL_law_483 : decode cL_law 483 = .ok (.iadd, 1) := by decide +kernel
theorem dL_law_484 : decode cL_law 484 = .ok (.iaload, 1) := by decide +kernel
theorem dL_law_485 : decode cL_law 485 = .ok (.invokevirtual 59, 3) := by decide +kernel
theorem dL_law_488 : decode cL_law 488 = .ok (.if_icmp .eq 1246, 3) := by decide +kernel
theorem dL_law_491 : decode cL_law 491 = .ok (.iconst 0, 1) := by decide +kernel
theorem dL_law_492 : decode cL_law 492 = .ok (.ireturn, 1) := by decide +kernel
theorem dL_law_493 : decode cL_law 493 = .ok (.aload_n 1, 1) := by decide +kernel
theorem dL_law_494 : decode cL_law 494 = .ok (.aload_n 0, 1) := by decide +kernel
theorem dL_law_495 : decode cL_law 495 = .ok (.iload 4, 2) := by decide +kernel
theorem dL_law_497 : decode cL_law 497 = .ok (.iconst 1, 1) := by decide +kernel
theorem dL_law_498 : decode cL_law 498 = .ok (.iadd, 1) := by decide +kernel
theorem dL_law_499 : decode cL_law 499 = .ok (.iaload, 1) := by decide +kernel
theorem dL_law_500 : decode cL_law 500 = .ok (.aload_n 0, 1) := by decide +kernel
theorem dL_law_501 : decode cL_law 501 = .ok (.iload 4, 2) := by decide +kernel
theorem dL_law_503 : decode cL_law 503 = .ok (.iconst 2, 1) := by decide +kernel
theorem dL_law_504 : decode cL_law 504 = .ok (.iadd, 1) := by decide +kernel
theorem dL_law_505 : decode cL_law 505 = .ok (.iaload, 1) := by decide +kernel
theorem dL_law_506 : decode cL_law 506 = .ok (.invokevirtual 60, 3) := by decide +kernel
theorem dL_law_509 : decode cL_law 509 = .ok (.aload_n 2, 1) := by decide +kernel
theorem dL_law_510 : decode cL_law 510 = .ok (.aload_n 0, 1) := by decide +kernel
theorem dL_law_511 : decode cL_law 511 = .ok (.iload 4, 2) := by decide +kernel
theorem dL_law_513 : decode cL_law 513 = .ok (.iconst 1, 1) := by decide +kernel
theorem dL_law_514 : decode cL_law 514 = .ok (.iadd, 1) := by decide +kernel
theorem dL_law_515 : decode cL_law 515 = .ok (.iaload, 1) := by decide +kernel
theorem dL_law_516 : decode cL_law 516 = .ok (.aload_n 0, 1) := by decide +kernel
theorem dL_law_517 : decode cL_law 517 = .ok (.iload 4, 2) := by decide +kernel
theorem dL_law_519 : decode cL_law 519 = .ok (.iconst 2, 1) := by decide +kernel
theorem dL_law_520 : decode cL_law 520 = .ok (.iadd, 1) := by decide +kernel
theorem dL_law_521 : decode cL_law 521 = .ok (.iaload, 1) := by decide +kernel
theorem dL_law_522 : decode cL_law 522 = .ok (.invokevirtual 63, 3) := by decide +kernel
theorem dL_law_525 : decode cL_law 525 = .ok (.if_icmp .eq 1209, 3) := by decide +kernel
theorem dL_law_528 : decode cL_law 528 = .ok (.iconst 0, 1) := by decide +kernel
theorem dL_law_529 : decode cL_law 529 = .ok (.ireturn, 1) := by decide +kernel
theorem dL_law_530 : decode cL_law 530 = .ok (.aload_n 1, 1) := by decide +kernel
theorem dL_law_531 : decode cL_law 531 = .ok (.aload_n 0, 1) := by decide +kernel
theorem dL_law_532 : decode cL_law 532 = .ok (.iload 4, 2) := by decide +kernel
theorem dL_law_534 : decode cL_law 534 = .ok (.iconst 1, 1) := by decide +kernel
theorem dL_law_535 : decode cL_law 535 = .ok (.iadd, 1) := by decide +kernel
theorem dL_law_536 : decode cL_law 536 = .ok (.iaload, 1) := by decide +kernel
theorem dL_law_537 : decode cL_law 537 = .ok (.aload_n 0, 1) := by decide +kernel
theorem dL_law_538 : decode cL_law 538 = .ok (.iload 4, 2) := by decide +kernel
theorem dL_law_540 : decode cL_law 540 = .ok (.iconst 2, 1) := by decide +kernel
theorem dL_law_541 : decode cL_law 541 = .ok (.iadd, 1) := by decide +kernel
theorem dL_law_542 : decode cL_law 542 = .ok (.iaload, 1) := by decide +kernel
theorem dL_law_543 : decode cL_law 543 = .ok (.invokevirtual 64, 3) := by decide +kernel
theorem dL_law_546 : decode cL_law 546 = .ok (.aload_n 2, 1) := by decide +kernel
theorem dL_law_547 : decode cL_law 547 = .ok (.aload_n 0, 1) := by decide +kernel
theorem dL_law_548 : decode cL_law 548 = .ok (.iload 4, 2) := by decide +kernel
theorem dL_law_550 : decode cL_law 550 = .ok (.iconst 1, 1) := by decide +kernel
theorem dL_law_551 : decode cL_law 551 = .ok (.iadd, 1) := by decide +kernel
theorem dL_law_552 : decode cL_law 552 = .ok (.iaload, 1) := by decide +kernel
theorem dL_law_553 : decode cL_law 553 = .ok (.aload_n 0, 1) := by decide +kernel
theorem dL_law_554 : decode cL_law 554 = .ok (.iload 4, 2) := by decide +kernel
theorem dL_law_556 : decode cL_law 556 = .ok (.iconst 2, 1) := by decide +kernel
theorem dL_law_557 : decode cL_law 557 = .ok (.iadd, 1) := by decide +kernel
theorem dL_law_558 : decode cL_law 558 = .ok (.iaload, 1) := by decide +kernel
theorem dL_law_559 : decode cL_law 559 = .ok (.invokevirtual 67, 3) := by decide +kernel
theorem dL_law_562 : decode cL_law 562 = .ok (.if_icmp .eq 1172, 3) := by decide +kernel
theorem dL_law_565 : decode cL_law 565 = .ok (.iconst 0, 1) := by decide +kernel
theorem dL_law_566 : decode cL_law 566 = .ok (.ireturn, 1) := by decide +kernel
theorem dL_law_567 : decode cL_law 567 = .ok (.aload_n 1, 1) := by decide +kernel
theorem dL_law_568 : decode cL_law 568 = .ok (.aload_n 0, 1) := by decide +kernel
theorem dL_law_569 : decode cL_law 569 = .ok (.iload 4, 2) := by decide +kernel
theorem dL_law_571 : decode cL_law 571 = .ok (.iconst 1, 1) := by decide +kernel
theorem dL_law_572 : decode cL_law 572 = .ok (.iadd, 1) := by decide +kernel
theorem dL_law_573 : decode cL_law 573 = .ok (.iaload, 1) := by decide +kernel
theorem dL_law_574 : decode cL_law 574 = .ok (.invokevirtual 68, 3) := by decide +kernel
theorem dL_law_577 : decode cL_law 577 = .ok (.aload_n 2, 1) := by decide +kernel
theorem dL_law_578 : decode cL_law 578 = .ok (.aload_n 0, 1) := by decide +kernel
theorem dL_law_579 : decode cL_law 579 = .ok (.iload 4, 2) := by decide +kernel
theorem dL_law_581 : decode cL_law 581 = .ok (.iconst 1, 1) := by decide +kernel
theorem dL_law_582 : decode cL_law 582 = .ok (.iadd, 1) := by decide +kernel
theorem dL_law_583 : decode cL_law 583 = .ok (.iaload, 1) := by decide +kernel
theorem dL_law_584 : decode cL_law 584 = .ok (.invokevirtual 71, 3) := by decide +kernel
theorem dL_law_587 : decode cL_law 587 = .ok (.if_icmp .eq 1147, 3) := by decide +kernel
theorem dL_law_590 : decode cL_law 590 = .ok (.iconst 0, 1) := by decide +kernel
theorem dL_law_591 : decode cL_law 591 = .ok (.ireturn, 1) := by decide +kernel
theorem dL_law_592 : decode cL_law 592 = .ok (.aload_n 1, 1) := by decide +kernel
theorem dL_law_593 : decode cL_law 593 = .ok (.invokevirtual 72, 3) := by decide +kernel
theorem dL_law_596 : decode cL_law 596 = .ok (.aload_n 2, 1) := by decide +kernel
theorem dL_law_597 : decode cL_law 597 = .ok (.invokevirtual 76, 3) := by decide +kernel
theorem dL_law_600 : decode cL_law 600 = .ok (.if_icmp .eq 1134, 3) := by decide +kernel
theorem dL_law_603 : decode cL_law 603 = .ok (.iconst 0, 1) := by decide +kernel
theorem dL_law_604 : decode cL_law 604 = .ok (.ireturn, 1) := by decide +kernel
theorem dL_law_605 : decode cL_law 605 = .ok (.aload_n 1, 1) := by decide +kernel
theorem dL_law_606 : decode cL_law 606 = .ok (.aload_n 0, 1) := by decide +kernel
theorem dL_law_607 : decode cL_law 607 = .ok (.iload 4, 2) := by decide +kernel
theorem dL_law_609 : decode cL_law 609 = .ok (.iconst 1, 1) := by decide +kernel
theorem dL_law_610 : decode cL_law 610 = .ok (.iadd, 1) := by decide +kernel
theorem dL_law_611 : decode cL_law 611 = .ok (.iaload, 1) := by decide +kernel
theorem dL_law_612 : decode cL_law 612 = .ok (.invokevirtual 77, 3) := by decide +kernel
theorem dL_law_615 : decode cL_law 615 = .ok (.aload_n 2, 1) := by decide +kernel
theorem dL_law_616 : decode cL_law 616 = .ok (.aload_n 0, 1) := by decide +kernel
theorem dL_law_617 : decode cL_law 617 = .ok (.iload 4, 2) := by decide +kernel
theorem dL_law_619 : decode cL_law 619 = .ok (.iconst 1, 1) := by decide +kernel
theorem dL_law_620 : decode cL_law 620 = .ok (.iadd, 1) := by decide +kernel
theorem dL_law_621 : decode cL_law 621 = .ok (.iaload, 1) := by decide +kernel
theorem dL_law_622 : decode cL_law 622 = .ok (.invokevirtual 80, 3) := by decide +kernel
theorem dL_law_625 : decode cL_law 625 = .ok (.if_icmp .eq 1109, 3) := by decide +kernel
theorem dL_law_628 : decode cL_law 628 = .ok (.iconst 0, 1) := by decide +kernel
theorem dL_law_629 : decode cL_law 629 = .ok (.ireturn, 1) := by decide +kernel
theorem dL_law_630 : decode cL_law 630 = .ok (.aload_n 1, 1) := by decide +kernel
theorem dL_law_631 : decode cL_law 631 = .ok (.aload_n 0, 1) := by decide +kernel
theorem dL_law_632 : decode cL_law 632 = .ok (.iload 4, 2) := by decide +kernel
theorem dL_law_634 : decode cL_law 634 = .ok (.iconst 1, 1) := by decide +kernel
theorem dL_law_635 : decode cL_law 635 = .ok (.iadd, 1) := by decide +kernel
theorem dL_law_636 : decode cL_law 636 = .ok (.iaload, 1) := by decide +kernel
theorem dL_law_637 : decode cL_law 637 = .ok (.aload_n 0, 1) := by decide +kernel
theorem dL_law_638 : decode cL_law 638 = .ok (.iload 4, 2) := by decide +kernel
theorem dL_law_640 : decode cL_law 640 = .ok (.iconst 2, 1) := by decide +kernel
theorem dL_law_641 : decode cL_law 641 = .ok (.iadd, 1) := by decide +kernel
theorem dL_law_642 : decode cL_law 642 = .ok (.iaload, 1) := by decide +kernel
theorem dL_law_643 : decode cL_law 643 = .ok (.aload_n 0, 1) := by decide +kernel
theorem dL_law_644 : decode cL_law 644 = .ok (.iload 4, 2) := by decide +kernel
theorem dL_law_646 : decode cL_law 646 = .ok (.iconst 3, 1) := by decide +kernel
theorem dL_law_647 : decode cL_law 647 = .ok (.iadd, 1) := by decide +kernel
theorem dL_law_648 : decode cL_law 648 = .ok (.iaload, 1) := by decide +kernel
theorem dL_law_649 : decode cL_law 649 = .ok (.aload_n 0, 1) := by decide +kernel
theorem dL_law_650 : decode cL_law 650 = .ok (.iload 4, 2) := by decide +kernel
theorem dL_law_652 : decode cL_law 652 = .ok (.iconst 4, 1) := by decide +kernel
theorem dL_law_653 : decode cL_law 653 = .ok (.iadd, 1) := by decide +kernel
theorem dL_law_654 : decode cL_law 654 = .ok (.iaload, 1) := by decide +kernel
theorem dL_law_655 : decode cL_law 655 = .ok (.invokevirtual 81, 3) := by decide +kernel
theorem dL_law_658 : decode cL_law 658 = .ok (.aload_n 2, 1) := by decide +kernel
theorem dL_law_659 : decode cL_law 659 = .ok (.aload_n 0, 1) := by decide +kernel
theorem dL_law_660 : decode cL_law 660 = .ok (.iload 4, 2) := by decide +kernel
theorem dL_law_662 : decode cL_law 662 = .ok (.iconst 1, 1) := by decide +kernel
theorem dL_law_663 : decode cL_law 663 = .ok (.iadd, 1) := by decide +kernel
theorem dL_law_664 : decode cL_law 664 = .ok (.iaload, 1) := by decide +kernel
theorem dL_law_665 : decode cL_law 665 = .ok (.aload_n 0, 1) := by decide +kernel
theorem dL_law_666 : decode cL_law 666 = .ok (.iload 4, 2) := by decide +kernel
theorem dL_law_668 : decode cL_law 668 = .ok (.iconst 2, 1) := by decide +kernel
theorem dL_law_669 : decode cL_law 669 = .ok (.iadd, 1) := by decide +kernel
theorem dL_law_670 : decode cL_law 670 = .ok (.iaload, 1) := by decide +kernel
theorem dL_law_671 : decode cL_law 671 = .ok (.aload_n 0, 1) := by decide +kernel
theorem dL_law_672 : decode cL_law 672 = .ok (.iload 4, 2) := by decide +kernel
theorem dL_law_674 : decode cL_law 674 = .ok (.iconst 3, 1) := by decide +kernel
theorem dL_law_675 : decode cL_law 675 = .ok (.iadd, 1) := by decide +kernel
theorem dL_law_676 : decode cL_law 676 = .ok (.iaload, 1) := by decide +kernel
theorem dL_law_677 : decode cL_law 677 = .ok (.aload_n 0, 1) := by decide +kernel
theorem dL_law_678 : decode cL_law 678 = .ok (.iload 4, 2) := by decide +kernel
theorem dL_law_680 : decode cL_law 680 = .ok (.iconst 4, 1) := by decide +kernel
theorem dL_law_681 : decode cL_law 681 = .ok (.iadd, 1) := by decide +kernel
theorem dL_law_682 : decode cL_law 682 = .ok (.iaload, 1) := by decide +kernel
theorem dL_law_683 : decode cL_law 683 = .ok (.invokevirtual 85, 3) := by decide +kernel
theorem dL_law_686 : decode cL_law 686 = .ok (.if_icmp .eq 1048, 3) := by decide +kernel
theorem dL_law_689 : decode cL_law 689 = .ok (.iconst 0, 1) := by decide +kernel
theorem dL_law_690 : decode cL_law 690 = .ok (.ireturn, 1) := by decide +kernel
theorem dL_law_691 : decode cL_law 691 = .ok (.aload_n 1, 1) := by decide +kernel
theorem dL_law_692 : decode cL_law 692 = .ok (.aload_n 0, 1) := by decide +kernel
theorem dL_law_693 : decode cL_law 693 = .ok (.iload 4, 2) := by decide +kernel
theorem dL_law_695 : decode cL_law 695 = .ok (.iconst 1, 1) := by decide +kernel
theorem dL_law_696 : decode cL_law 696 = .ok (.iadd, 1) := by decide +kernel
theorem dL_law_697 : decode cL_law 697 = .ok (.iaload, 1) := by decide +kernel
theorem dL_law_698 : decode cL_law 698 = .ok (.aload_n 0, 1) := by decide +kernel
theorem dL_law_699 : decode cL_law 699 = .ok (.iload 4, 2) := by decide +kernel
theorem dL_law_701 : decode cL_law 701 = .ok (.iconst 2, 1) := by decide +kernel
theorem dL_law_702 : decode cL_law 702 = .ok (.iadd, 1) := by decide +kernel
theorem dL_law_703 : decode cL_law 703 = .ok (.iaload, 1) := by decide +kernel
theorem dL_law_704 : decode cL_law 704 = .ok (.aload_n 0, 1) := by decide +kernel
theorem dL_law_705 : decode cL_law 705 = .ok (.iload 4, 2) := by decide +kernel
theorem dL_law_707 : decode cL_law 707 = .ok (.iconst 3, 1) := by decide +kernel
theorem dL_law_708 : decode cL_law 708 = .ok (.iadd, 1) := by decide +kernel
theorem dL_law_709 : decode cL_law 709 = .ok (.iaload, 1) := by decide +kernel
theorem dL_law_710 : decode cL_law 710 = .ok (.invokevirtual 86, 3) := by decide +kernel
theorem dL_law_713 : decode cL_law 713 = .ok (.aload_n 2, 1) := by decide +kernel
theorem dL_law_714 : decode cL_law 714 = .ok (.aload_n 0, 1) := by decide +kernel
theorem dL_law_715 : decode cL_law 715 = .ok (.iload 4, 2) := by decide +kernel
theorem dL_law_717 : decode cL_law 717 = .ok (.iconst 1, 1) := by decide +kernel
theorem dL_law_718 : decode cL_law 718 = .ok (.iadd, 1) := by decide +kernel
theorem dL_law_719 : decode cL_law 719 = .ok (.iaload, 1) := by decide +kernel
theorem dL_law_720 : decode cL_law 720 = .ok (.aload_n 0, 1) := by decide +kernel
theorem dL_law_721 : decode cL_law 721 = .ok (.iload 4, 2) := by decide +kernel
theorem dL_law_723 : decode cL_law 723 = .ok (.iconst 2, 1) := by decide +kernel
theorem dL_law_724 : decode cL_law 724 = .ok (.iadd, 1) := by decide +kernel
theorem dL_law_725 : decode cL_law 725 = .ok (.iaload, 1) := by decide +kernel
theorem dL_law_726 : decode cL_law 726 = .ok (.aload_n 0, 1) := by decide +kernel
theorem dL_law_727 : decode cL_law 727 = .ok (.iload 4, 2) := by decide +kernel
theorem dL_law_729 : decode cL_law 729 = .ok (.iconst 3, 1) := by decide +kernel
theorem dL_law_730 : decode cL_law 730 = .ok (.iadd, 1) := by decide +kernel
theorem dL_law_731 : decode cL_law 731 = .ok (.iaload, 1) := by decide +kernel
theorem dL_law_732 : decode cL_law 732 = .ok (.invokevirtual 89, 3) := by decide +kernel
theorem dL_law_735 : decode cL_law 735 = .ok (.if_icmp .eq 999, 3) := by decide +kernel
theorem dL_law_738 : decode cL_law 738 = .ok (.iconst 0, 1) := by decide +kernel
theorem dL_law_739 : decode cL_law 739 = .ok (.ireturn, 1) := by decide +kernel
theorem dL_law_740 : decode cL_law 740 = .ok (.aload_n 1, 1) := by decide +kernel
theorem dL_law_741 : decode cL_law 741 = .ok (.aload_n 0, 1) := by decide +kernel
theorem dL_law_742 : decode cL_law 742 = .ok (.iload 4, 2) := by decide +kernel
theorem dL_law_744 : decode cL_law 744 = .ok (.iconst 1, 1) := by decide +kernel
theorem dL_law_745 : decode cL_law 745 = .ok (.iadd, 1) := by decide +kernel
theorem dL_law_746 : decode cL_law 746 = .ok (.iaload, 1) := by decide +kernel
theorem dL_law_747 : decode cL_law 747 = .ok (.aload_n 0, 1) := by decide +kernel
theorem dL_law_748 : decode cL_law 748 = .ok (.iload 4, 2) := by decide +kernel
theorem dL_law_750 : decode cL_law 750 = .ok (.iconst 2, 1) := by decide +kernel
theorem dL_law_751 : decode cL_law 751 = .ok (.iadd, 1) := by decide +kernel
theorem dL_law_752 : decode cL_law 752 = .ok (.iaload, 1) := by decide +kernel
theorem dL_law_753 : decode cL_law 753 = .ok (.aload_n 0, 1) := by decide +kernel
theorem dL_law_754 : decode cL_law 754 = .ok (.iload 4, 2) := by decide +kernel
theorem dL_law_756 : decode cL_law 756 = .ok (.iconst 3, 1) := by decide +kernel
theorem dL_law_757 : decode cL_law 757 = .ok (.iadd, 1) := by decide +kernel
theorem dL_law_758 : decode cL_law 758 = .ok (.iaload, 1) := by decide +kernel
theorem dL_law_759 : decode cL_law 759 = .ok (.invokevirtual 90, 3) := by decide +kernel
theorem dL_law_762 : decode cL_law 762 = .ok (.aload_n 2, 1) := by decide +kernel
theorem dL_law_763 : decode cL_law 763 = .ok (.aload_n 0, 1) := by decide +kernel
theorem dL_law_764 : decode cL_law 764 = .ok (.iload 4, 2) := by decide +kernel
theorem dL_law_766 : decode cL_law 766 = .ok (.iconst 1, 1) := by decide +kernel
theorem dL_law_767 : decode cL_law 767 = .ok (.iadd, 1) := by decide +kernel
theorem dL_law_768 : decode cL_law 768 = .ok (.iaload, 1) := by decide +kernel
theorem dL_law_769 : decode cL_law 769 = .ok (.aload_n 0, 1) := by decide +kernel
theorem dL_law_770 : decode cL_law 770 = .ok (.iload 4, 2) := by decide +kernel
theorem dL_law_772 : decode cL_law 772 = .ok (.iconst 2, 1) := by decide +kernel
theorem dL_law_773 : decode cL_law 773 = .ok (.iadd, 1) := by decide +kernel
theorem dL_law_774 : decode cL_law 774 = .ok (.iaload, 1) := by decide +kernel
theorem dL_law_775 : decode cL_law 775 = .ok (.aload_n 0, 1) := by decide +kernel
theorem dL_law_776 : decode cL_law 776 = .ok (.iload 4, 2) := by decide +kernel
theorem dL_law_778 : decode cL_law 778 = .ok (.iconst 3, 1) := by decide +kernel
theorem dL_law_779 : decode cL_law 779 = .ok (.iadd, 1) := by decide +kernel
theorem dL_law_780 : decode cL_law 780 = .ok (.iaload, 1) := by decide +kernel
theorem dL_law_781 : decode cL_law 781 = .ok (.invokevirtual 94, 3) := by decide +kernel
theorem dL_law_784 : decode cL_law 784 = .ok (.lcmp, 1) := by decide +kernel
theorem dL_law_785 : decode cL_law 785 = .ok (.ifCond .eq 949, 3) := by decide +kernel
theorem dL_law_788 : decode cL_law 788 = .ok (.iconst 0, 1) := by decide +kernel
theorem dL_law_789 : decode cL_law 789 = .ok (.ireturn, 1) := by decide +kernel
theorem dL_law_790 : decode cL_law 790 = .ok (.aload_n 1, 1) := by decide +kernel
theorem dL_law_791 : decode cL_law 791 = .ok (.aload_n 0, 1) := by decide +kernel
theorem dL_law_792 : decode cL_law 792 = .ok (.iload 4, 2) := by decide +kernel
theorem dL_law_794 : decode cL_law 794 = .ok (.iconst 1, 1) := by decide +kernel
theorem dL_law_795 : decode cL_law 795 = .ok (.iadd, 1) := by decide +kernel
theorem dL_law_796 : decode cL_law 796 = .ok (.iaload, 1) := by decide +kernel
theorem dL_law_797 : decode cL_law 797 = .ok (.aload_n 0, 1) := by decide +kernel
theorem dL_law_798 : decode cL_law 798 = .ok (.iload 4, 2) := by decide +kernel
theorem dL_law_800 : decode cL_law 800 = .ok (.iconst 2, 1) := by decide +kernel
theorem dL_law_801 : decode cL_law 801 = .ok (.iadd, 1) := by decide +kernel
theorem dL_law_802 : decode cL_law 802 = .ok (.iaload, 1) := by decide +kernel
theorem dL_law_803 : decode cL_law 803 = .ok (.invokevirtual 95, 3) := by decide +kernel
theorem dL_law_806 : decode cL_law 806 = .ok (.aload_n 2, 1) := by decide +kernel
theorem dL_law_807 : decode cL_law 807 = .ok (.aload_n 0, 1) := by decide +kernel
theorem dL_law_808 : decode cL_law 808 = .ok (.iload 4, 2) := by decide +kernel
theorem dL_law_810 : decode cL_law 810 = .ok (.iconst 1, 1) := by decide +kernel
theorem dL_law_811 : decode cL_law 811 = .ok (.iadd, 1) := by decide +kernel
theorem dL_law_812 : decode cL_law 812 = .ok (.iaload, 1) := by decide +kernel
theorem dL_law_813 : decode cL_law 813 = .ok (.aload_n 0, 1) := by decide +kernel
theorem dL_law_814 : decode cL_law 814 = .ok (.iload 4, 2) := by decide +kernel
theorem dL_law_816 : decode cL_law 816 = .ok (.iconst 2, 1) := by decide +kernel
theorem dL_law_817 : decode cL_law 817 = .ok (.iadd, 1) := by decide +kernel
theorem dL_law_818 : decode cL_law 818 = .ok (.iaload, 1) := by decide +kernel
theorem dL_law_819 : decode cL_law 819 = .ok (.invokevirtual 98, 3) := by decide +kernel
theorem dL_law_822 : decode cL_law 822 = .ok (.if_icmp .eq 912, 3) := by decide +kernel
theorem dL_law_825 : decode cL_law 825 = .ok (.iconst 0, 1) := by decide +kernel
theorem dL_law_826 : decode cL_law 826 = .ok (.ireturn, 1) := by decide +kernel
theorem dL_law_827 : decode cL_law 827 = .ok (.aload_n 1, 1) := by decide +kernel
theorem dL_law_828 : decode cL_law 828 = .ok (.aload_n 0, 1) := by decide +kernel
theorem dL_law_829 : decode cL_law 829 = .ok (.iload 4, 2) := by decide +kernel
theorem dL_law_831 : decode cL_law 831 = .ok (.iconst 1, 1) := by decide +kernel
theorem dL_law_832 : decode cL_law 832 = .ok (.iadd, 1) := by decide +kernel
theorem dL_law_833 : decode cL_law 833 = .ok (.iaload, 1) := by decide +kernel
theorem dL_law_834 : decode cL_law 834 = .ok (.aload_n 0, 1) := by decide +kernel
theorem dL_law_835 : decode cL_law 835 = .ok (.iload 4, 2) := by decide +kernel
theorem dL_law_837 : decode cL_law 837 = .ok (.iconst 2, 1) := by decide +kernel
theorem dL_law_838 : decode cL_law 838 = .ok (.iadd, 1) := by decide +kernel
theorem dL_law_839 : decode cL_law 839 = .ok (.iaload, 1) := by decide +kernel
theorem dL_law_840 : decode cL_law 840 = .ok (.invokevirtual 99, 3) := by decide +kernel
theorem dL_law_843 : decode cL_law 843 = .ok (.aload_n 2, 1) := by decide +kernel
theorem dL_law_844 : decode cL_law 844 = .ok (.aload_n 0, 1) := by decide +kernel
theorem dL_law_845 : decode cL_law 845 = .ok (.iload 4, 2) := by decide +kernel
theorem dL_law_847 : decode cL_law 847 = .ok (.iconst 1, 1) := by decide +kernel
theorem dL_law_848 : decode cL_law 848 = .ok (.iadd, 1) := by decide +kernel
theorem dL_law_849 : decode cL_law 849 = .ok (.iaload, 1) := by decide +kernel
theorem dL_law_850 : decode cL_law 850 = .ok (.aload_n 0, 1) := by decide +kernel
theorem dL_law_851 : decode cL_law 851 = .ok (.iload 4, 2) := by decide +kernel
theorem dL_law_853 : decode cL_law 853 = .ok (.iconst 2, 1) := by decide +kernel
theorem dL_law_854 : decode cL_law 854 = .ok (.iadd, 1) := by decide +kernel
theorem dL_law_855 : decode cL_law 855 = .ok (.iaload, 1) := by decide +kernel
theorem dL_law_856 : decode cL_law 856 = .ok (.invokevirtual 102, 3) := by decide +kernel
theorem dL_law_859 : decode cL_law 859 = .ok (.if_icmp .eq 875, 3) := by decide +kernel
theorem dL_law_862 : decode cL_law 862 = .ok (.iconst 0, 1) := by decide +kernel
theorem dL_law_863 : decode cL_law 863 = .ok (.ireturn, 1) := by decide +kernel
theorem dL_law_864 : decode cL_law 864 = .ok (.aload_n 1, 1) := by decide +kernel
theorem dL_law_865 : decode cL_law 865 = .ok (.aload_n 0, 1) := by decide +kernel
theorem dL_law_866 : decode cL_law 866 = .ok (.iload 4, 2) := by decide +kernel
theorem dL_law_868 : decode cL_law 868 = .ok (.iconst 1, 1) := by decide +kernel
theorem dL_law_869 : decode cL_law 869 = .ok (.iadd, 1) := by decide +kernel
theorem dL_law_870 : decode cL_law 870 = .ok (.iaload, 1) := by decide +kernel
theorem dL_law_871 : decode cL_law 871 = .ok (.invokevirtual 103, 3) := by decide +kernel
theorem dL_law_874 : decode cL_law 874 = .ok (.aload_n 2, 1) := by decide +kernel
theorem dL_law_875 : decode cL_law 875 = .ok (.aload_n 0, 1) := by decide +kernel
theorem dL_law_876 : decode cL_law 876 = .ok (.iload 4, 2) := by decide +kernel
theorem dL_law_878 : decode cL_law 878 = .ok (.iconst 1, 1) := by decide +kernel
theorem dL_law_879 : decode cL_law 879 = .ok (.iadd, 1) := by decide +kernel
theorem dL_law_880 : decode cL_law 880 = .ok (.iaload, 1) := by decide +kernel
theorem dL_law_881 : decode cL_law 881 = .ok (.invokevirtual 106, 3) := by decide +kernel
theorem dL_law_884 : decode cL_law 884 = .ok (.if_icmp .eq 850, 3) := by decide +kernel
theorem dL_law_887 : decode cL_law 887 = .ok (.iconst 0, 1) := by decide +kernel
theorem dL_law_888 : decode cL_law 888 = .ok (.ireturn, 1) := by decide +kernel
theorem dL_law_889 : decode cL_law 889 = .ok (.aload_n 1, 1) := by decide +kernel
theorem dL_law_890 : decode cL_law 890 = .ok (.aload_n 0, 1) := by decide +kernel
theorem dL_law_891 : decode cL_law 891 = .ok (.iload 4, 2) := by decide +kernel
theorem dL_law_893 : decode cL_law 893 = .ok (.iconst 1, 1) := by decide +kernel
theorem dL_law_894 : decode cL_law 894 = .ok (.iadd, 1) := by decide +kernel
theorem dL_law_895 : decode cL_law 895 = .ok (.iaload, 1) := by decide +kernel
theorem dL_law_896 : decode cL_law 896 = .ok (.aload_n 0, 1) := by decide +kernel
theorem dL_law_897 : decode cL_law 897 = .ok (.iload 4, 2) := by decide +kernel
theorem dL_law_899 : decode cL_law 899 = .ok (.iconst 2, 1) := by decide +kernel
theorem dL_law_900 : decode cL_law 900 = .ok (.iadd, 1) := by decide +kernel
theorem dL_law_901 : decode cL_law 901 = .ok (.iaload, 1) := by decide +kernel
theorem dL_law_902 : decode cL_law 902 = .ok (.invokevirtual 107, 3) := by decide +kernel
theorem dL_law_905 : decode cL_law 905 = .ok (.aload_n 2, 1) := by decide +kernel
theorem dL_law_906 : decode cL_law 906 = .ok (.aload_n 0, 1) := by decide +kernel
theorem dL_law_907 : decode cL_law 907 = .ok (.iload 4, 2) := by decide +kernel
theorem dL_law_909 : decode cL_law 909 = .ok (.iconst 1, 1) := by decide +kernel
theorem dL_law_910 : decode cL_law 910 = .ok (.iadd, 1) := by decide +kernel
theorem dL_law_911 : decode cL_law 911 = .ok (.iaload, 1) := by decide +kernel
theorem dL_law_912 : decode cL_law 912 = .ok (.aload_n 0, 1) := by decide +kernel
theorem dL_law_913 : decode cL_law 913 = .ok (.iload 4, 2) := by decide +kernel
theorem dL_law_915 : decode cL_law 915 = .ok (.iconst 2, 1) := by decide +kernel
theorem dL_law_916 : decode cL_law 916 = .ok (.iadd, 1) := by decide +kernel
theorem dL_law_917 : decode cL_law 917 = .ok (.iaload, 1) := by decide +kernel
theorem dL_law_918 : decode cL_law 918 = .ok (.invokevirtual 110, 3) := by decide +kernel
theorem dL_law_921 : decode cL_law 921 = .ok (.if_icmp .eq 813, 3) := by decide +kernel
theorem dL_law_924 : decode cL_law 924 = .ok (.iconst 0, 1) := by decide +kernel
theorem dL_law_925 : decode cL_law 925 = .ok (.ireturn, 1) := by decide +kernel
theorem dL_law_926 : decode cL_law 926 = .ok (.aload_n 1, 1) := by decide +kernel
theorem dL_law_927 : decode cL_law 927 = .ok (.aload_n 0, 1) := by decide +kernel
theorem dL_law_928 : decode cL_law 928 = .ok (.iload 4, 2) := by decide +kernel
theorem dL_law_930 : decode cL_law 930 = .ok (.iconst 1, 1) := by decide +kernel
theorem dL_law_931 : decode cL_law 931 = .ok (.iadd, 1) := by decide +kernel
theorem dL_law_932 : decode cL_law 932 = .ok (.iaload, 1) := by decide +kernel
theorem dL_law_933 : decode cL_law 933 = .ok (.aload_n 0, 1) := by decide +kernel
theorem dL_law_934 : decode cL_law 934 = .ok (.iload 4, 2) := by decide +kernel
theorem dL_law_936 : decode cL_law 936 = .ok (.iconst 2, 1) := by decide +kernel
theorem dL_law_937 : decode cL_law 937 = .ok (.iadd, 1) := by decide +kernel
theorem dL_law_938 : decode cL_law 938 = .ok (.iaload, 1) := by decide +kernel
theorem dL_law_939 : decode cL_law 939 = .ok (.invokevirtual 111, 3) := by decide +kernel
theorem dL_law_942 : decode cL_law 942 = .ok (.aload_n 2, 1) := by decide +kernel
theorem dL_law_943 : decode cL_law 943 = .ok (.aload_n 0, 1) := by decide +kernel
theorem dL_law_944 : decode cL_law 944 = .ok (.iload 4, 2) := by decide +kernel
theorem dL_law_946 : decode cL_law 946 = .ok (.iconst 1, 1) := by decide +kernel
theorem dL_law_947 : decode cL_law 947 = .ok (.iadd, 1) := by decide +kernel
theorem dL_law_948 : decode cL_law 948 = .ok (.iaload, 1) := by decide +kernel
theorem dL_law_949 : decode cL_law 949 = .ok (.aload_n 0, 1) := by decide +kernel
theorem dL_law_950 : decode cL_law 950 = .ok (.iload 4, 2) := by decide +kernel
theorem dL_law_952 : decode cL_law 952 = .ok (.iconst 2, 1) := by decide +kernel
theorem dL_law_953 : decode cL_law 953 = .ok (.iadd, 1) := by decide +kernel
theorem dL_law_954 : decode cL_law 954 = .ok (.iaload, 1) := by decide +kernel
theorem dL_law_955 : decode cL_law 955 = .ok (.invokevirtual 114, 3) := by decide +kernel
theorem dL_law_958 : decode cL_law 958 = .ok (.if_icmp .eq 776, 3) := by decide +kernel
theorem dL_law_961 : decode cL_law 961 = .ok (.iconst 0, 1) := by decide +kernel
theorem dL_law_962 : decode cL_law 962 = .ok (.ireturn, 1) := by decide +kernel
theorem dL_law_963 : decode cL_law 963 = .ok (.aload_n 1, 1) := by decide +kernel
theorem dL_law_964 : decode cL_law 964 = .ok (.aload_n 0, 1) := by decide +kernel
theorem dL_law_965 : decode cL_law 965 = .ok (.iload 4, 2) := by decide +kernel
theorem dL_law_967 : decode cL_law 967 = .ok (.iconst 1, 1) := by decide +kernel
theorem dL_law_968 : decode cL_law 968 = .ok (.iadd, 1) := by decide +kernel
theorem dL_law_969 : decode cL_law 969 = .ok (.iaload, 1) := by decide +kernel
theorem dL_law_970 : decode cL_law 970 = .ok (.aload_n 0, 1) := by decide +kernel
theorem dL_law_971 : decode cL_law 971 = .ok (.iload 4, 2) := by decide +kernel
theorem dL_law_973 : decode cL_law 973 = .ok (.iconst 2, 1) := by decide +kernel
theorem dL_law_974 : decode cL_law 974 = .ok (.iadd, 1) := by decide +kernel
theorem dL_law_975 : decode cL_law 975 = .ok (.iaload, 1) := by decide +kernel
theorem dL_law_976 : decode cL_law 976 = .ok (.aload_n 0, 1) := by decide +kernel
theorem dL_law_977 : decode cL_law 977 = .ok (.iload 4, 2) := by decide +kernel
theorem dL_law_979 : decode cL_law 979 = .ok (.iconst 3, 1) := by decide +kernel
theorem dL_law_980 : decode cL_law 980 = .ok (.iadd, 1) := by decide +kernel
theorem dL_law_981 : decode cL_law 981 = .ok (.iaload, 1) := by decide +kernel
theorem dL_law_982 : decode cL_law 982 = .ok (.invokevirtual 115, 3) := by decide +kernel
theorem dL_law_985 : decode cL_law 985 = .ok (.aload_n 2, 1) := by decide +kernel
theorem dL_law_986 : decode cL_law 986 = .ok (.aload_n 0, 1) := by decide +kernel
theorem dL_law_987 : decode cL_law 987 = .ok (.iload 4, 2) := by decide +kernel
theorem dL_law_989 : decode cL_law 989 = .ok (.iconst 1, 1) := by decide +kernel
theorem dL_law_990 : decode cL_law 990 = .ok (.iadd, 1) := by decide +kernel
theorem dL_law_991 : decode cL_law 991 = .ok (.iaload, 1) := by decide +kernel
theorem dL_law_992 : decode cL_law 992 = .ok (.aload_n 0, 1) := by decide +kernel
theorem dL_law_993 : decode cL_law 993 = .ok (.iload 4, 2) := by decide +kernel
theorem dL_law_995 : decode cL_law 995 = .ok (.iconst 2, 1) := by decide +kernel
theorem dL_law_996 : decode cL_law 996 = .ok (.iadd, 1) := by decide +kernel
theorem dL_law_997 : decode cL_law 997 = .ok (.iaload, 1) := by decide +kernel
theorem dL_law_998 : decode cL_law 998 = .ok (.aload_n 0, 1) := by decide +kernel
theorem dL_law_999 : decode cL_law 999 = .ok (.iload 4, 2) := by decide +kernel
theorem dL_law_1001 : decode cL_law 1001 = .ok (.iconst 3, 1) := by decide +kernel
theorem dL_law_1002 : decode cL_law 1002 = .ok (.iadd, 1) := by decide +kernel
theorem dL_law_1003 : decode cL_law 1003 = .ok (.iaload, 1) := by decide +kernel
theorem dL_law_1004 : decode cL_law 1004 = .ok (.invokevirtual 118, 3) := by decide +kernel
theorem dL_law_1007 : decode cL_law 1007 = .ok (.if_icmp .eq 727, 3) := by decide +kernel
theorem dL_law_1010 : decode cL_law 1010 = .ok (.iconst 0, 1) := by decide +kernel
theorem dL_law_1011 : decode cL_law 1011 = .ok (.ireturn, 1) := by decide +kernel
theorem dL_law_1012 : decode cL_law 1012 = .ok (.aload_n 1, 1) := by decide +kernel
theorem dL_law_1013 : decode cL_law 1013 = .ok (.aload_n 0, 1) := by decide +kernel
theorem dL_law_1014 : decode cL_law 1014 = .ok (.iload 4, 2) := by decide +kernel
theorem dL_law_1016 : decode cL_law 1016 = .ok (.iconst 1, 1) := by decide +kernel
theorem dL_law_1017 : decode cL_law 1017 = .ok (.iadd, 1) := by decide +kernel
theorem dL_law_1018 : decode cL_law 1018 = .ok (.iaload, 1) := by decide +kernel
theorem dL_law_1019 : decode cL_law 1019 = .ok (.invokevirtual 119, 3) := by decide +kernel
theorem dL_law_1022 : decode cL_law 1022 = .ok (.aload_n 2, 1) := by decide +kernel
theorem dL_law_1023 : decode cL_law 1023 = .ok (.aload_n 0, 1) := by decide +kernel
theorem dL_law_1024 : decode cL_law 1024 = .ok (.iload 4, 2) := by decide +kernel
theorem dL_law_1026 : decode cL_law 1026 = .ok (.iconst 1, 1) := by decide +kernel
theorem dL_law_1027 : decode cL_law 1027 = .ok (.iadd, 1) := by decide +kernel
theorem dL_law_1028 : decode cL_law 1028 = .ok (.iaload, 1) := by decide +kernel
theorem dL_law_1029 : decode cL_law 1029 = .ok (.invokevirtual 122, 3) := by decide +kernel
theorem dL_law_1032 : decode cL_law 1032 = .ok (.if_icmp .eq 702, 3) := by decide +kernel
theorem dL_law_1035 : decode cL_law 1035 = .ok (.iconst 0, 1) := by decide +kernel
theorem dL_law_1036 : decode cL_law 1036 = .ok (.ireturn, 1) := by decide +kernel
theorem dL_law_1037 : decode cL_law 1037 = .ok (.aload_n 1, 1) := by decide +kernel
theorem dL_law_1038 : decode cL_law 1038 = .ok (.aload_n 0, 1) := by decide +kernel
theorem dL_law_1039 : decode cL_law 1039 = .ok (.iload 4, 2) := by decide +kernel
theorem dL_law_1041 : decode cL_law 1041 = .ok (.iconst 1, 1) := by decide +kernel
theorem dL_law_1042 : decode cL_law 1042 = .ok (.iadd, 1) := by decide +kernel
theorem dL_law_1043 : decode cL_law 1043 = .ok (.iaload, 1) := by decide +kernel
theorem dL_law_1044 : decode cL_law 1044 = .ok (.aload_n 0, 1) := by decide +kernel
theorem dL_law_1045 : decode cL_law 1045 = .ok (.iload 4, 2) := by decide +kernel
theorem dL_law_1047 : decode cL_law 1047 = .ok (.iconst 2, 1) := by decide +kernel
theorem dL_law_1048 : decode cL_law 1048 = .ok (.iadd, 1) := by decide +kernel
theorem dL_law_1049 : decode cL_law 1049 = .ok (.iaload, 1) := by decide +kernel
theorem dL_law_1050 : decode cL_law 1050 = .ok (.aload_n 0, 1) := by decide +kernel
theorem dL_law_1051 : decode cL_law 1051 = .ok (.iload 4, 2) := by decide +kernel
theorem dL_law_1053 : decode cL_law 1053 = .ok (.iconst 3, 1) := by decide +kernel
theorem dL_law_1054 : decode cL_law 1054 = .ok (.iadd, 1) := by decide +kernel
theorem dL_law_1055 : decode cL_law 1055 = .ok (.iaload, 1) := by decide +kernel
theorem dL_law_1056 : decode cL_law 1056 = .ok (.invokevirtual 123, 3) := by decide +kernel
theorem dL_law_1059 : decode cL_law 1059 = .ok (.aload_n 2, 1) := by decide +kernel
theorem dL_law_1060 : decode cL_law 1060 = .ok (.aload_n 0, 1) := by decide +kernel
theorem dL_law_1061 : decode cL_law 1061 = .ok (.iload 4, 2) := by decide +kernel
theorem dL_law_1063 : decode cL_law 1063 = .ok (.iconst 1, 1) := by decide +kernel
theorem dL_law_1064 : decode cL_law 1064 = .ok (.iadd, 1) := by decide +kernel
theorem dL_law_1065 : decode cL_law 1065 = .ok (.iaload, 1) := by decide +kernel
theorem dL_law_1066 : decode cL_law 1066 = .ok (.aload_n 0, 1) := by decide +kernel
theorem dL_law_1067 : decode cL_law 1067 = .ok (.iload 4, 2) := by decide +kernel
theorem dL_law_1069 : decode cL_law 1069 = .ok (.iconst 2, 1) := by decide +kernel
theorem dL_law_1070 : decode cL_law 1070 = .ok (.iadd, 1) := by decide +kernel
theorem dL_law_1071 : decode cL_law 1071 = .ok (.iaload, 1) := by decide +kernel
theorem dL_law_1072 : decode cL_law 1072 = .ok (.aload_n 0, 1) := by decide +kernel
theorem dL_law_1073 : decode cL_law 1073 = .ok (.iload 4, 2) := by decide +kernel
theorem dL_law_1075 : decode cL_law 1075 = .ok (.iconst 3, 1) := by decide +kernel
theorem dL_law_1076 : decode cL_law 1076 = .ok (.iadd, 1) := by decide +kernel
theorem dL_law_1077 : decode cL_law 1077 = .ok (.iaload, 1) := by decide +kernel
theorem dL_law_1078 : decode cL_law 1078 = .ok (.invokevirtual 126, 3) := by decide +kernel
theorem dL_law_1081 : decode cL_law 1081 = .ok (.if_icmp .eq 653, 3) := by decide +kernel
theorem dL_law_1084 : decode cL_law 1084 = .ok (.iconst 0, 1) := by decide +kernel
theorem dL_law_1085 : decode cL_law 1085 = .ok (.ireturn, 1) := by decide +kernel
theorem dL_law_1086 : decode cL_law 1086 = .ok (.aload_n 1, 1) := by decide +kernel
theorem dL_law_1087 : decode cL_law 1087 = .ok (.aload_n 0, 1) := by decide +kernel
theorem dL_law_1088 : decode cL_law 1088 = .ok (.iload 4, 2) := by decide +kernel
theorem dL_law_1090 : decode cL_law 1090 = .ok (.iconst 1, 1) := by decide +kernel
theorem dL_law_1091 : decode cL_law 1091 = .ok (.iadd, 1) := by decide +kernel
theorem dL_law_1092 : decode cL_law 1092 = .ok (.iaload, 1) := by decide +kernel
theorem dL_law_1093 : decode cL_law 1093 = .ok (.aload_n 0, 1) := by decide +kernel
theorem dL_law_1094 : decode cL_law 1094 = .ok (.iload 4, 2) := by decide +kernel
theorem dL_law_1096 : decode cL_law 1096 = .ok (.iconst 2, 1) := by decide +kernel
theorem dL_law_1097 : decode cL_law 1097 = .ok (.iadd, 1) := by decide +kernel
theorem dL_law_1098 : decode cL_law 1098 = .ok (.iaload, 1) := by decide +kernel
theorem dL_law_1099 : decode cL_law 1099 = .ok (.aload_n 0, 1) := by decide +kernel
theorem dL_law_1100 : decode cL_law 1100 = .ok (.iload 4, 2) := by decide +kernel
theorem dL_law_1102 : decode cL_law 1102 = .ok (.iconst 3, 1) := by decide +kernel
theorem dL_law_1103 : decode cL_law 1103 = .ok (.iadd, 1) := by decide +kernel
theorem dL_law_1104 : decode cL_law 1104 = .ok (.iaload, 1) := by decide +kernel
theorem dL_law_1105 : decode cL_law 1105 = .ok (.invokevirtual 127, 3) := by decide +kernel
theorem dL_law_1108 : decode cL_law 1108 = .ok (.aload_n 2, 1) := by decide +kernel
theorem dL_law_1109 : decode cL_law 1109 = .ok (.aload_n 0, 1) := by decide +kernel
theorem dL_law_1110 : decode cL_law 1110 = .ok (.iload 4, 2) := by decide +kernel
theorem dL_law_1112 : decode cL_law 1112 = .ok (.iconst 1, 1) := by decide +kernel
theorem dL_law_1113 : decode cL_law 1113 = .ok (.iadd, 1) := by decide +kernel
theorem dL_law_1114 : decode cL_law 1114 = .ok (.iaload, 1) := by decide +kernel
theorem dL_law_1115 : decode cL_law 1115 = .ok (.aload_n 0, 1) := by decide +kernel
theorem dL_law_1116 : decode cL_law 1116 = .ok (.iload 4, 2) := by decide +kernel
theorem dL_law_1118 : decode cL_law 1118 = .ok (.iconst 2, 1) := by decide +kernel
theorem dL_law_1119 : decode cL_law 1119 = .ok (.iadd, 1) := by decide +kernel
theorem dL_law_1120 : decode cL_law 1120 = .ok (.iaload, 1) := by decide +kernel
theorem dL_law_1121 : decode cL_law 1121 = .ok (.aload_n 0, 1) := by decide +kernel
theorem dL_law_1122 : decode cL_law 1122 = .ok (.iload 4, 2) := by decide +kernel
theorem dL_law_1124 : decode cL_law 1124 = .ok (.iconst 3, 1) := by decide +kernel
theorem dL_law_1125 : decode cL_law 1125 = .ok (.iadd, 1) := by decide +kernel
theorem dL_law_1126 : decode cL_law 1126 = .ok (.iaload, 1) := by decide +kernel
theorem dL_law_1127 : decode cL_law 1127 = .ok (.invokevirtual 130, 3) := by decide +kernel
theorem dL_law_1130 : decode cL_law 1130 = .ok (.if_icmp .eq 604, 3) := by decide +kernel
theorem dL_law_1133 : decode cL_law 1133 = .ok (.iconst 0, 1) := by decide +kernel
theorem dL_law_1134 : decode cL_law 1134 = .ok (.ireturn, 1) := by decide +kernel
theorem dL_law_1135 : decode cL_law 1135 = .ok (.aload_n 1, 1) := by decide +kernel
theorem dL_law_1136 : decode cL_law 1136 = .ok (.aload_n 0, 1) := by decide +kernel
theorem dL_law_1137 : decode cL_law 1137 = .ok (.iload 4, 2) := by decide +kernel
theorem dL_law_1139 : decode cL_law 1139 = .ok (.iconst 1, 1) := by decide +kernel
theorem dL_law_1140 : decode cL_law 1140 = .ok (.iadd, 1) := by decide +kernel
theorem dL_law_1141 : decode cL_law 1141 = .ok (.iaload, 1) := by decide +kernel
theorem dL_law_1142 : decode cL_law 1142 = .ok (.aload_n 0, 1) := by decide +kernel
theorem dL_law_1143 : decode cL_law 1143 = .ok (.iload 4, 2) := by decide +kernel
theorem dL_law_1145 : decode cL_law 1145 = .ok (.iconst 2, 1) := by decide +kernel
theorem dL_law_1146 : decode cL_law 1146 = .ok (.iadd, 1) := by decide +kernel
theorem dL_law_1147 : decode cL_law 1147 = .ok (.iaload, 1) := by decide +kernel
theorem dL_law_1148 : decode cL_law 1148 = .ok (.aload_n 0, 1) := by decide +kernel
theorem dL_law_1149 : decode cL_law 1149 = .ok (.iload 4, 2) := by decide +kernel
theorem dL_law_1151 : decode cL_law 1151 = .ok (.iconst 3, 1) := by decide +kernel
theorem dL_law_1152 : decode cL_law 1152 = .ok (.iadd, 1) := by decide +kernel
theorem dL_law_1153 : decode cL_law 1153 = .ok (.iaload, 1) := by decide +kernel
theorem dL_law_1154 : decode cL_law 1154 = .ok (.aload_n 0, 1) := by decide +kernel
theorem dL_law_1155 : decode cL_law 1155 = .ok (.iload 4, 2) := by decide +kernel
theorem dL_law_1157 : decode cL_law 1157 = .ok (.iconst 4, 1) := by decide +kernel
theorem dL_law_1158 : decode cL_law 1158 = .ok (.iadd, 1) := by decide +kernel
theorem dL_law_1159 : decode cL_law 1159 = .ok (.iaload, 1) := by decide +kernel
theorem dL_law_1160 : decode cL_law 1160 = .ok (.invokevirtual 131, 3) := by decide +kernel
theorem dL_law_1163 : decode cL_law 1163 = .ok (.aload_n 2, 1) := by decide +kernel
theorem dL_law_1164 : decode cL_law 1164 = .ok (.aload_n 0, 1) := by decide +kernel
theorem dL_law_1165 : decode cL_law 1165 = .ok (.iload 4, 2) := by decide +kernel
theorem dL_law_1167 : decode cL_law 1167 = .ok (.iconst 1, 1) := by decide +kernel
theorem dL_law_1168 : decode cL_law 1168 = .ok (.iadd, 1) := by decide +kernel
theorem dL_law_1169 : decode cL_law 1169 = .ok (.iaload, 1) := by decide +kernel
theorem dL_law_1170 : decode cL_law 1170 = .ok (.aload_n 0, 1) := by decide +kernel
theorem dL_law_1171 : decode cL_law 1171 = .ok (.iload 4, 2) := by decide +kernel
theorem dL_law_1173 : decode cL_law 1173 = .ok (.iconst 2, 1) := by decide +kernel
theorem dL_law_1174 : decode cL_law 1174 = .ok (.iadd, 1) := by decide +kernel
theorem dL_law_1175 : decode cL_law 1175 = .ok (.iaload, 1) := by decide +kernel
theorem dL_law_1176 : decode cL_law 1176 = .ok (.aload_n 0, 1) := by decide +kernel
theorem dL_law_1177 : decode cL_law 1177 = .ok (.iload 4, 2) := by decide +kernel
theorem dL_law_1179 : decode cL_law 1179 = .ok (.iconst 3, 1) := by decide +kernel
theorem dL_law_1180 : decode cL_law 1180 = .ok (.iadd, 1) := by decide +kernel
theorem dL_law_1181 : decode cL_law 1181 = .ok (.iaload, 1) := by decide +kernel
theorem dL_law_1182 : decode cL_law 1182 = .ok (.aload_n 0, 1) := by decide +kernel
theorem dL_law_1183 : decode cL_law 1183 = .ok (.iload 4, 2) := by decide +kernel
theorem dL_law_1185 : decode cL_law 1185 = .ok (.iconst 4, 1) := by decide +kernel
theorem dL_law_1186 : decode cL_law 1186 = .ok (.iadd, 1) := by decide +kernel
theorem dL_law_1187 : decode cL_law 1187 = .ok (.iaload, 1) := by decide +kernel
theorem dL_law_1188 : decode cL_law 1188 = .ok (.invokevirtual 135, 3) := by decide +kernel
theorem dL_law_1191 : decode cL_law 1191 = .ok (.lcmp, 1) := by decide +kernel
theorem dL_law_1192 : decode cL_law 1192 = .ok (.ifCond .eq 542, 3) := by decide +kernel
theorem dL_law_1195 : decode cL_law 1195 = .ok (.iconst 0, 1) := by decide +kernel
theorem dL_law_1196 : decode cL_law 1196 = .ok (.ireturn, 1) := by decide +kernel
theorem dL_law_1197 : decode cL_law 1197 = .ok (.aload_n 1, 1) := by decide +kernel
theorem dL_law_1198 : decode cL_law 1198 = .ok (.aload_n 0, 1) := by decide +kernel
theorem dL_law_1199 : decode cL_law 1199 = .ok (.iload 4, 2) := by decide +kernel
theorem dL_law_1201 : decode cL_law 1201 = .ok (.iconst 1, 1) := by decide +kernel
theorem dL_law_1202 : decode cL_law 1202 = .ok (.iadd, 1) := by decide +kernel
theorem dL_law_1203 : decode cL_law 1203 = .ok (.iaload, 1) := by decide +kernel
theorem dL_law_1204 : decode cL_law 1204 = .ok (.aload_n 0, 1) := by decide +kernel
theorem dL_law_1205 : decode cL_law 1205 = .ok (.iload 4, 2) := by decide +kernel
theorem dL_law_1207 : decode cL_law 1207 = .ok (.iconst 2, 1) := by decide +kernel
theorem dL_law_1208 : decode cL_law 1208 = .ok (.iadd, 1) := by decide +kernel
theorem dL_law_1209 : decode cL_law 1209 = .ok (.iaload, 1) := by decide +kernel
theorem dL_law_1210 : decode cL_law 1210 = .ok (.invokevirtual 136, 3) := by decide +kernel
theorem dL_law_1213 : decode cL_law 1213 = .ok (.aload_n 2, 1) := by decide +kernel
theorem dL_law_1214 : decode cL_law 1214 = .ok (.aload_n 0, 1) := by decide +kernel
theorem dL_law_1215 : decode cL_law 1215 = .ok (.iload 4, 2) := by decide +kernel
theorem dL_law_1217 : decode cL_law 1217 = .ok (.iconst 1, 1) := by decide +kernel
theorem dL_law_1218 : decode cL_law 1218 = .ok (.iadd, 1) := by decide +kernel
theorem dL_law_1219 : decode cL_law 1219 = .ok (.iaload, 1) := by decide +kernel
theorem dL_law_1220 : decode cL_law 1220 = .ok (.aload_n 0, 1) := by decide +kernel
theorem dL_law_1221 : decode cL_law 1221 = .ok (.iload 4, 2) := by decide +kernel
theorem dL_law_1223 : decode cL_law 1223 = .ok (.iconst 2, 1) := by decide +kernel
theorem dL_law_1224 : decode cL_law 1224 = .ok (.iadd, 1) := by decide +kernel
theorem dL_law_1225 : decode cL_law 1225 = .ok (.iaload, 1) := by decide +kernel
theorem dL_law_1226 : decode cL_law 1226 = .ok (.invokevirtual 139, 3) := by decide +kernel
theorem dL_law_1229 : decode cL_law 1229 = .ok (.lcmp, 1) := by decide +kernel
theorem dL_law_1230 : decode cL_law 1230 = .ok (.ifCond .eq 504, 3) := by decide +kernel
theorem dL_law_1233 : decode cL_law 1233 = .ok (.iconst 0, 1) := by decide +kernel
theorem dL_law_1234 : decode cL_law 1234 = .ok (.ireturn, 1) := by decide +kernel
theorem dL_law_1235 : decode cL_law 1235 = .ok (.aload_n 1, 1) := by decide +kernel
theorem dL_law_1236 : decode cL_law 1236 = .ok (.aload_n 0, 1) := by decide +kernel
theorem dL_law_1237 : decode cL_law 1237 = .ok (.iload 4, 2) := by decide +kernel
theorem dL_law_1239 : decode cL_law 1239 = .ok (.iconst 1, 1) := by decide +kernel
theorem dL_law_1240 : decode cL_law 1240 = .ok (.iadd, 1) := by decide +kernel
theorem dL_law_1241 : decode cL_law 1241 = .ok (.iaload, 1) := by decide +kernel
theorem dL_law_1242 : decode cL_law 1242 = .ok (.invokevirtual 140, 3) := by decide +kernel
theorem dL_law_1245 : decode cL_law 1245 = .ok (.aload_n 2, 1) := by decide +kernel
theorem dL_law_1246 : decode cL_law 1246 = .ok (.aload_n 0, 1) := by decide +kernel
theorem dL_law_1247 : decode cL_law 1247 = .ok (.iload 4, 2) := by decide +kernel
theorem dL_law_1249 : decode cL_law 1249 = .ok (.iconst 1, 1) := by decide +kernel
theorem dL_law_1250 : decode cL_law 1250 = .ok (.iadd, 1) := by decide +kernel
theorem dL_law_1251 : decode cL_law 1251 = .ok (.iaload, 1) := by decide +kernel
theorem dL_law_1252 : decode cL_law 1252 = .ok (.invokevirtual 143, 3) := by decide +kernel
theorem dL_law_1255 : decode cL_law 1255 = .ok (.if_icmp .eq 479, 3) := by decide +kernel
theorem dL_law_1258 : decode cL_law 1258 = .ok (.iconst 0, 1) := by decide +kernel
theorem dL_law_1259 : decode cL_law 1259 = .ok (.ireturn, 1) := by decide +kernel
theorem dL_law_1260 : decode cL_law 1260 = .ok (.aload_n 1, 1) := by decide +kernel
theorem dL_law_1261 : decode cL_law 1261 = .ok (.aload_n 0, 1) := by decide +kernel
theorem dL_law_1262 : decode cL_law 1262 = .ok (.iload 4, 2) := by decide +kernel
theorem dL_law_1264 : decode cL_law 1264 = .ok (.iconst 1, 1) := by decide +kernel
theorem dL_law_1265 : decode cL_law 1265 = .ok (.iadd, 1) := by decide +kernel
theorem dL_law_1266 : decode cL_law 1266 = .ok (.iaload, 1) := by decide +kernel
theorem dL_law_1267 : decode cL_law 1267 = .ok (.invokevirtual 144, 3) := by decide +kernel
theorem dL_law_1270 : decode cL_law 1270 = .ok (.aload_n 2, 1) := by decide +kernel
theorem dL_law_1271 : decode cL_law 1271 = .ok (.aload_n 0, 1) := by decide +kernel
theorem dL_law_1272 : decode cL_law 1272 = .ok (.iload 4, 2) := by decide +kernel
theorem dL_law_1274 : decode cL_law 1274 = .ok (.iconst 1, 1) := by decide +kernel
theorem dL_law_1275 : decode cL_law 1275 = .ok (.iadd, 1) := by decide +kernel
theorem dL_law_1276 : decode cL_law 1276 = .ok (.iaload, 1) := by decide +kernel
theorem dL_law_1277 : decode cL_law 1277 = .ok (.invokevirtual 147, 3) := by decide +kernel
theorem dL_law_1280 : decode cL_law 1280 = .ok (.if_icmp .eq 454, 3) := by decide +kernel
theorem dL_law_1283 : decode cL_law 1283 = .ok (.iconst 0, 1) := by decide +kernel
theorem dL_law_1284 : decode cL_law 1284 = .ok (.ireturn, 1) := by decide +kernel
theorem dL_law_1285 : decode cL_law 1285 = .ok (.aload_n 1, 1) := by decide +kernel
theorem dL_law_1286 : decode cL_law 1286 = .ok (.aload_n 0, 1) := by decide +kernel
theorem dL_law_1287 : decode cL_law 1287 = .ok (.iload 4, 2) := by decide +kernel
theorem dL_law_1289 : decode cL_law 1289 = .ok (.iconst 1, 1) := by decide +kernel
theorem dL_law_1290 : decode cL_law 1290 = .ok (.iadd, 1) := by decide +kernel
theorem dL_law_1291 : decode cL_law 1291 = .ok (.iaload, 1) := by decide +kernel
theorem dL_law_1292 : decode cL_law 1292 = .ok (.aload_n 0, 1) := by decide +kernel
theorem dL_law_1293 : decode cL_law 1293 = .ok (.iload 4, 2) := by decide +kernel
theorem dL_law_1295 : decode cL_law 1295 = .ok (.iconst 2, 1) := by decide +kernel
theorem dL_law_1296 : decode cL_law 1296 = .ok (.iadd, 1) := by decide +kernel
theorem dL_law_1297 : decode cL_law 1297 = .ok (.iaload, 1) := by decide +kernel
theorem dL_law_1298 : decode cL_law 1298 = .ok (.aload_n 0, 1) := by decide +kernel
theorem dL_law_1299 : decode cL_law 1299 = .ok (.iload 4, 2) := by decide +kernel
theorem dL_law_1301 : decode cL_law 1301 = .ok (.iconst 3, 1) := by decide +kernel
theorem dL_law_1302 : decode cL_law 1302 = .ok (.iadd, 1) := by decide +kernel
theorem dL_law_1303 : decode cL_law 1303 = .ok (.iaload, 1) := by decide +kernel
theorem dL_law_1304 : decode cL_law 1304 = .ok (.invokevirtual 148, 3) := by decide +kernel
theorem dL_law_1307 : decode cL_law 1307 = .ok (.aload_n 2, 1) := by decide +kernel
theorem dL_law_1308 : decode cL_law 1308 = .ok (.aload_n 0, 1) := by decide +kernel
theorem dL_law_1309 : decode cL_law 1309 = .ok (.iload 4, 2) := by decide +kernel
theorem dL_law_1311 : decode cL_law 1311 = .ok (.iconst 1, 1) := by decide +kernel
theorem dL_law_1312 : decode cL_law 1312 = .ok (.iadd, 1) := by decide +kernel
theorem dL_law_1313 : decode cL_law 1313 = .ok (.iaload, 1) := by decide +kernel
theorem dL_law_1314 : decode cL_law 1314 = .ok (.aload_n 0, 1) := by decide +kernel
theorem dL_law_1315 : decode cL_law 1315 = .ok (.iload 4, 2) := by decide +kernel
theorem dL_law_1317 : decode cL_law 1317 = .ok (.iconst 2, 1) := by decide +kernel
theorem dL_law_1318 : decode cL_law 1318 = .ok (.iadd, 1) := by decide +kernel
theorem dL_law_1319 : decode cL_law 1319 = .ok (.iaload, 1) := by decide +kernel
theorem dL_law_1320 : decode cL_law 1320 = .ok (.aload_n 0, 1) := by decide +kernel
theorem dL_law_1321 : decode cL_law 1321 = .ok (.iload 4, 2) := by decide +kernel
theorem dL_law_1323 : decode cL_law 1323 = .ok (.iconst 3, 1) := by decide +kernel
theorem dL_law_1324 : decode cL_law 1324 = .ok (.iadd, 1) := by decide +kernel
theorem dL_law_1325 : decode cL_law 1325 = .ok (.iaload, 1) := by decide +kernel
theorem dL_law_1326 : decode cL_law 1326 = .ok (.invokevirtual 151, 3) := by decide +kernel
theorem dL_law_1329 : decode cL_law 1329 = .ok (.if_icmp .eq 405, 3) := by decide +kernel
theorem dL_law_1332 : decode cL_law 1332 = .ok (.iconst 0, 1) := by decide +kernel
theorem dL_law_1333 : decode cL_law 1333 = .ok (.ireturn, 1) := by decide +kernel
theorem dL_law_1334 : decode cL_law 1334 = .ok (.aload_n 1, 1) := by decide +kernel
theorem dL_law_1335 : decode cL_law 1335 = .ok (.invokevirtual 152, 3) := by decide +kernel
theorem dL_law_1338 : decode cL_law 1338 = .ok (.aload_n 2, 1) := by decide +kernel
theorem dL_law_1339 : decode cL_law 1339 = .ok (.invokevirtual 155, 3) := by decide +kernel
theorem dL_law_1342 : decode cL_law 1342 = .ok (.if_icmp .eq 392, 3) := by decide +kernel
theorem dL_law_1345 : decode cL_law 1345 = .ok (.iconst 0, 1) := by decide +kernel
theorem dL_law_1346 : decode cL_law 1346 = .ok (.ireturn, 1) := by decide +kernel
theorem dL_law_1347 : decode cL_law 1347 = .ok (.aload_n 1, 1) := by decide +kernel
theorem dL_law_1348 : decode cL_law 1348 = .ok (.invokevirtual 156, 3) := by decide +kernel
theorem dL_law_1351 : decode cL_law 1351 = .ok (.aload_n 2, 1) := by decide +kernel
theorem dL_law_1352 : decode cL_law 1352 = .ok (.invokevirtual 159, 3) := by decide +kernel
theorem dL_law_1355 : decode cL_law 1355 = .ok (.if_icmp .eq 379, 3) := by decide +kernel
theorem dL_law_1358 : decode cL_law 1358 = .ok (.iconst 0, 1) := by decide +kernel
theorem dL_law_1359 : decode cL_law 1359 = .ok (.ireturn, 1) := by decide +kernel
theorem dL_law_1360 : decode cL_law 1360 = .ok (.aload_n 1, 1) := by decide +kernel
theorem dL_law_1361 : decode cL_law 1361 = .ok (.aload_n 0, 1) := by decide +kernel
theorem dL_law_1362 : decode cL_law 1362 = .ok (.iload 4, 2) := by decide +kernel
theorem dL_law_1364 : decode cL_law 1364 = .ok (.iconst 1, 1) := by decide +kernel
theorem dL_law_1365 : decode cL_law 1365 = .ok (.iadd, 1) := by decide +kernel
theorem dL_law_1366 : decode cL_law 1366 = .ok (.iaload, 1) := by decide +kernel
theorem dL_law_1367 : decode cL_law 1367 = .ok (.invokevirtual 160, 3) := by decide +kernel
theorem dL_law_1370 : decode cL_law 1370 = .ok (.aload_n 2, 1) := by decide +kernel
theorem dL_law_1371 : decode cL_law 1371 = .ok (.aload_n 0, 1) := by decide +kernel
theorem dL_law_1372 : decode cL_law 1372 = .ok (.iload 4, 2) := by decide +kernel
theorem dL_law_1374 : decode cL_law 1374 = .ok (.iconst 1, 1) := by decide +kernel
theorem dL_law_1375 : decode cL_law 1375 = .ok (.iadd, 1) := by decide +kernel
theorem dL_law_1376 : decode cL_law 1376 = .ok (.iaload, 1) := by decide +kernel
theorem dL_law_1377 : decode cL_law 1377 = .ok (.invokevirtual 163, 3) := by decide +kernel
theorem dL_law_1380 : decode cL_law 1380 = .ok (.if_icmp .eq 354, 3) := by decide +kernel
theorem dL_law_1383 : decode cL_law 1383 = .ok (.iconst 0, 1) := by decide +kernel
theorem dL_law_1384 : decode cL_law 1384 = .ok (.ireturn, 1) := by decide +kernel
theorem dL_law_1385 : decode cL_law 1385 = .ok (.aload_n 1, 1) := by decide +kernel
theorem dL_law_1386 : decode cL_law 1386 = .ok (.aload_n 0, 1) := by decide +kernel
theorem dL_law_1387 : decode cL_law 1387 = .ok (.iload 4, 2) := by decide +kernel
theorem dL_law_1389 : decode cL_law 1389 = .ok (.iconst 1, 1) := by decide +kernel
theorem dL_law_1390 : decode cL_law 1390 = .ok (.iadd, 1) := by decide +kernel
theorem dL_law_1391 : decode cL_law 1391 = .ok (.iaload, 1) := by decide +kernel
theorem dL_law_1392 : decode cL_law 1392 = .ok (.aload_n 0, 1) := by decide +kernel
theorem dL_law_1393 : decode cL_law 1393 = .ok (.iload 4, 2) := by decide +kernel
theorem dL_law_1395 : decode cL_law 1395 = .ok (.iconst 2, 1) := by decide +kernel
theorem dL_law_1396 : decode cL_law 1396 = .ok (.iadd, 1) := by decide +kernel
theorem dL_law_1397 : decode cL_law 1397 = .ok (.iaload, 1) := by decide +kernel
theorem dL_law_1398 : decode cL_law 1398 = .ok (.aload_n 0, 1) := by decide +kernel
theorem dL_law_1399 : decode cL_law 1399 = .ok (.iload 4, 2) := by decide +kernel
theorem dL_law_1401 : decode cL_law 1401 = .ok (.iconst 3, 1) := by decide +kernel
theorem dL_law_1402 : decode cL_law 1402 = .ok (.iadd, 1) := by decide +kernel
theorem dL_law_1403 : decode cL_law 1403 = .ok (.iaload, 1) := by decide +kernel
theorem dL_law_1404 : decode cL_law 1404 = .ok (.aload_n 0, 1) := by decide +kernel
theorem dL_law_1405 : decode cL_law 1405 = .ok (.iload 4, 2) := by decide +kernel
theorem dL_law_1407 : decode cL_law 1407 = .ok (.iconst 4, 1) := by decide +kernel
theorem dL_law_1408 : decode cL_law 1408 = .ok (.iadd, 1) := by decide +kernel
theorem dL_law_1409 : decode cL_law 1409 = .ok (.iaload, 1) := by decide +kernel
theorem dL_law_1410 : decode cL_law 1410 = .ok (.invokevirtual 164, 3) := by decide +kernel
theorem dL_law_1413 : decode cL_law 1413 = .ok (.aload_n 2, 1) := by decide +kernel
theorem dL_law_1414 : decode cL_law 1414 = .ok (.aload_n 0, 1) := by decide +kernel
theorem dL_law_1415 : decode cL_law 1415 = .ok (.iload 4, 2) := by decide +kernel
theorem dL_law_1417 : decode cL_law 1417 = .ok (.iconst 1, 1) := by decide +kernel
theorem dL_law_1418 : decode cL_law 1418 = .ok (.iadd, 1) := by decide +kernel
theorem dL_law_1419 : decode cL_law 1419 = .ok (.iaload, 1) := by decide +kernel
theorem dL_law_1420 : decode cL_law 1420 = .ok (.aload_n 0, 1) := by decide +kernel
theorem dL_law_1421 : decode cL_law 1421 = .ok (.iload 4, 2) := by decide +kernel
theorem dL_law_1423 : decode cL_law 1423 = .ok (.iconst 2, 1) := by decide +kernel
theorem dL_law_1424 : decode cL_law 1424 = .ok (.iadd, 1) := by decide +kernel
theorem dL_law_1425 : decode cL_law 1425 = .ok (.iaload, 1) := by decide +kernel
theorem dL_law_1426 : decode cL_law 1426 = .ok (.aload_n 0, 1) := by decide +kernel
theorem dL_law_1427 : decode cL_law 1427 = .ok (.iload 4, 2) := by decide +kernel
theorem dL_law_1429 : decode cL_law 1429 = .ok (.iconst 3, 1) := by decide +kernel
theorem dL_law_1430 : decode cL_law 1430 = .ok (.iadd, 1) := by decide +kernel
theorem dL_law_1431 : decode cL_law 1431 = .ok (.iaload, 1) := by decide +kernel
theorem dL_law_1432 : decode cL_law 1432 = .ok (.aload_n 0, 1) := by decide +kernel
theorem dL_law_1433 : decode cL_law 1433 = .ok (.iload 4, 2) := by decide +kernel
theorem dL_law_1435 : decode cL_law 1435 = .ok (.iconst 4, 1) := by decide +kernel
theorem dL_law_1436 : decode cL_law 1436 = .ok (.iadd, 1) := by decide +kernel
theorem dL_law_1437 : decode cL_law 1437 = .ok (.iaload, 1) := by decide +kernel
theorem dL_law_1438 : decode cL_law 1438 = .ok (.invokevirtual 167, 3) := by decide +kernel
theorem dL_law_1441 : decode cL_law 1441 = .ok (.if_icmp .eq 293, 3) := by decide +kernel
theorem dL_law_1444 : decode cL_law 1444 = .ok (.iconst 0, 1) := by decide +kernel
theorem dL_law_1445 : decode cL_law 1445 = .ok (.ireturn, 1) := by decide +kernel
theorem dL_law_1446 : decode cL_law 1446 = .ok (.aload_n 1, 1) := by decide +kernel
theorem dL_law_1447 : decode cL_law 1447 = .ok (.aload_n 0, 1) := by decide +kernel
theorem dL_law_1448 : decode cL_law 1448 = .ok (.iload 4, 2) := by decide +kernel
theorem dL_law_1450 : decode cL_law 1450 = .ok (.iconst 1, 1) := by decide +kernel
theorem dL_law_1451 : decode cL_law 1451 = .ok (.iadd, 1) := by decide +kernel
theorem dL_law_1452 : decode cL_law 1452 = .ok (.iaload, 1) := by decide +kernel
theorem dL_law_1453 : decode cL_law 1453 = .ok (.aload_n 0, 1) := by decide +kernel
theorem dL_law_1454 : decode cL_law 1454 = .ok (.iload 4, 2) := by decide +kernel
theorem dL_law_1456 : decode cL_law 1456 = .ok (.iconst 2, 1) := by decide +kernel
theorem dL_law_1457 : decode cL_law 1457 = .ok (.iadd, 1) := by decide +kernel
theorem dL_law_1458 : decode cL_law 1458 = .ok (.iaload, 1) := by decide +kernel
theorem dL_law_1459 : decode cL_law 1459 = .ok (.aload_n 0, 1) := by decide +kernel
theorem dL_law_1460 : decode cL_law 1460 = .ok (.iload 4, 2) := by decide +kernel
theorem dL_law_1462 : decode cL_law 1462 = .ok (.iconst 3, 1) := by decide +kernel
theorem dL_law_1463 : decode cL_law 1463 = .ok (.iadd, 1) := by decide +kernel
theorem dL_law_1464 : decode cL_law 1464 = .ok (.iaload, 1) := by decide +kernel
theorem dL_law_1465 : decode cL_law 1465 = .ok (.invokevirtual 168, 3) := by decide +kernel
theorem dL_law_1468 : decode cL_law 1468 = .ok (.aload_n 2, 1) := by decide +kernel
theorem dL_law_1469 : decode cL_law 1469 = .ok (.aload_n 0, 1) := by decide +kernel
theorem dL_law_1470 : decode cL_law 1470 = .ok (.iload 4, 2) := by decide +kernel
theorem dL_law_1472 : decode cL_law 1472 = .ok (.iconst 1, 1) := by decide +kernel
theorem dL_law_1473 : decode cL_law 1473 = .ok (.iadd, 1) := by decide +kernel
theorem dL_law_1474 : decode cL_law 1474 = .ok (.iaload, 1) := by decide +kernel
theorem dL_law_1475 : decode cL_law 1475 = .ok (.aload_n 0, 1) := by decide +kernel
theorem dL_law_1476 : decode cL_law 1476 = .ok (.iload 4, 2) := by decide +kernel
theorem dL_law_1478 : decode cL_law 1478 = .ok (.iconst 2, 1) := by decide +kernel
theorem dL_law_1479 : decode cL_law 1479 = .ok (.iadd, 1) := by decide +kernel
theorem dL_law_1480 : decode cL_law 1480 = .ok (.iaload, 1) := by decide +kernel
theorem dL_law_1481 : decode cL_law 1481 = .ok (.aload_n 0, 1) := by decide +kernel
theorem dL_law_1482 : decode cL_law 1482 = .ok (.iload 4, 2) := by decide +kernel
theorem dL_law_1484 : decode cL_law 1484 = .ok (.iconst 3, 1) := by decide +kernel
theorem dL_law_1485 : decode cL_law 1485 = .ok (.iadd, 1) := by decide +kernel
theorem dL_law_1486 : decode cL_law 1486 = .ok (.iaload, 1) := by decide +kernel
theorem dL_law_1487 : decode cL_law 1487 = .ok (.invokevirtual 171, 3) := by decide +kernel
theorem dL_law_1490 : decode cL_law 1490 = .ok (.if_icmp .eq 244, 3) := by decide +kernel
theorem dL_law_1493 : decode cL_law 1493 = .ok (.iconst 0, 1) := by decide +kernel
theorem dL_law_1494 : decode cL_law 1494 = .ok (.ireturn, 1) := by decide +kernel
theorem dL_law_1495 : decode cL_law 1495 = .ok (.aload_n 1, 1) := by decide +kernel
theorem dL_law_1496 : decode cL_law 1496 = .ok (.aload_n 0, 1) := by decide +kernel
theorem dL_law_1497 : decode cL_law 1497 = .ok (.iload 4, 2) := by decide +kernel
theorem dL_law_1499 : decode cL_law 1499 = .ok (.iconst 1, 1) := by decide +kernel
theorem dL_law_1500 : decode cL_law 1500 = .ok (.iadd, 1) := by decide +kernel
theorem dL_law_1501 : decode cL_law 1501 = .ok (.iaload, 1) := by decide +kernel
theorem dL_law_1502 : decode cL_law 1502 = .ok (.aload_n 0, 1) := by decide +kernel
theorem dL_law_1503 : decode cL_law 1503 = .ok (.iload 4, 2) := by decide +kernel
theorem dL_law_1505 : decode cL_law 1505 = .ok (.iconst 2, 1) := by decide +kernel
theorem dL_law_1506 : decode cL_law 1506 = .ok (.iadd, 1) := by decide +kernel
theorem dL_law_1507 : decode cL_law 1507 = .ok (.iaload, 1) := by decide +kernel
theorem dL_law_1508 : decode cL_law 1508 = .ok (.aload_n 0, 1) := by decide +kernel
theorem dL_law_1509 : decode cL_law 1509 = .ok (.iload 4, 2) := by decide +kernel
theorem dL_law_1511 : decode cL_law 1511 = .ok (.iconst 3, 1) := by decide +kernel
theorem dL_law_1512 : decode cL_law 1512 = .ok (.iadd, 1) := by decide +kernel
theorem dL_law_1513 : decode cL_law 1513 = .ok (.iaload, 1) := by decide +kernel
theorem dL_law_1514 : decode cL_law 1514 = .ok (.invokevirtual 172, 3) := by decide +kernel
theorem dL_law_1517 : decode cL_law 1517 = .ok (.aload_n 2, 1) := by decide +kernel
theorem dL_law_1518 : decode cL_law 1518 = .ok (.aload_n 0, 1) := by decide +kernel
theorem dL_law_1519 : decode cL_law 1519 = .ok (.iload 4, 2) := by decide +kernel
theorem dL_law_1521 : decode cL_law 1521 = .ok (.iconst 1, 1) := by decide +kernel
theorem dL_law_1522 : decode cL_law 1522 = .ok (.iadd, 1) := by decide +kernel
theorem dL_law_1523 : decode cL_law 1523 = .ok (.iaload, 1) := by decide +kernel
theorem dL_law_1524 : decode cL_law 1524 = .ok (.aload_n 0, 1) := by decide +kernel
theorem dL_law_1525 : decode cL_law 1525 = .ok (.iload 4, 2) := by decide +kernel
theorem dL_law_1527 : decode cL_law 1527 = .ok (.iconst 2, 1) := by decide +kernel
theorem dL_law_1528 : decode cL_law 1528 = .ok (.iadd, 1) := by decide +kernel
theorem dL_law_1529 : decode cL_law 1529 = .ok (.iaload, 1) := by decide +kernel
theorem dL_law_1530 : decode cL_law 1530 = .ok (.aload_n 0, 1) := by decide +kernel
theorem dL_law_1531 : decode cL_law 1531 = .ok (.iload 4, 2) := by decide +kernel
theorem dL_law_1533 : decode cL_law 1533 = .ok (.iconst 3, 1) := by decide +kernel
theorem dL_law_1534 : decode cL_law 1534 = .ok (.iadd, 1) := by decide +kernel
theorem dL_law_1535 : decode cL_law 1535 = .ok (.iaload, 1) := by decide +kernel
theorem dL_law_1536 : decode cL_law 1536 = .ok (.invokevirtual 175, 3) := by decide +kernel
theorem dL_law_1539 : decode cL_law 1539 = .ok (.if_icmp .eq 195, 3) := by decide +kernel
theorem dL_law_1542 : decode cL_law 1542 = .ok (.iconst 0, 1) := by decide +kernel
theorem dL_law_1543 : decode cL_law 1543 = .ok (.ireturn, 1) := by decide +kernel
theorem dL_law_1544 : decode cL_law 1544 = .ok (.aload_n 1, 1) := by decide +kernel
theorem dL_law_1545 : decode cL_law 1545 = .ok (.aload_n 0, 1) := by decide +kernel
theorem dL_law_1546 : decode cL_law 1546 = .ok (.iload 4, 2) := by decide +kernel
theorem dL_law_1548 : decode cL_law 1548 = .ok (.iconst 1, 1) := by decide +kernel
theorem dL_law_1549 : decode cL_law 1549 = .ok (.iadd, 1) := by decide +kernel
theorem dL_law_1550 : decode cL_law 1550 = .ok (.iaload, 1) := by decide +kernel
theorem dL_law_1551 : decode cL_law 1551 = .ok (.aload_n 0, 1) := by decide +kernel
theorem dL_law_1552 : decode cL_law 1552 = .ok (.iload 4, 2) := by decide +kernel
theorem dL_law_1554 : decode cL_law 1554 = .ok (.iconst 2, 1) := by decide +kernel
theorem dL_law_1555 : decode cL_law 1555 = .ok (.iadd, 1) := by decide +kernel
theorem dL_law_1556 : decode cL_law 1556 = .ok (.iaload, 1) := by decide +kernel
theorem dL_law_1557 : decode cL_law 1557 = .ok (.aload_n 3, 1) := by decide +kernel
theorem dL_law_1558 : decode cL_law 1558 = .ok (.invokestatic 176, 3) := by decide +kernel
theorem dL_law_1561 : decode cL_law 1561 = .ok (.istore 5, 2) := by decide +kernel
theorem dL_law_1563 : decode cL_law 1563 = .ok (.aload_n 2, 1) := by decide +kernel
theorem dL_law_1564 : decode cL_law 1564 = .ok (.aload_n 0, 1) := by decide +kernel
theorem dL_law_1565 : decode cL_law 1565 = .ok (.iload 4, 2) := by decide +kernel
theorem dL_law_1567 : decode cL_law 1567 = .ok (.iconst 1, 1) := by decide +kernel
theorem dL_law_1568 : decode cL_law 1568 = .ok (.iadd, 1) := by decide +kernel
theorem dL_law_1569 : decode cL_law 1569 = .ok (.iaload, 1) := by decide +kernel
theorem dL_law_1570 : decode cL_law 1570 = .ok (.aload_n 0, 1) := by decide +kernel
theorem dL_law_1571 : decode cL_law 1571 = .ok (.iload 4, 2) := by decide +kernel
theorem dL_law_1573 : decode cL_law 1573 = .ok (.iconst 2, 1) := by decide +kernel
theorem dL_law_1574 : decode cL_law 1574 = .ok (.iadd, 1) := by decide +kernel
theorem dL_law_1575 : decode cL_law 1575 = .ok (.iaload, 1) := by decide +kernel
theorem dL_law_1576 : decode cL_law 1576 = .ok (.invokevirtual 181, 3) := by decide +kernel
theorem dL_law_1579 : decode cL_law 1579 = .ok (.lstore 6, 2) := by decide +kernel
theorem dL_law_1581 : decode cL_law 1581 = .ok (.aload_n 2, 1) := by decide +kernel
theorem dL_law_1582 : decode cL_law 1582 = .ok (.invokevirtual 182, 3) := by decide +kernel
theorem dL_law_1585 : decode cL_law 1585 = .ok (.iload 5, 2) := by decide +kernel
theorem dL_law_1587 : decode cL_law 1587 = .ok (.if_icmp .eq 5, 3) := by decide +kernel
theorem dL_law_1590 : decode cL_law 1590 = .ok (.iconst 0, 1) := by decide +kernel
theorem dL_law_1591 : decode cL_law 1591 = .ok (.ireturn, 1) := by decide +kernel
theorem dL_law_1592 : decode cL_law 1592 = .ok (.iload 5, 2) := by decide +kernel
theorem dL_law_1594 : decode cL_law 1594 = .ok (.ifCond .ne 14, 3) := by decide +kernel
theorem dL_law_1597 : decode cL_law 1597 = .ok (.aload_n 3, 1) := by decide +kernel
theorem dL_law_1598 : decode cL_law 1598 = .ok (.iconst 0, 1) := by decide +kernel
theorem dL_law_1599 : decode cL_law 1599 = .ok (.laload, 1) := by decide +kernel
theorem dL_law_1600 : decode cL_law 1600 = .ok (.lload 6, 2) := by decide +kernel
theorem dL_law_1602 : decode cL_law 1602 = .ok (.lcmp, 1) := by decide +kernel
theorem dL_law_1603 : decode cL_law 1603 = .ok (.ifCond .eq 5, 3) := by decide +kernel
theorem dL_law_1606 : decode cL_law 1606 = .ok (.iconst 0, 1) := by decide +kernel
theorem dL_law_1607 : decode cL_law 1607 = .ok (.ireturn, 1) := by decide +kernel
theorem dL_law_1608 : decode cL_law 1608 = .ok (.goto 126, 3) := by decide +kernel
theorem dL_law_1611 : decode cL_law 1611 = .ok (.aload_n 1, 1) := by decide +kernel
theorem dL_law_1612 : decode cL_law 1612 = .ok (.aload_n 0, 1) := by decide +kernel
theorem dL_law_1613 : decode cL_law 1613 = .ok (.iload 4, 2) := by decide +kernel
theorem dL_law_1615 : decode cL_law 1615 = .ok (.iconst 1, 1) := by decide +kernel
theorem dL_law_1616 : decode cL_law 1616 = .ok (.iadd, 1) := by decide +kernel
theorem dL_law_1617 : decode cL_law 1617 = .ok (.iaload, 1) := by decide +kernel
theorem dL_law_1618 : decode cL_law 1618 = .ok (.aload_n 0, 1) := by decide +kernel
theorem dL_law_1619 : decode cL_law 1619 = .ok (.iload 4, 2) := by decide +kernel
theorem dL_law_1621 : decode cL_law 1621 = .ok (.iconst 2, 1) := by decide +kernel
theorem dL_law_1622 : decode cL_law 1622 = .ok (.iadd, 1) := by decide +kernel
theorem dL_law_1623 : decode cL_law 1623 = .ok (.iaload, 1) := by decide +kernel
theorem dL_law_1624 : decode cL_law 1624 = .ok (.aload_n 0, 1) := by decide +kernel
theorem dL_law_1625 : decode cL_law 1625 = .ok (.iload 4, 2) := by decide +kernel
theorem dL_law_1627 : decode cL_law 1627 = .ok (.iconst 3, 1) := by decide +kernel
theorem dL_law_1628 : decode cL_law 1628 = .ok (.iadd, 1) := by decide +kernel
theorem dL_law_1629 : decode cL_law 1629 = .ok (.iaload, 1) := by decide +kernel
theorem dL_law_1630 : decode cL_law 1630 = .ok (.aload_n 0, 1) := by decide +kernel
theorem dL_law_1631 : decode cL_law 1631 = .ok (.iload 4, 2) := by decide +kernel
theorem dL_law_1633 : decode cL_law 1633 = .ok (.iconst 4, 1) := by decide +kernel
theorem dL_law_1634 : decode cL_law 1634 = .ok (.iadd, 1) := by decide +kernel
theorem dL_law_1635 : decode cL_law 1635 = .ok (.iaload, 1) := by decide +kernel
theorem dL_law_1636 : decode cL_law 1636 = .ok (.aload_n 0, 1) := by decide +kernel
theorem dL_law_1637 : decode cL_law 1637 = .ok (.iload 4, 2) := by decide +kernel
theorem dL_law_1639 : decode cL_law 1639 = .ok (.iconst 5, 1) := by decide +kernel
theorem dL_law_1640 : decode cL_law 1640 = .ok (.iadd, 1) := by decide +kernel
theorem dL_law_1641 : decode cL_law 1641 = .ok (.iaload, 1) := by decide +kernel
theorem dL_law_1642 : decode cL_law 1642 = .ok (.invokevirtual 185, 3) := by decide +kernel
theorem dL_law_1645 : decode cL_law 1645 = .ok (.aload_n 2, 1) := by decide +kernel
theorem dL_law_1646 : decode cL_law 1646 = .ok (.aload_n 0, 1) := by decide +kernel
theorem dL_law_1647 : decode cL_law 1647 = .ok (.iload 4, 2) := by decide +kernel
theorem dL_law_1649 : decode cL_law 1649 = .ok (.iconst 1, 1) := by decide +kernel
theorem dL_law_1650 : decode cL_law 1650 = .ok (.iadd, 1) := by decide +kernel
theorem dL_law_1651 : decode cL_law 1651 = .ok (.iaload, 1) := by decide +kernel
theorem dL_law_1652 : decode cL_law 1652 = .ok (.aload_n 0, 1) := by decide +kernel
theorem dL_law_1653 : decode cL_law 1653 = .ok (.iload 4, 2) := by decide +kernel
theorem dL_law_1655 : decode cL_law 1655 = .ok (.iconst 2, 1) := by decide +kernel
theorem dL_law_1656 : decode cL_law 1656 = .ok (.iadd, 1) := by decide +kernel
theorem dL_law_1657 : decode cL_law 1657 = .ok (.iaload, 1) := by decide +kernel
theorem dL_law_1658 : decode cL_law 1658 = .ok (.aload_n 0, 1) := by decide +kernel
theorem dL_law_1659 : decode cL_law 1659 = .ok (.iload 4, 2) := by decide +kernel
theorem dL_law_1661 : decode cL_law 1661 = .ok (.iconst 3, 1) := by decide +kernel
theorem dL_law_1662 : decode cL_law 1662 = .ok (.iadd, 1) := by decide +kernel
theorem dL_law_1663 : decode cL_law 1663 = .ok (.iaload, 1) := by decide +kernel
theorem dL_law_1664 : decode cL_law 1664 = .ok (.aload_n 0, 1) := by decide +kernel
theorem dL_law_1665 : decode cL_law 1665 = .ok (.iload 4, 2) := by decide +kernel
theorem dL_law_1667 : decode cL_law 1667 = .ok (.iconst 4, 1) := by decide +kernel
theorem dL_law_1668 : decode cL_law 1668 = .ok (.iadd, 1) := by decide +kernel
theorem dL_law_1669 : decode cL_law 1669 = .ok (.iaload, 1) := by decide +kernel
theorem dL_law_1670 : decode cL_law 1670 = .ok (.aload_n 0, 1) := by decide +kernel
theorem dL_law_1671 : decode cL_law 1671 = .ok (.iload 4, 2) := by decide +kernel
theorem dL_law_1673 : decode cL_law 1673 = .ok (.iconst 5, 1) := by decide +kernel
theorem dL_law_1674 : decode cL_law 1674 = .ok (.iadd, 1) := by decide +kernel
theorem dL_law_1675 : decode cL_law 1675 = .ok (.iaload, 1) := by decide +kernel
theorem dL_law_1676 : decode cL_law 1676 = .ok (.invokevirtual 189, 3) := by decide +kernel
theorem dL_law_1679 : decode cL_law 1679 = .ok (.if_icmp .eq 55, 3) := by decide +kernel
theorem dL_law_1682 : decode cL_law 1682 = .ok (.iconst 0, 1) := by decide +kernel
theorem dL_law_1683 : decode cL_law 1683 = .ok (.ireturn, 1) := by decide +kernel
theorem dL_law_1684 : decode cL_law 1684 = .ok (.aload_n 1, 1) := by decide +kernel
theorem dL_law_1685 : decode cL_law 1685 = .ok (.aload_n 0, 1) := by decide +kernel
theorem dL_law_1686 : decode cL_law 1686 = .ok (.iload 4, 2) := by decide +kernel
theorem dL_law_1688 : decode cL_law 1688 = .ok (.iconst 1, 1) := by decide +kernel
theorem dL_law_1689 : decode cL_law 1689 = .ok (.iadd, 1) := by decide +kernel
theorem dL_law_1690 : decode cL_law 1690 = .ok (.iaload, 1) := by decide +kernel
theorem dL_law_1691 : decode cL_law 1691 = .ok (.invokevirtual 190, 3) := by decide +kernel
theorem dL_law_1694 : decode cL_law 1694 = .ok (.aload_n 2, 1) := by decide +kernel
theorem dL_law_1695 : decode cL_law 1695 = .ok (.aload_n 0, 1) := by decide +kernel
theorem dL_law_1696 : decode cL_law 1696 = .ok (.iload 4, 2) := by decide +kernel
theorem dL_law_1698 : decode cL_law 1698 = .ok (.iconst 1, 1) := by decide +kernel
theorem dL_law_1699 : decode cL_law 1699 = .ok (.iadd, 1) := by decide +kernel
theorem dL_law_1700 : decode cL_law 1700 = .ok (.iaload, 1) := by decide +kernel
theorem dL_law_1701 : decode cL_law 1701 = .ok (.invokevirtual 193, 3) := by decide +kernel
theorem dL_law_1704 : decode cL_law 1704 = .ok (.if_icmp .eq 30, 3) := by decide +kernel
theorem dL_law_1707 : decode cL_law 1707 = .ok (.iconst 0, 1) := by decide +kernel
theorem dL_law_1708 : decode cL_law 1708 = .ok (.ireturn, 1) := by decide +kernel
theorem dL_law_1709 : decode cL_law 1709 = .ok (.aload_n 1, 1) := by decide +kernel
theorem dL_law_1710 : decode cL_law 1710 = .ok (.aload_n 0, 1) := by decide +kernel
theorem dL_law_1711 : decode cL_law 1711 = .ok (.iload 4, 2) := by decide +kernel
theorem dL_law_1713 : decode cL_law 1713 = .ok (.iconst 1, 1) := by decide +kernel
theorem dL_law_1714 : decode cL_law 1714 = .ok (.iadd, 1) := by decide +kernel
theorem dL_law_1715 : decode cL_law 1715 = .ok (.iaload, 1) := by decide +kernel
theorem dL_law_1716 : decode cL_law 1716 = .ok (.invokevirtual 194, 3) := by decide +kernel
theorem dL_law_1719 : decode cL_law 1719 = .ok (.aload_n 2, 1) := by decide +kernel
theorem dL_law_1720 : decode cL_law 1720 = .ok (.aload_n 0, 1) := by decide +kernel
theorem dL_law_1721 : decode cL_law 1721 = .ok (.iload 4, 2) := by decide +kernel
theorem dL_law_1723 : decode cL_law 1723 = .ok (.iconst 1, 1) := by decide +kernel
theorem dL_law_1724 : decode cL_law 1724 = .ok (.iadd, 1) := by decide +kernel
theorem dL_law_1725 : decode cL_law 1725 = .ok (.iaload, 1) := by decide +kernel
theorem dL_law_1726 : decode cL_law 1726 = .ok (.invokevirtual 197, 3) := by decide +kernel
theorem dL_law_1729 : decode cL_law 1729 = .ok (.if_icmp .eq 5, 3) := by decide +kernel
theorem dL_law_1732 : decode cL_law 1732 = .ok (.iconst 0, 1) := by decide +kernel
theorem dL_law_1733 : decode cL_law 1733 = .ok (.ireturn, 1) := by decide +kernel
theorem dL_law_1734 : decode cL_law 1734 = .ok (.iinc 4 6, 3) := by decide +kernel
theorem dL_law_1737 : decode cL_law 1737 = .ok (.goto (-1714), 3) := by decide +kernel
theorem dL_law_1740 : decode cL_law 1740 = .ok (.iconst 1, 1) := by decide +kernel
theorem dL_law_1741 : decode cL_law 1741 = .ok (.ireturn, 1) := by decide +kernel
end
section
/-! ===== the own kit: a pure picture of a method's cells, at numbers of its own ===== -/
/-- a cell: .inl (kind of array, contents), .inr (number of its class, its fields); a reference in it is the number of a cell -/
abbrev eC : Type := (Nat × vp_A) ⊕ (Nat × List Value)
def e_mv (ad : Nat → Nat) : Value → Value
  | .ref k => .ref (ad k)
  | v => v
def e_rl (dA : Nat → ClassId) (ad : Nat → Nat) : eC → va_E
  | .inl (t, n, .inr (.inr (.inr (.inr f)))) => .inl (dA t, n, .inr (.inr (.inr (.inr fun j => (f j).map ad))))
  | .inl (t, n, a) => .inl (dA t, n, a)
  | .inr (c, fs) => .inr (c, fs.map (e_mv ad))
/-- a cell with other numbers -/
def e_rn (r : Nat → Nat) : eC → eC
  | .inl (t, n, .inr (.inr (.inr (.inr f)))) => .inl (t, n, .inr (.inr (.inr (.inr fun j => (f j).map r))))
  | .inl (t, n, a) => .inl (t, n, a)
  | .inr (c, fs) => .inr (c, fs.map (e_mv r))
def e_wd (dA : Nat → ClassId) (ad : Nat → Nat) (h : List eC) : va_W := h.mapIdx fun k c => (ad k, e_rl dA ad c)
def e_tys (dA : Nat → ClassId) : List (ClassId × FieldType) := [(dA 0, .int), (dA 1, .long), (dA 2, .object RX4)]
def e_ls (ad : Nat → Nat) : Nat → List (Option Value) → List (Nat × Value)
  | _, [] => []
  | i, none :: r => e_ls ad (i + 1) r
  | i, some v :: r => (i, e_mv ad v) :: e_ls ad (i + 1) r
theorem e_mv_cat (ad : Nat → Nat) (v : Value) : (e_mv ad v).category = v.category := by cases v <;> rfl
theorem e_mv_comp (ad r : Nat → Nat) (v : Value) : e_mv ad (e_mv r v) = e_mv (fun k => ad (r k)) v := by cases v <;> rfl
theorem e_rl_rn (dA : Nat → ClassId) (ad r : Nat → Nat) (c : eC) : e_rl dA ad (e_rn r c) = e_rl dA (fun k => ad (r k)) c := by
  rcases c with ⟨t, n, f | f | f | f | f⟩ | ⟨c, fs⟩
  · rfl
  · rfl
  · rfl
  · rfl
  · simp [e_rl, e_rn, Option.map_map, Function.comp_def]
  · simp [e_rl, e_rn, List.map_map, Function.comp_def, e_mv_comp]
theorem e_wd_at (dA : Nat → ClassId) (ad : Nat → Nat) (h : List eC) (k : Nat) : (e_wd dA ad h)[k]? = (h[k]?).map fun c => (ad k, e_rl dA ad c) := by
  simp [e_wd, List.getElem?_mapIdx]
theorem e_wd_get {dA : Nat → ClassId} {ad : Nat → Nat} {h : List eC} {k : Nat} {c : eC} (hh : h[k]? = some c) : (e_wd dA ad h)[k]? = some (ad k, e_rl dA ad c) := by
  rw [e_wd_at, hh]; rfl
theorem e_wd_set (dA : Nat → ClassId) (ad : Nat → Nat) (h : List eC) (k : Nat) (c : eC) : e_wd dA ad (h.set k c) = (e_wd dA ad h).set k (ad k, e_rl dA ad c) := by
  apply List.ext_getElem?
  intro j
  rw [e_wd_at]
  by_cases hj : j = k
  · subst hj
    by_cases hl : j < h.length
    · rw [List.getElem?_set_self hl, List.getElem?_set_self (by simpa [e_wd] using hl)]; rfl
    · rw [List.getElem?_eq_none (by simpa using hl), List.getElem?_eq_none (by simpa [e_wd] using hl)]; rfl
  · rw [List.getElem?_set_ne (Ne.symm hj), List.getElem?_set_ne (Ne.symm hj), e_wd_at]
theorem e_ls_mem {ad : Nat → Nat} : ∀ {ls : List (Option Value)} {i j : Nat} {w : Value}, (j, w) ∈ e_ls ad i ls ↔ ∃ (k : Nat) (v : Value), ls[k]? = some (some v) ∧ j = i + k ∧ w = e_mv ad v
  | [], i, j, w => by simp [e_ls]
  | none :: r, i, j, w => by
    rw [show e_ls ad i (none :: r) = e_ls ad (i + 1) r from rfl, e_ls_mem (ls := r)]
    constructor
    · rintro ⟨k, v, h1, h2, h3⟩
      exact ⟨k + 1, v, by simpa using h1, by omega, h3⟩
    · rintro ⟨k, v, h1, h2, h3⟩
      cases k with
      | zero => simp at h1
      | succ k => exact ⟨k, v, by simpa using h1, by omega, h3⟩
  | some u :: r, i, j, w => by
    rw [show e_ls ad i (some u :: r) = (i, e_mv ad u) :: e_ls ad (i + 1) r from rfl, List.mem_cons, e_ls_mem (ls := r)]
    constructor
    · rintro (h | ⟨k, v, h1, h2, h3⟩)
      · cases h
        exact ⟨0, u, rfl, rfl, rfl⟩
      · exact ⟨k + 1, v, by simpa using h1, by omega, h3⟩
    · rintro ⟨k, v, h1, h2, h3⟩
      cases k with
      | zero =>
        have : u = v := by simpa using h1
        subst this
        exact Or.inl (by rw [h2, h3]; rfl)
      | succ k => exact Or.inr ⟨k, v, by simpa using h1, by omega, h3⟩
theorem e_has_mono {la : Array Slot} {nL : Nat} {l l' : List (Nat × Value)} (h : lv_has la nL l) (hs : ∀ q ∈ l', q ∈ l) : lv_has la nL l' := ⟨h.1, h.2.1, fun q hq => h.2.2 q (hs q hq)⟩
theorem e_has_at {la : Array Slot} {nL : Nat} {ad : Nat → Nat} {ls : List (Option Value)} {k : Nat} {v : Value} (h : lv_has la nL (e_ls ad 0 ls)) (hk : ls[k]? = some (some v)) : la[k]? = some (.val (e_mv ad v)) :=
  h.2.2 (k, e_mv ad v) (e_ls_mem.mpr ⟨k, v, hk, by omega, rfl⟩)
/-- no long stands in the place ahead -/
def e_nw (ls : List (Option Value)) (i : Nat) : Bool := match i with
  | 0 => true
  | k + 1 => match ls[k]? with
    | some (some v) => v.category == 1
    | _ => true
theorem e_nw_spec {ls : List (Option Value)} {i k : Nat} {v : Value} (h : e_nw ls i = true) (hk : ls[k]? = some (some v)) (hi : k + 1 = i) : v.category = 1 := by
  subst hi
  simp only [e_nw, hk] at h
  simpa using h
theorem e_ls_set1 {ad : Nat → Nat} {ls : List (Option Value)} {i : Nat} {v : Value} (hn : e_nw ls i = true) : ∀ q ∈ e_ls ad 0 (ls.set i (some v)), q ∈ (i, e_mv ad v) :: (e_ls ad 0 ls).filter (fun q => !(q.1 == i) && !(q.1 + 1 == i && q.2.category == 2)) := by
  rintro ⟨j, w⟩ hq
  obtain ⟨k, u, h1, h2, h3⟩ := e_ls_mem.mp hq
  have hjk : j = k := by omega
  subst hjk
  by_cases hj : j = i
  · subst hj
    have hl : j < ls.length := by
      have := (List.getElem?_eq_some_iff.mp h1).1
      simpa using this
    rw [List.getElem?_set_self hl] at h1
    cases h1
    rw [h3]
    exact List.mem_cons_self
  · rw [List.getElem?_set_ne (Ne.symm hj)] at h1
    refine List.mem_cons_of_mem _ (List.mem_filter.mpr ⟨e_ls_mem.mpr ⟨j, u, h1, by omega, h3⟩, ?_⟩)
    have : ¬ (j + 1 = i ∧ w.category = 2) := by
      rintro ⟨a, b⟩
      rw [h3, e_mv_cat, e_nw_spec hn h1 a] at b
      cases b
    simp only [Bool.and_eq_true, Bool.not_eq_true', beq_eq_false_iff_ne, ne_eq, Bool.and_eq_false_iff]
    refine ⟨hj, ?_⟩
    by_cases h4 : j + 1 = i
    · exact Or.inr fun h5 => this ⟨h4, h5⟩
    · exact Or.inl h4
theorem e_ls_set2 {ad : Nat → Nat} {ls : List (Option Value)} {i : Nat} {v : Value} (hn : e_nw ls i = true) : ∀ q ∈ e_ls ad 0 ((ls.set i (some v)).set (i + 1) none), q ∈ (i, e_mv ad v) :: (e_ls ad 0 ls).filter (fun q => !(q.1 == i) && (!(q.1 == i + 1) && !(q.1 + 1 == i && q.2.category == 2))) := by
  rintro ⟨j, w⟩ hq
  obtain ⟨k, u, h1, h2, h3⟩ := e_ls_mem.mp hq
  have hjk : j = k := by omega
  subst hjk
  have hj1 : j ≠ i + 1 := by
    intro h
    subst h
    by_cases hl : i + 1 < (ls.set i (some v)).length
    · rw [List.getElem?_set_self hl] at h1; cases h1
    · rw [List.getElem?_eq_none (by simpa using hl)] at h1; cases h1
  rw [List.getElem?_set_ne (Ne.symm hj1)] at h1
  by_cases hj : j = i
  · subst hj
    have hl : j < ls.length := by
      have := (List.getElem?_eq_some_iff.mp h1).1
      simpa using this
    rw [List.getElem?_set_self hl] at h1
    cases h1
    rw [h3]
    exact List.mem_cons_self
  · rw [List.getElem?_set_ne (Ne.symm hj)] at h1
    refine List.mem_cons_of_mem _ (List.mem_filter.mpr ⟨e_ls_mem.mpr ⟨j, u, h1, by omega, h3⟩, ?_⟩)
    have : ¬ (j + 1 = i ∧ w.category = 2) := by
      rintro ⟨a, b⟩
      rw [h3, e_mv_cat, e_nw_spec hn h1 a] at b
      cases b
    simp only [Bool.and_eq_true, Bool.not_eq_true', beq_eq_false_iff_ne, ne_eq, Bool.and_eq_false_iff]
    refine ⟨hj, hj1, ?_⟩
    by_cases h4 : j + 1 = i
    · exact Or.inr fun h5 => this ⟨h4, h5⟩
    · exact Or.inl h4
/-- the words of the tables that a callee may need -/
def e_ws : List Cond := lw_tbl.filter goodWord
theorem e_in {w : Cond} (i : Nat) (h : lw_tbl[i]? = some w) (g : goodWord w = true) : w ∈ e_ws := List.mem_filter.mpr ⟨List.mem_of_getElem? h, g⟩
theorem e_good {w : Cond} (h : w ∈ e_ws) : (w.onTables && w.keeps) = true ∨ ∃ ty, w = .arrayClass ty := good_of_word (List.mem_filter.mp h).2
/-- a field's place in the constant pool -/
def e_FL (own : String) (idx ci f : Nat) : Prop := ∃ (C : String) (T : u_T) (N : Nat) (ty0 : Nat → FieldType), vwCl[ci]? = some (C, T, N) ∧ f < N ∧ (∀ w ∈ u_ws C T N, w ∈ e_ws) ∧ (∀ k, k < N → parseFieldDescriptor (T k).2.2.1 = some (ty0 k)) ∧ (∀ a, a < N → ∀ b, b < N → a ≠ b → (T a).2.1 ≠ (T b).2.1) ∧ Cond.fieldLink own idx (T f).1 (T f).2.1 (T f).2.2.1 ∈ e_ws
def e_FP (own : String) (idx ci f : Nat) (ty : FieldType) : Prop := ∃ (C : String) (T : u_T) (N : Nat) (ty0 : Nat → FieldType), vwCl[ci]? = some (C, T, N) ∧ f < N ∧ (∀ w ∈ u_ws C T N, w ∈ e_ws) ∧ (∀ k, k < N → parseFieldDescriptor (T k).2.2.1 = some (ty0 k)) ∧ (∀ a, a < N → ∀ b, b < N → a ≠ b → (T a).2.1 ≠ (T b).2.1) ∧ Cond.fieldLink own idx (T f).1 (T f).2.1 (T f).2.2.1 ∈ e_ws ∧ (T f).2.2.2 = false ∧ parseFieldDescriptor (T f).2.2.1 = some ty
/-- a method's place -/
def e_MV (own : String) (idx ci : Nat) (y : MethodName) (cc : ByteArray) (maxL : Nat) (ret : Option FieldType) (n : Nat) : Prop :=
  Cond.methodLink own idx y ∈ e_ws ∧ Cond.instanceMethod y ∈ e_ws ∧ Cond.selects y.cls y y ∈ e_ws ∧ Cond.initialized y.cls ∈ e_ws ∧ Cond.code y cc maxL ret ∈ e_ws ∧ (y.cls ≠ "java/lang/invoke/MethodHandle" ∧ y.cls ≠ "java/lang/invoke/VarHandle" ∧ (parseMethodDescriptor y.desc).map (fun d => d.parameters.length) = some n) ∧ ∃ (T : u_T) (N : Nat), vwCl[ci]? = some (y.cls, T, N)
def e_MS (own : String) (idx : Nat) (y : MethodName) (cc : ByteArray) (maxL : Nat) (ret : Option FieldType) (n : Nat) : Prop :=
  Cond.methodLink own idx y ∈ e_ws ∧ Cond.static y ∈ e_ws ∧ Cond.initialized y.cls ∈ e_ws ∧ Cond.code y cc maxL ret ∈ e_ws ∧ (y.cls ≠ "java/lang/invoke/MethodHandle" ∧ y.cls ≠ "java/lang/invoke/VarHandle" ∧ (parseMethodDescriptor y.desc).map (fun d => d.parameters.length) = some n)
def e_A (ad : Nat → Nat) (n : Nat) : Nat → Prop := fun q => ∃ k, k < n ∧ q = ad k
def e_Q (dC : Nat → ClassId) (dI : Nat → Nat → Nat) (dA : Nat → ClassId) (ad : Nat → Nat) (A : Nat → Prop) (n : Nat) (P : Option Value → List eC → Prop) : Array Value → State → Outcome → State → Prop := fun _ st oc t =>
  (∃ (r : Option Value) (h : List eC), h.length = n ∧ P r h ∧ oc = .returned (r.map (e_mv ad)) ∧ va_P (dC, dI) vwCl (e_wd dA ad h) t.heap) ∧ va_F A st t
def e_Pc (dC : Nat → ClassId) (dI : Nat → Nat → Nat) (dA : Nat → ClassId) (ad : Nat → Nat) (As : List Value) (h : List eC) : Array Value → State → Prop :=
  va_Pc (As.map (e_mv ad)) (fun U => va_P (dC, dI) vwCl (e_wd dA ad h) U.heap ∧ va_K (dC, dI) vwCl (e_tys dA) U ∧ ∀ i j, i < h.length → j < h.length → ad i = ad j → i = j)
/-- THE CONTRACT of a method: called with As over the cells h it returns r over the cells h' with P r h' -/
def e_Ct (y : MethodName) (cc : ByteArray) (maxL : Nat) (ret : Option FieldType) (d : Nat) (As : List Value) (h : List eC) (P : Option Value → List eC → Prop) : Prop :=
  ∀ (l : Launch) (dC : Nat → ClassId) (dI : Nat → Nat → Nat) (dA : Nat → ClassId) (ad : Nat → Nat), Met l y (Cond.code y cc maxL ret :: e_ws) { frames := d, cells := 0, slots := 0, locals := 40 * d } (e_Pc dC dI dA ad As h) (e_Q dC dI dA ad (e_A ad h.length) h.length P) 0 0 (e_A ad h.length)
/-- an answer and its cells -/
def e_eq (r0 : Option Value) (h0 : List eC) : Option Value → List eC → Prop := fun r h => r = r0 ∧ h = h0
abbrev e_T : Type := Program × Launch × Env × Room × State × MethodId × Array Value × List Frame × Method × Code × (Nat → ClassId) × (Nat → Nat → Nat) × (Nat → ClassId) × (Nat → Nat) × (Nat → Prop) × Nat × Nat × Nat × Nat × (State → Prop)
/-- from here, over the cells h, the method comes to its end -/
def e_E (x : e_T) (pc : Nat) (ls : List (Option Value)) (st : List Value) (h : List eC) : Prop := match x with
  | (p, l, e, R, s, m, args, below, meth, c, dC, dI, dA, ad, A, N, nL, cells, slots, Q) => ls.length = nL → h.length = N → ∀ (H : Heap) (locs : List Loc) (la : Array Slot), va_P (dC, dI) vwCl (e_wd dA ad h) H → va_S A s.heap H locs → lv_has la nL (e_ls ad 0 ls) → W p l e R s m args below meth c H locs cells slots Q (F0 m pc la (st.map (e_mv ad)))
/-- what holds all through a method -/
def e_X (x : e_T) (own : String) (cc : ByteArray) (d : Nat) : Prop := match x with
  | (p, _, _, R, s, m, args, _, _, c, dC, dI, dA, ad, A, N, nL, cells, slots, _) => p.tables.exec = Jvm.exec ∧ c.code = cc ∧ c.maxLocals = nL ∧ s.vm.findClass own = some m.cls ∧ (∀ w ∈ e_ws, w.before args s = true) ∧ va_K (dC, dI) vwCl (e_tys dA) s ∧ (∀ i j, i < N → j < N → ad i = ad j → i = j) ∧ (∀ k, k < N → A (ad k)) ∧ d ≤ R.frames ∧ 40 * d ≤ R.locals ∧ cells ≤ R.cells ∧ slots ≤ R.slots
/-- how it ends -/
def e_F (x : e_T) (ret : Option FieldType) (P : Option Value → List eC → Prop) : Prop := match x with
  | (_, _, _, _, s, _, args, below, meth, _, dC, dI, dA, ad, A, N, _, cells, slots, Q) => Q = MQ below (e_Q dC dI dA ad A N P) args s cells slots A ∧ meth.sig.returnType = ret ∧ meth.locks = false
theorem e_D {ad : Nat → Nat} {A : Nat → Prop} {N : Nat} {dA : Nat → ClassId} {h : List eC} (h1 : ∀ i j, i < N → j < N → ad i = ad j → i = j) (h2 : ∀ k, k < N → A (ad k)) (hN : h.length = N) : va_D A (e_wd dA ad h) := by
  have key : ∀ (k : Nat) (q : Nat × va_E), (e_wd dA ad h)[k]? = some q → k < N ∧ q.1 = ad k := by
    intro k q hq
    rw [e_wd_at] at hq
    cases hc : h[k]? with
    | none => rw [hc] at hq; cases hq
    | some c =>
      rw [hc] at hq
      cases hq
      exact ⟨by rw [← hN]; exact (List.getElem?_eq_some_iff.mp hc).1, rfl⟩
  refine ⟨fun i j p q hp hq hpq => ?_, fun k q hq => ?_⟩
  · obtain ⟨a1, a2⟩ := key i p hp
    obtain ⟨b1, b2⟩ := key j q hq
    exact h1 i j a1 b1 (by rw [← a2, ← b2]; exact hpq)
  · obtain ⟨a1, a2⟩ := key k q hq
    rw [a2]
    exact h2 k a1
/-- the locals at a method's entry -/
def e_ent : List Value → Nat → List (Option Value)
  | [], n => List.replicate n none
  | v :: vs, n => if v.category = 2 then some v :: none :: e_ent vs (n - 2) else some v :: e_ent vs (n - 1)
theorem e_ent_mem {ad : Nat → Nat} : ∀ (As : List Value) (n i : Nat), ∀ q ∈ e_ls ad i (e_ent As n), q ∈ lv_args i (As.map (e_mv ad))
  | [], n, i, q, hq => by
    obtain ⟨j, w⟩ := q
    obtain ⟨k, v, h1, -⟩ := e_ls_mem.mp hq
    simp only [e_ent, List.getElem?_replicate] at h1
    split at h1 <;> cases h1
  | v :: vs, n, i, q, hq => by
    by_cases hv : v.category = 2
    · simp only [e_ent, hv, if_true, e_ls, List.mem_cons] at hq
      simp only [List.map_cons, lv_args, e_mv_cat, hv, if_true, List.mem_cons]
      rcases hq with hq | hq
      · exact Or.inl hq
      · exact Or.inr (e_ent_mem vs (n - 2) (i + 2) q hq)
    · simp only [e_ent, hv, if_false, e_ls, List.mem_cons] at hq
      simp only [List.map_cons, lv_args, e_mv_cat, hv, if_false, List.mem_cons]
      rcases hq with hq | hq
      · exact Or.inl hq
      · exact Or.inr (e_ent_mem vs (n - 1) (i + 1) q hq)
end
section
section EK
variable {x : e_T} {own : String} {cc : ByteArray} {d pc : Nat} {ls : List (Option Value)} {st : List Value} {h : List eC}
theorem ei_iconst {n : Int} {v : Int32} (X : e_X x own cc d) (hd : decode cc pc = .ok (.iconst n, 1)) (hv : Int32.ofInt n = v) (k : e_E x (pc + 1) ls (.int v :: st) h) : e_E x pc ls (st) h := by
  obtain ⟨p, l, e, R, s, m, args, below, meth, c, dC, dI, dA, ad, A, N, nL, cells, slots, Q⟩ := x
  intro hL hN H locs la hP hS hl
  exact lv_iconst X.1 X.2.1 hd hv (k hL hN H locs la hP hS hl)
theorem ei_bipush {n : Int} {v : Int32} (X : e_X x own cc d) (hd : decode cc pc = .ok (.bipush n, 2)) (hv : (Int8.ofInt n).toInt32 = v) (k : e_E x (pc + 2) ls (.int v :: st) h) : e_E x pc ls (st) h := by
  obtain ⟨p, l, e, R, s, m, args, below, meth, c, dC, dI, dA, ad, A, N, nL, cells, slots, Q⟩ := x
  intro hL hN H locs la hP hS hl
  exact lv_bipush X.1 X.2.1 hd hv (k hL hN H locs la hP hS hl)
theorem ei_sipush {n : Int} {v : Int32} (X : e_X x own cc d) (hd : decode cc pc = .ok (.sipush n, 3)) (hv : (Int16.ofInt n).toInt32 = v) (k : e_E x (pc + 3) ls (.int v :: st) h) : e_E x pc ls (st) h := by
  obtain ⟨p, l, e, R, s, m, args, below, meth, c, dC, dI, dA, ad, A, N, nL, cells, slots, Q⟩ := x
  intro hL hN H locs la hP hS hl
  exact lv_sipush X.1 X.2.1 hd hv (k hL hN H locs la hP hS hl)
theorem ei_lconst {n : Fin 2} {v : Int64} (X : e_X x own cc d) (hd : decode cc pc = .ok (.lconst n, 1)) (hv : Int64.ofNat (n : Nat) = v) (k : e_E x (pc + 1) ls (.long v :: st) h) : e_E x pc ls (st) h := by
  obtain ⟨p, l, e, R, s, m, args, below, meth, c, dC, dI, dA, ad, A, N, nL, cells, slots, Q⟩ := x
  intro hL hN H locs la hP hS hl
  exact lv_lconst X.1 X.2.1 hd hv (k hL hN H locs la hP hS hl)
theorem ei_iadd {a b : Int32} (X : e_X x own cc d) (hd : decode cc pc = .ok (.iadd, 1)) (k : e_E x (pc + 1) ls (.int (a + b) :: st) h) : e_E x pc ls (.int b :: .int a :: st) h := by
  obtain ⟨p, l, e, R, s, m, args, below, meth, c, dC, dI, dA, ad, A, N, nL, cells, slots, Q⟩ := x
  intro hL hN H locs la hP hS hl
  exact lv_iadd X.1 X.2.1 hd (k hL hN H locs la hP hS hl)
theorem ei_isub {a b : Int32} (X : e_X x own cc d) (hd : decode cc pc = .ok (.isub, 1)) (k : e_E x (pc + 1) ls (.int (a - b) :: st) h) : e_E x pc ls (.int b :: .int a :: st) h := by
  obtain ⟨p, l, e, R, s, m, args, below, meth, c, dC, dI, dA, ad, A, N, nL, cells, slots, Q⟩ := x
  intro hL hN H locs la hP hS hl
  exact lv_isub X.1 X.2.1 hd (k hL hN H locs la hP hS hl)
theorem ei_imul {a b : Int32} (X : e_X x own cc d) (hd : decode cc pc = .ok (.imul, 1)) (k : e_E x (pc + 1) ls (.int (a * b) :: st) h) : e_E x pc ls (.int b :: .int a :: st) h := by
  obtain ⟨p, l, e, R, s, m, args, below, meth, c, dC, dI, dA, ad, A, N, nL, cells, slots, Q⟩ := x
  intro hL hN H locs la hP hS hl
  exact lv_imul X.1 X.2.1 hd (k hL hN H locs la hP hS hl)
theorem ei_iand {a b : Int32} (X : e_X x own cc d) (hd : decode cc pc = .ok (.iand, 1)) (k : e_E x (pc + 1) ls (.int (a &&& b) :: st) h) : e_E x pc ls (.int b :: .int a :: st) h := by
  obtain ⟨p, l, e, R, s, m, args, below, meth, c, dC, dI, dA, ad, A, N, nL, cells, slots, Q⟩ := x
  intro hL hN H locs la hP hS hl
  exact lv_iand X.1 X.2.1 hd (k hL hN H locs la hP hS hl)
theorem ei_ior {a b : Int32} (X : e_X x own cc d) (hd : decode cc pc = .ok (.ior, 1)) (k : e_E x (pc + 1) ls (.int (a ||| b) :: st) h) : e_E x pc ls (.int b :: .int a :: st) h := by
  obtain ⟨p, l, e, R, s, m, args, below, meth, c, dC, dI, dA, ad, A, N, nL, cells, slots, Q⟩ := x
  intro hL hN H locs la hP hS hl
  exact lv_ior X.1 X.2.1 hd (k hL hN H locs la hP hS hl)
theorem ei_ixor {a b : Int32} (X : e_X x own cc d) (hd : decode cc pc = .ok (.ixor, 1)) (k : e_E x (pc + 1) ls (.int (a ^^^ b) :: st) h) : e_E x pc ls (.int b :: .int a :: st) h := by
  obtain ⟨p, l, e, R, s, m, args, below, meth, c, dC, dI, dA, ad, A, N, nL, cells, slots, Q⟩ := x
  intro hL hN H locs la hP hS hl
  exact lv_ixor X.1 X.2.1 hd (k hL hN H locs la hP hS hl)
theorem ei_ishl {a b : Int32} (X : e_X x own cc d) (hd : decode cc pc = .ok (.ishl, 1)) (k : e_E x (pc + 1) ls (.int (a <<< (b &&& 31)) :: st) h) : e_E x pc ls (.int b :: .int a :: st) h := by
  obtain ⟨p, l, e, R, s, m, args, below, meth, c, dC, dI, dA, ad, A, N, nL, cells, slots, Q⟩ := x
  intro hL hN H locs la hP hS hl
  exact lv_ishl X.1 X.2.1 hd (k hL hN H locs la hP hS hl)
theorem ei_ishr {a b : Int32} (X : e_X x own cc d) (hd : decode cc pc = .ok (.ishr, 1)) (k : e_E x (pc + 1) ls (.int (a >>> (b &&& 31)) :: st) h) : e_E x pc ls (.int b :: .int a :: st) h := by
  obtain ⟨p, l, e, R, s, m, args, below, meth, c, dC, dI, dA, ad, A, N, nL, cells, slots, Q⟩ := x
  intro hL hN H locs la hP hS hl
  exact lv_ishr X.1 X.2.1 hd (k hL hN H locs la hP hS hl)
theorem ei_ladd {a b : Int64} (X : e_X x own cc d) (hd : decode cc pc = .ok (.ladd, 1)) (k : e_E x (pc + 1) ls (.long (a + b) :: st) h) : e_E x pc ls (.long b :: .long a :: st) h := by
  obtain ⟨p, l, e, R, s, m, args, below, meth, c, dC, dI, dA, ad, A, N, nL, cells, slots, Q⟩ := x
  intro hL hN H locs la hP hS hl
  exact lv_ladd X.1 X.2.1 hd (k hL hN H locs la hP hS hl)
theorem ei_lsub {a b : Int64} (X : e_X x own cc d) (hd : decode cc pc = .ok (.lsub, 1)) (k : e_E x (pc + 1) ls (.long (a - b) :: st) h) : e_E x pc ls (.long b :: .long a :: st) h := by
  obtain ⟨p, l, e, R, s, m, args, below, meth, c, dC, dI, dA, ad, A, N, nL, cells, slots, Q⟩ := x
  intro hL hN H locs la hP hS hl
  exact lv_lsub X.1 X.2.1 hd (k hL hN H locs la hP hS hl)
theorem ei_lmul {a b : Int64} (X : e_X x own cc d) (hd : decode cc pc = .ok (.lmul, 1)) (k : e_E x (pc + 1) ls (.long (a * b) :: st) h) : e_E x pc ls (.long b :: .long a :: st) h := by
  obtain ⟨p, l, e, R, s, m, args, below, meth, c, dC, dI, dA, ad, A, N, nL, cells, slots, Q⟩ := x
  intro hL hN H locs la hP hS hl
  exact lv_lmul X.1 X.2.1 hd (k hL hN H locs la hP hS hl)
theorem ei_idiv {a b : Int32} (X : e_X x own cc d) (hd : decode cc pc = .ok (.idiv, 1)) (hne : ¬ b = 0) (k : e_E x (pc + 1) ls (.int (a / b) :: st) h) : e_E x pc ls (.int b :: .int a :: st) h := by
  obtain ⟨p, l, e, R, s, m, args, below, meth, c, dC, dI, dA, ad, A, N, nL, cells, slots, Q⟩ := x
  intro hL hN H locs la hP hS hl
  exact lv_idiv X.1 X.2.1 hd hne (k hL hN H locs la hP hS hl)
theorem ei_irem {a b : Int32} (X : e_X x own cc d) (hd : decode cc pc = .ok (.irem, 1)) (hne : ¬ b = 0) (k : e_E x (pc + 1) ls (.int (a - a / b * b) :: st) h) : e_E x pc ls (.int b :: .int a :: st) h := by
  obtain ⟨p, l, e, R, s, m, args, below, meth, c, dC, dI, dA, ad, A, N, nL, cells, slots, Q⟩ := x
  intro hL hN H locs la hP hS hl
  exact lv_irem X.1 X.2.1 hd hne (k hL hN H locs la hP hS hl)
theorem ei_ldiv {a b : Int64} (X : e_X x own cc d) (hd : decode cc pc = .ok (.ldiv, 1)) (hne : ¬ b = 0) (k : e_E x (pc + 1) ls (.long (a / b) :: st) h) : e_E x pc ls (.long b :: .long a :: st) h := by
  obtain ⟨p, l, e, R, s, m, args, below, meth, c, dC, dI, dA, ad, A, N, nL, cells, slots, Q⟩ := x
  intro hL hN H locs la hP hS hl
  exact lv_ldiv X.1 X.2.1 hd hne (k hL hN H locs la hP hS hl)
theorem ei_lrem {a b : Int64} (X : e_X x own cc d) (hd : decode cc pc = .ok (.lrem, 1)) (hne : ¬ b = 0) (k : e_E x (pc + 1) ls (.long (a - a / b * b) :: st) h) : e_E x pc ls (.long b :: .long a :: st) h := by
  obtain ⟨p, l, e, R, s, m, args, below, meth, c, dC, dI, dA, ad, A, N, nL, cells, slots, Q⟩ := x
  intro hL hN H locs la hP hS hl
  exact lv_lrem X.1 X.2.1 hd hne (k hL hN H locs la hP hS hl)
theorem ei_i2l {a : Int32} (X : e_X x own cc d) (hd : decode cc pc = .ok (.i2l, 1)) (k : e_E x (pc + 1) ls (.long a.toInt64 :: st) h) : e_E x pc ls (.int a :: st) h := by
  obtain ⟨p, l, e, R, s, m, args, below, meth, c, dC, dI, dA, ad, A, N, nL, cells, slots, Q⟩ := x
  intro hL hN H locs la hP hS hl
  exact lv_i2l X.1 X.2.1 hd rfl (k hL hN H locs la hP hS hl)
theorem ei_l2i {a : Int64} (X : e_X x own cc d) (hd : decode cc pc = .ok (.l2i, 1)) (k : e_E x (pc + 1) ls (.int a.toInt32 :: st) h) : e_E x pc ls (.long a :: st) h := by
  obtain ⟨p, l, e, R, s, m, args, below, meth, c, dC, dI, dA, ad, A, N, nL, cells, slots, Q⟩ := x
  intro hL hN H locs la hP hS hl
  exact lv_l2i X.1 X.2.1 hd rfl (k hL hN H locs la hP hS hl)
theorem ei_i2b {a : Int32} (X : e_X x own cc d) (hd : decode cc pc = .ok (.i2b, 1)) (k : e_E x (pc + 1) ls (.int a.toInt8.toInt32 :: st) h) : e_E x pc ls (.int a :: st) h := by
  obtain ⟨p, l, e, R, s, m, args, below, meth, c, dC, dI, dA, ad, A, N, nL, cells, slots, Q⟩ := x
  intro hL hN H locs la hP hS hl
  exact lv_i2b X.1 X.2.1 hd rfl (k hL hN H locs la hP hS hl)
theorem ei_i2s {a : Int32} (X : e_X x own cc d) (hd : decode cc pc = .ok (.i2s, 1)) (k : e_E x (pc + 1) ls (.int a.toInt16.toInt32 :: st) h) : e_E x pc ls (.int a :: st) h := by
  obtain ⟨p, l, e, R, s, m, args, below, meth, c, dC, dI, dA, ad, A, N, nL, cells, slots, Q⟩ := x
  intro hL hN H locs la hP hS hl
  exact lv_i2s X.1 X.2.1 hd rfl (k hL hN H locs la hP hS hl)
theorem ei_lcmp {a b : Int64} (X : e_X x own cc d) (hd : decode cc pc = .ok (.lcmp, 1)) (k : e_E x (pc + 1) ls (.int (lg_cmp a b) :: st) h) : e_E x pc ls (.long b :: .long a :: st) h := by
  obtain ⟨p, l, e, R, s, m, args, below, meth, c, dC, dI, dA, ad, A, N, nL, cells, slots, Q⟩ := x
  intro hL hN H locs la hP hS hl
  exact W.lcmp X.1 X.2.1 hd (k hL hN H locs la hP hS hl)
theorem ei_dup {v : Value} (X : e_X x own cc d) (hd : decode cc pc = .ok (.dup, 1)) (hv : v.category = 1) (k : e_E x (pc + 1) ls (v :: v :: st) h) : e_E x pc ls (v :: st) h := by
  obtain ⟨p, l, e, R, s, m, args, below, meth, c, dC, dI, dA, ad, A, N, nL, cells, slots, Q⟩ := x
  intro hL hN H locs la hP hS hl
  exact lv_dup X.1 X.2.1 hd ((e_mv_cat ad v).trans hv) (k hL hN H locs la hP hS hl)
theorem ei_pop {v : Value} (X : e_X x own cc d) (hd : decode cc pc = .ok (.pop, 1)) (hv : v.category = 1) (k : e_E x (pc + 1) ls (st) h) : e_E x pc ls (v :: st) h := by
  obtain ⟨p, l, e, R, s, m, args, below, meth, c, dC, dI, dA, ad, A, N, nL, cells, slots, Q⟩ := x
  intro hL hN H locs la hP hS hl
  exact lv_pop X.1 X.2.1 hd ((e_mv_cat ad v).trans hv) (k hL hN H locs la hP hS hl)
theorem ei_dup2 {v w : Value} (X : e_X x own cc d) (hd : decode cc pc = .ok (.dup2, 1)) (hv : v.category = 1) (hw : w.category = 1) (k : e_E x (pc + 1) ls (v :: w :: v :: w :: st) h) : e_E x pc ls (v :: w :: st) h := by
  obtain ⟨p, l, e, R, s, m, args, below, meth, c, dC, dI, dA, ad, A, N, nL, cells, slots, Q⟩ := x
  intro hL hN H locs la hP hS hl
  exact lv_dup2_11 X.1 X.2.1 hd ((e_mv_cat ad v).trans hv) ((e_mv_cat ad w).trans hw) (k hL hN H locs la hP hS hl)
theorem ei_iload_n {j : Fin 4} {i : Nat} {v : Int32} (X : e_X x own cc d) (hd : decode cc pc = .ok (.iload_n j, 1)) (hi : (j : Nat) = i) (hv : ls[i]? = some (some (.int v))) (k : e_E x (pc + 1) ls (.int v :: st) h) : e_E x pc ls (st) h := by
  obtain ⟨p, l, e, R, s, m, args, below, meth, c, dC, dI, dA, ad, A, N, nL, cells, slots, Q⟩ := x
  intro hL hN H locs la hP hS hl
  exact lv_iload_n X.1 X.2.1 hd hi (e_has_at hl hv) (k hL hN H locs la hP hS hl)
theorem ei_iload {i : Nat} {v : Int32} (X : e_X x own cc d) (hd : decode cc pc = .ok (.iload i, 2)) (hv : ls[i]? = some (some (.int v))) (k : e_E x (pc + 2) ls (.int v :: st) h) : e_E x pc ls (st) h := by
  obtain ⟨p, l, e, R, s, m, args, below, meth, c, dC, dI, dA, ad, A, N, nL, cells, slots, Q⟩ := x
  intro hL hN H locs la hP hS hl
  exact lv_iload X.1 X.2.1 hd (e_has_at hl hv) (k hL hN H locs la hP hS hl)
theorem ei_lload_n {j : Fin 4} {i : Nat} {v : Int64} (X : e_X x own cc d) (hd : decode cc pc = .ok (.lload_n j, 1)) (hi : (j : Nat) = i) (hv : ls[i]? = some (some (.long v))) (k : e_E x (pc + 1) ls (.long v :: st) h) : e_E x pc ls (st) h := by
  obtain ⟨p, l, e, R, s, m, args, below, meth, c, dC, dI, dA, ad, A, N, nL, cells, slots, Q⟩ := x
  intro hL hN H locs la hP hS hl
  exact lv_lload_n X.1 X.2.1 hd hi (e_has_at hl hv) (k hL hN H locs la hP hS hl)
theorem ei_lload {i : Nat} {v : Int64} (X : e_X x own cc d) (hd : decode cc pc = .ok (.lload i, 2)) (hv : ls[i]? = some (some (.long v))) (k : e_E x (pc + 2) ls (.long v :: st) h) : e_E x pc ls (st) h := by
  obtain ⟨p, l, e, R, s, m, args, below, meth, c, dC, dI, dA, ad, A, N, nL, cells, slots, Q⟩ := x
  intro hL hN H locs la hP hS hl
  exact lv_lload X.1 X.2.1 hd (e_has_at hl hv) (k hL hN H locs la hP hS hl)
theorem ei_aload_n {j : Fin 4} {i a : Nat} (X : e_X x own cc d) (hd : decode cc pc = .ok (.aload_n j, 1)) (hi : (j : Nat) = i) (hv : ls[i]? = some (some (.ref a))) (k : e_E x (pc + 1) ls (.ref a :: st) h) : e_E x pc ls (st) h := by
  obtain ⟨p, l, e, R, s, m, args, below, meth, c, dC, dI, dA, ad, A, N, nL, cells, slots, Q⟩ := x
  intro hL hN H locs la hP hS hl
  exact lv_aload_n X.1 X.2.1 hd hi (e_has_at hl hv) (k hL hN H locs la hP hS hl)
theorem ei_aload {i a : Nat} (X : e_X x own cc d) (hd : decode cc pc = .ok (.aload i, 2)) (hv : ls[i]? = some (some (.ref a))) (k : e_E x (pc + 2) ls (.ref a :: st) h) : e_E x pc ls (st) h := by
  obtain ⟨p, l, e, R, s, m, args, below, meth, c, dC, dI, dA, ad, A, N, nL, cells, slots, Q⟩ := x
  intro hL hN H locs la hP hS hl
  exact lv_aload X.1 X.2.1 hd (e_has_at hl hv) (k hL hN H locs la hP hS hl)
theorem ei_istore_n {j : Fin 4} {i : Nat} {a : Int32} (X : e_X x own cc d) (hd : decode cc pc = .ok (.istore_n j, 1)) (hi : (j : Nat) = i) (hn : i < ls.length) (hw : e_nw ls i = true) (k : e_E x (pc + 1) (ls.set i (some (.int a))) st h) : e_E x pc ls (.int a :: st) h := by
  obtain ⟨p, l, e, R, s, m, args, below, meth, c, dC, dI, dA, ad, A, N, nL, cells, slots, Q⟩ := x
  intro hL hN H locs la hP hS hl
  exact lv_istore_n X.1 X.2.1 hd hi hl (by rw [← hL]; exact hn) rfl (fun la hl => k (by rw [List.length_set]; exact hL) hN H locs la hP hS (e_has_mono hl (e_ls_set1 hw)))
theorem ei_lstore_n {j : Fin 4} {i : Nat} {a : Int64} (X : e_X x own cc d) (hd : decode cc pc = .ok (.lstore_n j, 1)) (hi : (j : Nat) = i) (hn : i + 1 < ls.length) (hw : e_nw ls i = true) (k : e_E x (pc + 1) ((ls.set i (some (.long a))).set (i + 1) none) st h) : e_E x pc ls (.long a :: st) h := by
  obtain ⟨p, l, e, R, s, m, args, below, meth, c, dC, dI, dA, ad, A, N, nL, cells, slots, Q⟩ := x
  intro hL hN H locs la hP hS hl
  exact lv_lstore_n X.1 X.2.1 hd hi hl (by rw [← hL]; exact hn) rfl (fun la hl => k (by rw [List.length_set, List.length_set]; exact hL) hN H locs la hP hS (e_has_mono hl (e_ls_set2 hw)))
theorem ei_astore_n {j : Fin 4} {i : Nat} {a : Nat} (X : e_X x own cc d) (hd : decode cc pc = .ok (.astore_n j, 1)) (hi : (j : Nat) = i) (hn : i < ls.length) (hw : e_nw ls i = true) (k : e_E x (pc + 1) (ls.set i (some (.ref a))) st h) : e_E x pc ls (.ref a :: st) h := by
  obtain ⟨p, l, e, R, s, m, args, below, meth, c, dC, dI, dA, ad, A, N, nL, cells, slots, Q⟩ := x
  intro hL hN H locs la hP hS hl
  exact lv_astore_n X.1 X.2.1 hd hi hl (by rw [← hL]; exact hn) rfl (fun la hl => k (by rw [List.length_set]; exact hL) hN H locs la hP hS (e_has_mono hl (e_ls_set1 hw)))
theorem ei_istore {i : Nat} {a : Int32} (X : e_X x own cc d) (hd : decode cc pc = .ok (.istore i, 2)) (hn : i < ls.length) (hw : e_nw ls i = true) (k : e_E x (pc + 2) (ls.set i (some (.int a))) st h) : e_E x pc ls (.int a :: st) h := by
  obtain ⟨p, l, e, R, s, m, args, below, meth, c, dC, dI, dA, ad, A, N, nL, cells, slots, Q⟩ := x
  intro hL hN H locs la hP hS hl
  exact lv_istore X.1 X.2.1 hd hl (by rw [← hL]; exact hn) rfl (fun la hl => k (by rw [List.length_set]; exact hL) hN H locs la hP hS (e_has_mono hl (e_ls_set1 hw)))
theorem ei_lstore {i : Nat} {a : Int64} (X : e_X x own cc d) (hd : decode cc pc = .ok (.lstore i, 2)) (hn : i + 1 < ls.length) (hw : e_nw ls i = true) (k : e_E x (pc + 2) ((ls.set i (some (.long a))).set (i + 1) none) st h) : e_E x pc ls (.long a :: st) h := by
  obtain ⟨p, l, e, R, s, m, args, below, meth, c, dC, dI, dA, ad, A, N, nL, cells, slots, Q⟩ := x
  intro hL hN H locs la hP hS hl
  exact lv_lstore X.1 X.2.1 hd hl (by rw [← hL]; exact hn) rfl (fun la hl => k (by rw [List.length_set, List.length_set]; exact hL) hN H locs la hP hS (e_has_mono hl (e_ls_set2 hw)))
theorem ei_astore {i : Nat} {a : Nat} (X : e_X x own cc d) (hd : decode cc pc = .ok (.astore i, 2)) (hn : i < ls.length) (hw : e_nw ls i = true) (k : e_E x (pc + 2) (ls.set i (some (.ref a))) st h) : e_E x pc ls (.ref a :: st) h := by
  obtain ⟨p, l, e, R, s, m, args, below, meth, c, dC, dI, dA, ad, A, N, nL, cells, slots, Q⟩ := x
  intro hL hN H locs la hP hS hl
  exact lv_astore X.1 X.2.1 hd hl (by rw [← hL]; exact hn) rfl (fun la hl => k (by rw [List.length_set]; exact hL) hN H locs la hP hS (e_has_mono hl (e_ls_set1 hw)))
theorem ei_iinc {i : Nat} {n : Int} {a v : Int32} (X : e_X x own cc d) (hd : decode cc pc = .ok (.iinc i n, 3)) (hv : ls[i]? = some (some (.int a))) (hav : a + Int32.ofInt n = v) (hw : e_nw ls i = true) (k : e_E x (pc + 3) (ls.set i (some (.int v))) st h) : e_E x pc ls st h := by
  obtain ⟨p, l, e, R, s, m, args, below, meth, c, dC, dI, dA, ad, A, N, nL, cells, slots, Q⟩ := x
  intro hL hN H locs la hP hS hl
  have hm : (i, Value.int a) ∈ e_ls ad 0 ls := e_ls_mem.mpr ⟨i, .int a, hv, by omega, rfl⟩
  obtain ⟨j, hj⟩ := List.getElem?_of_mem hm
  exact lv_iinc X.1 X.2.1 hd hl hj hav (by rw [← hL]; exact (List.getElem?_eq_some_iff.mp hv).1) rfl (fun la hl => k (by rw [List.length_set]; exact hL) hN H locs la hP hS (e_has_mono hl (e_ls_set1 hw)))
theorem ei_if_eq {a : Int32} {off : Int} {tgt : Nat} (X : e_X x own cc d) (hd : decode cc pc = .ok (.ifCond .eq off, 3)) (ht : (pc : Int) + off = (tgt : Int)) (kt : a = 0 → e_E x tgt ls st h) (kf : ¬ (a = 0) → e_E x (pc + 3) ls st h) : e_E x pc ls (.int a :: st) h := by
  obtain ⟨p, l, e, R, s, m, args, below, meth, c, dC, dI, dA, ad, A, N, nL, cells, slots, Q⟩ := x
  intro hL hN H locs la hP hS hl
  exact lv_if_eq X.1 X.2.1 hd ht (fun q => kt q hL hN H locs la hP hS hl) (fun q => kf q hL hN H locs la hP hS hl)
theorem ei_icmp_eq {a b : Int32} {off : Int} {tgt : Nat} (X : e_X x own cc d) (hd : decode cc pc = .ok (.if_icmp .eq off, 3)) (ht : (pc : Int) + off = (tgt : Int)) (kt : a = b → e_E x tgt ls st h) (kf : ¬ (a = b) → e_E x (pc + 3) ls st h) : e_E x pc ls (.int b :: .int a :: st) h := by
  obtain ⟨p, l, e, R, s, m, args, below, meth, c, dC, dI, dA, ad, A, N, nL, cells, slots, Q⟩ := x
  intro hL hN H locs la hP hS hl
  exact lv_icmp_eq X.1 X.2.1 hd ht (fun q => kt q hL hN H locs la hP hS hl) (fun q => kf q hL hN H locs la hP hS hl)
theorem ei_if_ne {a : Int32} {off : Int} {tgt : Nat} (X : e_X x own cc d) (hd : decode cc pc = .ok (.ifCond .ne off, 3)) (ht : (pc : Int) + off = (tgt : Int)) (kt : ¬ a = 0 → e_E x tgt ls st h) (kf : a = 0 → e_E x (pc + 3) ls st h) : e_E x pc ls (.int a :: st) h := by
  obtain ⟨p, l, e, R, s, m, args, below, meth, c, dC, dI, dA, ad, A, N, nL, cells, slots, Q⟩ := x
  intro hL hN H locs la hP hS hl
  exact lv_if_ne X.1 X.2.1 hd ht (fun q => kt q hL hN H locs la hP hS hl) (fun q => kf q hL hN H locs la hP hS hl)
theorem ei_icmp_ne {a b : Int32} {off : Int} {tgt : Nat} (X : e_X x own cc d) (hd : decode cc pc = .ok (.if_icmp .ne off, 3)) (ht : (pc : Int) + off = (tgt : Int)) (kt : ¬ a = b → e_E x tgt ls st h) (kf : a = b → e_E x (pc + 3) ls st h) : e_E x pc ls (.int b :: .int a :: st) h := by
  obtain ⟨p, l, e, R, s, m, args, below, meth, c, dC, dI, dA, ad, A, N, nL, cells, slots, Q⟩ := x
  intro hL hN H locs la hP hS hl
  exact lv_icmp_ne X.1 X.2.1 hd ht (fun q => kt q hL hN H locs la hP hS hl) (fun q => kf q hL hN H locs la hP hS hl)
theorem ei_if_lt {a : Int32} {off : Int} {tgt : Nat} (X : e_X x own cc d) (hd : decode cc pc = .ok (.ifCond .lt off, 3)) (ht : (pc : Int) + off = (tgt : Int)) (kt : a < 0 → e_E x tgt ls st h) (kf : ¬ (a < 0) → e_E x (pc + 3) ls st h) : e_E x pc ls (.int a :: st) h := by
  obtain ⟨p, l, e, R, s, m, args, below, meth, c, dC, dI, dA, ad, A, N, nL, cells, slots, Q⟩ := x
  intro hL hN H locs la hP hS hl
  exact lv_if_lt X.1 X.2.1 hd ht (fun q => kt q hL hN H locs la hP hS hl) (fun q => kf q hL hN H locs la hP hS hl)
theorem ei_icmp_lt {a b : Int32} {off : Int} {tgt : Nat} (X : e_X x own cc d) (hd : decode cc pc = .ok (.if_icmp .lt off, 3)) (ht : (pc : Int) + off = (tgt : Int)) (kt : a < b → e_E x tgt ls st h) (kf : ¬ (a < b) → e_E x (pc + 3) ls st h) : e_E x pc ls (.int b :: .int a :: st) h := by
  obtain ⟨p, l, e, R, s, m, args, below, meth, c, dC, dI, dA, ad, A, N, nL, cells, slots, Q⟩ := x
  intro hL hN H locs la hP hS hl
  exact lv_icmp_lt X.1 X.2.1 hd ht (fun q => kt q hL hN H locs la hP hS hl) (fun q => kf q hL hN H locs la hP hS hl)
theorem ei_if_ge {a : Int32} {off : Int} {tgt : Nat} (X : e_X x own cc d) (hd : decode cc pc = .ok (.ifCond .ge off, 3)) (ht : (pc : Int) + off = (tgt : Int)) (kt : 0 ≤ a → e_E x tgt ls st h) (kf : ¬ (0 ≤ a) → e_E x (pc + 3) ls st h) : e_E x pc ls (.int a :: st) h := by
  obtain ⟨p, l, e, R, s, m, args, below, meth, c, dC, dI, dA, ad, A, N, nL, cells, slots, Q⟩ := x
  intro hL hN H locs la hP hS hl
  exact lv_if_ge X.1 X.2.1 hd ht (fun q => kt q hL hN H locs la hP hS hl) (fun q => kf q hL hN H locs la hP hS hl)
theorem ei_icmp_ge {a b : Int32} {off : Int} {tgt : Nat} (X : e_X x own cc d) (hd : decode cc pc = .ok (.if_icmp .ge off, 3)) (ht : (pc : Int) + off = (tgt : Int)) (kt : b ≤ a → e_E x tgt ls st h) (kf : ¬ (b ≤ a) → e_E x (pc + 3) ls st h) : e_E x pc ls (.int b :: .int a :: st) h := by
  obtain ⟨p, l, e, R, s, m, args, below, meth, c, dC, dI, dA, ad, A, N, nL, cells, slots, Q⟩ := x
  intro hL hN H locs la hP hS hl
  exact lv_icmp_ge X.1 X.2.1 hd ht (fun q => kt q hL hN H locs la hP hS hl) (fun q => kf q hL hN H locs la hP hS hl)
theorem ei_if_gt {a : Int32} {off : Int} {tgt : Nat} (X : e_X x own cc d) (hd : decode cc pc = .ok (.ifCond .gt off, 3)) (ht : (pc : Int) + off = (tgt : Int)) (kt : 0 < a → e_E x tgt ls st h) (kf : ¬ (0 < a) → e_E x (pc + 3) ls st h) : e_E x pc ls (.int a :: st) h := by
  obtain ⟨p, l, e, R, s, m, args, below, meth, c, dC, dI, dA, ad, A, N, nL, cells, slots, Q⟩ := x
  intro hL hN H locs la hP hS hl
  exact lv_if_gt X.1 X.2.1 hd ht (fun q => kt q hL hN H locs la hP hS hl) (fun q => kf q hL hN H locs la hP hS hl)
theorem ei_icmp_gt {a b : Int32} {off : Int} {tgt : Nat} (X : e_X x own cc d) (hd : decode cc pc = .ok (.if_icmp .gt off, 3)) (ht : (pc : Int) + off = (tgt : Int)) (kt : b < a → e_E x tgt ls st h) (kf : ¬ (b < a) → e_E x (pc + 3) ls st h) : e_E x pc ls (.int b :: .int a :: st) h := by
  obtain ⟨p, l, e, R, s, m, args, below, meth, c, dC, dI, dA, ad, A, N, nL, cells, slots, Q⟩ := x
  intro hL hN H locs la hP hS hl
  exact lv_icmp_gt X.1 X.2.1 hd ht (fun q => kt q hL hN H locs la hP hS hl) (fun q => kf q hL hN H locs la hP hS hl)
theorem ei_if_le {a : Int32} {off : Int} {tgt : Nat} (X : e_X x own cc d) (hd : decode cc pc = .ok (.ifCond .le off, 3)) (ht : (pc : Int) + off = (tgt : Int)) (kt : a ≤ 0 → e_E x tgt ls st h) (kf : ¬ (a ≤ 0) → e_E x (pc + 3) ls st h) : e_E x pc ls (.int a :: st) h := by
  obtain ⟨p, l, e, R, s, m, args, below, meth, c, dC, dI, dA, ad, A, N, nL, cells, slots, Q⟩ := x
  intro hL hN H locs la hP hS hl
  exact lv_if_le X.1 X.2.1 hd ht (fun q => kt q hL hN H locs la hP hS hl) (fun q => kf q hL hN H locs la hP hS hl)
theorem ei_icmp_le {a b : Int32} {off : Int} {tgt : Nat} (X : e_X x own cc d) (hd : decode cc pc = .ok (.if_icmp .le off, 3)) (ht : (pc : Int) + off = (tgt : Int)) (kt : a ≤ b → e_E x tgt ls st h) (kf : ¬ (a ≤ b) → e_E x (pc + 3) ls st h) : e_E x pc ls (.int b :: .int a :: st) h := by
  obtain ⟨p, l, e, R, s, m, args, below, meth, c, dC, dI, dA, ad, A, N, nL, cells, slots, Q⟩ := x
  intro hL hN H locs la hP hS hl
  exact lv_icmp_le X.1 X.2.1 hd ht (fun q => kt q hL hN H locs la hP hS hl) (fun q => kf q hL hN H locs la hP hS hl)
theorem ei_goto {off : Int} {tgt : Nat} (X : e_X x own cc d) (hd : decode cc pc = .ok (.goto off, 3)) (ht : (pc : Int) + off = (tgt : Int)) (k : e_E x tgt ls st h) : e_E x pc ls st h := by
  obtain ⟨p, l, e, R, s, m, args, below, meth, c, dC, dI, dA, ad, A, N, nL, cells, slots, Q⟩ := x
  intro hL hN H locs la hP hS hl
  exact lv_goto X.1 X.2.1 hd ht (k hL hN H locs la hP hS hl)
def e_tchk (pc : Nat) : Int → List Int → List (Int32 × Nat) → Bool
  | _, [], [] => true
  | lo, o :: os, (v, t) :: cs => (v.toInt == lo) && (((pc : Int) + o == (t : Int)) && e_tchk pc (lo + 1) os cs)
  | _, _, _ => false
theorem e_tchk_len {pc : Nat} : ∀ {lo : Int} {os : List Int} {cs : List (Int32 × Nat)}, e_tchk pc lo os cs = true → os.length = cs.length
  | _, [], [], _ => rfl
  | lo, o :: os, (v, t) :: cs, h => by
    simp only [e_tchk, Bool.and_eq_true] at h
    simp [e_tchk_len h.2.2]
  | _, [], _ :: _, h => by simp [e_tchk] at h
  | _, _ :: _, [], h => by simp [e_tchk] at h
theorem e_tchk_at {pc : Nat} : ∀ {lo : Int} {os : List Int} {cs : List (Int32 × Nat)}, e_tchk pc lo os cs = true → ∀ (j : Nat) (v : Int32) (t : Nat), cs[j]? = some (v, t) → v.toInt = lo + j ∧ ∃ o, os[j]? = some o ∧ (pc : Int) + o = (t : Int)
  | _, [], [], _, j, v, t, hj => by simp at hj
  | lo, o :: os, (v0, t0) :: cs, h, j, v, t, hj => by
    simp only [e_tchk, Bool.and_eq_true, beq_iff_eq] at h
    cases j with
    | zero =>
      simp only [List.getElem?_cons_zero, Option.some.injEq, Prod.mk.injEq] at hj
      obtain ⟨rfl, rfl⟩ := hj
      exact ⟨by rw [h.1]; simp, o, rfl, h.2.1⟩
    | succ j =>
      have h2 := e_tchk_at h.2.2 j v t (by simpa using hj)
      refine ⟨by rw [h2.1]; omega, ?_⟩
      obtain ⟨o', h3, h4⟩ := h2.2
      exact ⟨o', by simpa using h3, h4⟩
  | _, [], _ :: _, h, _, _, _, _ => by simp [e_tchk] at h
  | _, _ :: _, [], h, _, _, _, _ => by simp [e_tchk] at h
/-- one case after the other -/
def e_tk (K : Nat → Prop) (a : Int32) : List (Int32 × Nat) → Prop
  | [] => True
  | (v, t) :: cs => (a = v → K t) ∧ e_tk K a cs
def e_tn (a : Int32) : List (Int32 × Nat) → Prop
  | [] => True
  | (v, _) :: cs => ¬ a = v ∧ e_tn a cs
theorem e_tk_at {K : Nat → Prop} {a : Int32} : ∀ {cs : List (Int32 × Nat)}, e_tk K a cs → ∀ (v : Int32) (t : Nat), (v, t) ∈ cs → a = v → K t
  | [], _, v, t, h, _ => by simp at h
  | (v0, t0) :: cs, hk, v, t, h, ha => by
    rcases List.mem_cons.mp h with h | h
    · cases h; exact hk.1 ha
    · exact e_tk_at hk.2 v t h ha
theorem e_tn_of {a : Int32} : ∀ {cs : List (Int32 × Nat)}, (∀ v t, (v, t) ∈ cs → ¬ a = v) → e_tn a cs
  | [], _ => trivial
  | (v, t) :: cs, h => ⟨h v t List.mem_cons_self, e_tn_of fun v t q => h v t (List.mem_cons_of_mem _ q)⟩
theorem ei_table {a : Int32} {dflt lo hi : Int} {offs : Array Int} {len : Nat} (cs : List (Int32 × Nat)) (td : Nat) (X : e_X x own cc d) (hd : decode cc pc = .ok (.tableswitch dflt lo hi offs, len)) (hc : e_tchk pc lo offs.toList cs = true) (hhi : hi = lo + cs.length - 1) (htd : (pc : Int) + dflt = (td : Int))
    (kin : e_tk (fun t => e_E x t ls st h) a cs) (kout : e_tn a cs → e_E x td ls st h) : e_E x pc ls (.int a :: st) h := by
  obtain ⟨p, l, e, R, s, m, args, below, meth, c, dC, dI, dA, ad, A, N, nL, cells, slots, Q⟩ := x
  intro hL hN H locs la hP hS hl
  by_cases hr : a.toInt < lo ∨ hi < a.toInt
  · refine lv_tableOut X.1 X.2.1 hd hr htd (kout (e_tn_of fun v t hm hv => ?_) hL hN H locs la hP hS hl)
    obtain ⟨j, hj⟩ := List.getElem?_of_mem hm
    have h1 := (e_tchk_at hc j v t hj).1
    have h2 := (List.getElem?_eq_some_iff.mp hj).1
    rw [hv, h1] at hr
    omega
  · have h1 : ¬ a.toInt < lo := fun q => hr (Or.inl q)
    have h2 : ¬ hi < a.toInt := fun q => hr (Or.inr q)
    have hj : (a.toInt - lo).toNat < cs.length := by omega
    obtain ⟨v, t, hvt⟩ : ∃ v t, cs[(a.toInt - lo).toNat]? = some (v, t) := ⟨_, _, List.getElem?_eq_getElem hj⟩
    obtain ⟨h3, o, h4, h5⟩ := e_tchk_at hc _ v t hvt
    have hav : a = v := Int32.toInt_inj.mp (by rw [h3]; omega)
    exact lv_tableIn X.1 X.2.1 hd h1 h2 (by rw [← Array.getElem?_toList]; exact h4) h5 (e_tk_at kin v t (List.mem_of_getElem? hvt) hav hL hN H locs la hP hS hl)
theorem ei_getf {k ci f idx : Nat} {fs : List Value} {v : Value} (X : e_X x own cc d) (fl : e_FL own idx ci f) (hd : decode cc pc = .ok (.getfield idx, 3)) (hh : h[k]? = some (.inr (ci, fs))) (hv : fs[f]? = some v) (kk : e_E x (pc + 3) ls (v :: st) h) : e_E x pc ls (.ref k :: st) h := by
  obtain ⟨p, l, e, R, s, m, args, below, meth, c, dC, dI, dA, ad, A, N, nL, cells, slots, Q⟩ := x
  intro hL hN H locs la hP hS hl
  obtain ⟨C, T, N0, ty0, hc, hf, hin, -, -, hlk⟩ := fl
  exact va_get (D := (dC, dI)) X.1 X.2.1 X.2.2.2.2.1 hin X.2.2.2.1 X.2.2.2.2.2.1 hP k (e_wd_get hh) hc f hf (X.2.2.2.2.1 _ hlk) (fun _ q => q) (v := e_mv ad v) (by rw [List.getElem?_map, hv]; rfl) hd (kk hL hN H locs la hP hS hl)
theorem ei_puti {k ci f idx : Nat} {fs : List Value} {a : Int32} (X : e_X x own cc d) (fl : e_FP own idx ci f .int) (hd : decode cc pc = .ok (.putfield idx, 3)) (hh : h[k]? = some (.inr (ci, fs))) (hf2 : f < fs.length) {h2 : List eC} (h2e : h.set k (.inr (ci, fs.set f (.int a))) = h2) (kk : e_E x (pc + 3) ls st h2) : e_E x pc ls (.int a :: .ref k :: st) h := by
  obtain ⟨p, l, e, R, s, m, args, below, meth, c, dC, dI, dA, ad, A, N, nL, cells, slots, Q⟩ := x
  intro hL hN H locs la hP hS hl
  obtain ⟨C, T, N0, ty0, hc, hf, hin, hty, hnm, hlk, hfin, hdsc⟩ := fl
  subst h2e
  refine va_put (D := (dC, dI)) X.1 X.2.1 X.2.2.2.2.1 hin ty0 hty hnm X.2.2.2.1 X.2.2.2.2.2.1 hP (e_D X.2.2.2.2.2.2.1 X.2.2.2.2.2.2.2.1 hN) hS k (e_wd_get hh) hc f hf (X.2.2.2.2.1 _ hlk) (fun _ q => q) hfin hdsc (v := e_mv ad (.int a)) rfl rfl (by rw [List.length_map]; exact hf2) hd (fun H1 locs1 hP1 hD1 hS1 => ?_)
  refine kk hL (by rw [List.length_set]; exact hN) H1 locs1 la ?_ hS1 hl
  rw [e_wd_set]
  simpa only [e_rl, List.map_set] using hP1
theorem ei_putz {k ci f idx : Nat} {fs : List Value} {a : Int32} (X : e_X x own cc d) (fl : e_FP own idx ci f .boolean) (hd : decode cc pc = .ok (.putfield idx, 3)) (hh : h[k]? = some (.inr (ci, fs))) (hf2 : f < fs.length) (hz : narrow .boolean (.int a) = .int a ∧ fits .boolean (.int a) = true) {h2 : List eC} (h2e : h.set k (.inr (ci, fs.set f (.int a))) = h2) (kk : e_E x (pc + 3) ls st h2) : e_E x pc ls (.int a :: .ref k :: st) h := by
  obtain ⟨p, l, e, R, s, m, args, below, meth, c, dC, dI, dA, ad, A, N, nL, cells, slots, Q⟩ := x
  intro hL hN H locs la hP hS hl
  obtain ⟨C, T, N0, ty0, hc, hf, hin, hty, hnm, hlk, hfin, hdsc⟩ := fl
  subst h2e
  refine va_put (D := (dC, dI)) X.1 X.2.1 X.2.2.2.2.1 hin ty0 hty hnm X.2.2.2.1 X.2.2.2.2.2.1 hP (e_D X.2.2.2.2.2.2.1 X.2.2.2.2.2.2.2.1 hN) hS k (e_wd_get hh) hc f hf (X.2.2.2.2.1 _ hlk) (fun _ q => q) hfin hdsc (v := e_mv ad (.int a)) hz.1 hz.2 (by rw [List.length_map]; exact hf2) hd (fun H1 locs1 hP1 hD1 hS1 => ?_)
  refine kk hL (by rw [List.length_set]; exact hN) H1 locs1 la ?_ hS1 hl
  rw [e_wd_set]
  simpa only [e_rl, List.map_set] using hP1
theorem ei_puta {k ci f idx : Nat} {fs : List Value} {a : Nat} {ty : FieldType} (X : e_X x own cc d) (fl : e_FP own idx ci f ty) (hd : decode cc pc = .ok (.putfield idx, 3)) (hh : h[k]? = some (.inr (ci, fs))) (hf2 : f < fs.length) (hty0 : ∃ t, ty = .array t) {h2 : List eC} (h2e : h.set k (.inr (ci, fs.set f (.ref a))) = h2) (kk : e_E x (pc + 3) ls st h2) : e_E x pc ls (.ref a :: .ref k :: st) h := by
  obtain ⟨p, l, e, R, s, m, args, below, meth, c, dC, dI, dA, ad, A, N, nL, cells, slots, Q⟩ := x
  intro hL hN H locs la hP hS hl
  obtain ⟨C, T, N0, ty0, hc, hf, hin, hty, hnm, hlk, hfin, hdsc⟩ := fl
  subst h2e
  refine va_put (D := (dC, dI)) X.1 X.2.1 X.2.2.2.2.1 hin ty0 hty hnm X.2.2.2.1 X.2.2.2.2.2.1 hP (e_D X.2.2.2.2.2.2.1 X.2.2.2.2.2.2.2.1 hN) hS k (e_wd_get hh) hc f hf (X.2.2.2.2.1 _ hlk) (fun _ q => q) hfin hdsc (v := e_mv ad (.ref a)) (by obtain ⟨t, rfl⟩ := hty0; rfl) (by obtain ⟨t, rfl⟩ := hty0; rfl) (by rw [List.length_map]; exact hf2) hd (fun H1 locs1 hP1 hD1 hS1 => ?_)
  refine kk hL (by rw [List.length_set]; exact hN) H1 locs1 la ?_ hS1 hl
  rw [e_wd_set]
  simpa only [e_rl, List.map_set] using hP1
theorem ei_iaload {k n : Nat} {g : Nat → Int32} {i : Int32} (X : e_X x own cc d) (hd : decode cc pc = .ok (.iaload, 1)) (hh : h[k]? = some (.inl (0, n, .inl g))) (hin : vp_in i n) (kk : e_E x (pc + 1) ls (.int (g i.toNatClampNeg) :: st) h) : e_E x pc ls (.int i :: .ref k :: st) h := by
  obtain ⟨p, l, e, R, s, m, args, below, meth, c, dC, dI, dA, ad, A, N, nL, cells, slots, Q⟩ := x
  intro hL hN H locs la hP hS hl
  exact va_iald X.1 X.2.1 X.2.2.2.2.2.1 hP k 0 (e_wd_get hh) rfl hin hd (kk hL hN H locs la hP hS hl)
theorem ei_laload {k n : Nat} {g : Nat → Int64} {i : Int32} (X : e_X x own cc d) (hd : decode cc pc = .ok (.laload, 1)) (hh : h[k]? = some (.inl (1, n, .inr (.inl g)))) (hin : vp_in i n) (kk : e_E x (pc + 1) ls (.long (g i.toNatClampNeg) :: st) h) : e_E x pc ls (.int i :: .ref k :: st) h := by
  obtain ⟨p, l, e, R, s, m, args, below, meth, c, dC, dI, dA, ad, A, N, nL, cells, slots, Q⟩ := x
  intro hL hN H locs la hP hS hl
  exact va_lald X.1 X.2.1 X.2.2.2.2.2.1 hP k 1 (e_wd_get hh) rfl hin hd (kk hL hN H locs la hP hS hl)
theorem ei_iastore {k n : Nat} {g : Nat → Int32} {i : Int32} {a : Int32} (X : e_X x own cc d) (hd : decode cc pc = .ok (.iastore, 1)) (hh : h[k]? = some (.inl (0, n, .inl g))) (hin : vp_in i n) {h2 : List eC} (h2e : h.set k (.inl (0, n, .inl (upd g i.toNatClampNeg a))) = h2) (kk : e_E x (pc + 1) ls st h2) : e_E x pc ls (.int a :: .int i :: .ref k :: st) h := by
  obtain ⟨p, l, e, R, s, m, args, below, meth, c, dC, dI, dA, ad, A, N, nL, cells, slots, Q⟩ := x
  intro hL hN H locs la hP hS hl
  subst h2e
  refine va_iast X.1 X.2.1 X.2.2.2.2.2.1 hP (e_D X.2.2.2.2.2.2.1 X.2.2.2.2.2.2.2.1 hN) hS k 0 (e_wd_get hh) rfl hin hd (fun H1 locs1 hP1 hD1 hS1 => ?_)
  refine kk hL (by rw [List.length_set]; exact hN) H1 locs1 la ?_ hS1 hl
  rw [e_wd_set]
  exact hP1
theorem ei_lastore {k n : Nat} {g : Nat → Int64} {i : Int32} {a : Int64} (X : e_X x own cc d) (hd : decode cc pc = .ok (.lastore, 1)) (hh : h[k]? = some (.inl (1, n, .inr (.inl g)))) (hin : vp_in i n) {h2 : List eC} (h2e : h.set k (.inl (1, n, .inr (.inl (vp_updL g i.toNatClampNeg a)))) = h2) (kk : e_E x (pc + 1) ls st h2) : e_E x pc ls (.long a :: .int i :: .ref k :: st) h := by
  obtain ⟨p, l, e, R, s, m, args, below, meth, c, dC, dI, dA, ad, A, N, nL, cells, slots, Q⟩ := x
  intro hL hN H locs la hP hS hl
  subst h2e
  refine va_last X.1 X.2.1 X.2.2.2.2.2.1 hP (e_D X.2.2.2.2.2.2.1 X.2.2.2.2.2.2.2.1 hN) hS k 1 (e_wd_get hh) rfl hin hd (fun H1 locs1 hP1 hD1 hS1 => ?_)
  refine kk hL (by rw [List.length_set]; exact hN) H1 locs1 la ?_ hS1 hl
  rw [e_wd_set]
  exact hP1
theorem ei_aaload {k n a : Nat} {g : Nat → Option Nat} {i : Int32} (X : e_X x own cc d) (hd : decode cc pc = .ok (.aaload, 1)) (hh : h[k]? = some (.inl (2, n, .inr (.inr (.inr (.inr g)))))) (hin : vp_in i n) (hg : g i.toNatClampNeg = some a) (kk : e_E x (pc + 1) ls (.ref a :: st) h) : e_E x pc ls (.int i :: .ref k :: st) h := by
  obtain ⟨p, l, e, R, s, m, args, below, meth, c, dC, dI, dA, ad, A, N, nL, cells, slots, Q⟩ := x
  intro hL hN H locs la hP hS hl
  refine va_aldq (C := RX4) X.1 X.2.1 X.2.2.2.2.2.1 hP k 2 (e_wd_get hh) rfl hin hd ?_
  rw [hg]
  exact kk hL hN H locs la hP hS hl
theorem ei_ldc {idx : Nat} {v : Int32} (X : e_X x own cc d) (hw : Cond.constant own idx v ∈ e_ws) (hd : decode cc pc = .ok (.ldc idx, 2)) (kk : e_E x (pc + 2) ls (.int v :: st) h) : e_E x pc ls st h := by
  obtain ⟨p, l, e, R, s, m, args, below, meth, c, dC, dI, dA, ad, A, N, nL, cells, slots, Q⟩ := x
  intro hL hN H locs la hP hS hl
  exact lv_ldc X.1 X.2.1 X.2.2.2.1 (X.2.2.2.2.1 _ hw) hd (kk hL hN H locs la hP hS hl)
theorem ei_ldc2 {idx : Nat} {v : Int64} (X : e_X x own cc d) (hw : Cond.constantLong own idx v ∈ e_ws) (hd : decode cc pc = .ok (.ldc2_w idx, 3)) (kk : e_E x (pc + 3) ls (.long v :: st) h) : e_E x pc ls st h := by
  obtain ⟨p, l, e, R, s, m, args, below, meth, c, dC, dI, dA, ad, A, N, nL, cells, slots, Q⟩ := x
  intro hL hN H locs la hP hS hl
  exact lv_ldc2 X.1 X.2.1 X.2.2.2.1 (X.2.2.2.2.1 _ hw) hd (kk hL hN H locs la hP hS hl)
theorem e_cats (ad : Nat → Nat) : ∀ (st : List Value), ((st.map (e_mv ad)).map fun v => v.category).sum = (st.map fun v => v.category).sum
  | [] => rfl
  | v :: st => by
    have h := e_cats ad st
    simp only [List.map_cons, List.sum_cons, e_mv_cat, h]
def e_MJ (own : String) (idx : Nat) (y : MethodName) (cc : ByteArray) (maxL : Nat) : Prop :=
  Cond.methodLink own idx y ∈ e_ws ∧ Cond.static y ∈ e_ws ∧ Cond.initialized "java/lang/Math" ∈ e_ws ∧ Cond.code y cc maxL (some .int) ∈ e_ws
theorem ei_mmax {idx : Nat} {a b : Int32} (X : e_X x own cc (d + 1)) (mj : e_MJ own idx Lib.Math.max.name Lib.Math.max.code 2) (hd : decode cc pc = .ok (.invokestatic idx, 3)) (hst : (st.map fun v => v.category).sum ≤ 8) (kk : e_E x (pc + 3) ls (.int (if a < b then b else a) :: st) h) : e_E x pc ls (.int b :: .int a :: st) h := by
  obtain ⟨p, l, e, R, s, m, args, below, meth, c, dC, dI, dA, ad, A, N, nL, cells, slots, Q⟩ := x
  intro hL hN H locs la hP hS hl
  obtain ⟨h1, h2, h3, h4⟩ := mj
  have hR1 := X.2.2.2.2.2.2.2.2.1
  have hR2 := X.2.2.2.2.2.2.2.2.2.1
  exact va_mmax X.1 X.2.1 (X.2.2.1.trans hl.1.symm) X.2.2.2.1 (X.2.2.2.2.1 _ h1) (X.2.2.2.2.1 _ h2) (X.2.2.2.2.1 _ h3) (X.2.2.2.2.1 _ h4) (by omega) (by rw [e_cats]; omega) X.2.2.2.2.2.2.2.2.2.2.1 X.2.2.2.2.2.2.2.2.2.2.2 hd (kk hL hN H locs la hP hS hl)
theorem ei_mmin {idx : Nat} {a b : Int32} (X : e_X x own cc (d + 1)) (mj : e_MJ own idx Lib.Math.min.name Lib.Math.min.code 2) (hd : decode cc pc = .ok (.invokestatic idx, 3)) (hst : (st.map fun v => v.category).sum ≤ 8) (kk : e_E x (pc + 3) ls (.int (if b < a then b else a) :: st) h) : e_E x pc ls (.int b :: .int a :: st) h := by
  obtain ⟨p, l, e, R, s, m, args, below, meth, c, dC, dI, dA, ad, A, N, nL, cells, slots, Q⟩ := x
  intro hL hN H locs la hP hS hl
  obtain ⟨h1, h2, h3, h4⟩ := mj
  have hR1 := X.2.2.2.2.2.2.2.2.1
  have hR2 := X.2.2.2.2.2.2.2.2.2.1
  exact va_mmin X.1 X.2.1 (X.2.2.1.trans hl.1.symm) X.2.2.2.1 (X.2.2.2.2.1 _ h1) (X.2.2.2.2.1 _ h2) (X.2.2.2.2.1 _ h3) (X.2.2.2.2.1 _ h4) (by omega) (by rw [e_cats]; omega) X.2.2.2.2.2.2.2.2.2.2.1 X.2.2.2.2.2.2.2.2.2.2.2 hd (kk hL hN H locs la hP hS hl)
theorem ei_mabs {idx : Nat} {a : Int32} (X : e_X x own cc (d + 1)) (mj : e_MJ own idx Lib.Math.abs.name Lib.Math.abs.code 1) (hd : decode cc pc = .ok (.invokestatic idx, 3)) (hst : (st.map fun v => v.category).sum ≤ 8) (kk : e_E x (pc + 3) ls (.int (if 0 ≤ a then a else 0 - a) :: st) h) : e_E x pc ls (.int a :: st) h := by
  obtain ⟨p, l, e, R, s, m, args, below, meth, c, dC, dI, dA, ad, A, N, nL, cells, slots, Q⟩ := x
  intro hL hN H locs la hP hS hl
  obtain ⟨h1, h2, h3, h4⟩ := mj
  have hR1 := X.2.2.2.2.2.2.2.2.1
  have hR2 := X.2.2.2.2.2.2.2.2.2.1
  exact va_mabs X.1 X.2.1 (X.2.2.1.trans hl.1.symm) X.2.2.2.1 (X.2.2.2.2.1 _ h1) (X.2.2.2.2.1 _ h2) (X.2.2.2.2.1 _ h3) (X.2.2.2.2.1 _ h4) (by omega) (by rw [e_cats]; omega) X.2.2.2.2.2.2.2.2.2.2.1 X.2.2.2.2.2.2.2.2.2.2.2 hd (kk hL hN H locs la hP hS hl)
theorem ei_copy {idx k0 k1 n0 n1 : Nat} {f g : Nat → Int32} {sp dp n : Int32} (X : e_X x own cc (d + 1)) (w1 : Cond.methodLink own idx arraycopyName ∈ e_ws) (w2 : Cond.native arraycopyName ∈ e_ws) (w3 : Cond.static arraycopyName ∈ e_ws) (w4 : Cond.initialized "java/lang/System" ∈ e_ws) (hd : decode cc pc = .ok (.invokestatic idx, 3)) (hst : (st.map fun v => v.category).sum ≤ 8)
    (hh0 : h[k0]? = some (.inl (0, n0, .inl f))) (hh1 : h[k1]? = some (.inl (0, n1, .inl g))) (h1 : ¬ sp < 0) (h2 : ¬ dp < 0) (h3 : ¬ n < 0) (h4 : sp.toNatClampNeg + n.toNatClampNeg ≤ n0) (h5 : dp.toNatClampNeg + n.toNatClampNeg ≤ n1)
    {h2' : List eC} (h2e : h.set k1 (.inl (0, n1, .inl (va_cpy f g sp.toNatClampNeg dp.toNatClampNeg n.toNatClampNeg))) = h2') (kk : e_E x (pc + 3) ls st h2') : e_E x pc ls (.int n :: .int dp :: .ref k1 :: .int sp :: .ref k0 :: st) h := by
  obtain ⟨p, l, e, R, s, m, args, below, meth, c, dC, dI, dA, ad, A, N, nL, cells, slots, Q⟩ := x
  intro hL hN H locs la hP hS hl
  subst h2e
  have hR1 := X.2.2.2.2.2.2.2.2.1
  have hR2 := X.2.2.2.2.2.2.2.2.2.1
  have hnf : nativeFrameWords "java/lang/System" "arraycopy" 5 + 11 ≤ 32 := by decide +kernel
  refine va_copyi X.1 X.2.1 (X.2.2.1.trans hl.1.symm) X.2.2.2.1 (X.2.2.2.2.1 _ w1) (X.2.2.2.2.1 _ w2) (X.2.2.2.2.1 _ w3) (X.2.2.2.2.1 _ w4) X.2.2.2.2.2.1 hP (e_D X.2.2.2.2.2.2.1 X.2.2.2.2.2.2.2.1 hN) hS k0 k1 0 0 (e_wd_get hh0) (e_wd_get hh1) rfl rfl rfl h1 h2 h3 h4 h5 (fun _ _ => rfl) (by omega) (by rw [e_cats]; omega) hd (fun H1 locs1 hP1 hD1 hS1 => ?_)
  refine kk hL (by rw [List.length_set]; exact hN) H1 locs1 la ?_ hS1 hl
  rw [e_wd_set]
  exact hP1
theorem ei_ireturn {v : Int32} {P : Option Value → List eC → Prop} (X : e_X x own cc d) (F : e_F x (some .int) P) (hd : decode cc pc = .ok (.ireturn, 1)) (hp : P (some (.int v)) h) : e_E x pc ls [.int v] h := by
  obtain ⟨p, l, e, R, s, m, args, below, meth, c, dC, dI, dA, ad, A, N, nL, cells, slots, Q⟩ := x
  intro hL hN H locs la hP hS hl
  obtain ⟨rfl, hr, hk⟩ := F
  exact W.iret X.1 X.2.1 hr (fun t ht hW => ⟨⟨_, h, hN, hp, rfl, by rw [ht]; exact hP⟩, hS.F ht⟩) hS.2.2 hd hk
theorem ei_zreturn {v : Int32} {P : Option Value → List eC → Prop} (X : e_X x own cc d) (F : e_F x (some .boolean) P) (hd : decode cc pc = .ok (.ireturn, 1)) (hz : narrow .boolean (.int v) = .int v) (hp : P (some (.int v)) h) : e_E x pc ls [.int v] h := by
  obtain ⟨p, l, e, R, s, m, args, below, meth, c, dC, dI, dA, ad, A, N, nL, cells, slots, Q⟩ := x
  intro hL hN H locs la hP hS hl
  obtain ⟨rfl, hr, hk⟩ := F
  exact W.zret X.1 X.2.1 hr hz (fun t ht hW => ⟨⟨_, h, hN, hp, rfl, by rw [ht]; exact hP⟩, hS.F ht⟩) hS.2.2 hd hk
theorem ei_lreturn {v : Int64} {P : Option Value → List eC → Prop} (X : e_X x own cc d) (F : e_F x (some .long) P) (hd : decode cc pc = .ok (.lreturn, 1)) (hp : P (some (.long v)) h) : e_E x pc ls [.long v] h := by
  obtain ⟨p, l, e, R, s, m, args, below, meth, c, dC, dI, dA, ad, A, N, nL, cells, slots, Q⟩ := x
  intro hL hN H locs la hP hS hl
  obtain ⟨rfl, hr, hk⟩ := F
  exact W.lret X.1 X.2.1 hr (fun t ht hW => ⟨⟨_, h, hN, hp, rfl, by rw [ht]; exact hP⟩, hS.F ht⟩) hS.2.2 hd hk
theorem ei_vreturn {P : Option Value → List eC → Prop} (X : e_X x own cc d) (F : e_F x none P) (hd : decode cc pc = .ok (.return_, 1)) (hp : P none h) : e_E x pc ls [] h := by
  obtain ⟨p, l, e, R, s, m, args, below, meth, c, dC, dI, dA, ad, A, N, nL, cells, slots, Q⟩ := x
  intro hL hN H locs la hP hS hl
  obtain ⟨rfl, hr, hk⟩ := F
  exact W.vret X.1 X.2.1 hr (fun t ht hW => ⟨⟨_, h, hN, hp, rfl, by rw [ht]; exact hP⟩, hS.F ht⟩) hS.2.2 hd hk
end EK
end
section
theorem e_mv_ref (ad : Nat → Nat) (k : Nat) : e_mv ad (.ref k) = .ref (ad k) := rfl
section EC
variable {p : Program} {l : Launch} {e : Env} {R : Room} {s : State} {m : MethodId} {args : Array Value} {below : List Frame} {meth : Method} {c : Code} {H : Heap} {locs : List Loc} {cells slots : Nat} {Q : State → Prop}
variable {dC : Nat → ClassId} {dI : Nat → Nat → Nat} {dA : Nat → ClassId} {ad2 : Nat → Nat} {A A2 : Nat → Prop} {n2 : Nat} {P2 : Option Value → List eC → Prop} {free : Addr → Prop}
theorem e_run {pc : Nat} {la : Array Slot} {rest st0 : List Value} {a : Array Value} (hr : va_Run p l e R s m args below meth c H locs cells slots 0 0 (F0 m pc la st0) rest (e_Q dC dI dA ad2 A2 n2 P2 a) free) {H0 : Heap} (hS : va_S A H0 H locs) (hA : ∀ q, A2 q → A q) (hf : ∀ q, free q → A q)
    (kk : ∀ (r : Option Value) (h2 : List eC) (H1 : Heap) (locs1 : List Loc), h2.length = n2 → P2 r h2 → va_P (dC, dI) vwCl (e_wd dA ad2 h2) H1 → H.size ≤ H1.size → (∀ q : Nat, q < H.size → ¬ A2 q → H1[q]? = H[q]?) → va_S A H0 H1 locs1 → W p l e R s m args below meth c H1 locs1 cells slots Q (F0 m (pc + 3) la ((r.map (e_mv ad2)).toList ++ rest))) : W p l e R s m args below meth c H locs cells slots Q (F0 m pc la st0) := by
  intro T hT X
  obtain ⟨v, st₀, t, T', L, h0, X', hL, e1, e2, ⟨⟨r, h2, hn, hp, hv, hb⟩, hz, hk⟩, st⟩ := hr T hT X
  cases hv
  rw [h0] at hz hk
  obtain ⟨t2, a1, b1⟩ := kk r h2 T'.heap (locs ++ L) hn hp (by rw [e1]; exact hb) (by rw [e1]; exact hz) (fun q h1 h2 => by rw [e1]; exact hk q h1 h2)
    ⟨Nat.le_trans hS.1 (by rw [e1]; exact hz), fun q h1 h2 => by rw [e1, hk q (Nat.lt_of_lt_of_le h1 hS.1) (fun z => h2 (hA q z))]; exact hS.2.1 q h1 h2, fun q hq => by
      rcases List.mem_append.mp hq with h | h
      · exact hS.2.2 q h
      · exact hf _ (hL q h)⟩ T' rfl X'
  exact ⟨t2, st t2 a1, b1⟩
theorem e_blind {ad : Nat → Nat} {As : List Value} {h : List eC} : FrameBlind (e_Pc dC dI dA ad As h) := fun a U g mk q => by
  obtain ⟨q1, q2, q3, q4⟩ := q
  exact ⟨q1, q2, va_K.moved (u := U) (U := U.calling g mk a) (Vm.Alike.refl U.vm) q3, q4⟩
theorem e_goodIn {y : MethodName} {cc : ByteArray} {maxL : Nat} {ret : Option FieldType} (h : Cond.code y cc maxL ret ∈ e_ws) : GoodIn e_ws (Cond.code y cc maxL ret :: e_ws) := by
  intro w hw
  rcases List.mem_cons.mp hw with rfl | hw
  · exact ⟨h, e_good h⟩
  · exact ⟨hw, e_good hw⟩
theorem e_goodV {own : String} {idx ci : Nat} {y : MethodName} {cc : ByteArray} {maxL n : Nat} {ret : Option FieldType} (ml : e_MV own idx ci y cc maxL ret n) : GoodIn e_ws (wsV own idx y.cls y (Cond.code y cc maxL ret :: e_ws)) := by
  obtain ⟨h1, h2, h3, h4, h5, -⟩ := ml
  intro w hw
  unfold wsV at hw
  rcases List.mem_append.mp hw with hw | hw
  · simp only [List.mem_cons, List.not_mem_nil, or_false] at hw
    rcases hw with rfl | rfl | rfl | rfl
    · exact ⟨h1, e_good h1⟩
    · exact ⟨h2, e_good h2⟩
    · exact ⟨h3, e_good h3⟩
    · exact ⟨h4, e_good h4⟩
  · exact e_goodIn h5 w hw
end EC
/-- which cell of the caller a callee's is -/
def e_rf (rho : List Nat) (k : Nat) : Nat := rho.getD k 0
def e_put (h : List eC) : List Nat → List eC → List eC
  | k :: ks, c :: cs => e_put (h.set k c) ks cs
  | _, _ => h
theorem e_put_len : ∀ (ks : List Nat) (cs : List eC) (h : List eC), (e_put h ks cs).length = h.length
  | [], _, h => by simp [e_put]
  | k :: ks, [], h => by simp [e_put]
  | k :: ks, c :: cs, h => by rw [show e_put h (k :: ks) (c :: cs) = e_put (h.set k c) ks cs from rfl, e_put_len ks cs, List.length_set]
theorem e_put_off : ∀ (ks : List Nat) (cs : List eC) (h : List eC) (j : Nat), j ∉ ks → (e_put h ks cs)[j]? = h[j]?
  | [], _, h, j, _ => by simp [e_put]
  | k :: ks, [], h, j, _ => by simp [e_put]
  | k :: ks, c :: cs, h, j, hj => by
    rw [show e_put h (k :: ks) (c :: cs) = e_put (h.set k c) ks cs from rfl, e_put_off ks cs _ j (fun q => hj (List.mem_cons_of_mem _ q)), List.getElem?_set_ne (fun q => hj (by rw [q]; exact List.mem_cons_self))]
theorem e_put_on : ∀ (ks : List Nat) (cs : List eC) (h : List eC), ks.Nodup → (∀ k ∈ ks, k < h.length) → ∀ (i k : Nat) (c : eC), ks[i]? = some k → cs[i]? = some c → (e_put h ks cs)[k]? = some c
  | [], _, h, _, _, i, k, c, hi, _ => by simp at hi
  | k0 :: ks, [], h, _, _, i, k, c, _, hc => by simp at hc
  | k0 :: ks, c0 :: cs, h, hn, hl, i, k, c, hi, hc => by
    rw [show e_put h (k0 :: ks) (c0 :: cs) = e_put (h.set k0 c0) ks cs from rfl]
    cases i with
    | zero =>
      simp only [List.getElem?_cons_zero, Option.some.injEq] at hi hc
      subst hi; subst hc
      rw [e_put_off ks cs _ k0 (List.nodup_cons.mp hn).1, List.getElem?_set_self (hl k0 List.mem_cons_self)]
    | succ i => exact e_put_on ks cs _ (List.nodup_cons.mp hn).2 (fun k hk => by rw [List.length_set]; exact hl k (List.mem_cons_of_mem _ hk)) i k c (by simpa using hi) (by simpa using hc)
section ECALL
variable {x : e_T} {own : String} {cc : ByteArray} {d pc : Nat} {ls : List (Option Value)} {st st0 : List Value} {h : List eC}
variable {y : MethodName} {c2 : ByteArray} {L2 idx ci n : Nat} {ret : Option FieldType} {d2 : Nat} {As : List Value} {h1 : List eC} {P2 : Option Value → List eC → Prop}
theorem e_wd_P {D : va_G} {dA : Nat → ClassId} {ad : Nat → Nat} {H : Heap} : va_P D vwCl (e_wd dA ad h) H ↔ ∀ (k : Nat) (c : eC), h[k]? = some c → va_at D vwCl (ad k, e_rl dA ad c) H := by
  constructor
  · intro hP k c hk
    exact hP k _ (e_wd_get hk)
  · intro hP k q hq
    rw [e_wd_at] at hq
    cases hc : h[k]? with
    | none => rw [hc] at hq; cases hq
    | some c => rw [hc] at hq; cases hq; exact hP k c hc
/-- a call of an instance method, over some of the cells: rho says which -/
theorem ei_callV (X : e_X x own cc d) (ml : e_MV own idx ci y c2 L2 ret n) (hd : decode cc pc = .ok (.invokevirtual idx, 3)) {b : Nat} (ct : e_Ct y c2 L2 ret d2 (.ref b :: As) h1 P2) (rho : List Nat)
    (hst : st0 = List.reverseAux ((Value.ref b :: As).map (e_mv (e_rf rho))) st) (hn : As.length = n) (hd2 : d2 < d) (hL2 : L2 ≤ 21) {fs : List Value} (hrc : h[e_rf rho b]? = some (.inr (ci, fs)))
    (hcat : (st.map fun v => v.category).sum ≤ 8) (hnd : rho.Nodup) (hrl : rho.map (fun k => h[k]?) = h1.map (fun c => some (e_rn (e_rf rho) c)))
    (kk : ∀ (r : Option Value) (h2 : List eC), h2.length = h1.length → P2 r h2 → e_E x (pc + 3) ls ((r.map (e_mv (e_rf rho))).toList ++ st) (e_put h rho (h2.map (e_rn (e_rf rho))))) : e_E x pc ls st0 h := by
  obtain ⟨p, l, e, R, s, m, args, below, meth, c, dC, dI, dA, ad, A, N, nL, cells, slots, Q⟩ := x
  intro hL hN H locs la hP hS hl
  have hlen : rho.length = h1.length := by have := congrArg List.length hrl; simpa using this
  have hrk : ∀ (i : Nat) (c : eC), h1[i]? = some c → ∃ k, rho[i]? = some k ∧ h[k]? = some (e_rn (e_rf rho) c) ∧ e_rf rho i = k := by
    intro i c hi
    have h3 : (rho.map (fun k => h[k]?))[i]? = some (some (e_rn (e_rf rho) c)) := by rw [hrl, List.getElem?_map, hi]; rfl
    rw [List.getElem?_map] at h3
    cases hk : rho[i]? with
    | none => rw [hk] at h3; cases h3
    | some k => rw [hk] at h3; exact ⟨k, rfl, Option.some.inj h3, by simp [e_rf, hk]⟩
  have hlt : ∀ i, i < h1.length → e_rf rho i < N := by
    intro i hi
    obtain ⟨k, h3, h4, h5⟩ := hrk i _ (List.getElem?_eq_getElem hi)
    rw [h5, ← hN]
    exact (List.getElem?_eq_some_iff.mp h4).1
  have hmem : ∀ k ∈ rho, k < h.length := by
    intro k hk
    obtain ⟨i, hi⟩ := List.getElem?_of_mem hk
    have hi2 : i < h1.length := by rw [← hlen]; exact (List.getElem?_eq_some_iff.mp hi).1
    obtain ⟨k', h3, h4, -⟩ := hrk i _ (List.getElem?_eq_getElem hi2)
    rw [hi] at h3
    cases h3
    exact (List.getElem?_eq_some_iff.mp h4).1
  have hinj : ∀ i j, i < h1.length → j < h1.length → e_rf rho i = e_rf rho j → i = j := by
    intro i j hi hj hij
    obtain ⟨k, h3, -, h5⟩ := hrk i _ (List.getElem?_eq_getElem hi)
    obtain ⟨k', h3', -, h5'⟩ := hrk j _ (List.getElem?_eq_getElem hj)
    have hkk : k = k' := by rw [← h5, ← h5', hij]
    subst hkk
    exact (List.getElem?_inj (by rw [hlen]; exact hi) hnd).mp (h3.trans h3'.symm)
  have hP1 : va_P (dC, dI) vwCl (e_wd dA (fun k => ad (e_rf rho k)) h1) H := by
    rw [e_wd_P]
    intro i c hi
    obtain ⟨k, h3, h4, h5⟩ := hrk i c hi
    have h6 := e_wd_P.mp hP k _ h4
    rw [e_rl_rn] at h6
    show va_at (dC, dI) vwCl (ad (e_rf rho i), e_rl dA (fun k => ad (e_rf rho k)) c) H
    rw [h5]
    exact h6
  have hinj2 : ∀ i j, i < h1.length → j < h1.length → ad (e_rf rho i) = ad (e_rf rho j) → i = j := fun i j hi hj hij => hinj i j hi hj (X.2.2.2.2.2.2.1 _ _ (hlt i hi) (hlt j hj) hij)
  have hA2 : ∀ q, e_A (fun k => ad (e_rf rho k)) h1.length q → A q := by
    rintro q ⟨k, hk, rfl⟩
    exact X.2.2.2.2.2.2.2.1 _ (hlt k hk)
  have hR1 := X.2.2.2.2.2.2.2.2.1
  have hR2 := X.2.2.2.2.2.2.2.2.2.1
  have hK := X.2.2.2.2.2.1
  have hst' : st0.map (e_mv ad) = (As.map (e_mv (fun k => ad (e_rf rho k)))).reverse ++ .ref (ad (e_rf rho b)) :: st.map (e_mv ad) := by
    rw [hst, List.reverseAux_eq]
    simp [e_mv_ref, e_mv_comp, Function.comp_def]
  obtain ⟨T0, N0, hci⟩ := ml.2.2.2.2.2.2
  have hmeth := ct l dC dI dA (fun k => ad (e_rf rho k))
  have hsum := e_cats ad st
  rw [hst']
  refine e_run (va_runV (As := As.map (e_mv (fun k => ad (e_rf rho k)))) (b := ad (e_rf rho b)) (rest := st.map (e_mv ad)) (Ts := e_ws) (own := own) (cc := cc) (nL := nL) (index := idx) (n := n) (C := y.cls) (bytes := c2) (maxL := L2) (ret := ret) ⟨X.1, X.2.1, X.2.2.1, X.2.2.2.1, X.2.2.2.2.1⟩ hmeth (cwV n X.2.2.2.2.1 (e_goodV ml) rfl rfl rfl ⟨rfl, ml.2.2.2.2.2.1⟩ ⟨by show d2 + 1 ≤ _; omega, by show 8 + (L2 + 11) + 40 * d2 ≤ _; omega⟩)
    ⟨e_blind, va_recv hK hP (ci := ci) (q0 := e_rf rho b) hci (e_wd_get hrc), fun U hU hW => ⟨by simp [e_mv], by rw [hU]; exact hP1, va_K.moved hW.alike hK, hinj2⟩⟩ rfl (by simpa using hn) hl.1 rfl (lv_room (by rw [hsum]; exact hcat)) hd ⟨X.2.2.2.2.2.2.2.2.2.2.1, X.2.2.2.2.2.2.2.2.2.2.2⟩) hS hA2 hA2 (fun r h2 H1 locs1 hn2 hp2 hPc hz hkeep hS1 => ?_)
  have hfin := kk r h2 hn2 hp2 hL (by rw [e_put_len]; exact hN) H1 locs1 la ?_ hS1 hl
  · cases r with
    | none => simpa using hfin
    | some v => simpa [e_mv_comp] using hfin
  · rw [e_wd_P]
    intro k c hk
    by_cases hkr : k ∈ rho
    · obtain ⟨i, hi⟩ := List.getElem?_of_mem hkr
      have hi2 : i < h2.length := by rw [hn2, ← hlen]; exact (List.getElem?_eq_some_iff.mp hi).1
      have h5 := e_put_on rho (h2.map (e_rn (e_rf rho))) h hnd hmem i k _ hi (by rw [List.getElem?_map, List.getElem?_eq_getElem hi2]; rfl)
      rw [h5] at hk
      cases hk
      rw [e_rl_rn]
      have h6 := e_wd_P.mp hPc i _ (List.getElem?_eq_getElem hi2)
      have h7 : e_rf rho i = k := by simp [e_rf, hi]
      rw [← h7]
      exact h6
    · rw [e_put_off _ _ _ _ hkr] at hk
      have h6 := e_wd_P.mp hP k c hk
      have hkN : k < N := by rw [← hN]; exact (List.getElem?_eq_some_iff.mp hk).1
      refine va_at.kept h6 (hkeep _ (va_at.lt h6) ?_)
      rintro ⟨j, hj, hj2⟩
      have h8 := X.2.2.2.2.2.2.1 _ _ hkN (hlt j hj) hj2
      obtain ⟨k', h3, -, h5⟩ := hrk j _ (List.getElem?_eq_getElem hj)
      exact hkr (by rw [h8, h5]; exact List.mem_of_getElem? h3)
/-- a call of a static method -/
theorem ei_callS (X : e_X x own cc d) (ml : e_MS own idx y c2 L2 ret n) (hd : decode cc pc = .ok (.invokestatic idx, 3)) (ct : e_Ct y c2 L2 ret d2 As h1 P2) (rho : List Nat)
    (hst : st0 = List.reverseAux (As.map (e_mv (e_rf rho))) st) (hn : As.length = n) (hd2 : d2 < d) (hL2 : L2 ≤ 21)
    (hcat : (st.map fun v => v.category).sum ≤ 8) (hnd : rho.Nodup) (hrl : rho.map (fun k => h[k]?) = h1.map (fun c => some (e_rn (e_rf rho) c)))
    (kk : ∀ (r : Option Value) (h2 : List eC), h2.length = h1.length → P2 r h2 → e_E x (pc + 3) ls ((r.map (e_mv (e_rf rho))).toList ++ st) (e_put h rho (h2.map (e_rn (e_rf rho))))) : e_E x pc ls st0 h := by
  obtain ⟨p, l, e, R, s, m, args, below, meth, c, dC, dI, dA, ad, A, N, nL, cells, slots, Q⟩ := x
  intro hL hN H locs la hP hS hl
  have hlen : rho.length = h1.length := by have := congrArg List.length hrl; simpa using this
  have hrk : ∀ (i : Nat) (c : eC), h1[i]? = some c → ∃ k, rho[i]? = some k ∧ h[k]? = some (e_rn (e_rf rho) c) ∧ e_rf rho i = k := by
    intro i c hi
    have h3 : (rho.map (fun k => h[k]?))[i]? = some (some (e_rn (e_rf rho) c)) := by rw [hrl, List.getElem?_map, hi]; rfl
    rw [List.getElem?_map] at h3
    cases hk : rho[i]? with
    | none => rw [hk] at h3; cases h3
    | some k => rw [hk] at h3; exact ⟨k, rfl, Option.some.inj h3, by simp [e_rf, hk]⟩
  have hlt : ∀ i, i < h1.length → e_rf rho i < N := by
    intro i hi
    obtain ⟨k, h3, h4, h5⟩ := hrk i _ (List.getElem?_eq_getElem hi)
    rw [h5, ← hN]
    exact (List.getElem?_eq_some_iff.mp h4).1
  have hmem : ∀ k ∈ rho, k < h.length := by
    intro k hk
    obtain ⟨i, hi⟩ := List.getElem?_of_mem hk
    have hi2 : i < h1.length := by rw [← hlen]; exact (List.getElem?_eq_some_iff.mp hi).1
    obtain ⟨k', h3, h4, -⟩ := hrk i _ (List.getElem?_eq_getElem hi2)
    rw [hi] at h3
    cases h3
    exact (List.getElem?_eq_some_iff.mp h4).1
  have hinj : ∀ i j, i < h1.length → j < h1.length → e_rf rho i = e_rf rho j → i = j := by
    intro i j hi hj hij
    obtain ⟨k, h3, -, h5⟩ := hrk i _ (List.getElem?_eq_getElem hi)
    obtain ⟨k', h3', -, h5'⟩ := hrk j _ (List.getElem?_eq_getElem hj)
    have hkk : k = k' := by rw [← h5, ← h5', hij]
    subst hkk
    exact (List.getElem?_inj (by rw [hlen]; exact hi) hnd).mp (h3.trans h3'.symm)
  have hP1 : va_P (dC, dI) vwCl (e_wd dA (fun k => ad (e_rf rho k)) h1) H := by
    rw [e_wd_P]
    intro i c hi
    obtain ⟨k, h3, h4, h5⟩ := hrk i c hi
    have h6 := e_wd_P.mp hP k _ h4
    rw [e_rl_rn] at h6
    show va_at (dC, dI) vwCl (ad (e_rf rho i), e_rl dA (fun k => ad (e_rf rho k)) c) H
    rw [h5]
    exact h6
  have hinj2 : ∀ i j, i < h1.length → j < h1.length → ad (e_rf rho i) = ad (e_rf rho j) → i = j := fun i j hi hj hij => hinj i j hi hj (X.2.2.2.2.2.2.1 _ _ (hlt i hi) (hlt j hj) hij)
  have hA2 : ∀ q, e_A (fun k => ad (e_rf rho k)) h1.length q → A q := by
    rintro q ⟨k, hk, rfl⟩
    exact X.2.2.2.2.2.2.2.1 _ (hlt k hk)
  have hR1 := X.2.2.2.2.2.2.2.2.1
  have hR2 := X.2.2.2.2.2.2.2.2.2.1
  have hK := X.2.2.2.2.2.1
  have hst' : st0.map (e_mv ad) = (As.map (e_mv (fun k => ad (e_rf rho k)))).reverse ++ st.map (e_mv ad) := by
    rw [hst, List.reverseAux_eq]
    simp [e_mv_comp, Function.comp_def]
  have hmeth := ct l dC dI dA (fun k => ad (e_rf rho k))
  have hsum := e_cats ad st
  have hcb : CallB R s args own idx y c2 L2 ret (Cond.code y c2 L2 ret :: e_ws) { frames := d2, cells := 0, slots := 0, locals := 40 * d2 } 0 0 n := callB_of n X.2.2.2.2.1 (e_goodIn ml.2.2.2.1) rfl rfl rfl (X.2.2.2.2.1 _ ml.2.2.1) (X.2.2.2.2.1 _ ml.1) ml.2.2.2.2 ⟨by show d2 + 1 ≤ _; omega, by show 8 + (L2 + 11) + 40 * d2 ≤ _; omega⟩
  rw [hst']
  refine e_run (va_runS (As := As.map (e_mv (fun k => ad (e_rf rho k)))) (rest := st.map (e_mv ad)) (Ts := e_ws) (own := own) (cc := cc) (nL := nL) (index := idx) (n := n) (bytes := c2) (maxL := L2) (ret := ret) ⟨X.1, X.2.1, X.2.2.1, X.2.2.2.1, X.2.2.2.2.1⟩ hmeth ⟨hcb, X.2.2.2.2.1 _ ml.2.1⟩
    ⟨e_blind, fun U hU hW => ⟨rfl, by rw [hU]; exact hP1, va_K.moved hW.alike hK, hinj2⟩⟩ rfl (by simpa using hn) hl.1 rfl (lv_room (by rw [hsum]; exact hcat)) hd ⟨X.2.2.2.2.2.2.2.2.2.2.1, X.2.2.2.2.2.2.2.2.2.2.2⟩) hS hA2 hA2 (fun r h2 H1 locs1 hn2 hp2 hPc hz hkeep hS1 => ?_)
  have hfin := kk r h2 hn2 hp2 hL (by rw [e_put_len]; exact hN) H1 locs1 la ?_ hS1 hl
  · cases r with
    | none => simpa using hfin
    | some v => simpa [e_mv_comp] using hfin
  · rw [e_wd_P]
    intro k c hk
    by_cases hkr : k ∈ rho
    · obtain ⟨i, hi⟩ := List.getElem?_of_mem hkr
      have hi2 : i < h2.length := by rw [hn2, ← hlen]; exact (List.getElem?_eq_some_iff.mp hi).1
      have h5 := e_put_on rho (h2.map (e_rn (e_rf rho))) h hnd hmem i k _ hi (by rw [List.getElem?_map, List.getElem?_eq_getElem hi2]; rfl)
      rw [h5] at hk
      cases hk
      rw [e_rl_rn]
      have h6 := e_wd_P.mp hPc i _ (List.getElem?_eq_getElem hi2)
      have h7 : e_rf rho i = k := by simp [e_rf, hi]
      rw [← h7]
      exact h6
    · rw [e_put_off _ _ _ _ hkr] at hk
      have h6 := e_wd_P.mp hP k c hk
      have hkN : k < N := by rw [← hN]; exact (List.getElem?_eq_some_iff.mp hk).1
      refine va_at.kept h6 (hkeep _ (va_at.lt h6) ?_)
      rintro ⟨j, hj, hj2⟩
      have h8 := X.2.2.2.2.2.2.1 _ _ hkN (hlt j hj) hj2
      obtain ⟨k', h3, -, h5⟩ := hrk j _ (List.getElem?_eq_getElem hj)
      exact hkr (by rw [h8, h5]; exact List.mem_of_getElem? h3)
/-- a call over all cells, as they are numbered here -/
theorem ei_callI (X : e_X x own cc d) (ml : e_MV own idx ci y c2 L2 ret n) (hd : decode cc pc = .ok (.invokevirtual idx, 3)) {b : Nat} (ct : e_Ct y c2 L2 ret d2 (.ref b :: As) h P2)
    (hst : st0 = List.reverseAux (Value.ref b :: As) st) (hn : As.length = n) (hd2 : d2 < d) (hL2 : L2 ≤ 21) {fs : List Value} (hrc : h[b]? = some (.inr (ci, fs)))
    (hcat : (st.map fun v => v.category).sum ≤ 8)
    (kk : ∀ (r : Option Value) (h2 : List eC), P2 r h2 → e_E x (pc + 3) ls (r.toList ++ st) h2) : e_E x pc ls st0 h := by
  obtain ⟨p, l, e, R, s, m, args, below, meth, c, dC, dI, dA, ad, A, N, nL, cells, slots, Q⟩ := x
  intro hL hN H locs la hP hS hl
  subst hN
  have hA2 : ∀ q, e_A ad h.length q → A q := by
    rintro q ⟨k, hk, rfl⟩
    exact X.2.2.2.2.2.2.2.1 _ hk
  have hR1 := X.2.2.2.2.2.2.2.2.1
  have hR2 := X.2.2.2.2.2.2.2.2.2.1
  have hK := X.2.2.2.2.2.1
  have hst' : st0.map (e_mv ad) = (As.map (e_mv ad)).reverse ++ .ref (ad b) :: st.map (e_mv ad) := by
    rw [hst, List.reverseAux_eq]
    simp [e_mv]
  obtain ⟨T0, N0, hci⟩ := ml.2.2.2.2.2.2
  have hmeth := ct l dC dI dA ad
  have hsum := e_cats ad st
  rw [hst']
  refine e_run (va_runV (As := As.map (e_mv ad)) (b := ad b) (rest := st.map (e_mv ad)) (Ts := e_ws) (own := own) (cc := cc) (nL := nL) (index := idx) (n := n) (C := y.cls) (bytes := c2) (maxL := L2) (ret := ret) ⟨X.1, X.2.1, X.2.2.1, X.2.2.2.1, X.2.2.2.2.1⟩ hmeth (cwV n X.2.2.2.2.1 (e_goodV ml) rfl rfl rfl ⟨rfl, ml.2.2.2.2.2.1⟩ ⟨by show d2 + 1 ≤ _; omega, by show 8 + (L2 + 11) + 40 * d2 ≤ _; omega⟩)
    ⟨e_blind, va_recv hK hP (ci := ci) (q0 := b) hci (e_wd_get hrc), fun U hU hW => ⟨by simp [e_mv], by rw [hU]; exact hP, va_K.moved hW.alike hK, X.2.2.2.2.2.2.1⟩⟩ rfl (by simpa using hn) hl.1 rfl (lv_room (by rw [hsum]; exact hcat)) hd ⟨X.2.2.2.2.2.2.2.2.2.2.1, X.2.2.2.2.2.2.2.2.2.2.2⟩) hS hA2 hA2 (fun r h2 H1 locs1 hn2 hp2 hPc hz hkeep hS1 => ?_)
  have hfin := kk r h2 hp2 hL hn2 H1 locs1 la hPc hS1 hl
  cases r with
  | none => simpa using hfin
  | some v => simpa using hfin
theorem ei_callT (X : e_X x own cc d) (ml : e_MS own idx y c2 L2 ret n) (hd : decode cc pc = .ok (.invokestatic idx, 3)) (ct : e_Ct y c2 L2 ret d2 As h P2)
    (hst : st0 = List.reverseAux As st) (hn : As.length = n) (hd2 : d2 < d) (hL2 : L2 ≤ 21)
    (hcat : (st.map fun v => v.category).sum ≤ 8)
    (kk : ∀ (r : Option Value) (h2 : List eC), P2 r h2 → e_E x (pc + 3) ls (r.toList ++ st) h2) : e_E x pc ls st0 h := by
  obtain ⟨p, l, e, R, s, m, args, below, meth, c, dC, dI, dA, ad, A, N, nL, cells, slots, Q⟩ := x
  intro hL hN H locs la hP hS hl
  subst hN
  have hA2 : ∀ q, e_A ad h.length q → A q := by
    rintro q ⟨k, hk, rfl⟩
    exact X.2.2.2.2.2.2.2.1 _ hk
  have hR1 := X.2.2.2.2.2.2.2.2.1
  have hR2 := X.2.2.2.2.2.2.2.2.2.1
  have hK := X.2.2.2.2.2.1
  have hst' : st0.map (e_mv ad) = (As.map (e_mv ad)).reverse ++ st.map (e_mv ad) := by
    rw [hst, List.reverseAux_eq]
    simp
  have hmeth := ct l dC dI dA ad
  have hsum := e_cats ad st
  have hcb : CallB R s args own idx y c2 L2 ret (Cond.code y c2 L2 ret :: e_ws) { frames := d2, cells := 0, slots := 0, locals := 40 * d2 } 0 0 n := callB_of n X.2.2.2.2.1 (e_goodIn ml.2.2.2.1) rfl rfl rfl (X.2.2.2.2.1 _ ml.2.2.1) (X.2.2.2.2.1 _ ml.1) ml.2.2.2.2 ⟨by show d2 + 1 ≤ _; omega, by show 8 + (L2 + 11) + 40 * d2 ≤ _; omega⟩
  rw [hst']
  refine e_run (va_runS (As := As.map (e_mv ad)) (rest := st.map (e_mv ad)) (Ts := e_ws) (own := own) (cc := cc) (nL := nL) (index := idx) (n := n) (bytes := c2) (maxL := L2) (ret := ret) ⟨X.1, X.2.1, X.2.2.1, X.2.2.2.1, X.2.2.2.2.1⟩ hmeth ⟨hcb, X.2.2.2.2.1 _ ml.2.1⟩
    ⟨e_blind, fun U hU hW => ⟨rfl, by rw [hU]; exact hP, va_K.moved hW.alike hK, X.2.2.2.2.2.2.1⟩⟩ rfl (by simpa using hn) hl.1 rfl (lv_room (by rw [hsum]; exact hcat)) hd ⟨X.2.2.2.2.2.2.2.2.2.2.1, X.2.2.2.2.2.2.2.2.2.2.2⟩) hS hA2 hA2 (fun r h2 H1 locs1 hn2 hp2 hPc hz hkeep hS1 => ?_)
  have hfin := kk r h2 hp2 hL hn2 H1 locs1 la hPc hS1 hl
  cases r with
  | none => simpa using hfin
  | some v => simpa using hfin
end ECALL
/-- a method's contract out of the walk of its body -/
theorem e_open {y : MethodName} {cc : ByteArray} {maxL : Nat} {ret : Option FieldType} {d : Nat} {As : List Value} {h : List eC} {P : Option Value → List eC → Prop} (own : String) (hown : y.cls = own) (hy : plainName y.cls = true) (hlen : (e_ent As maxL).length = maxL) (hfit : ∀ ad : Nat → Nat, (lg_sl (As.map (e_mv ad))).length ≤ maxL)
    (body : ∀ x : e_T, e_X x own cc d → e_F x ret P → e_E x 0 (e_ent As maxL) [] h) : e_Ct y cc maxL ret d As h P := by
  intro l dC dI dA ad
  refine Met.ofW (cc := cc) (maxL := maxL) (ret := ret) hy rfl ?_
  intro p e s m args below meth c s₁ B hml hv
  obtain ⟨rfl, hP, hK, hinj⟩ := hv
  have hts := atoms_spec (ws := Cond.code y cc maxL ret :: e_ws) B.pre
  have hnm := findClass_of_methodNamed B.named
  rw [hown] at hnm
  have hk := body (p, l, e, { frames := d, cells := 0, slots := 0, locals := 40 * d }, s, m, (As.map (e_mv ad)).toArray, below, meth, c, dC, dI, dA, ad, e_A ad h.length, h.length, maxL, 0, 0, MQ below (e_Q dC dI dA ad (e_A ad h.length) h.length P) (As.map (e_mv ad)).toArray s 0 0 (e_A ad h.length))
    ⟨B.exec, B.bytes, hml, hnm, fun w hw => hts w (List.mem_cons_of_mem _ hw), hK, hinj, fun k hk => ⟨k, hk, rfl⟩, Nat.le_refl _, Nat.le_refl _, Nat.le_refl _, Nat.le_refl _⟩ ⟨rfl, B.returns, B.notSynchronized⟩
  have hl := lv_entry (As.map (e_mv ad)) (n := maxL) (hfit ad)
  rw [lg_entry_eq]
  exact hk hlen rfl s.heap [] _ hP va_S.rf (e_has_mono hl fun q hq => e_ent_mem As maxL 0 q hq)
end
