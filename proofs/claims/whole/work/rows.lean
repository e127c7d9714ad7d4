section
-- ===== PART A: goes FIRST, ahead of the names: the tables' words, and 'selects' of the private methods out of them =====
/-- a private method of a class that the tables say can be made, by its rows of tables_1 -/
def lw_okq (q : MethodName × Nat) : Prop := (q.1.cls ≠ "java/lang/invoke/MethodHandle" ∧ q.1.cls ≠ "java/lang/invoke/VarHandle") ∧ Cond.instantiable q.1.cls q.2 ∈ tables_1 ∧ Cond.privateMethod q.1 ∈ tables_1 ∧ Cond.instanceMethod q.1 ∈ tables_1
theorem lw_p0 : lw_okq (⟨"LadderClimb$Reader", "takesLadder", "(I)Z"⟩, 6) := ⟨⟨by decide +kernel, by decide +kernel⟩, List.mem_of_getElem? (i := 118) (by decide +kernel), List.mem_of_getElem? (i := 204) (by decide +kernel), List.mem_of_getElem? (i := 205) (by decide +kernel)⟩
theorem lw_p1 : lw_okq (⟨"LadderClimb$Reader", "takesWork", "(I)Z"⟩, 6) := ⟨⟨by decide +kernel, by decide +kernel⟩, List.mem_of_getElem? (i := 118) (by decide +kernel), List.mem_of_getElem? (i := 208) (by decide +kernel), List.mem_of_getElem? (i := 209) (by decide +kernel)⟩
theorem lw_p2 : lw_okq (⟨"LadderClimb$Reader", "startNumber", "(III)Z"⟩, 6) := ⟨⟨by decide +kernel, by decide +kernel⟩, List.mem_of_getElem? (i := 118) (by decide +kernel), List.mem_of_getElem? (i := 212) (by decide +kernel), List.mem_of_getElem? (i := 213) (by decide +kernel)⟩
theorem lw_p3 : lw_okq (⟨"LadderClimb$Reader", "takesDigit", "(I)Z"⟩, 6) := ⟨⟨by decide +kernel, by decide +kernel⟩, List.mem_of_getElem? (i := 118) (by decide +kernel), List.mem_of_getElem? (i := 216) (by decide +kernel), List.mem_of_getElem? (i := 217) (by decide +kernel)⟩
theorem lw_p4 : lw_okq (⟨"LadderClimb$Reader", "canBecomeNumber", "(I)Z"⟩, 6) := ⟨⟨by decide +kernel, by decide +kernel⟩, List.mem_of_getElem? (i := 118) (by decide +kernel), List.mem_of_getElem? (i := 220) (by decide +kernel), List.mem_of_getElem? (i := 221) (by decide +kernel)⟩
theorem lw_p5 : lw_okq (⟨"LadderClimb$Reader", "takesSemicolon", "()Z"⟩, 6) := ⟨⟨by decide +kernel, by decide +kernel⟩, List.mem_of_getElem? (i := 118) (by decide +kernel), List.mem_of_getElem? (i := 224) (by decide +kernel), List.mem_of_getElem? (i := 225) (by decide +kernel)⟩
theorem lw_p6 : lw_okq (⟨"LadderClimb$Rig", "leastByWall", "()I"⟩, 10) := ⟨⟨by decide +kernel, by decide +kernel⟩, List.mem_of_getElem? (i := 31) (by decide +kernel), List.mem_of_getElem? (i := 262) (by decide +kernel), List.mem_of_getElem? (i := 263) (by decide +kernel)⟩
theorem lw_p7 : lw_okq (⟨"LadderClimb$Rig", "wallPercents", "()I"⟩, 10) := ⟨⟨by decide +kernel, by decide +kernel⟩, List.mem_of_getElem? (i := 31) (by decide +kernel), List.mem_of_getElem? (i := 266) (by decide +kernel), List.mem_of_getElem? (i := 267) (by decide +kernel)⟩
theorem lw_p8 : lw_okq (⟨"LadderClimb$Rig", "leastByGround", "()I"⟩, 10) := ⟨⟨by decide +kernel, by decide +kernel⟩, List.mem_of_getElem? (i := 31) (by decide +kernel), List.mem_of_getElem? (i := 279) (by decide +kernel), List.mem_of_getElem? (i := 280) (by decide +kernel)⟩
theorem lw_p9 : lw_okq (⟨"LadderClimb$Rig", "groundPercents", "()I"⟩, 10) := ⟨⟨by decide +kernel, by decide +kernel⟩, List.mem_of_getElem? (i := 31) (by decide +kernel), List.mem_of_getElem? (i := 283) (by decide +kernel), List.mem_of_getElem? (i := 284) (by decide +kernel)⟩
theorem lw_p10 : lw_okq (⟨"java/lang/Throwable", "fillInStackTrace", "(I)Ljava/lang/Throwable;"⟩, 6) := ⟨⟨by decide +kernel, by decide +kernel⟩, List.mem_of_getElem? (i := 342) (by decide +kernel), List.mem_of_getElem? (i := 340) (by decide +kernel), List.mem_of_getElem? (i := 341) (by decide +kernel)⟩
theorem lw_p11 : lw_okq (⟨"LadderClimb", "mixLadder", "(JI)J"⟩, 4) := ⟨⟨by decide +kernel, by decide +kernel⟩, List.mem_of_getElem? (i := 16) (by decide +kernel), List.mem_of_getElem? (i := 376) (by decide +kernel), List.mem_of_getElem? (i := 377) (by decide +kernel)⟩
theorem lw_p12 : lw_okq (⟨"LadderClimb", "rigOf", "(I)LLadderClimb$Rig;"⟩, 4) := ⟨⟨by decide +kernel, by decide +kernel⟩, List.mem_of_getElem? (i := 16) (by decide +kernel), List.mem_of_getElem? (i := 384) (by decide +kernel), List.mem_of_getElem? (i := 385) (by decide +kernel)⟩
theorem lw_p13 : lw_okq (⟨"LadderClimb$Site", "fall", "(LLadderClimb$Rig;)V"⟩, 3) := ⟨⟨by decide +kernel, by decide +kernel⟩, List.mem_of_getElem? (i := 24) (by decide +kernel), List.mem_of_getElem? (i := 530) (by decide +kernel), List.mem_of_getElem? (i := 531) (by decide +kernel)⟩
theorem lw_p14 : lw_okq (⟨"LadderClimb", "playPart", "(LLadderClimb$Reader;)Z"⟩, 4) := ⟨⟨by decide +kernel, by decide +kernel⟩, List.mem_of_getElem? (i := 16) (by decide +kernel), List.mem_of_getElem? (i := 643) (by decide +kernel), List.mem_of_getElem? (i := 644) (by decide +kernel)⟩
theorem lw_p15 : lw_okq (⟨"LadderClimbModel", "holds", "(I)Z"⟩, 16) := ⟨⟨by decide +kernel, by decide +kernel⟩, List.mem_of_getElem? (i := 699) (by decide +kernel), List.mem_of_getElem? (i := 771) (by decide +kernel), List.mem_of_getElem? (i := 772) (by decide +kernel)⟩
def lw_privs_1 : List (MethodName × Nat) := [(⟨"LadderClimb$Reader", "takesLadder", "(I)Z"⟩, 6), (⟨"LadderClimb$Reader", "takesWork", "(I)Z"⟩, 6), (⟨"LadderClimb$Reader", "startNumber", "(III)Z"⟩, 6), (⟨"LadderClimb$Reader", "takesDigit", "(I)Z"⟩, 6), (⟨"LadderClimb$Reader", "canBecomeNumber", "(I)Z"⟩, 6), (⟨"LadderClimb$Reader", "takesSemicolon", "()Z"⟩, 6), (⟨"LadderClimb$Rig", "leastByWall", "()I"⟩, 10), (⟨"LadderClimb$Rig", "wallPercents", "()I"⟩, 10), (⟨"LadderClimb$Rig", "leastByGround", "()I"⟩, 10), (⟨"LadderClimb$Rig", "groundPercents", "()I"⟩, 10), (⟨"java/lang/Throwable", "fillInStackTrace", "(I)Ljava/lang/Throwable;"⟩, 6), (⟨"LadderClimb", "mixLadder", "(JI)J"⟩, 4), (⟨"LadderClimb", "rigOf", "(I)LLadderClimb$Rig;"⟩, 4), (⟨"LadderClimb$Site", "fall", "(LLadderClimb$Rig;)V"⟩, 3), (⟨"LadderClimb", "playPart", "(LLadderClimb$Reader;)Z"⟩, 4), (⟨"LadderClimbModel", "holds", "(I)Z"⟩, 16)]
theorem lw_r1 : ∀ q ∈ lw_privs_1, lw_okq q := List.forall_mem_cons.mpr ⟨lw_p0, List.forall_mem_cons.mpr ⟨lw_p1, List.forall_mem_cons.mpr ⟨lw_p2, List.forall_mem_cons.mpr ⟨lw_p3, List.forall_mem_cons.mpr ⟨lw_p4, List.forall_mem_cons.mpr ⟨lw_p5, List.forall_mem_cons.mpr ⟨lw_p6, List.forall_mem_cons.mpr ⟨lw_p7, List.forall_mem_cons.mpr ⟨lw_p8, List.forall_mem_cons.mpr ⟨lw_p9, List.forall_mem_cons.mpr ⟨lw_p10, List.forall_mem_cons.mpr ⟨lw_p11, List.forall_mem_cons.mpr ⟨lw_p12, List.forall_mem_cons.mpr ⟨lw_p13, List.forall_mem_cons.mpr ⟨lw_p14, List.forall_mem_cons.mpr ⟨lw_p15, fun _ h => absurd h List.not_mem_nil⟩⟩⟩⟩⟩⟩⟩⟩⟩⟩⟩⟩⟩⟩⟩⟩
theorem lw_p16 : lw_okq (⟨"LadderClimbModel", "save", "()V"⟩, 16) := ⟨⟨by decide +kernel, by decide +kernel⟩, List.mem_of_getElem? (i := 699) (by decide +kernel), List.mem_of_getElem? (i := 775) (by decide +kernel), List.mem_of_getElem? (i := 776) (by decide +kernel)⟩
theorem lw_p17 : lw_okq (⟨"LadderClimbModel", "falls", "(I)Z"⟩, 16) := ⟨⟨by decide +kernel, by decide +kernel⟩, List.mem_of_getElem? (i := 699) (by decide +kernel), List.mem_of_getElem? (i := 779) (by decide +kernel), List.mem_of_getElem? (i := 780) (by decide +kernel)⟩
theorem lw_p18 : lw_okq (⟨"LadderClimbModel", "stands", "(I)Z"⟩, 16) := ⟨⟨by decide +kernel, by decide +kernel⟩, List.mem_of_getElem? (i := 699) (by decide +kernel), List.mem_of_getElem? (i := 783) (by decide +kernel), List.mem_of_getElem? (i := 784) (by decide +kernel)⟩
theorem lw_p19 : lw_okq (⟨"LadderClimbModel", "forces", "(I)I"⟩, 16) := ⟨⟨by decide +kernel, by decide +kernel⟩, List.mem_of_getElem? (i := 699) (by decide +kernel), List.mem_of_getElem? (i := 787) (by decide +kernel), List.mem_of_getElem? (i := 788) (by decide +kernel)⟩
theorem lw_p20 : lw_okq (⟨"LadderClimbModel", "loadOf", "(I)I"⟩, 16) := ⟨⟨by decide +kernel, by decide +kernel⟩, List.mem_of_getElem? (i := 699) (by decide +kernel), List.mem_of_getElem? (i := 791) (by decide +kernel), List.mem_of_getElem? (i := 792) (by decide +kernel)⟩
theorem lw_p21 : lw_okq (⟨"LadderClimbModel", "momentOf", "(I)I"⟩, 16) := ⟨⟨by decide +kernel, by decide +kernel⟩, List.mem_of_getElem? (i := 699) (by decide +kernel), List.mem_of_getElem? (i := 798) (by decide +kernel), List.mem_of_getElem? (i := 799) (by decide +kernel)⟩
theorem lw_p22 : lw_okq (⟨"LadderClimbModel", "lacks", "(IIII)I"⟩, 16) := ⟨⟨by decide +kernel, by decide +kernel⟩, List.mem_of_getElem? (i := 699) (by decide +kernel), List.mem_of_getElem? (i := 802) (by decide +kernel), List.mem_of_getElem? (i := 803) (by decide +kernel)⟩
theorem lw_p23 : lw_okq (⟨"LadderClimbModel", "comes", "(II)I"⟩, 16) := ⟨⟨by decide +kernel, by decide +kernel⟩, List.mem_of_getElem? (i := 699) (by decide +kernel), List.mem_of_getElem? (i := 824) (by decide +kernel), List.mem_of_getElem? (i := 825) (by decide +kernel)⟩
theorem lw_p24 : lw_okq (⟨"LadderClimbModel", "isPerson", "(II)Z"⟩, 16) := ⟨⟨by decide +kernel, by decide +kernel⟩, List.mem_of_getElem? (i := 699) (by decide +kernel), List.mem_of_getElem? (i := 832) (by decide +kernel), List.mem_of_getElem? (i := 833) (by decide +kernel)⟩
theorem lw_p25 : lw_okq (⟨"LadderClimbModel", "goes", "(II)I"⟩, 16) := ⟨⟨by decide +kernel, by decide +kernel⟩, List.mem_of_getElem? (i := 699) (by decide +kernel), List.mem_of_getElem? (i := 836) (by decide +kernel), List.mem_of_getElem? (i := 837) (by decide +kernel)⟩
theorem lw_p26 : lw_okq (⟨"LadderClimbModel", "takesOff", "(II)V"⟩, 16) := ⟨⟨by decide +kernel, by decide +kernel⟩, List.mem_of_getElem? (i := 699) (by decide +kernel), List.mem_of_getElem? (i := 840) (by decide +kernel), List.mem_of_getElem? (i := 841) (by decide +kernel)⟩
theorem lw_p27 : lw_okq (⟨"LadderClimbModel", "climbs", "(III)I"⟩, 16) := ⟨⟨by decide +kernel, by decide +kernel⟩, List.mem_of_getElem? (i := 699) (by decide +kernel), List.mem_of_getElem? (i := 848) (by decide +kernel), List.mem_of_getElem? (i := 849) (by decide +kernel)⟩
theorem lw_p28 : lw_okq (⟨"LadderClimbModel", "goesThrough", "(Z)I"⟩, 16) := ⟨⟨by decide +kernel, by decide +kernel⟩, List.mem_of_getElem? (i := 699) (by decide +kernel), List.mem_of_getElem? (i := 864) (by decide +kernel), List.mem_of_getElem? (i := 865) (by decide +kernel)⟩
theorem lw_p29 : lw_okq (⟨"LadderClimbModel", "readPart", "()V"⟩, 16) := ⟨⟨by decide +kernel, by decide +kernel⟩, List.mem_of_getElem? (i := 699) (by decide +kernel), List.mem_of_getElem? (i := 868) (by decide +kernel), List.mem_of_getElem? (i := 869) (by decide +kernel)⟩
theorem lw_p30 : lw_okq (⟨"LadderClimbModel", "sign", "(II)I"⟩, 16) := ⟨⟨by decide +kernel, by decide +kernel⟩, List.mem_of_getElem? (i := 699) (by decide +kernel), List.mem_of_getElem? (i := 872) (by decide +kernel), List.mem_of_getElem? (i := 873) (by decide +kernel)⟩
theorem lw_p31 : lw_okq (⟨"LadderClimbModel", "readNumber", "(II)V"⟩, 16) := ⟨⟨by decide +kernel, by decide +kernel⟩, List.mem_of_getElem? (i := 699) (by decide +kernel), List.mem_of_getElem? (i := 876) (by decide +kernel), List.mem_of_getElem? (i := 877) (by decide +kernel)⟩
def lw_privs_2 : List (MethodName × Nat) := [(⟨"LadderClimbModel", "save", "()V"⟩, 16), (⟨"LadderClimbModel", "falls", "(I)Z"⟩, 16), (⟨"LadderClimbModel", "stands", "(I)Z"⟩, 16), (⟨"LadderClimbModel", "forces", "(I)I"⟩, 16), (⟨"LadderClimbModel", "loadOf", "(I)I"⟩, 16), (⟨"LadderClimbModel", "momentOf", "(I)I"⟩, 16), (⟨"LadderClimbModel", "lacks", "(IIII)I"⟩, 16), (⟨"LadderClimbModel", "comes", "(II)I"⟩, 16), (⟨"LadderClimbModel", "isPerson", "(II)Z"⟩, 16), (⟨"LadderClimbModel", "goes", "(II)I"⟩, 16), (⟨"LadderClimbModel", "takesOff", "(II)V"⟩, 16), (⟨"LadderClimbModel", "climbs", "(III)I"⟩, 16), (⟨"LadderClimbModel", "goesThrough", "(Z)I"⟩, 16), (⟨"LadderClimbModel", "readPart", "()V"⟩, 16), (⟨"LadderClimbModel", "sign", "(II)I"⟩, 16), (⟨"LadderClimbModel", "readNumber", "(II)V"⟩, 16)]
theorem lw_r2 : ∀ q ∈ lw_privs_2, lw_okq q := List.forall_mem_cons.mpr ⟨lw_p16, List.forall_mem_cons.mpr ⟨lw_p17, List.forall_mem_cons.mpr ⟨lw_p18, List.forall_mem_cons.mpr ⟨lw_p19, List.forall_mem_cons.mpr ⟨lw_p20, List.forall_mem_cons.mpr ⟨lw_p21, List.forall_mem_cons.mpr ⟨lw_p22, List.forall_mem_cons.mpr ⟨lw_p23, List.forall_mem_cons.mpr ⟨lw_p24, List.forall_mem_cons.mpr ⟨lw_p25, List.forall_mem_cons.mpr ⟨lw_p26, List.forall_mem_cons.mpr ⟨lw_p27, List.forall_mem_cons.mpr ⟨lw_p28, List.forall_mem_cons.mpr ⟨lw_p29, List.forall_mem_cons.mpr ⟨lw_p30, List.forall_mem_cons.mpr ⟨lw_p31, fun _ h => absurd h List.not_mem_nil⟩⟩⟩⟩⟩⟩⟩⟩⟩⟩⟩⟩⟩⟩⟩⟩
theorem lw_p32 : lw_okq (⟨"LadderClimbModel", "goesOn", "(II)Z"⟩, 16) := ⟨⟨by decide +kernel, by decide +kernel⟩, List.mem_of_getElem? (i := 699) (by decide +kernel), List.mem_of_getElem? (i := 880) (by decide +kernel), List.mem_of_getElem? (i := 881) (by decide +kernel)⟩
theorem lw_p33 : lw_okq (⟨"LadderClimbModel", "doesPart", "()Z"⟩, 16) := ⟨⟨by decide +kernel, by decide +kernel⟩, List.mem_of_getElem? (i := 699) (by decide +kernel), List.mem_of_getElem? (i := 887) (by decide +kernel), List.mem_of_getElem? (i := 888) (by decide +kernel)⟩
theorem lw_p34 : lw_okq (⟨"LadderClimbModel", "ofLadder", "(II)I"⟩, 16) := ⟨⟨by decide +kernel, by decide +kernel⟩, List.mem_of_getElem? (i := 699) (by decide +kernel), List.mem_of_getElem? (i := 903) (by decide +kernel), List.mem_of_getElem? (i := 904) (by decide +kernel)⟩
theorem lw_p35 : lw_okq (⟨"LadderClimbModel", "ofForce", "(II)I"⟩, 16) := ⟨⟨by decide +kernel, by decide +kernel⟩, List.mem_of_getElem? (i := 699) (by decide +kernel), List.mem_of_getElem? (i := 915) (by decide +kernel), List.mem_of_getElem? (i := 916) (by decide +kernel)⟩
theorem lw_p36 : lw_okq (⟨"LadderClimbModel", "pushOf", "(II)I"⟩, 16) := ⟨⟨by decide +kernel, by decide +kernel⟩, List.mem_of_getElem? (i := 699) (by decide +kernel), List.mem_of_getElem? (i := 919) (by decide +kernel), List.mem_of_getElem? (i := 920) (by decide +kernel)⟩
theorem lw_p37 : lw_okq (⟨"LadderClimbModel", "lacking", "(II)I"⟩, 16) := ⟨⟨by decide +kernel, by decide +kernel⟩, List.mem_of_getElem? (i := 699) (by decide +kernel), List.mem_of_getElem? (i := 927) (by decide +kernel), List.mem_of_getElem? (i := 928) (by decide +kernel)⟩
theorem lw_p38 : lw_okq (⟨"LadderClimbModel", "counted", "(I)I"⟩, 16) := ⟨⟨by decide +kernel, by decide +kernel⟩, List.mem_of_getElem? (i := 699) (by decide +kernel), List.mem_of_getElem? (i := 935) (by decide +kernel), List.mem_of_getElem? (i := 936) (by decide +kernel)⟩
theorem lw_p39 : lw_okq (⟨"LadderClimbModel", "sumOf", "(I)I"⟩, 16) := ⟨⟨by decide +kernel, by decide +kernel⟩, List.mem_of_getElem? (i := 699) (by decide +kernel), List.mem_of_getElem? (i := 939) (by decide +kernel), List.mem_of_getElem? (i := 940) (by decide +kernel)⟩
theorem lw_p40 : lw_okq (⟨"LadderClimbModel", "highestOf", "(II)I"⟩, 16) := ⟨⟨by decide +kernel, by decide +kernel⟩, List.mem_of_getElem? (i := 699) (by decide +kernel), List.mem_of_getElem? (i := 947) (by decide +kernel), List.mem_of_getElem? (i := 948) (by decide +kernel)⟩
theorem lw_p41 : lw_okq (⟨"LadderClimbModel", "ropeFor", "(I)I"⟩, 16) := ⟨⟨by decide +kernel, by decide +kernel⟩, List.mem_of_getElem? (i := 699) (by decide +kernel), List.mem_of_getElem? (i := 955) (by decide +kernel), List.mem_of_getElem? (i := 956) (by decide +kernel)⟩
theorem lw_p42 : lw_okq (⟨"LadderClimbModel", "baseFor", "(I)I"⟩, 16) := ⟨⟨by decide +kernel, by decide +kernel⟩, List.mem_of_getElem? (i := 699) (by decide +kernel), List.mem_of_getElem? (i := 963) (by decide +kernel), List.mem_of_getElem? (i := 964) (by decide +kernel)⟩
theorem lw_p43 : lw_okq (⟨"LadderClimbModel", "riskiestOf", "(I)I"⟩, 16) := ⟨⟨by decide +kernel, by decide +kernel⟩, List.mem_of_getElem? (i := 699) (by decide +kernel), List.mem_of_getElem? (i := 971) (by decide +kernel), List.mem_of_getElem? (i := 972) (by decide +kernel)⟩
theorem lw_p44 : lw_okq (⟨"LadderClimbModel", "wallsFor", "(I)I"⟩, 16) := ⟨⟨by decide +kernel, by decide +kernel⟩, List.mem_of_getElem? (i := 699) (by decide +kernel), List.mem_of_getElem? (i := 979) (by decide +kernel), List.mem_of_getElem? (i := 980) (by decide +kernel)⟩
theorem lw_p45 : lw_okq (⟨"LadderClimbModel", "share", "()D"⟩, 16) := ⟨⟨by decide +kernel, by decide +kernel⟩, List.mem_of_getElem? (i := 699) (by decide +kernel), List.mem_of_getElem? (i := 987) (by decide +kernel), List.mem_of_getElem? (i := 988) (by decide +kernel)⟩
theorem lw_p46 : lw_okq (⟨"LadderClimbModel", "digestOne", "(J)V"⟩, 16) := ⟨⟨by decide +kernel, by decide +kernel⟩, List.mem_of_getElem? (i := 699) (by decide +kernel), List.mem_of_getElem? (i := 996) (by decide +kernel), List.mem_of_getElem? (i := 997) (by decide +kernel)⟩
theorem lw_p47 : lw_okq (⟨"LadderClimbModel", "digestLadder", "(I)V"⟩, 16) := ⟨⟨by decide +kernel, by decide +kernel⟩, List.mem_of_getElem? (i := 699) (by decide +kernel), List.mem_of_getElem? (i := 1001) (by decide +kernel), List.mem_of_getElem? (i := 1002) (by decide +kernel)⟩
def lw_privs_3 : List (MethodName × Nat) := [(⟨"LadderClimbModel", "goesOn", "(II)Z"⟩, 16), (⟨"LadderClimbModel", "doesPart", "()Z"⟩, 16), (⟨"LadderClimbModel", "ofLadder", "(II)I"⟩, 16), (⟨"LadderClimbModel", "ofForce", "(II)I"⟩, 16), (⟨"LadderClimbModel", "pushOf", "(II)I"⟩, 16), (⟨"LadderClimbModel", "lacking", "(II)I"⟩, 16), (⟨"LadderClimbModel", "counted", "(I)I"⟩, 16), (⟨"LadderClimbModel", "sumOf", "(I)I"⟩, 16), (⟨"LadderClimbModel", "highestOf", "(II)I"⟩, 16), (⟨"LadderClimbModel", "ropeFor", "(I)I"⟩, 16), (⟨"LadderClimbModel", "baseFor", "(I)I"⟩, 16), (⟨"LadderClimbModel", "riskiestOf", "(I)I"⟩, 16), (⟨"LadderClimbModel", "wallsFor", "(I)I"⟩, 16), (⟨"LadderClimbModel", "share", "()D"⟩, 16), (⟨"LadderClimbModel", "digestOne", "(J)V"⟩, 16), (⟨"LadderClimbModel", "digestLadder", "(I)V"⟩, 16)]
theorem lw_r3 : ∀ q ∈ lw_privs_3, lw_okq q := List.forall_mem_cons.mpr ⟨lw_p32, List.forall_mem_cons.mpr ⟨lw_p33, List.forall_mem_cons.mpr ⟨lw_p34, List.forall_mem_cons.mpr ⟨lw_p35, List.forall_mem_cons.mpr ⟨lw_p36, List.forall_mem_cons.mpr ⟨lw_p37, List.forall_mem_cons.mpr ⟨lw_p38, List.forall_mem_cons.mpr ⟨lw_p39, List.forall_mem_cons.mpr ⟨lw_p40, List.forall_mem_cons.mpr ⟨lw_p41, List.forall_mem_cons.mpr ⟨lw_p42, List.forall_mem_cons.mpr ⟨lw_p43, List.forall_mem_cons.mpr ⟨lw_p44, List.forall_mem_cons.mpr ⟨lw_p45, List.forall_mem_cons.mpr ⟨lw_p46, List.forall_mem_cons.mpr ⟨lw_p47, fun _ h => absurd h List.not_mem_nil⟩⟩⟩⟩⟩⟩⟩⟩⟩⟩⟩⟩⟩⟩⟩⟩
def lw_privs : List (MethodName × Nat) := lw_privs_1 ++ (lw_privs_2 ++ (lw_privs_3))
def lw_tbl : List Cond := k2_sels lw_privs ++ tables_1
theorem lw_privs_ok : ∀ q ∈ lw_privs, lw_okq q := by
  show ∀ q ∈ lw_privs_1 ++ (lw_privs_2 ++ (lw_privs_3)), lw_okq q
  exact List.forall_mem_append.mpr ⟨lw_r1, List.forall_mem_append.mpr ⟨lw_r2, lw_r3⟩⟩
/-- the streams that the claim lets the run draw from -/
abbrev lw_cs : List Choice := [Jvm.Choice.named "NaN.bits"]
theorem lw_bits : nanBits ∈ lw_cs := by first | decide | exact List.mem_cons_self | simp [lw_cs, nanBits]
-- ===== end of PART A; then your names; then what follows =====
end
section
/-! ===== BEGIN words of one list among another's, by their places ===== -/
theorem goodIn_r {big : List Cond} (ws : List Cond) (ps : List Nat) (hp : ws = ps.filterMap (fun i => big[i]?)) (h : ws.all goodWord = true) : GoodIn big ws := by
  intro w hw
  have h1 := List.all_eq_true.mp h w hw
  rw [hp] at hw
  obtain ⟨i, -, hi⟩ := List.mem_filterMap.mp hw
  have hm : w ∈ big := by first | exact List.mem_of_getElem? hi | exact List.getElem?_mem hi
  exact ⟨hm, good_of_word h1⟩
theorem goodIn_app {big a b : List Cond} (ha : GoodIn big a) (hb : GoodIn big b) : GoodIn big (a ++ b) := fun w h => (List.mem_append.mp h).elim (ha w) (hb w)
theorem goodIn_ca {big a b : List Cond} {c : Cond} (ha : GoodIn big (c :: a)) (hb : GoodIn big b) : GoodIn big (c :: (a ++ b)) := fun w h => (List.mem_cons.mp h).elim (fun e => ha w (List.mem_cons.mpr (Or.inl e))) (fun h => (List.mem_append.mp h).elim (fun h => ha w (List.mem_cons.mpr (Or.inr h))) (hb w))
theorem goodIn_sub {big ws : List Cond} (hm : ∀ w ∈ ws, w ∈ big) (h : ws.all goodWord = true) : GoodIn big ws := fun w hw => ⟨hm w hw, good_of_word (List.all_eq_true.mp h w hw)⟩
/-! ===== END ===== -/

/-! ===== BEGIN exceptions that leave a method, and their catching by the caller (launches without stack traces) ===== -/
section VXA
/-! The laws vx_back, vx_callV, vx_callS, vx_callSW, vx_throw0, vx_throwS follow proofs of the library, with one case more: JvmDerived/Free/Laws.lean (Back.of_free), Shelf42/LK1.lean (callV, callS), Shelf/KitTraced.lean (throwNew0V, throwNewS). -/
/-- where a method has thrown q: the class by its name, the cell, what was written, the world -/
def vx_T (XC : String → State → State → Prop) (st : State) (q : Addr) (t : State) (mc ms : Nat) (free : Addr → Prop) : Prop :=
  ∃ (E : String) (ce : Cell) (L : List Loc), XC E st t ∧ t.heap[q]? = some ce ∧ ce.vm = .none ∧ st.vm.findClass E = some ce.cls ∧ st.WarmedH t.vm ∧ st.sameButNew ({ t with vm := st.vm } : State) L mc ms ∧ ∀ z ∈ L, free z.base
def vx_Q (Qc : Array Value → State → Outcome → State → Prop) (XC : String → State → State → Prop) (mc ms : Nat) (free : Addr → Prop) : Array Value → State → Outcome → State → Prop := fun a st o t =>
  (Qc a st o t ∧ ∃ L, FrameEnd st o t L mc ms ∧ ∀ q ∈ L, free q.base) ∨ ∃ q, o = .threw q ∧ vx_T XC st q t mc ms free
/-- a callee that returns or throws -/
def vx_Met (l : Launch) (y : MethodName) (ws : List Cond) (rm : Room) (Pc : Array Value → State → Prop) (Qc : Array Value → State → Outcome → State → Prop) (XC : String → State → State → Prop) (mc ms : Nat) (free : Addr → Prop) : Prop :=
  MetFree l y (headSpec ws rm) Pc (fun _ _ _ _ _ => True) (vx_Q Qc XC mc ms free)
def vx_Post (XC : String → State → State → Prop) (mc ms : Nat) (free : Addr → Prop) : Pt → Array Value → Addr → Pt → Prop := fun A a q B =>
  ∃ (g : JFrame) (mk : MethodId) (t : State) (L : List Loc) (E : String) (ce : Cell), B.U.heap = t.heap ∧ B.U.vm = t.vm ∧ XC E (A.U.calling g mk a) t ∧ t.heap[q]? = some ce ∧ ce.vm = .none ∧ A.U.vm.findClass E = some ce.cls ∧ B.locs = A.locs ++ L ∧ (∀ z ∈ L, free z.base) ∧ B.cells = A.cells + mc ∧ B.slots = A.slots + ms
def vx_Back (l : Launch) (R : Room) (p : Program) (e : Env) (below : List Frame) (s : State) (sargs : Array Value) (y : MethodName) (len W9 : Nat)
    (Pre : Pt → Array Value → Prop) (Post : Pt → Array Value → Option Value → Pt → Prop) (PostX : Pt → Array Value → Addr → Pt → Prop) : Prop :=
  ∀ (m : MethodId) (meth : Method) (c : Code) (A : Pt) (g : JFrame) (ig : Instr) (mk : MethodId) (a : Array Value),
    Stand p l e R s m sargs below meth c A.U A.locs A.cells A.slots → g.method = m → g.locals.size = c.maxLocals → decode c.code g.pc = .ok (ig, len) →
    2 * g.monitorRoom + (g.stack.map fun v => v.category).sum ≤ W9 → A.U.methodNamed? y = some mk → Pre A a →
    (∃ (v : Option Value) (B : Pt), Stand p l e R s m sargs below meth c B.U B.locs B.cells B.slots ∧ Post A a v B ∧
      Steps p.tables e below (doInvoke e (A.U.setTop g) [] mk a).1 (B.U.setTop { g with pc := g.pc + len, stack := v.toList ++ g.stack })) ∨
    (∃ (q : Addr) (B : Pt), Stand p l e R s m sargs below meth c B.U B.locs B.cells B.slots ∧ PostX A a q B ∧
      Steps p.tables e below (doInvoke e (A.U.setTop g) [] mk a).1 ((B.U.setTop g).pushFrame (.throwing q)))
section Payer
variable {l : Launch} {R : Room} {p : Program} {e : Env} {below : List Frame} {s : State} {sargs : Array Value} {y : MethodName} {len W9 : Nat}
theorem vx_back {ws : List Cond} {rm : Room} {Pc : Array Value → State → Prop} {Qc : Array Value → State → Outcome → State → Prop} {XC : String → State → State → Prop} {mc ms : Nat} {free : Addr → Prop} {bytes : ByteArray} {maxL : Nat} {ret : Option FieldType}
    (hM : vx_Met l y ws rm Pc Qc XC mc ms free) (hblind : FrameBlind Pc) (hrc : rm.cells = mc) (hrs : rm.slots = ms)
    (hframes : rm.frames + 1 ≤ R.frames) (hlocals : W9 + (maxL + 11) + rm.locals ≤ R.locals)
    (hws : ∀ w ∈ ws, ∀ a' U, s.WarmedH U.vm → w.before a' U = true) (hcode : Cond.code y bytes maxL ret ∈ ws) (hinit : ∀ a' U, s.WarmedH U.vm → (Cond.initialized y.cls).before a' U = true) :
    vx_Back l R p e below s sargs y len W9 (PreOf R mc ms Pc) (PostOf Qc mc ms free) (vx_Post XC mc ms free) := by
  intro m meth c A g ig mk a X hg hsize hdg hW hn hp
  have h1 : (headSpec ws rm).pre.before a A.U = true := atoms_intro fun w hw => hws w hw _ _ X.warmed
  have h2 : (Cond.code y bytes maxL ret).before a A.U = true := hws _ hcode _ _ X.warmed
  have h3 : (Cond.initialized y.cls).before a A.U = true := hinit _ _ X.warmed
  have h4 : A.cells + (headSpec ws rm).room.cells ≤ R.cells := by rw [show (headSpec ws rm).room.cells = mc from hrc]; exact hp.1
  have h5 : A.slots + (headSpec ws rm).room.slots ≤ R.slots := by rw [show (headSpec ws rm).room.slots = ms from hrs]; exact hp.2.1
  have hPc : Pc a (A.U.calling g mk a) := hblind _ _ _ _ hp.2.2
  obtain ⟨U, Ls, c0, s0⟩ := A
  dsimp only [Pt.U, Pt.locs, Pt.cells, Pt.slots] at h1 h2 h3 h4 h5 X hn hPc ⊢
  obtain ⟨methY, cY, hmY, hcY, -, hlY, -, -, -, -⟩ := Cond.code_spec hn h2
  obtain ⟨kY, hkY, -⟩ := className_of_methodNamed hn
  have hinitY : kY.init = .initialized := Cond.initialized_spec (findClass_of_methodNamed hn) hkY h3
  have h : At U g.method c below := by rw [hg]; exact X.here
  have hlocals9 : W9 + (maxL + 11) + (headSpec ws rm).room.locals ≤ R.locals := hlocals
  have happ : (headSpec ws rm).appliesLoose y e.platform (U.calling g mk a) = true :=
    Spec.appliesLoose_calling (g := g) h hdg hn hkY hinitY
      (X.room_calling (g := g) (R' := (headSpec ws rm).room) hsize hmY hcY hframes (by rw [hlY]; omega) h4 h5) h1
  obtain ⟨mid, hmid⟩ := h.above
  have hfr : (U.setTop g).frames = (.java g :: mid) ++ below := by rw [State.frames_setTop' g h.top, hmid]; rfl
  obtain ⟨o, s₂, hsteps, -, hend, hq⟩ := Steps.callFree hM p X.admits X.cas X.clock (acts := []) hfr happ hPc trivial
  have hq' : vx_Q Qc XC mc ms free a (U.calling g mk a) o s₂ := hq
  rw [State.frames_setTop' g h.top] at hend
  obtain ⟨g₀, hg0⟩ := Option.isSome_iff_exists.mp h.top
  obtain ⟨r, hr⟩ := State.topJava?_eq_some.mp hg0
  have hr' : (({ U with heap := s₂.heap, slotsUsed := s₂.slotsUsed } : State).setVm s₂.vm).frames = .java g₀ :: r := hr
  rcases hq' with ⟨hqc, L, hfe, hL⟩ | ⟨q, rfl, E, ce, L, hx, hce, hcv, hcl, hW₂, hsm, hL⟩
  · obtain ⟨⟨v, rfl⟩, hW₂, e2, q2, q3, q4, q5, q6⟩ := id hfe
    have e3 : s₂ = ({ (U.calling g mk a).setFrames s₂.frames with heap := s₂.heap, slotsUsed := s₂.slotsUsed } : State).setVm s₂.vm := by
      have : s₂ = ({ s₂ with vm := (U.calling g mk a).vm } : State).setVm s₂.vm := rfl
      rw [e2] at this
      exact this
    obtain ⟨c₂, i₂, len₂, hc₂, hd₂, hf₂⟩ := hend
    have hW' : U.WarmedH s₂.vm := hW₂
    have hcc : c₂ = c := by
      have h1 : s₂.code? g.method = U.code? g.method := by
        rw [State.code?_eq, State.code?_eq, hW'.alike.method?]
      exact Option.some.inj (hc₂.symm.trans (h1.trans h.code))
    subst hcc
    have hlen : len₂ = len := by rw [hdg] at hd₂; cases hd₂; rfl
    subst hlen
    have hs₂ : s₂ = (({ U with heap := s₂.heap, slotsUsed := s₂.slotsUsed } : State).setVm s₂.vm).setTop { g with pc := g.pc + len₂, stack := v.toList ++ g.stack } := by
      refine e3.trans ?_
      rw [hf₂, State.calling_eq h.top, State.setFrames_setFrames, State.setTop_of_frames _ hr', hr]
      rfl
    have hsame : U.sameButNew ({ U with heap := s₂.heap, slotsUsed := s₂.slotsUsed } : State) L mc ms := by
      refine ⟨?_, q2, q3, q4, q5, q6⟩
      obtain ⟨t, ht, -⟩ := State.frames_cons hr
      show ({ U with heap := s₂.heap, slotsUsed := s₂.slotsUsed } : State) = { U.setFrames U.frames with heap := s₂.heap, slotsUsed := s₂.slotsUsed }
      rw [State.setFrames_self ht]
    subst hg
    refine Or.inl ⟨v, ⟨(({ U with heap := s₂.heap, slotsUsed := s₂.slotsUsed } : State).setVm s₂.vm), Ls ++ L, c0 + mc, s0 + ms⟩,
      ⟨X.admits, X.cas, X.clock, X.frames, X.room, X.hears, X.method, X.code, (X.here.setHeapUsed s₂.heap s₂.slotsUsed).setVm hW'.alike, X.tail, State.WarmedH.trans X.warmed hW', X.limits, X.bytes, X.same.trans (hsame.setVm s.vm)⟩,
      ⟨g, mk, s₂, L, rfl, rfl, hqc, rfl, hL, rfl, rfl⟩, ?_⟩
    show Steps p.tables e below _ ((({ U with heap := s₂.heap, slotsUsed := s₂.slotsUsed } : State).setVm s₂.vm).setTop { g with pc := g.pc + len₂, stack := v.toList ++ g.stack })
    rw [← hs₂]
    exact hsteps
  · obtain ⟨e2, q2, q3, q4, q5, q6⟩ := id hsm
    have e3 : s₂ = ({ (U.calling g mk a).setFrames s₂.frames with heap := s₂.heap, slotsUsed := s₂.slotsUsed } : State).setVm s₂.vm := by
      have : s₂ = ({ s₂ with vm := (U.calling g mk a).vm } : State).setVm s₂.vm := rfl
      rw [e2] at this
      exact this
    have hf₂ : s₂.frames = .throwing q :: .java g :: U.frames.tail := hend
    have hW' : U.WarmedH s₂.vm := hW₂
    have hs₂ : s₂ = ((({ U with heap := s₂.heap, slotsUsed := s₂.slotsUsed } : State).setVm s₂.vm).setTop g).pushFrame (.throwing q) := by
      refine e3.trans ?_
      rw [hf₂, State.calling_eq h.top, State.setFrames_setFrames, State.pushFrame, State.frames_setTop _ hr', State.setTop_of_frames _ hr', State.setFrames_setFrames, hr]
      rfl
    have hsame : U.sameButNew ({ U with heap := s₂.heap, slotsUsed := s₂.slotsUsed } : State) L mc ms := by
      refine ⟨?_, q2, q3, q4, q5, q6⟩
      obtain ⟨t, ht, -⟩ := State.frames_cons hr
      show ({ U with heap := s₂.heap, slotsUsed := s₂.slotsUsed } : State) = { U.setFrames U.frames with heap := s₂.heap, slotsUsed := s₂.slotsUsed }
      rw [State.setFrames_self ht]
    subst hg
    refine Or.inr ⟨q, ⟨(({ U with heap := s₂.heap, slotsUsed := s₂.slotsUsed } : State).setVm s₂.vm), Ls ++ L, c0 + mc, s0 + ms⟩,
      ⟨X.admits, X.cas, X.clock, X.frames, X.room, X.hears, X.method, X.code, (X.here.setHeapUsed s₂.heap s₂.slotsUsed).setVm hW'.alike, X.tail, State.WarmedH.trans X.warmed hW', X.limits, X.bytes, X.same.trans (hsame.setVm s.vm)⟩,
      ⟨g, mk, s₂, L, E, ce, rfl, rfl, hx, hce, hcv, hcl, rfl, hL, rfl, rfl⟩, ?_⟩
    show Steps p.tables e below _ (((({ U with heap := s₂.heap, slotsUsed := s₂.slotsUsed } : State).setVm s₂.vm).setTop g).pushFrame (.throwing q))
    rw [← hs₂]
    exact hsteps
end Payer
section Calls
variable {p : Program} {l : Launch} {e : Env} {R : Room} {s : State} {m : MethodId} {args : Array Value} {below : List Frame} {meth : Method} {c : Code} {T : State} {locs : List Loc} {cells slots : Nat}
theorem vx_callV (X : Stand p l e R s m args below meth c T locs cells slots) (hexec : p.tables.exec = Jvm.exec) {own C : String} {index : Nat} {y : MethodName} {bytes : ByteArray} {maxL : Nat} {ret : Option FieldType}
    (hown : s.vm.findClass own = some m.cls) (hlink : (Cond.methodLink own index y).before args s = true) (hinst : (Cond.instanceMethod y).before args s = true) (hsel : (Cond.selects C y y).before args s = true)
    (hcode : (Cond.code y bytes maxL ret).before args s = true) (hy : y.cls ≠ "java/lang/invoke/MethodHandle" ∧ y.cls ≠ "java/lang/invoke/VarHandle")
    {W9 : Nat} {Pre : Pt → Array Value → Prop} {Post : Pt → Array Value → Option Value → Pt → Prop} {PostX : Pt → Array Value → Addr → Pt → Prop} (hK : vx_Back l R p e below s args y 3 W9 Pre Post PostX)
    {b : Addr} {cellB : Cell} (hcell : T.heap[b]? = some cellB) (hobj : cellB.vm.isStatics = false) (hcls : s.vm.findClass C = some cellB.cls)
    {g : JFrame} (hg : g.method = m) (hsize : g.locals.size = c.maxLocals) {argsL rest : List Value} (hlen : ∀ sig, parseMethodDescriptor y.desc = some sig → argsL.length = sig.parameters.length)
    (hstack : g.stack = argsL.reverse ++ .ref b :: rest) (hW : 2 * g.monitorRoom + (rest.map fun v => v.category).sum ≤ W9) (hdg : decode c.code g.pc = .ok (.invokevirtual index, 3))
    (hpre : ∀ vm₁, s.WarmedH vm₁ → Pre ⟨T.setVm vm₁, locs, cells, slots⟩ (Value.ref b :: argsL).toArray) :
    (∃ (v : Option Value) (vm₁ : Vm) (B : Pt), s.WarmedH vm₁ ∧ Stand p l e R s m args below meth c B.U B.locs B.cells B.slots ∧ Post ⟨T.setVm vm₁, locs, cells, slots⟩ (Value.ref b :: argsL).toArray v B ∧
      ∀ target, Steps p.tables e below (B.U.setTop { g with pc := g.pc + 3, stack := v.toList ++ rest }) target → Steps p.tables e below (T.setTop g) target) ∨
    (∃ (q : Addr) (vm₁ : Vm) (B : Pt), s.WarmedH vm₁ ∧ Stand p l e R s m args below meth c B.U B.locs B.cells B.slots ∧ PostX ⟨T.setVm vm₁, locs, cells, slots⟩ (Value.ref b :: argsL).toArray q B ∧
      Steps p.tables e below (T.setTop g) ((B.U.setTop { g with stack := rest }).pushFrame (.throwing q))) := by
  obtain ⟨mk, methM, hnamed, hmethM, hstM, habM⟩ := Cond.instanceMethod_spec hinst
  obtain ⟨methM', cM, hmethM', -, -, -, -, -, -, hsigM⟩ := Cond.code_spec hnamed hcode
  cases hmethM.symm.trans hmethM'
  obtain ⟨c2, r2, m2, q1, q2, q3, q4, kP, hkP, hkPi⟩ := Cond.selects_spec hsel
  cases hcls.symm.trans q1
  cases (State.methodFound?_of_named hnamed hy).symm.trans q2
  cases hnamed.symm.trans q3
  have hselP : selectMethod e.platform s.vm cellB.cls mk = .method mk := by rw [Launch.admits_selectMethod X.admits]; exact q4
  obtain ⟨vm₁, X₁, hstep₁⟩ := X.invokevirtual hexec hown hlink hnamed hmethM hstM hkP hkPi hy (a := b) (cell := cellB) hcell
    (fun z h => by rw [h] at hobj; cases hobj) hselP hmethM habM hkP hkPi (g := g) hg (argsL := argsL) (rest := rest) (hlen _ hsigM) hstack hdg
  rcases hK m meth c ⟨T.setVm vm₁, locs, cells, slots⟩ { g with stack := rest } (.invokevirtual index) mk (Value.ref b :: argsL).toArray X₁ hg hsize hdg hW (X₁.named hnamed) (hpre vm₁ X₁.warmed) with ⟨v, B, X', hpost, hsteps⟩ | ⟨q, B, X', hpost, hsteps⟩
  · exact Or.inl ⟨v, vm₁, B, X₁.warmed, X', hpost, fun target h => hstep₁ _ fun acts => by rw [doInvoke_state]; exact hsteps.trans h⟩
  · exact Or.inr ⟨q, vm₁, B, X₁.warmed, X', hpost, hstep₁ _ fun acts => by rw [doInvoke_state]; exact hsteps⟩
theorem vx_callS (X : Stand p l e R s m args below meth c T locs cells slots) (hexec : p.tables.exec = Jvm.exec) {own : String} {index : Nat} {y : MethodName} {bytes : ByteArray} {maxL : Nat} {ret : Option FieldType}
    (hown : s.vm.findClass own = some m.cls) (hlink : (Cond.methodLink own index y).before args s = true) (hstat : (Cond.static y).before args s = true) (hinit : (Cond.initialized y.cls).before args s = true)
    (hcode : (Cond.code y bytes maxL ret).before args s = true) (hy : y.cls ≠ "java/lang/invoke/MethodHandle" ∧ y.cls ≠ "java/lang/invoke/VarHandle")
    {W9 : Nat} {Pre : Pt → Array Value → Prop} {Post : Pt → Array Value → Option Value → Pt → Prop} {PostX : Pt → Array Value → Addr → Pt → Prop} (hK : vx_Back l R p e below s args y 3 W9 Pre Post PostX)
    {g : JFrame} (hg : g.method = m) (hsize : g.locals.size = c.maxLocals) {argsL rest : List Value} (hlen : ∀ sig, parseMethodDescriptor y.desc = some sig → argsL.length = sig.parameters.length)
    (hstack : g.stack = argsL.reverse ++ rest) (hW : 2 * g.monitorRoom + (rest.map fun v => v.category).sum ≤ W9) (hdg : decode c.code g.pc = .ok (.invokestatic index, 3))
    (hpre : ∀ vm₁, s.WarmedH vm₁ → Pre ⟨T.setVm vm₁, locs, cells, slots⟩ argsL.toArray) :
    (∃ (v : Option Value) (vm₁ : Vm) (B : Pt), s.WarmedH vm₁ ∧ Stand p l e R s m args below meth c B.U B.locs B.cells B.slots ∧ Post ⟨T.setVm vm₁, locs, cells, slots⟩ argsL.toArray v B ∧
      ∀ target, Steps p.tables e below (B.U.setTop { g with pc := g.pc + 3, stack := v.toList ++ rest }) target → Steps p.tables e below (T.setTop g) target) ∨
    (∃ (q : Addr) (vm₁ : Vm) (B : Pt), s.WarmedH vm₁ ∧ Stand p l e R s m args below meth c B.U B.locs B.cells B.slots ∧ PostX ⟨T.setVm vm₁, locs, cells, slots⟩ argsL.toArray q B ∧
      Steps p.tables e below (T.setTop g) ((B.U.setTop { g with stack := rest }).pushFrame (.throwing q))) := by
  obtain ⟨mk, hnamed⟩ := Cond.code_named hcode
  obtain ⟨methM, cM, hmethM, -, -, -, -, -, -, hsigM⟩ := Cond.code_spec hnamed hcode
  have hstatic : methM.isStatic = true := Cond.static_spec hnamed hmethM hstat
  obtain ⟨kP, hkP, -⟩ := className_of_methodNamed hnamed
  have hinitP : kP.init = .initialized := Cond.initialized_spec (findClass_of_methodNamed hnamed) hkP hinit
  obtain ⟨vm₁, X₁, hstep₁⟩ := X.invokestatic hexec hown hlink hnamed hmethM hstatic hkP hinitP hy (g := g) hg (argsL := argsL) (rest := rest) (hlen _ hsigM) hstack hdg
  rcases hK m meth c ⟨T.setVm vm₁, locs, cells, slots⟩ { g with stack := rest } (.invokestatic index) mk argsL.toArray X₁ hg hsize hdg hW (X₁.named hnamed) (hpre vm₁ X₁.warmed) with ⟨v, B, X', hpost, hsteps⟩ | ⟨q, B, X', hpost, hsteps⟩
  · exact Or.inl ⟨v, vm₁, B, X₁.warmed, X', hpost, fun target h => hstep₁ _ fun acts => by rw [doInvoke_state]; exact hsteps.trans h⟩
  · exact Or.inr ⟨q, vm₁, B, X₁.warmed, X', hpost, hstep₁ _ fun acts => by rw [doInvoke_state]; exact hsteps⟩
end Calls
theorem vx_cls {s : State} {T : State} {vm₁ : Vm} {E : String} {k : ClassId} (hW : s.WarmedH vm₁) (h : (T.setVm vm₁).vm.findClass E = some k) : s.vm.findClass E = some k := by
  have h1 : vm₁.findClass E = some k := h
  rw [hW.alike.findClass] at h1
  exact h1
/-- the method's frame g, with q thrown over it -/
def vx_W (p : Program) (l : Launch) (e : Env) (R : Room) (s : State) (m : MethodId) (args : Array Value) (below : List Frame) (meth : Method) (c : Code) (H : Heap) (locs : List Loc) (cells slots : Nat) (Q : State → Prop) (g : JFrame) (q : Addr) : Prop :=
  ∀ T : State, T.heap = H → Stand p l e R s m args below meth c T locs cells slots → ∃ t, Steps p.tables e below ((T.setTop g).pushFrame (.throwing q)) t ∧ Q t
def vx_Run (p : Program) (l : Launch) (e : Env) (R : Room) (s : State) (m : MethodId) (args : Array Value) (below : List Frame) (meth : Method) (c : Code) (H : Heap) (locs : List Loc) (cells slots mc ms : Nat) (g : JFrame) (rest : List Value) (Qa : State → Outcome → State → Prop) (XC : String → State → State → Prop) (free : Addr → Prop) : Prop :=
  ∀ T : State, T.heap = H → Stand p l e R s m args below meth c T locs cells slots →
    (∃ (v : Option Value) (st₀ t T' : State) (L : List Loc), st₀.heap = H ∧ Stand p l e R s m args below meth c T' (locs ++ L) (cells + mc) (slots + ms) ∧ (∀ q ∈ L, free q.base) ∧ T'.heap = t.heap ∧ T'.vm = t.vm ∧ Qa st₀ (.returned v) t ∧
      Goes p e below T g T' { g with pc := g.pc + 3, stack := v.toList ++ rest }) ∨
    (∃ (q : Addr) (st₀ t T' : State) (L : List Loc) (E : String) (ce : Cell), st₀.heap = H ∧ Stand p l e R s m args below meth c T' (locs ++ L) (cells + mc) (slots + ms) ∧ (∀ z ∈ L, free z.base) ∧ T'.heap = t.heap ∧ T'.vm = t.vm ∧ XC E st₀ t ∧ t.heap[q]? = some ce ∧ ce.vm = .none ∧ s.vm.findClass E = some ce.cls ∧
      Steps p.tables e below (T.setTop g) ((T'.setTop { g with stack := rest }).pushFrame (.throwing q)))
def vx_X {S : Type} (px : S → Prop) (B : String → S → State → Prop) (A : Nat → Prop) : String → State → State → Prop := fun E st t => ∃ u : S, px u ∧ B E u t ∧ va_F A st t
section Runs
variable {p : Program} {l : Launch} {e : Env} {R : Room} {s : State} {m : MethodId} {args : Array Value} {below : List Frame} {meth : Method} {c : Code} {H : Heap} {locs : List Loc} {cells slots : Nat}
variable {y : MethodName} {bytes cc : ByteArray} {maxL nL mc ms n index : Nat} {ret : Option FieldType} {ws : List Cond} {rm : Room} {Pc : Array Value → State → Prop} {Qc : Array Value → State → Outcome → State → Prop} {XC : String → State → State → Prop} {free : Addr → Prop} {Ts : List Cond} {own C : String} {b : Addr} {As rest : List Value} {g : JFrame}
theorem vx_callBack (cb : CallB R s args own index y bytes maxL ret ws rm mc ms n) (hM : vx_Met l y ws rm Pc Qc XC mc ms free) (hbl : FrameBlind Pc) : vx_Back l R p e below s args y 3 8 (PreOf R mc ms Pc) (PostOf Qc mc ms free) (vx_Post XC mc ms free) := by
  obtain ⟨hrc, hrs, hfr, hlo, hws, hcw, -, hini, -⟩ := cb
  exact vx_back (bytes := bytes) (maxL := maxL) (ret := ret) hM hbl hrc hrs hfr hlo hws hcw (fun a' U hW => word_at hW (Or.inl (by first | rfl | simp [Cond.onTables, Cond.keeps, Cond.steady])) hini)
theorem vx_runV (S : CallFix p m c cc nL s args Ts own) (hM : vx_Met l y ws rm Pc Qc XC mc ms free) (cw : CallW R s args own C index y bytes maxL ret ws rm mc ms n) (hp : PreV s H C b Pc As)
    (hg : g.method = m) (hn : As.length = n) (hsize : g.locals.size = nL) (hstack : g.stack = As.reverse ++ .ref b :: rest) (hW : 2 * g.monitorRoom + (rest.map fun v => v.category).sum ≤ 8) (hdg : decode cc g.pc = .ok (.invokevirtual index, 3)) (hf : cells + mc ≤ R.cells ∧ slots + ms ≤ R.slots) :
    vx_Run p l e R s m args below meth c H locs cells slots mc ms g rest (Qc (Value.ref b :: As).toArray) XC free := by
  have hK : vx_Back l R p e below s args y 3 8 (PreOf R mc ms Pc) (PostOf Qc mc ms free) (vx_Post XC mc ms free) := vx_callBack cw.1 hM hp.1
  obtain ⟨⟨-, -, -, -, -, -, hcode, -, hy, hlen, hl⟩, hin, hse⟩ := cw
  obtain ⟨hx, hb, hml, ho, -⟩ := S
  obtain ⟨-, ⟨cellB, hcB, hoB, hclB⟩, hPc⟩ := hp
  intro T hT X
  rcases vx_callV X hx (C := C) (bytes := bytes) (maxL := maxL) (ret := ret) ho hl hin hse hcode hy hK (by rw [hT]; exact hcB) hoB hclB hg (hsize.trans hml.symm) (argsL := As) (rest := rest) (fun sig h => hn.trans (hlen sig h)) hstack hW (by rw [hb]; exact hdg)
    (fun vm₁ hW₁ => ⟨hf.1, hf.2, hPc (T.setVm vm₁) hT hW₁⟩) with ⟨v, vm₁, ⟨U', l2, c2, s2⟩, hW₁, X', ⟨g', mk, t, L, e1, e2, hq, h1, hL, h2, h3⟩, st⟩ | ⟨q, vm₁, ⟨U', l2, c2, s2⟩, hW₁, X', ⟨g', mk, t, L, E, ce, e1, e2, hq, hce, hcv, hcl, h1, hL, h2, h3⟩, st⟩
  · dsimp only [Pt.U, Pt.locs, Pt.cells, Pt.slots] at X' e1 e2 h1 h2 h3 st
    subst h1; subst h2; subst h3
    exact Or.inl ⟨v, (T.setVm vm₁).calling g' mk (Value.ref b :: As).toArray, t, U', L, hT, X', hL, e1, e2, hq, st⟩
  · dsimp only [Pt.U, Pt.locs, Pt.cells, Pt.slots] at X' e1 e2 h1 h2 h3 st hcl
    subst h1; subst h2; subst h3
    exact Or.inr ⟨q, (T.setVm vm₁).calling g' mk (Value.ref b :: As).toArray, t, U', L, E, ce, hT, X', hL, e1, e2, hq, hce, hcv, vx_cls hW₁ hcl, st⟩
theorem vx_runS (S : CallFix p m c cc nL s args Ts own) (hM : vx_Met l y ws rm Pc Qc XC mc ms free) (cw : CallB R s args own index y bytes maxL ret ws rm mc ms n ∧ (Cond.static y).before args s = true) (hp : PreS s H Pc As)
    (hg : g.method = m) (hn : As.length = n) (hsize : g.locals.size = nL) (hstack : g.stack = As.reverse ++ rest) (hW : 2 * g.monitorRoom + (rest.map fun v => v.category).sum ≤ 8) (hdg : decode cc g.pc = .ok (.invokestatic index, 3)) (hf : cells + mc ≤ R.cells ∧ slots + ms ≤ R.slots) :
    vx_Run p l e R s m args below meth c H locs cells slots mc ms g rest (Qc As.toArray) XC free := by
  have hK : vx_Back l R p e below s args y 3 8 (PreOf R mc ms Pc) (PostOf Qc mc ms free) (vx_Post XC mc ms free) := vx_callBack cw.1 hM hp.1
  obtain ⟨⟨-, -, -, -, -, -, hcode, hini, hy, hlen, hl⟩, hstt⟩ := cw
  obtain ⟨hx, hb, hml, ho, -⟩ := S
  intro T hT X
  rcases vx_callS X hx (bytes := bytes) (maxL := maxL) (ret := ret) ho hl hstt hini hcode hy hK hg (hsize.trans hml.symm) (argsL := As) (rest := rest) (fun sig h => hn.trans (hlen sig h)) hstack hW (by rw [hb]; exact hdg)
    (fun vm₁ hW₁ => ⟨hf.1, hf.2, hp.2 (T.setVm vm₁) hT hW₁⟩) with ⟨v, vm₁, ⟨U', l2, c2, s2⟩, hW₁, X', ⟨g', mk, t, L, e1, e2, hq, h1, hL, h2, h3⟩, st⟩ | ⟨q, vm₁, ⟨U', l2, c2, s2⟩, hW₁, X', ⟨g', mk, t, L, E, ce, e1, e2, hq, hce, hcv, hcl, h1, hL, h2, h3⟩, st⟩
  · dsimp only [Pt.U, Pt.locs, Pt.cells, Pt.slots] at X' e1 e2 h1 h2 h3 st
    subst h1; subst h2; subst h3
    exact Or.inl ⟨v, (T.setVm vm₁).calling g' mk As.toArray, t, U', L, hT, X', hL, e1, e2, hq, st⟩
  · dsimp only [Pt.U, Pt.locs, Pt.cells, Pt.slots] at X' e1 e2 h1 h2 h3 st hcl
    subst h1; subst h2; subst h3
    exact Or.inr ⟨q, (T.setVm vm₁).calling g' mk As.toArray, t, U', L, E, ce, hT, X', hL, e1, e2, hq, hce, hcv, vx_cls hW₁ hcl, st⟩
end Runs
section Rows
variable {p : Program} {l : Launch} {e : Env} {R : Room} {s : State} {m : MethodId} {args : Array Value} {below : List Frame} {meth : Method} {c : Code} {H : Heap} {locs : List Loc} {cells slots : Nat} {Q : State → Prop}
variable {mc ms : Nat} {free : Addr → Prop} {A0 A1 : Nat → Prop} {H0 : Heap} {a : Array Value} {pc : Nat} {ls : Array Slot} {st0 rest : List Value}
theorem vx_keep {st₀ t T' : State} {L : List Loc} (h0 : st₀.heap = H) (e1 : T'.heap = t.heap) (hS : va_S A0 H0 H locs) (hA : ∀ q, q < H.size → A1 q → A0 q) (hf : ∀ q, free q → A0 q) (hL : ∀ q ∈ L, free q.base) (hF : va_F A1 st₀ t) :
    H.size ≤ T'.heap.size ∧ (∀ q : Nat, q < H.size → ¬ A1 q → T'.heap[q]? = H[q]?) ∧ va_S A0 H0 T'.heap (locs ++ L) := by
  obtain ⟨hz, hk⟩ := hF
  rw [h0] at hz hk
  exact ⟨by rw [e1]; exact hz, fun q h1 h2 => by rw [e1]; exact hk q h1 h2,
    ⟨Nat.le_trans hS.1 (by rw [e1]; exact hz), fun q h1 h2 => by rw [e1, hk q (Nat.lt_of_lt_of_le h1 hS.1) (fun z => h2 (hA q (Nat.lt_of_lt_of_le h1 hS.1) z))]; exact hS.2.1 q h1 h2, fun q hq => by
      rcases List.mem_append.mp hq with h | h
      · exact hS.2.2 q h
      · exact hf _ (hL q h)⟩⟩
theorem vx_calli {S SX : Type} {post : Int32 → S → Prop} {px : SX → Prop} {B : S → State → Prop} {BX : String → SX → State → Prop} {AX : Nat → Prop} (hr : vx_Run p l e R s m args below meth c H locs cells slots mc ms (F0 m pc ls st0) rest (va_Qi post B A1 a) (vx_X px BX AX) free) (hS : va_S A0 H0 H locs) (hA : ∀ q, q < H.size → A1 q → A0 q) (hf : ∀ q, free q → A0 q) (hAX : ∀ q, q < H.size → AX q → A0 q)
    (kx : ∀ (E : String) (ce : Cell) (q9 : Addr) (u : SX) (t : State) (H1 : Heap) (locs1 : List Loc), t.heap = H1 → s.vm.Alike t.vm → px u → BX E u t → H.size ≤ H1.size → (∀ q : Nat, q < H.size → ¬ AX q → H1[q]? = H[q]?) → va_S A0 H0 H1 locs1 → H1[q9]? = some ce → ce.vm = .none → s.vm.findClass E = some ce.cls → vx_W p l e R s m args below meth c H1 locs1 (cells + mc) (slots + ms) Q (F0 m pc ls rest) q9)
    (kk : ∀ (r : Int32) (u : S) (t : State) (H1 : Heap) (locs1 : List Loc), t.heap = H1 → s.vm.Alike t.vm → post r u → B u t → H.size ≤ H1.size → (∀ q : Nat, q < H.size → ¬ A1 q → H1[q]? = H[q]?) → va_S A0 H0 H1 locs1 → W p l e R s m args below meth c H1 locs1 (cells + mc) (slots + ms) Q (F0 m (pc + 3) ls (.int r :: rest))) : W p l e R s m args below meth c H locs cells slots Q (F0 m pc ls st0) := by
  intro T hT X
  rcases hr T hT X with ⟨v, st₀, t, T', L, h0, X', hL, e1, e2, ⟨⟨r, u, hv, hp, hb⟩, hF⟩, st⟩ | ⟨q, st₀, t, T', L, E, ce, h0, X', hL, e1, e2, ⟨u, hp, hb, hF⟩, hce, hcv, hcl, st⟩
  · cases hv
    obtain ⟨k1, k2, k3⟩ := vx_keep h0 e1 hS hA hf hL hF
    obtain ⟨t2, a1, b1⟩ := kk r u t T'.heap (locs ++ L) e1.symm (by rw [← e2]; exact X'.warmed.alike) hp hb k1 k2 k3 T' rfl X'
    exact ⟨t2, st t2 a1, b1⟩
  · obtain ⟨k1, k2, k3⟩ := vx_keep h0 e1 hS hAX hf hL hF
    obtain ⟨t2, a1, b1⟩ := kx E ce q u t T'.heap (locs ++ L) e1.symm (by rw [← e2]; exact X'.warmed.alike) hp hb k1 k2 k3 (by rw [e1]; exact hce) hcv hcl T' rfl X'
    exact ⟨t2, st.trans a1, b1⟩
theorem vx_calll {S SX : Type} {post : Int64 → S → Prop} {px : SX → Prop} {B : S → State → Prop} {BX : String → SX → State → Prop} {AX : Nat → Prop} (hr : vx_Run p l e R s m args below meth c H locs cells slots mc ms (F0 m pc ls st0) rest (va_Ql post B A1 a) (vx_X px BX AX) free) (hS : va_S A0 H0 H locs) (hA : ∀ q, q < H.size → A1 q → A0 q) (hf : ∀ q, free q → A0 q) (hAX : ∀ q, q < H.size → AX q → A0 q)
    (kx : ∀ (E : String) (ce : Cell) (q9 : Addr) (u : SX) (t : State) (H1 : Heap) (locs1 : List Loc), t.heap = H1 → s.vm.Alike t.vm → px u → BX E u t → H.size ≤ H1.size → (∀ q : Nat, q < H.size → ¬ AX q → H1[q]? = H[q]?) → va_S A0 H0 H1 locs1 → H1[q9]? = some ce → ce.vm = .none → s.vm.findClass E = some ce.cls → vx_W p l e R s m args below meth c H1 locs1 (cells + mc) (slots + ms) Q (F0 m pc ls rest) q9)
    (kk : ∀ (r : Int64) (u : S) (t : State) (H1 : Heap) (locs1 : List Loc), t.heap = H1 → s.vm.Alike t.vm → post r u → B u t → H.size ≤ H1.size → (∀ q : Nat, q < H.size → ¬ A1 q → H1[q]? = H[q]?) → va_S A0 H0 H1 locs1 → W p l e R s m args below meth c H1 locs1 (cells + mc) (slots + ms) Q (F0 m (pc + 3) ls (.long r :: rest))) : W p l e R s m args below meth c H locs cells slots Q (F0 m pc ls st0) := by
  intro T hT X
  rcases hr T hT X with ⟨v, st₀, t, T', L, h0, X', hL, e1, e2, ⟨⟨r, u, hv, hp, hb⟩, hF⟩, st⟩ | ⟨q, st₀, t, T', L, E, ce, h0, X', hL, e1, e2, ⟨u, hp, hb, hF⟩, hce, hcv, hcl, st⟩
  · cases hv
    obtain ⟨k1, k2, k3⟩ := vx_keep h0 e1 hS hA hf hL hF
    obtain ⟨t2, a1, b1⟩ := kk r u t T'.heap (locs ++ L) e1.symm (by rw [← e2]; exact X'.warmed.alike) hp hb k1 k2 k3 T' rfl X'
    exact ⟨t2, st t2 a1, b1⟩
  · obtain ⟨k1, k2, k3⟩ := vx_keep h0 e1 hS hAX hf hL hF
    obtain ⟨t2, a1, b1⟩ := kx E ce q u t T'.heap (locs ++ L) e1.symm (by rw [← e2]; exact X'.warmed.alike) hp hb k1 k2 k3 (by rw [e1]; exact hce) hcv hcl T' rfl X'
    exact ⟨t2, st.trans a1, b1⟩
theorem vx_callf {S SX : Type} {post : UInt32 → S → Prop} {px : SX → Prop} {B : S → State → Prop} {BX : String → SX → State → Prop} {AX : Nat → Prop} (hr : vx_Run p l e R s m args below meth c H locs cells slots mc ms (F0 m pc ls st0) rest (va_Qf post B A1 a) (vx_X px BX AX) free) (hS : va_S A0 H0 H locs) (hA : ∀ q, q < H.size → A1 q → A0 q) (hf : ∀ q, free q → A0 q) (hAX : ∀ q, q < H.size → AX q → A0 q)
    (kx : ∀ (E : String) (ce : Cell) (q9 : Addr) (u : SX) (t : State) (H1 : Heap) (locs1 : List Loc), t.heap = H1 → s.vm.Alike t.vm → px u → BX E u t → H.size ≤ H1.size → (∀ q : Nat, q < H.size → ¬ AX q → H1[q]? = H[q]?) → va_S A0 H0 H1 locs1 → H1[q9]? = some ce → ce.vm = .none → s.vm.findClass E = some ce.cls → vx_W p l e R s m args below meth c H1 locs1 (cells + mc) (slots + ms) Q (F0 m pc ls rest) q9)
    (kk : ∀ (r : UInt32) (u : S) (t : State) (H1 : Heap) (locs1 : List Loc), t.heap = H1 → s.vm.Alike t.vm → post r u → B u t → H.size ≤ H1.size → (∀ q : Nat, q < H.size → ¬ A1 q → H1[q]? = H[q]?) → va_S A0 H0 H1 locs1 → W p l e R s m args below meth c H1 locs1 (cells + mc) (slots + ms) Q (F0 m (pc + 3) ls (.float r :: rest))) : W p l e R s m args below meth c H locs cells slots Q (F0 m pc ls st0) := by
  intro T hT X
  rcases hr T hT X with ⟨v, st₀, t, T', L, h0, X', hL, e1, e2, ⟨⟨r, u, hv, hp, hb⟩, hF⟩, st⟩ | ⟨q, st₀, t, T', L, E, ce, h0, X', hL, e1, e2, ⟨u, hp, hb, hF⟩, hce, hcv, hcl, st⟩
  · cases hv
    obtain ⟨k1, k2, k3⟩ := vx_keep h0 e1 hS hA hf hL hF
    obtain ⟨t2, a1, b1⟩ := kk r u t T'.heap (locs ++ L) e1.symm (by rw [← e2]; exact X'.warmed.alike) hp hb k1 k2 k3 T' rfl X'
    exact ⟨t2, st t2 a1, b1⟩
  · obtain ⟨k1, k2, k3⟩ := vx_keep h0 e1 hS hAX hf hL hF
    obtain ⟨t2, a1, b1⟩ := kx E ce q u t T'.heap (locs ++ L) e1.symm (by rw [← e2]; exact X'.warmed.alike) hp hb k1 k2 k3 (by rw [e1]; exact hce) hcv hcl T' rfl X'
    exact ⟨t2, st.trans a1, b1⟩
theorem vx_calld {S SX : Type} {post : UInt64 → S → Prop} {px : SX → Prop} {B : S → State → Prop} {BX : String → SX → State → Prop} {AX : Nat → Prop} (hr : vx_Run p l e R s m args below meth c H locs cells slots mc ms (F0 m pc ls st0) rest (va_Qd post B A1 a) (vx_X px BX AX) free) (hS : va_S A0 H0 H locs) (hA : ∀ q, q < H.size → A1 q → A0 q) (hf : ∀ q, free q → A0 q) (hAX : ∀ q, q < H.size → AX q → A0 q)
    (kx : ∀ (E : String) (ce : Cell) (q9 : Addr) (u : SX) (t : State) (H1 : Heap) (locs1 : List Loc), t.heap = H1 → s.vm.Alike t.vm → px u → BX E u t → H.size ≤ H1.size → (∀ q : Nat, q < H.size → ¬ AX q → H1[q]? = H[q]?) → va_S A0 H0 H1 locs1 → H1[q9]? = some ce → ce.vm = .none → s.vm.findClass E = some ce.cls → vx_W p l e R s m args below meth c H1 locs1 (cells + mc) (slots + ms) Q (F0 m pc ls rest) q9)
    (kk : ∀ (r : UInt64) (u : S) (t : State) (H1 : Heap) (locs1 : List Loc), t.heap = H1 → s.vm.Alike t.vm → post r u → B u t → H.size ≤ H1.size → (∀ q : Nat, q < H.size → ¬ A1 q → H1[q]? = H[q]?) → va_S A0 H0 H1 locs1 → W p l e R s m args below meth c H1 locs1 (cells + mc) (slots + ms) Q (F0 m (pc + 3) ls (.double r :: rest))) : W p l e R s m args below meth c H locs cells slots Q (F0 m pc ls st0) := by
  intro T hT X
  rcases hr T hT X with ⟨v, st₀, t, T', L, h0, X', hL, e1, e2, ⟨⟨r, u, hv, hp, hb⟩, hF⟩, st⟩ | ⟨q, st₀, t, T', L, E, ce, h0, X', hL, e1, e2, ⟨u, hp, hb, hF⟩, hce, hcv, hcl, st⟩
  · cases hv
    obtain ⟨k1, k2, k3⟩ := vx_keep h0 e1 hS hA hf hL hF
    obtain ⟨t2, a1, b1⟩ := kk r u t T'.heap (locs ++ L) e1.symm (by rw [← e2]; exact X'.warmed.alike) hp hb k1 k2 k3 T' rfl X'
    exact ⟨t2, st t2 a1, b1⟩
  · obtain ⟨k1, k2, k3⟩ := vx_keep h0 e1 hS hAX hf hL hF
    obtain ⟨t2, a1, b1⟩ := kx E ce q u t T'.heap (locs ++ L) e1.symm (by rw [← e2]; exact X'.warmed.alike) hp hb k1 k2 k3 (by rw [e1]; exact hce) hcv hcl T' rfl X'
    exact ⟨t2, st.trans a1, b1⟩
theorem vx_callv {S SX : Type} {post : S → Prop} {px : SX → Prop} {B : S → State → Prop} {BX : String → SX → State → Prop} {AX : Nat → Prop} (hr : vx_Run p l e R s m args below meth c H locs cells slots mc ms (F0 m pc ls st0) rest (va_Qv post B A1 a) (vx_X px BX AX) free) (hS : va_S A0 H0 H locs) (hA : ∀ q, q < H.size → A1 q → A0 q) (hf : ∀ q, free q → A0 q) (hAX : ∀ q, q < H.size → AX q → A0 q)
    (kx : ∀ (E : String) (ce : Cell) (q9 : Addr) (u : SX) (t : State) (H1 : Heap) (locs1 : List Loc), t.heap = H1 → s.vm.Alike t.vm → px u → BX E u t → H.size ≤ H1.size → (∀ q : Nat, q < H.size → ¬ AX q → H1[q]? = H[q]?) → va_S A0 H0 H1 locs1 → H1[q9]? = some ce → ce.vm = .none → s.vm.findClass E = some ce.cls → vx_W p l e R s m args below meth c H1 locs1 (cells + mc) (slots + ms) Q (F0 m pc ls rest) q9)
    (kk : ∀ (u : S) (t : State) (H1 : Heap) (locs1 : List Loc), t.heap = H1 → s.vm.Alike t.vm → post u → B u t → H.size ≤ H1.size → (∀ q : Nat, q < H.size → ¬ A1 q → H1[q]? = H[q]?) → va_S A0 H0 H1 locs1 → W p l e R s m args below meth c H1 locs1 (cells + mc) (slots + ms) Q (F0 m (pc + 3) ls (rest))) : W p l e R s m args below meth c H locs cells slots Q (F0 m pc ls st0) := by
  intro T hT X
  rcases hr T hT X with ⟨v, st₀, t, T', L, h0, X', hL, e1, e2, ⟨⟨u, hv, hp, hb⟩, hF⟩, st⟩ | ⟨q, st₀, t, T', L, E, ce, h0, X', hL, e1, e2, ⟨u, hp, hb, hF⟩, hce, hcv, hcl, st⟩
  · cases hv
    obtain ⟨k1, k2, k3⟩ := vx_keep h0 e1 hS hA hf hL hF
    obtain ⟨t2, a1, b1⟩ := kk u t T'.heap (locs ++ L) e1.symm (by rw [← e2]; exact X'.warmed.alike) hp hb k1 k2 k3 T' rfl X'
    exact ⟨t2, st t2 a1, b1⟩
  · obtain ⟨k1, k2, k3⟩ := vx_keep h0 e1 hS hAX hf hL hF
    obtain ⟨t2, a1, b1⟩ := kx E ce q u t T'.heap (locs ++ L) e1.symm (by rw [← e2]; exact X'.warmed.alike) hp hb k1 k2 k3 (by rw [e1]; exact hce) hcv hcl T' rfl X'
    exact ⟨t2, st.trans a1, b1⟩
/-- caught by the row x of this method's table; the rows ahead don't take it -/
theorem vx_catch {own name : String} {E : String} {ce : Cell} {q : Addr} (hown : s.vm.findClass own = some m.cls) (pre : List ExceptionTableEntry) (x : ExceptionTableEntry) (suf : List ExceptionTableEntry) (hsplit : c.exceptionTable.toList = pre ++ x :: suf)
    (hpass : ∀ z ∈ pre, covers z pc = false ∨ (z.catchType ≠ 0 ∧ ∃ nm : String, (Cond.classLink own z.catchType nm).before args s = true ∧ va_Nc E nm s)) (hx : covers x pc = true) (h0 : x.catchType ≠ 0)
    (hlink : (Cond.classLink own x.catchType name).before args s = true) (hcast : (Cond.castable E name).before args s = true) (hcell : H[q]? = some ce) (hv : ce.vm = .none) (hcl : s.vm.findClass E = some ce.cls)
    (kk : W p l e R s m args below meth c H locs cells slots Q (F0 m x.handlerPc ls [.ref q])) : vx_W p l e R s m args below meth c H locs cells slots Q (F0 m pc ls rest) q := by
  intro T hT X
  have hpl : e.platform.magicAccessors = ({} : Platform).magicAccessors := by rw [X.admits.platform]
  obtain ⟨c3, c4, hc3, hc4, hasg⟩ := Cond.castable_spec hcast
  cases Option.some.inj (hc3.symm.trans hcl)
  obtain ⟨c5, hc5, hcl5⟩ := Cond.classLink_spec hown hlink e.platform hpl
  cases Option.some.inj (hc4.symm.trans hc5)
  obtain ⟨vm', X', st⟩ := X.thenCaughtThrough q (g := F0 m pc ls rest) rfl (Steps.refl _) (by rw [hT]; exact hcell) (by rw [hv]; rfl) (by obtain ⟨k9, h9, -⟩ := Vm.findClass_spec hcl; exact ⟨k9, h9⟩) pre x suf hsplit
    (fun z hz => by
      rcases hpass z hz with h | ⟨hz0, nm, hl1, hn1⟩
      · exact Or.inl h
      · obtain ⟨c6, hc6, hcl6⟩ := Cond.classLink_spec hown hl1 e.platform hpl
        obtain ⟨a8, b8, h1, h2, h3⟩ := hn1
        cases Option.some.inj (h1.symm.trans hcl)
        cases Option.some.inj (h2.symm.trans hc6)
        exact Or.inr ⟨hz0, _, hcl6, h3⟩) hx (Or.inr ⟨h0, c4, hcl5, hasg⟩)
  obtain ⟨t, a1, b1⟩ := kk (T.setVm vm') hT X'
  exact ⟨t, st.trans a1, b1⟩
end Rows
section Ends
variable {p : Program} {l : Launch} {e : Env} {R : Room} {s : State} {m : MethodId} {args : Array Value} {below : List Frame} {meth : Method} {c : Code} {H : Heap} {locs : List Loc} {cells slots : Nat} {Q : State → Prop}
variable {mc ms : Nat} {free : Addr → Prop} {A0 A1 : Nat → Prop} {H0 : Heap} {a : Array Value} {ls : Array Slot} {st0 rest : List Value}
variable {Qc : Array Value → State → Outcome → State → Prop} {XC : String → State → State → Prop}
/-- what a body that may throw owes at its end -/
def vx_MQ (below : List Frame) (Qc : Array Value → State → Outcome → State → Prop) (XC : String → State → State → Prop) (a : Array Value) (s : State) (mc ms : Nat) (free : Addr → Prop) : State → Prop := fun t =>
  ∃ o, t.status = .running ∧ Ended t below o ∧ vx_Q Qc XC mc ms free a s o t
theorem vx_ret {g : JFrame} {mc ms : Nat} (k : W p l e R s m args below meth c H locs cells slots (MQ below Qc args s mc ms free) g) : W p l e R s m args below meth c H locs cells slots (vx_MQ below Qc XC args s mc ms free) g := by
  intro T hT X
  obtain ⟨t, a1, o, b1, b2, b3, b4⟩ := k T hT X
  exact ⟨t, a1, o, b1, b2, Or.inl ⟨b3, b4⟩⟩
/-- not caught here: it goes on to the caller -/
theorem vx_widen {g : JFrame} {q : Addr} {k n : Nat} (h1 : cells ≤ k) (h2 : slots ≤ n) (kk : vx_W p l e R s m args below meth c H locs k n Q g q) : vx_W p l e R s m args below meth c H locs cells slots Q g q := fun T hT X => kk T hT (stand_widen X h1 h2)
theorem vx_out {pc : Nat} {E : String} {ce : Cell} {q : Addr} {mc ms : Nat} (hout : ∀ x ∈ c.exceptionTable.toList, covers x pc = false) (hlocks : meth.locks = false) (hcell : H[q]? = some ce) (hv : ce.vm = .none) (hcl : s.vm.findClass E = some ce.cls)
    (hx : ∀ t : State, t.heap = H → s.vm.Alike t.vm → XC E s t) (hf : ∀ z ∈ locs, free z.base) (hc : cells ≤ mc) (hs : slots ≤ ms) :
    vx_W p l e R s m args below meth c H locs cells slots (vx_MQ below Qc XC args s mc ms free) (F0 m pc ls rest) q := by
  intro T hT X
  obtain ⟨st1, hrun, hend, hW, hsm⟩ := X.leaveThrown q (g := F0 m pc ls rest) rfl rfl rfl hout hlocks
  have hcell9 : (T.setFrames (.throwing q :: below)).heap[q]? = some ce := by
    show T.heap[q]? = some ce
    rw [hT]; exact hcell
  exact ⟨_, st1, .threw q, hrun, hend, Or.inr ⟨q, rfl, E, ce, locs, hx _ hT hW.alike, hcell9, hv, hcl, hW, hsm.mono hc hs, hf⟩⟩
theorem vx_frame {U : State} {k n : Nat} (h : s.sameButNew ({ U with vm := s.vm } : State) locs k n) : s.heap.size ≤ U.heap.size ∧ ∀ q : Nat, q < s.heap.size → (∀ z ∈ locs, z.base ≠ q) → U.heap[q]? = s.heap[q]? := by
  obtain ⟨-, h2, -, -, -, h6⟩ := h
  refine ⟨h2, fun q hq hz => ?_⟩
  obtain ⟨c9, e1, e2, e3, e4⟩ := h6 q _ (Array.getElem?_eq_getElem hq)
  have hs : c9.slots = (s.heap[q]).slots := Array.ext_getElem? fun i => e4 i fun hm => hz _ hm rfl
  have h9 : c9 = s.heap[q] := by
    rw [hs] at e2
    exact e2
  have e5 : U.heap[q]? = some c9 := e1
  rw [e5, h9, Array.getElem?_eq_getElem hq]
/-- the words of a throw but the four that speak of the heap -/
def vx_no (w : Cond) : Bool := decide (w ≠ .isRef (.static Bundle.tN "UNASSIGNED_STACK" Bundle.steD)) && decide (w ≠ .isRef (.static Bundle.tN "SUPPRESSED_SENTINEL" Bundle.listD)) && decide (w ≠ .laysStatic Bundle.tN "UNASSIGNED_STACK" Bundle.steD) && decide (w ≠ .laysStatic Bundle.tN "SUPPRESSED_SENTINEL" Bundle.listD)
def vx_at0 (own : String) (ic : Nat) (X : String) (names : List String) : List Cond := (Bundle.ownAtoms0 own ic X names).filter vx_no
def vx_atS (own : String) (ic : Nat) (X : String) (names : List String) : List Cond := (Bundle.ownAtoms own ic X names).filter vx_no
/-- a word that the tables alone decide, or a good one -/
def vx_ot (w : Cond) : Bool := w.onTables || goodWord w
theorem vx_ot_at {args a' : Array Value} {s U : State} {w : Cond} (hW : s.WarmedH U.vm) (hvm : s.vm = U.vm) (hg : vx_ot w = true) (h : w.before args s = true) : w.before a' U = true := by
  simp only [vx_ot, Bool.or_eq_true] at hg
  rcases hg with hg | hg
  · exact va_tabs hg hvm h
  · exact word_at hW (good_of_word hg) h
/-- a list's words: the good ones out of the method's own list, the others by premises of their own -/
theorem vx_hat {args : Array Value} {s : State} {L B : List Cond} (h1 : ∀ w ∈ L.filter goodWord, w.before args s = true) (h2 : ∀ w ∈ L.filter (fun w => !goodWord w), w ∈ B) (h3 : ∀ w ∈ B, w.before args s = true) : ∀ w ∈ L, w.before args s = true := by
  intro w hw
  by_cases g : goodWord w = true
  · exact h1 w (List.mem_filter.mpr ⟨hw, g⟩)
  · refine h3 w (h2 w (List.mem_filter.mpr ⟨hw, ?_⟩))
    show (!goodWord w) = true
    cases hgw : goodWord w
    · rfl
    · exact absurd hgw g
theorem vx_c {args : Array Value} {s : State} {w : Cond} {B : List Cond} (h : w.before args s = true) (t : ∀ w ∈ B, w.before args s = true) : ∀ w' ∈ w :: B, w'.before args s = true := fun w' h' => (List.mem_cons.mp h').elim (fun e => by rw [e]; exact h) (t w')
theorem vx_n {args : Array Value} {s : State} : ∀ w ∈ ([] : List Cond), w.before args s = true := fun _ h => nomatch h
theorem vx_own {args : Array Value} {s : State} {L : List Cond} (h1 : ∀ w ∈ L.filter vx_no, w.before args s = true)
    (hU : (Cond.isRef (.static Bundle.tN "UNASSIGNED_STACK" Bundle.steD)).before args s = true) (hN : (Cond.isRef (.static Bundle.tN "SUPPRESSED_SENTINEL" Bundle.listD)).before args s = true)
    (lU : (Cond.laysStatic Bundle.tN "UNASSIGNED_STACK" Bundle.steD).before args s = true) (lN : (Cond.laysStatic Bundle.tN "SUPPRESSED_SENTINEL" Bundle.listD).before args s = true) : ∀ w ∈ L, w.before args s = true := by
  intro w hw
  by_cases e1 : w = .isRef (.static Bundle.tN "UNASSIGNED_STACK" Bundle.steD)
  · rw [e1]; exact hU
  · by_cases e2 : w = .isRef (.static Bundle.tN "SUPPRESSED_SENTINEL" Bundle.listD)
    · rw [e2]; exact hN
    · by_cases e3 : w = .laysStatic Bundle.tN "UNASSIGNED_STACK" Bundle.steD
      · rw [e3]; exact lU
      · by_cases e4 : w = .laysStatic Bundle.tN "SUPPRESSED_SENTINEL" Bundle.listD
        · rw [e4]; exact lN
        · exact h1 w (List.mem_filter.mpr ⟨hw, by unfold vx_no; rw [decide_eq_true e1, decide_eq_true e2, decide_eq_true e3, decide_eq_true e4]; rfl⟩)
/-- where a static field lies, its class's statics cell in H -/
def vx_L (C n d : String) (A : Nat → Prop) (U : State) (H : Heap) : Prop := ∃ (c : ClassId) (k : Class) (i : Nat) (f : Field) (a : Nat) (cell : Cell), U.vm.findClass C = some c ∧ U.fieldFound? C n d = some (c, k, i, f) ∧ f.isStatic = true ∧ k.statics = some a ∧ H[a]? = some cell ∧ cell.vm.isStatics = true ∧ cell.cls = c ∧ f.slot < cell.slots.size ∧ k.staticTypes[f.slot]? = some f.type ∧ ¬ A a
theorem vx_L.moved {C n d : String} {A : Nat → Prop} {u U : State} {H : Heap} (hvm : u.vm.Alike U.vm) (h : vx_L C n d A u H) : vx_L C n d A U H := by
  obtain ⟨c, k, i, f, a, cell, h1, h2, h3, h4, h5, h6, h7, h8, h9, h10⟩ := h
  obtain ⟨k', hi', he⟩ := State.fieldFound?_setVm hvm h2
  exact ⟨c, k', i, f, a, cell, by rw [hvm.findClass]; exact h1, hi', h3, by rw [he]; exact h4, h5, h6, h7, h8, by rw [he]; exact h9, h10⟩
theorem vx_L.kept {C n d : String} {A : Nat → Prop} {U : State} {H H1 : Heap} (h : vx_L C n d A U H) (hq : ∀ a : Nat, a < H.size → ¬ A a → H1[a]? = H[a]?) : vx_L C n d A U H1 := by
  obtain ⟨c, k, i, f, a, cell, h1, h2, h3, h4, h5, h6, h7, h8, h9, h10⟩ := h
  exact ⟨c, k, i, f, a, cell, h1, h2, h3, h4, by rw [hq a (Array.getElem?_eq_some_iff.mp h5).1 h10]; exact h5, h6, h7, h8, h9, h10⟩
theorem vx_L.narrow {C n d : String} {A B : Nat → Prop} {U : State} {H : Heap} (h : vx_L C n d A U H) (hAB : ∀ q, B q → A q) : vx_L C n d B U H := by
  obtain ⟨c, k, i, f, a, cell, h1, h2, h3, h4, h5, h6, h7, h8, h9, h10⟩ := h
  exact ⟨c, k, i, f, a, cell, h1, h2, h3, h4, h5, h6, h7, h8, h9, fun z => h10 (hAB _ z)⟩
theorem vx_L.word {C n d : String} {A : Nat → Prop} {s : State} {args : Array Value} (h : vx_L C n d A s s.heap) : (Cond.laysStatic C n d).before args s = true := by
  obtain ⟨c, k, i, f, a, cell, h1, h2, h3, h4, h5, h6, h7, h8, h9, -⟩ := h
  show (Cond.laysStatic C n d).holds args s none s [] = true
  exact Cond.laysStatic_of h1 h2 h3 h4 h5 h6 h7 h8 h9
/-- .. and what it holds: null or some reference -/
def vx_Zq (C n d : String) (A : Nat → Prop) (U : State) (H : Heap) : Prop := va_Zq C n d A U H ∧ vx_L C n d A U H
theorem vx_Zq.moved {C n d : String} {A : Nat → Prop} {u U : State} {H : Heap} (hvm : u.vm.Alike U.vm) (h : vx_Zq C n d A u H) : vx_Zq C n d A U H := ⟨va_Zq.moved hvm h.1, vx_L.moved hvm h.2⟩
theorem vx_Zq.kept {C n d : String} {A : Nat → Prop} {U : State} {H H1 : Heap} (h : vx_Zq C n d A U H) (hq : ∀ a : Nat, a < H.size → ¬ A a → H1[a]? = H[a]?) : vx_Zq C n d A U H1 := ⟨va_Zq.kept h.1 hq, vx_L.kept h.2 hq⟩
theorem vx_Zq.narrow {C n d : String} {A B : Nat → Prop} {U : State} {H : Heap} (h : vx_Zq C n d A U H) (hAB : ∀ q, B q → A q) : vx_Zq C n d B U H := ⟨va_Zq.narrow h.1 hAB, vx_L.narrow h.2 hAB⟩
theorem vx_Zqof {args : Array Value} {s : State} {C n d : String} {A : Nat → Prop} (hl : (Cond.laysStatic C n d).before args s = true) (hini : (Cond.initialized C).before args s = true) (h : (Cond.isRef (.static C n d)).before args s = true) (hA : ∀ a : Nat, a < s.heap.size → ¬ A a) : vx_Zq C n d A s s.heap := by
  refine ⟨va_Zqof hl hini h hA, ?_⟩
  obtain ⟨c, k, i, f, a, cell, h1, h2, h3, h4, h5, h6, h7, h8, h9⟩ := Cond.laysStatic_spec hl
  exact ⟨c, k, i, f, a, cell, h1, h2, h3, h4, h5, h6, h7, h8, h9, hA a (Array.getElem?_eq_some_iff.mp h5).1⟩
theorem vx_isRef {C n d : String} {v : Value} {A : Nat → Prop} {s : State} {args : Array Value} (h : va_Z C n d v A s s.heap) (hv : v.isRef = true) : (Cond.isRef (.static C n d)).before args s = true := by
  obtain ⟨cf, kf, fi, f, a, cell, h1, h2, h3, h4, h5, h6, h7, -⟩ := h
  have he : (Term.static C n d).eval args s none [] s = some v := by
    simp [Term.eval, State.fieldNamed?, h1, h2, h4, h5, h6, h7]
  simp only [Cond.before, Cond.holds, Cond.value, he]
  cases v <;> simp_all [Value.isRef]
theorem vx_isRefq {C n d : String} {A : Nat → Prop} {s : State} {args : Array Value} (h : va_Zq C n d A s s.heap) : (Cond.isRef (.static C n d)).before args s = true := by
  rcases h with h | ⟨t, h⟩
  · exact vx_isRef h rfl
  · exact vx_isRef h rfl
/-- the same frame, seen from here: as if the method were called anew in this heap -/
theorem vx_rebase {T : State} (X : Stand p l e R s m args below meth c T locs cells slots) {R' : Room} (hf : R'.frames ≤ R.frames) (hl : R'.locals ≤ R.locals) (hc : cells + R'.cells ≤ R.cells) (hs : slots + R'.slots ≤ R.slots) :
    Stand p l e R' ((T.setVm s.vm).setFrames (.invoking m args :: below)) m args below meth c T [] 0 0 := by
  have htop : (T.setVm s.vm).topJava?.isSome := X.here.top
  have hF : ((T.setVm s.vm).setFrames (.invoking m args :: below)).frames = .invoking m args :: below := State.frames_setFrames _ (State.cur_lt_of_top htop)
  obtain ⟨g₀, hg0⟩ := Option.isSome_iff_exists.mp htop
  obtain ⟨r, hr⟩ := State.topJava?_eq_some.mp hg0
  have hl9 : e.platform.stackLimits (T.setVm s.vm).me = e.platform.stackLimits s.me := X.limits
  have hb9 : (T.setVm s.vm).me.stackBytes = s.me.stackBytes := X.bytes
  refine ⟨X.admits, X.cas, X.clock, hF, ?_, X.hears, X.method, X.code, X.here, X.tail, X.warmed, ?_, ?_, ?_⟩
  · have h := X.room
    have hU : ((T.setVm s.vm).setFrames (.invoking m args :: below)).localsInUse = s.localsInUse := by
      rw [State.localsInUse_invoking hF (meth := meth) (c := c) X.method X.code, State.localsInUse_invoking X.frames X.method X.code]
    simp only [State.hasRoom, Bool.and_eq_true, decide_eq_true_eq] at h ⊢
    obtain ⟨⟨⟨⟨h1, h2, h3, h4, h5, h6⟩, h7⟩, h8⟩, h9⟩ := h
    rw [X.frames, List.length_cons] at h2 h3
    have q1 := X.heapSize
    have q2 := X.used
    simp only [hF, hU, List.length_cons, State.stackLimits_setFrames, State.stackBytes_setFrames, hl9, hb9]
    refine ⟨⟨⟨⟨by omega, by omega, by omega, by omega, by omega, h6⟩, ?_⟩, ?_⟩, X.book⟩
    · show T.heap.size + R'.cells ≤ e.platform.maxCells
      omega
    · show T.slotsUsed + R'.slots ≤ e.platform.maxSlots
      omega
  · rw [State.stackLimits_setFrames]; rfl
  · rw [State.stackBytes_setFrames]; rfl
  · refine ⟨?_, Nat.le_refl _, Nat.le_refl _, ?_, ?_, fun a c9 h9 => ⟨c9, h9, rfl, rfl, fun _ _ => rfl⟩⟩
    · obtain ⟨t, ht, -⟩ := State.frames_cons hr
      show T.setVm s.vm = { ((T.setVm s.vm).setFrames (.invoking m args :: below)).setFrames (T.setVm s.vm).frames with heap := T.heap, slotsUsed := T.slotsUsed }
      rw [State.setFrames_setFrames, State.setFrames_self ht]
      rfl
    · show T.slotsUsed = T.slotsUsed + ((T.heap.toList.drop T.heap.size).map (·.slots.size)).sum
      rw [List.drop_eq_nil_of_le (Nat.le_of_eq Array.length_toList)]
      rfl
    · show ((T.heap.toList.drop T.heap.size).map (·.slots.size)).sum ≤ 0
      rw [List.drop_eq_nil_of_le (Nat.le_of_eq Array.length_toList)]
      exact Nat.le_refl _
/-- 'throw new E()': new; dup; invokespecial; athrow -/
theorem vx_throw0 {cc : ByteArray} {pc : Nat} (hexec : p.tables.exec = Jvm.exec) (hb : c.code = cc) (hl : l.stackTraces = false) {own cls : String} {names : List String} {ik ic mc ms : Nat} {A : Nat → Prop}
    (hown : s.vm.findClass own = some m.cls) (hcls : Bundle.fit cls = true) (hnames : ∀ n ∈ names, Bundle.fit n = true)
    (hk : (Cond.classLink own ik cls).before args s = true) (hini : (Cond.initialized cls).before args s = true) (hat : ∀ w ∈ vx_at0 own ic cls names, w.before args s = true)
    (hgood : ∀ w ∈ Cond.classLink own ik cls :: Cond.initialized cls :: vx_at0 own ic cls names, vx_ot w = true)
    (hU : vx_Zq Bundle.tN "UNASSIGNED_STACK" Bundle.steD A s s.heap) (hN : vx_Zq Bundle.tN "SUPPRESSED_SENTINEL" Bundle.listD A s s.heap) (hS : va_S A s.heap H locs) (hsize : ls.size = c.maxLocals)
    (d0 : decode cc pc = .ok (.new ik, 3)) (d3 : decode cc (pc + 3) = .ok (.dup, 1)) (d4 : decode cc (pc + 4) = .ok (.invokespecial ic, 3)) (d7 : decode cc (pc + 7) = .ok (.athrow, 1))
    (hout : ∀ x ∈ c.exceptionTable.toList, covers x (pc + 7) = false)
    (hRframes : names.length + 3 < R.frames) (hRlocals : (rest.map fun v => v.category).sum + (13 * (names.length + 1) + 42) ≤ R.locals) (hRcells : cells + 1 ≤ R.cells) (hRslots : slots + 6 ≤ R.slots) (hlocks : meth.locks = false)
    (hx : ∀ t : State, s.vm.Alike t.vm → H.size ≤ t.heap.size → (∀ q : Nat, q < H.size → t.heap[q]? = H[q]?) → XC cls s t)
    (hf : ∀ z ∈ locs, free z.base) (hc : cells + 1 ≤ mc) (hs : slots + 6 ≤ ms) :
    W p l e R s m args below meth c H locs cells slots (vx_MQ below Qc XC args s mc ms free) (F0 m pc ls rest) := by
  intro T hT X
  have htr : e.platform.stackTraces = false := (show e.platform.stackTraces = l.stackTraces by rw [X.admits.platform]).trans hl
  have Y := vx_rebase X (R' := { frames := R.frames, locals := R.locals, cells := 1, slots := 6 }) (Nat.le_refl _) (Nat.le_refl _) hRcells hRslots
  obtain ⟨s', hA⟩ : ∃ z, z = (T.setVm s.vm).setFrames (.invoking m args :: below) := ⟨_, rfl⟩
  rw [← hA] at Y
  have hvm : s'.vm = s.vm := by rw [hA]; rfl
  have hhp : s'.heap = H := by rw [hA]; exact hT
  have hW0 : s.WarmedH s'.vm := by rw [hvm]; exact State.WarmedH.refl s
  have hat' : ∀ w ∈ vx_at0 own ic cls names, w.before args s' = true := fun w hw => vx_ot_at hW0 hvm.symm (hgood w (List.mem_cons_of_mem _ (List.mem_cons_of_mem _ hw))) (hat w hw)
  have hk' : (Cond.classLink own ik cls).before args s' = true := vx_ot_at hW0 hvm.symm (hgood _ List.mem_cons_self) hk
  have hini' : (Cond.initialized cls).before args s' = true := vx_ot_at hW0 hvm.symm (hgood _ (List.mem_cons_of_mem _ List.mem_cons_self)) hini
  have hU' : vx_Zq Bundle.tN "UNASSIGNED_STACK" Bundle.steD A s' s'.heap := by rw [hhp]; exact vx_Zq.moved hW0.alike (hU.kept hS.2.1)
  have hN' : vx_Zq Bundle.tN "SUPPRESSED_SENTINEL" Bundle.listD A s' s'.heap := by rw [hhp]; exact vx_Zq.moved hW0.alike (hN.kept hS.2.1)
  have h : ∀ w ∈ Bundle.ownAtoms0 own ic cls names, w.before args s' = true := vx_own hat' (vx_isRefq hU'.1) (vx_isRefq hN'.1) hU'.2.word hN'.2.word
  have hown' : s'.vm.findClass own = some m.cls := by rw [hvm]; exact hown
  have hins : (Cond.instantiable cls 6).before args s' = true := h _ (by simp [Bundle.ownAtoms0])
  obtain ⟨vm₁, cX, kX, hfX, hkX, -, -, X₁, st1⟩ := Y.newCold hexec (own := own) (C := cls) (index := ik) (n := 6) hown' hk' hins hini'
    (g := F0 m pc ls rest) rfl (by rw [hb]; exact d0) (Nat.le_refl _) (Nat.le_refl _)
  generalize hT1 : (T.setVm vm₁).pushCell { cls := cX, slots := kX.instanceTypes.map defaultValue, vm := .none } = T1 at X₁ st1
  have hcat : (Value.ref T.heap.size).category = 1 := rfl
  have hcellA : T1.heap[T.heap.size]? = some (freshCell cX kX) := by rw [← hT1]; exact State.heap_pushCell_size _ _
  have d3' : decode c.code (pc + 3) = .ok (.dup, 1) := by rw [hb]; exact d3
  obtain ⟨U, hsteps, hrun, hend, hW, hsame, ce, hce, hO⟩ := X₁.ctorThrow0 hexec htr (own := own) (cls := cls) (names := names) (ic := ic) hown' hcls hnames h (fun x hx => nomatch hx) hfX hkX hcellA (by rw [hhp, hT]; exact Nat.le_refl _)
    (g := { method := m, pc := pc + 4, locals := ls, stack := .ref T.heap.size :: .ref T.heap.size :: rest, locked := none }) rfl hsize rfl rfl (rest := rest) rfl
    (by rw [hb]; exact d4) (by rw [hb]; exact d7) hout hRframes (by simp only [List.map_cons, List.sum_cons, hcat]; omega) hlocks
  obtain ⟨f1, f2⟩ := vx_frame hsame
  rw [hhp] at f1 f2
  have hWs : s.WarmedH U.vm := State.WarmedH.trans hW0 hW
  have hcl : s.vm.findClass cls = some ce.cls := by
    have h9 := hO.cls
    rw [hvm] at h9
    exact h9
  have hall : s.sameButNew ({ U with vm := s.vm } : State) locs mc ms := by
    subst hA
    obtain ⟨e1, e2⟩ := hsame
    rw [State.setFrames_setFrames] at e1
    have h2 : (T.setVm s.vm).sameButNew ({ U with vm := s.vm } : State) [] (0 + 1) (0 + 6) := ⟨e1, e2⟩
    have h3 := X.same.trans h2
    rw [List.append_nil] at h3
    exact h3.mono hc hs
  refine ⟨U, ?_, .threw T.heap.size, hrun, hend, Or.inr ⟨T.heap.size, rfl, cls, ce, locs, hx U hWs.alike f1 (fun q hq => f2 q hq (fun z hz => nomatch hz)), hce, hO.vm, hcl, hWs, hall, hf⟩⟩
  refine st1 _ ?_
  show Steps p.tables e below (T1.setTop { method := m, pc := pc + 3, locals := ls, stack := .ref T.heap.size :: rest, locked := none }) _
  jvm_step X₁.here [X₁.here.top, hexec, d3', Value.category]
  exact hsteps
/-- 'throw new E("text")': new; dup; ldc; invokespecial; athrow -/
theorem vx_throwS {cc : ByteArray} {pc : Nat} (hexec : p.tables.exec = Jvm.exec) (hb : c.code = cc) (hl : l.stackTraces = false) {own cls text : String} {names : List String} {ik is ic mc ms sa : Nat} {A : Nat → Prop}
    (hown : s.vm.findClass own = some m.cls) (hcls : Bundle.fit cls = true) (hnames : ∀ n ∈ names, Bundle.fit n = true)
    (hk : (Cond.classLink own ik cls).before args s = true) (hini : (Cond.initialized cls).before args s = true) (hstr : vk_R own is text sa s) (hat : ∀ w ∈ vx_atS own ic cls names, w.before args s = true)
    (hgood : ∀ w ∈ Cond.classLink own ik cls :: Cond.initialized cls :: vx_atS own ic cls names, vx_ot w = true)
    (hU : vx_Zq Bundle.tN "UNASSIGNED_STACK" Bundle.steD A s s.heap) (hN : vx_Zq Bundle.tN "SUPPRESSED_SENTINEL" Bundle.listD A s s.heap) (hS : va_S A s.heap H locs) (hsize : ls.size = c.maxLocals)
    (d0 : decode cc pc = .ok (.new ik, 3)) (d3 : decode cc (pc + 3) = .ok (.dup, 1)) (d4 : decode cc (pc + 4) = .ok (.ldc is, 2)) (d6 : decode cc (pc + 6) = .ok (.invokespecial ic, 3)) (d9 : decode cc (pc + 9) = .ok (.athrow, 1))
    (hout : ∀ x ∈ c.exceptionTable.toList, covers x (pc + 9) = false)
    (hRframes : names.length + 3 < R.frames) (hRlocals : (rest.map fun v => v.category).sum + (13 * (names.length + 1) + 43) ≤ R.locals) (hRcells : cells + 1 ≤ R.cells) (hRslots : slots + 6 ≤ R.slots) (hlocks : meth.locks = false)
    (hx : ∀ t : State, s.vm.Alike t.vm → H.size ≤ t.heap.size → (∀ q : Nat, q < H.size → t.heap[q]? = H[q]?) → XC cls s t)
    (hf : ∀ z ∈ locs, free z.base) (hc : cells + 1 ≤ mc) (hs : slots + 6 ≤ ms) :
    W p l e R s m args below meth c H locs cells slots (vx_MQ below Qc XC args s mc ms free) (F0 m pc ls rest) := by
  intro T hT X
  have htr : e.platform.stackTraces = false := (show e.platform.stackTraces = l.stackTraces by rw [X.admits.platform]).trans hl
  have Y := vx_rebase X (R' := { frames := R.frames, locals := R.locals, cells := 1, slots := 6 }) (Nat.le_refl _) (Nat.le_refl _) hRcells hRslots
  obtain ⟨s', hA⟩ : ∃ z, z = (T.setVm s.vm).setFrames (.invoking m args :: below) := ⟨_, rfl⟩
  rw [← hA] at Y
  have hvm : s'.vm = s.vm := by rw [hA]; rfl
  have hhp : s'.heap = H := by rw [hA]; exact hT
  have hW0 : s.WarmedH s'.vm := by rw [hvm]; exact State.WarmedH.refl s
  have hat' : ∀ w ∈ vx_atS own ic cls names, w.before args s' = true := fun w hw => vx_ot_at hW0 hvm.symm (hgood w (List.mem_cons_of_mem _ (List.mem_cons_of_mem _ hw))) (hat w hw)
  have hk' : (Cond.classLink own ik cls).before args s' = true := vx_ot_at hW0 hvm.symm (hgood _ List.mem_cons_self) hk
  have hini' : (Cond.initialized cls).before args s' = true := vx_ot_at hW0 hvm.symm (hgood _ (List.mem_cons_of_mem _ List.mem_cons_self)) hini
  have hU' : vx_Zq Bundle.tN "UNASSIGNED_STACK" Bundle.steD A s' s'.heap := by rw [hhp]; exact vx_Zq.moved hW0.alike (hU.kept hS.2.1)
  have hN' : vx_Zq Bundle.tN "SUPPRESSED_SENTINEL" Bundle.listD A s' s'.heap := by rw [hhp]; exact vx_Zq.moved hW0.alike (hN.kept hS.2.1)
  have h : ∀ w ∈ Bundle.ownAtoms own ic cls names, w.before args s' = true := vx_own hat' (vx_isRefq hU'.1) (vx_isRefq hN'.1) hU'.2.word hN'.2.word
  have hown' : s'.vm.findClass own = some m.cls := by rw [hvm]; exact hown
  have hins : (Cond.instantiable cls 6).before args s' = true := h _ (by simp [Bundle.ownAtoms])
  obtain ⟨vm₁, cX, kX, hfX, hkX, -, -, X₁, st1⟩ := Y.newCold hexec (own := own) (C := cls) (index := ik) (n := 6) hown' hk' hins hini'
    (g := F0 m pc ls rest) rfl (by rw [hb]; exact d0) (Nat.le_refl _) (Nat.le_refl _)
  generalize hT1 : (T.setVm vm₁).pushCell { cls := cX, slots := kX.instanceTypes.map defaultValue, vm := .none } = T1 at X₁ st1
  have hcat : (Value.ref T.heap.size).category = 1 := rfl
  have hcellA : T1.heap[T.heap.size]? = some (freshCell cX kX) := by rw [← hT1]; exact State.heap_pushCell_size _ _
  have d3' : decode c.code (pc + 3) = .ok (.dup, 1) := by rw [hb]; exact d3
  have d4' : decode c.code (pc + 4) = .ok (.ldc is, 2) := by rw [hb]; exact d4
  have hstr' : vk_R own is text sa s' := vk_R.warm hW0 hstr
  obtain ⟨U, hsteps, hrun, hend, hW, hsame, ce, hce, hO⟩ := X₁.ctorThrowS hexec htr (own := own) (cls := cls) (names := names) (ic := ic) hown' hcls hnames h (fun x hx => nomatch hx) hfX hkX hcellA (by rw [hhp, hT]; exact Nat.le_refl _) (msg := .ref sa) rfl
    (g := { method := m, pc := pc + 6, locals := ls, stack := .ref sa :: .ref T.heap.size :: .ref T.heap.size :: rest, locked := none }) rfl hsize rfl rfl (rest := rest) rfl
    (by rw [hb]; exact d6) (by rw [hb]; exact d9) hout hRframes (by simp only [List.map_cons, List.sum_cons, hcat]; omega) hlocks
  obtain ⟨f1, f2⟩ := vx_frame hsame
  rw [hhp] at f1 f2
  have hWs : s.WarmedH U.vm := State.WarmedH.trans hW0 hW
  have hcl : s.vm.findClass cls = some ce.cls := by
    have h9 := hO.cls
    rw [hvm] at h9
    exact h9
  have hall : s.sameButNew ({ U with vm := s.vm } : State) locs mc ms := by
    subst hA
    obtain ⟨e1, e2⟩ := hsame
    rw [State.setFrames_setFrames] at e1
    have h2 : (T.setVm s.vm).sameButNew ({ U with vm := s.vm } : State) [] (0 + 1) (0 + 6) := ⟨e1, e2⟩
    have h3 := X.same.trans h2
    rw [List.append_nil] at h3
    exact h3.mono hc hs
  refine ⟨U, ?_, .threw T.heap.size, hrun, hend, Or.inr ⟨T.heap.size, rfl, cls, ce, locs, hx U hWs.alike f1 (fun q hq => f2 q hq (fun z hz => nomatch hz)), hce, hO.vm, hcl, hWs, hall, hf⟩⟩
  refine st1 _ ?_
  show Steps p.tables e below (T1.setTop { method := m, pc := pc + 3, locals := ls, stack := .ref T.heap.size :: rest, locked := none }) _
  jvm_step X₁.here [X₁.here.top, hexec, d3', Value.category]
  exact X₁.ldcString hexec (own := own) (text := text) (index := is) (a := sa) hown' hstr'.1 hstr'.2
    (g := { method := m, pc := pc + 4, locals := ls, stack := .ref T.heap.size :: .ref T.heap.size :: rest, locked := none }) rfl d4' _ hsteps
/-- 'throw new E("text")', the text by a wide index -/
theorem vx_throwSW {cc : ByteArray} {pc : Nat} (hexec : p.tables.exec = Jvm.exec) (hb : c.code = cc) (hl : l.stackTraces = false) {own cls text : String} {names : List String} {ik is ic mc ms sa : Nat} {A : Nat → Prop}
    (hown : s.vm.findClass own = some m.cls) (hcls : Bundle.fit cls = true) (hnames : ∀ n ∈ names, Bundle.fit n = true)
    (hk : (Cond.classLink own ik cls).before args s = true) (hini : (Cond.initialized cls).before args s = true) (hstr : vk_R own is text sa s) (hat : ∀ w ∈ vx_atS own ic cls names, w.before args s = true)
    (hgood : ∀ w ∈ Cond.classLink own ik cls :: Cond.initialized cls :: vx_atS own ic cls names, vx_ot w = true)
    (hU : vx_Zq Bundle.tN "UNASSIGNED_STACK" Bundle.steD A s s.heap) (hN : vx_Zq Bundle.tN "SUPPRESSED_SENTINEL" Bundle.listD A s s.heap) (hS : va_S A s.heap H locs) (hsize : ls.size = c.maxLocals)
    (d0 : decode cc pc = .ok (.new ik, 3)) (d3 : decode cc (pc + 3) = .ok (.dup, 1)) (d4 : decode cc (pc + 4) = .ok (.ldc_w is, 3)) (d7 : decode cc (pc + 7) = .ok (.invokespecial ic, 3)) (d10 : decode cc (pc + 10) = .ok (.athrow, 1))
    (hout : ∀ x ∈ c.exceptionTable.toList, covers x (pc + 10) = false)
    (hRframes : names.length + 3 < R.frames) (hRlocals : (rest.map fun v => v.category).sum + (13 * (names.length + 1) + 43) ≤ R.locals) (hRcells : cells + 1 ≤ R.cells) (hRslots : slots + 6 ≤ R.slots) (hlocks : meth.locks = false)
    (hx : ∀ t : State, s.vm.Alike t.vm → H.size ≤ t.heap.size → (∀ q : Nat, q < H.size → t.heap[q]? = H[q]?) → XC cls s t)
    (hf : ∀ z ∈ locs, free z.base) (hc : cells + 1 ≤ mc) (hs : slots + 6 ≤ ms) :
    W p l e R s m args below meth c H locs cells slots (vx_MQ below Qc XC args s mc ms free) (F0 m pc ls rest) := by
  intro T hT X
  have htr : e.platform.stackTraces = false := (show e.platform.stackTraces = l.stackTraces by rw [X.admits.platform]).trans hl
  have Y := vx_rebase X (R' := { frames := R.frames, locals := R.locals, cells := 1, slots := 6 }) (Nat.le_refl _) (Nat.le_refl _) hRcells hRslots
  obtain ⟨s', hA⟩ : ∃ z, z = (T.setVm s.vm).setFrames (.invoking m args :: below) := ⟨_, rfl⟩
  rw [← hA] at Y
  have hvm : s'.vm = s.vm := by rw [hA]; rfl
  have hhp : s'.heap = H := by rw [hA]; exact hT
  have hW0 : s.WarmedH s'.vm := by rw [hvm]; exact State.WarmedH.refl s
  have hat' : ∀ w ∈ vx_atS own ic cls names, w.before args s' = true := fun w hw => vx_ot_at hW0 hvm.symm (hgood w (List.mem_cons_of_mem _ (List.mem_cons_of_mem _ hw))) (hat w hw)
  have hk' : (Cond.classLink own ik cls).before args s' = true := vx_ot_at hW0 hvm.symm (hgood _ List.mem_cons_self) hk
  have hini' : (Cond.initialized cls).before args s' = true := vx_ot_at hW0 hvm.symm (hgood _ (List.mem_cons_of_mem _ List.mem_cons_self)) hini
  have hU' : vx_Zq Bundle.tN "UNASSIGNED_STACK" Bundle.steD A s' s'.heap := by rw [hhp]; exact vx_Zq.moved hW0.alike (hU.kept hS.2.1)
  have hN' : vx_Zq Bundle.tN "SUPPRESSED_SENTINEL" Bundle.listD A s' s'.heap := by rw [hhp]; exact vx_Zq.moved hW0.alike (hN.kept hS.2.1)
  have h : ∀ w ∈ Bundle.ownAtoms own ic cls names, w.before args s' = true := vx_own hat' (vx_isRefq hU'.1) (vx_isRefq hN'.1) hU'.2.word hN'.2.word
  have hown' : s'.vm.findClass own = some m.cls := by rw [hvm]; exact hown
  have hins : (Cond.instantiable cls 6).before args s' = true := h _ (by simp [Bundle.ownAtoms])
  obtain ⟨vm₁, cX, kX, hfX, hkX, -, -, X₁, st1⟩ := Y.newCold hexec (own := own) (C := cls) (index := ik) (n := 6) hown' hk' hins hini'
    (g := F0 m pc ls rest) rfl (by rw [hb]; exact d0) (Nat.le_refl _) (Nat.le_refl _)
  generalize hT1 : (T.setVm vm₁).pushCell { cls := cX, slots := kX.instanceTypes.map defaultValue, vm := .none } = T1 at X₁ st1
  have hcat : (Value.ref T.heap.size).category = 1 := rfl
  have hcellA : T1.heap[T.heap.size]? = some (freshCell cX kX) := by rw [← hT1]; exact State.heap_pushCell_size _ _
  have d3' : decode c.code (pc + 3) = .ok (.dup, 1) := by rw [hb]; exact d3
  have d4' : decode c.code (pc + 4) = .ok (.ldc_w is, 3) := by rw [hb]; exact d4
  have hstr' : vk_R own is text sa s' := vk_R.warm hW0 hstr
  obtain ⟨U, hsteps, hrun, hend, hW, hsame, ce, hce, hO⟩ := X₁.ctorThrowS hexec htr (own := own) (cls := cls) (names := names) (ic := ic) hown' hcls hnames h (fun x hx => nomatch hx) hfX hkX hcellA (by rw [hhp, hT]; exact Nat.le_refl _) (msg := .ref sa) rfl
    (g := { method := m, pc := pc + 7, locals := ls, stack := .ref sa :: .ref T.heap.size :: .ref T.heap.size :: rest, locked := none }) rfl hsize rfl rfl (rest := rest) rfl
    (by rw [hb]; exact d7) (by rw [hb]; exact d10) hout hRframes (by simp only [List.map_cons, List.sum_cons, hcat]; omega) hlocks
  obtain ⟨f1, f2⟩ := vx_frame hsame
  rw [hhp] at f1 f2
  have hWs : s.WarmedH U.vm := State.WarmedH.trans hW0 hW
  have hcl : s.vm.findClass cls = some ce.cls := by
    have h9 := hO.cls
    rw [hvm] at h9
    exact h9
  have hall : s.sameButNew ({ U with vm := s.vm } : State) locs mc ms := by
    subst hA
    obtain ⟨e1, e2⟩ := hsame
    rw [State.setFrames_setFrames] at e1
    have h2 : (T.setVm s.vm).sameButNew ({ U with vm := s.vm } : State) [] (0 + 1) (0 + 6) := ⟨e1, e2⟩
    have h3 := X.same.trans h2
    rw [List.append_nil] at h3
    exact h3.mono hc hs
  refine ⟨U, ?_, .threw T.heap.size, hrun, hend, Or.inr ⟨T.heap.size, rfl, cls, ce, locs, hx U hWs.alike f1 (fun q hq => f2 q hq (fun z hz => nomatch hz)), hce, hO.vm, hcl, hWs, hall, hf⟩⟩
  refine st1 _ ?_
  show Steps p.tables e below (T1.setTop { method := m, pc := pc + 3, locals := ls, stack := .ref T.heap.size :: rest, locked := none }) _
  jvm_step X₁.here [X₁.here.top, hexec, d3', Value.category]
  exact X₁.ldcStringW hexec (own := own) (text := text) (index := is) (a := sa) hown' hstr'.1 hstr'.2
    (g := { method := m, pc := pc + 4, locals := ls, stack := .ref T.heap.size :: .ref T.heap.size :: rest, locked := none }) rfl d4' _ hsteps
end Ends
section Bodies
variable {l : Launch}
theorem vx_ofW {y : MethodName} {ws ws' : List Cond} {rm : Room} {Pc : Array Value → State → Prop} {Qc : Array Value → State → Outcome → State → Prop} {XC : String → State → State → Prop} {mc ms : Nat} {free : Addr → Prop} {cc : ByteArray} {maxL : Nat} {ret : Option FieldType}
    (hy : plainName y.cls = true) (hw : ws = Cond.code y cc maxL ret :: ws')
    (body : ∀ p e s m args below meth c s₁, BodyLoose p l y (headSpec ws rm) cc maxL ret e s m args below meth c s₁ → c.maxLocals = maxL → (∀ x ∈ c.exceptionTable.toList, False) → Pc args s →
      W p l e (headSpec ws rm).room s m args below meth c s.heap [] 0 0 (vx_MQ below Qc XC args s mc ms free) (entryFrame m args maxL)) : vx_Met l y ws rm Pc Qc XC mc ms free := by
  refine MetFree.of_bodyS (code := cc) (maxLocals := maxL) (ret := ret) hy ?_ ?_
  · intro args s m h hn
    obtain ⟨meth, c, h1, h2, h3, h4, h5, h6, -, -⟩ := Cond.code_spec hn (atoms_spec (ws := ws) h _ (by rw [hw]; exact List.mem_cons_self))
    exact ⟨meth, c, h1, h2, h3, h4, h5, h6⟩
  · intro p e s m args below meth c s₁ B hml hP _
    have hh0 : s₁.heap = s.heap := by rw [B.state]; rfl
    have ht : ∀ x ∈ c.exceptionTable.toList, False := by
      obtain ⟨meth9, c9, h1, h2, -, -, -, -, h7, -⟩ := Cond.code_spec B.named (atoms_spec (ws := ws) B.pre _ (by rw [hw]; exact List.mem_cons_self))
      cases Option.some.inj (h1.symm.trans B.method)
      cases Option.some.inj (h2.symm.trans (Stand.of_body B).code)
      intro x hx
      rw [Array.isEmpty_iff.mp h7] at hx
      cases hx
    obtain ⟨t, a1, o, b1, b2, b3⟩ := body p e s m args below meth c s₁ B hml ht hP s₁ hh0 (Stand.of_body B)
    exact ⟨t, o, a1, b1, b2, b3⟩
/-- the table of a body with handlers -/
theorem vx_table {p : Program} {x y : MethodName} {S : Spec} {cc bytes : ByteArray} {maxL maxL' : Nat} {ret ret' : Option FieldType} {e : Env} {s s₁ : State} {m : MethodId} {args : Array Value} {below : List Frame} {meth : Method} {c : Code} {hh : List (Nat × Nat × Nat × Nat)}
    (B : BodyLoose p l y S cc maxL ret e s m args below meth c s₁) (h : (Cond.codeWith y bytes maxL' ret' hh).before args s = true) : c.exceptionTable.toList = tableOf hh := by
  obtain ⟨m9, meth9, c9, hn9, h1, h2, -, -, h6, -⟩ := Cond.codeWith_spec h
  cases Option.some.inj (hn9.symm.trans B.named)
  cases Option.some.inj (h1.symm.trans B.method)
  cases Option.some.inj (h2.symm.trans (Stand.of_body B).code)
  rw [← h6, table_eq]
end Bodies
end VXA
/-! ===== END ===== -/
/-! ===== BEGIN a static call of a method with an exception table ===== -/
section VXS
variable {p : Program} {l : Launch} {e : Env} {R : Room} {s : State} {m : MethodId} {args : Array Value} {below : List Frame} {meth : Method} {c : Code} {T : State} {H : Heap} {locs : List Loc} {cells slots : Nat}
abbrev vx_CSW (R : Room) (s : State) (args : Array Value) (own : String) (index : Nat) (y : MethodName) (bytes : ByteArray) (maxL : Nat) (ret : Option FieldType) (hh : List (Nat × Nat × Nat × Nat)) (ws : List Cond) (rm : Room) (mc ms n : Nat) : Prop :=
  (rm.cells = mc ∧ rm.slots = ms ∧ rm.frames + 1 ≤ R.frames ∧ 8 + (maxL + 11) + rm.locals ≤ R.locals ∧ (∀ w ∈ ws, ∀ (a' : Array Value) (U : State), s.WarmedH U.vm → w.before a' U = true) ∧ Cond.codeWith y bytes maxL ret hh ∈ ws) ∧
  (Cond.codeWith y bytes maxL ret hh).before args s = true ∧ (Cond.initialized y.cls).before args s = true ∧ (y.cls ≠ "java/lang/invoke/MethodHandle" ∧ y.cls ≠ "java/lang/invoke/VarHandle") ∧
  (∀ sig, parseMethodDescriptor y.desc = some sig → n = sig.parameters.length) ∧ (Cond.methodLink own index y).before args s = true ∧ (Cond.static y).before args s = true
theorem vx_cwSW {own : String} {index maxL mc ms : Nat} {y : MethodName} {bytes : ByteArray} {ret : Option FieldType} {hh : List (Nat × Nat × Nat × Nat)} {Ts ws ws' : List Cond} {rm : Room} (n : Nat) (ht : ∀ w ∈ Ts, w.before args s = true) (hT : GoodIn Ts (va_wsS own index y ws)) (hw : ws = Cond.codeWith y bytes maxL ret hh :: ws') (hrc : rm.cells = mc) (hrs : rm.slots = ms)
    (hd : y.cls ≠ "java/lang/invoke/MethodHandle" ∧ y.cls ≠ "java/lang/invoke/VarHandle" ∧ (parseMethodDescriptor y.desc).map (fun d => d.parameters.length) = some n) (hR : rm.frames + 1 ≤ R.frames ∧ 8 + (maxL + 11) + rm.locals ≤ R.locals) :
    vx_CSW R s args own index y bytes maxL ret hh ws rm mc ms n := by
  have ok : ∀ w ∈ va_wsS own index y ws, w.before args s = true := fun w h => ht w (hT w h).1
  have hG : GoodIn Ts ws := fun w h => hT w (by unfold va_wsS; exact List.mem_append_right _ h)
  have hc : Cond.codeWith y bytes maxL ret hh ∈ ws := by rw [hw]; exact List.mem_cons_self
  refine ⟨⟨hrc, hrs, hR.1, hR.2, pay_in ht hG, hc⟩, ht _ (hG _ hc).1, ok _ (by simp [va_wsS]), ⟨hd.1, hd.2.1⟩, fun sig h => ?_, ok _ (by simp [va_wsS]), ok _ (by simp [va_wsS])⟩
  have h2 := hd.2.2
  rw [h] at h2
  exact (Option.some.inj h2).symm
theorem vx_callSW (X : Stand p l e R s m args below meth c T locs cells slots) (hexec : p.tables.exec = Jvm.exec) {own : String} {index : Nat} {y : MethodName} {bytes : ByteArray} {maxL : Nat} {ret : Option FieldType} {hh : List (Nat × Nat × Nat × Nat)}
    (hown : s.vm.findClass own = some m.cls) (hlink : (Cond.methodLink own index y).before args s = true) (hstat : (Cond.static y).before args s = true) (hinit : (Cond.initialized y.cls).before args s = true)
    (hcode : (Cond.codeWith y bytes maxL ret hh).before args s = true) (hy : y.cls ≠ "java/lang/invoke/MethodHandle" ∧ y.cls ≠ "java/lang/invoke/VarHandle")
    {W9 : Nat} {Pre : Pt → Array Value → Prop} {Post : Pt → Array Value → Option Value → Pt → Prop} (hK : Back l R p e below s args y 3 W9 Pre Post)
    {g : JFrame} (hg : g.method = m) (hsize : g.locals.size = c.maxLocals) {argsL rest : List Value} (hlen : ∀ sig, parseMethodDescriptor y.desc = some sig → argsL.length = sig.parameters.length)
    (hstack : g.stack = argsL.reverse ++ rest) (hW : 2 * g.monitorRoom + (rest.map fun v => v.category).sum ≤ W9) (hdg : decode c.code g.pc = .ok (.invokestatic index, 3))
    (hpre : ∀ vm₁, s.WarmedH vm₁ → Pre ⟨T.setVm vm₁, locs, cells, slots⟩ argsL.toArray) :
    ∃ (v : Option Value) (vm₁ : Vm) (B : Pt), s.WarmedH vm₁ ∧ Stand p l e R s m args below meth c B.U B.locs B.cells B.slots ∧ Post ⟨T.setVm vm₁, locs, cells, slots⟩ argsL.toArray v B ∧
      ∀ target, Steps p.tables e below (B.U.setTop { g with pc := g.pc + 3, stack := v.toList ++ rest }) target → Steps p.tables e below (T.setTop g) target := by
  obtain ⟨mk, methM, cM, hnamed, hmethM, -, -, -, -, -, -, hsigM⟩ := Cond.codeWith_spec hcode
  have hstatic : methM.isStatic = true := Cond.static_spec hnamed hmethM hstat
  obtain ⟨kP, hkP, -⟩ := className_of_methodNamed hnamed
  have hinitP : kP.init = .initialized := Cond.initialized_spec (findClass_of_methodNamed hnamed) hkP hinit
  obtain ⟨vm₁, X₁, hstep₁⟩ := X.invokestatic hexec hown hlink hnamed hmethM hstatic hkP hinitP hy (g := g) hg (argsL := argsL) (rest := rest) (hlen _ hsigM) hstack hdg
  obtain ⟨v, B, X', hpost, hsteps⟩ := hK m meth c ⟨T.setVm vm₁, locs, cells, slots⟩ { g with stack := rest } (.invokestatic index) mk argsL.toArray X₁ hg hsize hdg hW (X₁.named hnamed) (hpre vm₁ X₁.warmed)
  exact ⟨v, vm₁, B, X₁.warmed, X', hpost, fun target h => hstep₁ _ fun acts => by rw [doInvoke_state]; exact hsteps.trans h⟩
theorem vx_runSW {y : MethodName} {bytes cc : ByteArray} {maxL nL mc ms n index : Nat} {ret : Option FieldType} {hh : List (Nat × Nat × Nat × Nat)} {ws : List Cond} {rm : Room} {Pc : Array Value → State → Prop} {Qc : Array Value → State → Outcome → State → Prop} {free : Addr → Prop} {Ts : List Cond} {own : String} {As rest : List Value} {g : JFrame}
    (S : CallFix p m c cc nL s args Ts own) (hM : Met l y ws rm Pc Qc mc ms free) (cw : vx_CSW R s args own index y bytes maxL ret hh ws rm mc ms n) (hp : PreS s H Pc As)
    (hg : g.method = m) (hn : As.length = n) (hsize : g.locals.size = nL) (hstack : g.stack = As.reverse ++ rest) (hW : 2 * g.monitorRoom + (rest.map fun v => v.category).sum ≤ 8) (hdg : decode cc g.pc = .ok (.invokestatic index, 3)) (hf : cells + mc ≤ R.cells ∧ slots + ms ≤ R.slots) :
    va_Run p l e R s m args below meth c H locs cells slots mc ms g rest (Qc As.toArray) (free) := by
  obtain ⟨⟨hrc, hrs, hfr, hlo, hws, hcw⟩, hcode, hini, hy, hlen, hl, hstt⟩ := cw
  have hK : Back l R p e below s args y 3 8 (PreOf R mc ms Pc) (PostOf Qc mc ms free) := va_backW (hh := hh) (bytes := bytes) (maxL := maxL) (ret := ret) hM hp.1 hrc hrs hfr hlo hws hcw (fun a' U hW => word_at hW (Or.inl (by first | rfl | simp [Cond.onTables, Cond.keeps, Cond.steady])) hini)
  obtain ⟨hx, hb, hml, ho, -⟩ := S
  intro T hT X
  obtain ⟨v, vm₁, ⟨U', l2, c2, s2⟩, hW₁, X', ⟨g', mk, t, L, e1, e2, hq, h1, hL, h2, h3⟩, st⟩ := vx_callSW X hx (hh := hh) (bytes := bytes) (maxL := maxL) (ret := ret) ho hl hstt hini hcode hy hK hg (hsize.trans hml.symm) (argsL := As) (rest := rest) (fun sig h => hn.trans (hlen sig h)) hstack hW (by rw [hb]; exact hdg)
    (fun vm₁ hW₁ => ⟨hf.1, hf.2, hp.2 (T.setVm vm₁) hT hW₁⟩)
  dsimp only [Pt.U, Pt.locs, Pt.cells, Pt.slots] at X' e1 e2 h1 h2 h3 st
  subst h1; subst h2; subst h3
  exact ⟨v, (T.setVm vm₁).calling g' mk As.toArray, t, U', L, hT, X', hL, e1, e2, hq, st⟩
/-- not caught here, past rows that name other classes: it goes on to the caller -/
theorem vx_outP {p : Program} {l : Launch} {e : Env} {R : Room} {s : State} {m : MethodId} {args : Array Value} {below : List Frame} {meth : Method} {c : Code} {H : Heap} {locs : List Loc} {cells slots : Nat} {free : Addr → Prop} {ls : Array Slot} {rest : List Value} {Qc : Array Value → State → Outcome → State → Prop} {XC : String → State → State → Prop}
    {pc : Nat} {own E : String} {ce : Cell} {q : Addr} {mc ms : Nat} (hown : s.vm.findClass own = some m.cls) (hlocks : meth.locks = false)
    (hpass : ∀ z ∈ c.exceptionTable.toList, covers z pc = false ∨ (z.catchType ≠ 0 ∧ ∃ nm : String, (Cond.classLink own z.catchType nm).before args s = true ∧ va_Nc E nm s)) (hcell : H[q]? = some ce) (hv : ce.vm = .none) (hcl : s.vm.findClass E = some ce.cls)
    (hx : ∀ t : State, t.heap = H → s.vm.Alike t.vm → XC E s t) (hf : ∀ z ∈ locs, free z.base) (hc : cells ≤ mc) (hs : slots ≤ ms) :
    vx_W p l e R s m args below meth c H locs cells slots (vx_MQ below Qc XC args s mc ms free) (F0 m pc ls rest) q := by
  intro T hT X
  have hpl : e.platform.magicAccessors = ({} : Platform).magicAccessors := by rw [X.admits.platform]
  obtain ⟨vm', hW', X', st⟩ := X.outThrough hlocks q (g := F0 m pc ls rest) rfl rfl rfl (cell := ce) (by rw [hT]; exact hcell) (by rw [hv]; rfl)
    (by obtain ⟨k9, h9, -⟩ := Vm.findClass_spec hcl; exact ⟨k9, h9⟩) (fun z hz => by
      rcases hpass z hz with h | ⟨hz0, nm, hl1, hn1⟩
      · exact Or.inl h
      · obtain ⟨c6, hc6, hcl6⟩ := Cond.classLink_spec hown hl1 e.platform hpl
        obtain ⟨a8, b8, h1, h2, h3⟩ := hn1
        cases Option.some.inj (h1.symm.trans hcl)
        cases Option.some.inj (h2.symm.trans hc6)
        exact Or.inr ⟨hz0, _, hcl6, h3⟩)
  obtain ⟨g₀, hfr⟩ := X'.frames_eq
  have hcell9 : ((T.setVm vm').setFrames (.throwing q :: below)).heap[q]? = some ce := by
    show T.heap[q]? = some ce
    rw [hT]; exact hcell
  have hend : Ended ((T.setVm vm').setFrames (.throwing q :: below)) below (.threw q) := State.frames_setFrames _ (State.cur_lt_of_frames hfr)
  refine ⟨(T.setVm vm').setFrames (.throwing q :: below), ?_, .threw q, X'.here.running, hend, Or.inr ⟨q, rfl, E, ce, locs, hx _ hT (X'.ends _).1.alike, hcell9, hv, hcl, (X'.ends _).1, (X'.ends _).2.mono hc hs, hf⟩⟩
  rw [X.pushThrowing_eq]
  exact st
/-- a thing of a world lies in the heap -/
theorem vx_lt {D : va_G} {cl : List vw_C} {ws : va_W} {H1 : Heap} (h : va_P D cl ws H1) {k : Nat} {q : Nat × va_E} (hk : ws[k]? = some q) : q.1 < H1.size := (h k q hk).lt
end VXS
/-! ===== END ===== -/
/-! ===== BEGIN methods with a table of their own: called by a name, returning or throwing ===== -/
section VXH
/-! vx_backW, vx_callVX, vx_callSX, vx_callVW, vx_runVW, vx_runVX, vx_runSX, vx_ofWH follow the same proofs as their sisters above (Free/Laws.lean, Shelf42/LK1.lean); vx_outP calls Shelf42/NT130.lean (outThrough). -/
section
variable {l : Launch} {R : Room} {p : Program} {e : Env} {below : List Frame} {s : State} {sargs : Array Value} {y : MethodName} {len W9 : Nat}
theorem vx_backW {ws : List Cond} {rm : Room} {Pc : Array Value → State → Prop} {Qc : Array Value → State → Outcome → State → Prop} {XC : String → State → State → Prop} {mc ms : Nat} {free : Addr → Prop} {bytes : ByteArray} {maxL : Nat} {ret : Option FieldType} {hh : List (Nat × Nat × Nat × Nat)}
    (hM : vx_Met l y ws rm Pc Qc XC mc ms free) (hblind : FrameBlind Pc) (hrc : rm.cells = mc) (hrs : rm.slots = ms)
    (hframes : rm.frames + 1 ≤ R.frames) (hlocals : W9 + (maxL + 11) + rm.locals ≤ R.locals)
    (hws : ∀ w ∈ ws, ∀ a' U, s.WarmedH U.vm → w.before a' U = true) (hcode : Cond.codeWith y bytes maxL ret hh ∈ ws) (hinit : ∀ a' U, s.WarmedH U.vm → (Cond.initialized y.cls).before a' U = true) :
    vx_Back l R p e below s sargs y len W9 (PreOf R mc ms Pc) (PostOf Qc mc ms free) (vx_Post XC mc ms free) := by
  intro m meth c A g ig mk a X hg hsize hdg hW hn hp
  have h1 : (headSpec ws rm).pre.before a A.U = true := atoms_intro fun w hw => hws w hw _ _ X.warmed
  have h2 : (Cond.codeWith y bytes maxL ret hh).before a A.U = true := hws _ hcode _ _ X.warmed
  have h3 : (Cond.initialized y.cls).before a A.U = true := hinit _ _ X.warmed
  have h4 : A.cells + (headSpec ws rm).room.cells ≤ R.cells := by rw [show (headSpec ws rm).room.cells = mc from hrc]; exact hp.1
  have h5 : A.slots + (headSpec ws rm).room.slots ≤ R.slots := by rw [show (headSpec ws rm).room.slots = ms from hrs]; exact hp.2.1
  have hPc : Pc a (A.U.calling g mk a) := hblind _ _ _ _ hp.2.2
  obtain ⟨U, Ls, c0, s0⟩ := A
  dsimp only [Pt.U, Pt.locs, Pt.cells, Pt.slots] at h1 h2 h3 h4 h5 X hn hPc ⊢
  obtain ⟨m9, methY, cY, hn9, hmY, hcY, -, hlY, -⟩ := Cond.codeWith_spec h2
  cases Option.some.inj (hn9.symm.trans hn)
  obtain ⟨kY, hkY, -⟩ := className_of_methodNamed hn
  have hinitY : kY.init = .initialized := Cond.initialized_spec (findClass_of_methodNamed hn) hkY h3
  have h : At U g.method c below := by rw [hg]; exact X.here
  have hlocals9 : W9 + (maxL + 11) + (headSpec ws rm).room.locals ≤ R.locals := hlocals
  have happ : (headSpec ws rm).appliesLoose y e.platform (U.calling g mk a) = true :=
    Spec.appliesLoose_calling (g := g) h hdg hn hkY hinitY
      (X.room_calling (g := g) (R' := (headSpec ws rm).room) hsize hmY hcY hframes (by rw [hlY]; omega) h4 h5) h1
  obtain ⟨mid, hmid⟩ := h.above
  have hfr : (U.setTop g).frames = (.java g :: mid) ++ below := by rw [State.frames_setTop' g h.top, hmid]; rfl
  obtain ⟨o, s₂, hsteps, -, hend, hq⟩ := Steps.callFree hM p X.admits X.cas X.clock (acts := []) hfr happ hPc trivial
  have hq' : vx_Q Qc XC mc ms free a (U.calling g mk a) o s₂ := hq
  rw [State.frames_setTop' g h.top] at hend
  obtain ⟨g₀, hg0⟩ := Option.isSome_iff_exists.mp h.top
  obtain ⟨r, hr⟩ := State.topJava?_eq_some.mp hg0
  have hr' : (({ U with heap := s₂.heap, slotsUsed := s₂.slotsUsed } : State).setVm s₂.vm).frames = .java g₀ :: r := hr
  rcases hq' with ⟨hqc, L, hfe, hL⟩ | ⟨q, rfl, E, ce, L, hx, hce, hcv, hcl, hW₂, hsm, hL⟩
  · obtain ⟨⟨v, rfl⟩, hW₂, e2, q2, q3, q4, q5, q6⟩ := id hfe
    have e3 : s₂ = ({ (U.calling g mk a).setFrames s₂.frames with heap := s₂.heap, slotsUsed := s₂.slotsUsed } : State).setVm s₂.vm := by
      have : s₂ = ({ s₂ with vm := (U.calling g mk a).vm } : State).setVm s₂.vm := rfl
      rw [e2] at this
      exact this
    obtain ⟨c₂, i₂, len₂, hc₂, hd₂, hf₂⟩ := hend
    have hW' : U.WarmedH s₂.vm := hW₂
    have hcc : c₂ = c := by
      have h1 : s₂.code? g.method = U.code? g.method := by
        rw [State.code?_eq, State.code?_eq, hW'.alike.method?]
      exact Option.some.inj (hc₂.symm.trans (h1.trans h.code))
    subst hcc
    have hlen : len₂ = len := by rw [hdg] at hd₂; cases hd₂; rfl
    subst hlen
    have hs₂ : s₂ = (({ U with heap := s₂.heap, slotsUsed := s₂.slotsUsed } : State).setVm s₂.vm).setTop { g with pc := g.pc + len₂, stack := v.toList ++ g.stack } := by
      refine e3.trans ?_
      rw [hf₂, State.calling_eq h.top, State.setFrames_setFrames, State.setTop_of_frames _ hr', hr]
      rfl
    have hsame : U.sameButNew ({ U with heap := s₂.heap, slotsUsed := s₂.slotsUsed } : State) L mc ms := by
      refine ⟨?_, q2, q3, q4, q5, q6⟩
      obtain ⟨t, ht, -⟩ := State.frames_cons hr
      show ({ U with heap := s₂.heap, slotsUsed := s₂.slotsUsed } : State) = { U.setFrames U.frames with heap := s₂.heap, slotsUsed := s₂.slotsUsed }
      rw [State.setFrames_self ht]
    subst hg
    refine Or.inl ⟨v, ⟨(({ U with heap := s₂.heap, slotsUsed := s₂.slotsUsed } : State).setVm s₂.vm), Ls ++ L, c0 + mc, s0 + ms⟩,
      ⟨X.admits, X.cas, X.clock, X.frames, X.room, X.hears, X.method, X.code, (X.here.setHeapUsed s₂.heap s₂.slotsUsed).setVm hW'.alike, X.tail, State.WarmedH.trans X.warmed hW', X.limits, X.bytes, X.same.trans (hsame.setVm s.vm)⟩,
      ⟨g, mk, s₂, L, rfl, rfl, hqc, rfl, hL, rfl, rfl⟩, ?_⟩
    show Steps p.tables e below _ ((({ U with heap := s₂.heap, slotsUsed := s₂.slotsUsed } : State).setVm s₂.vm).setTop { g with pc := g.pc + len₂, stack := v.toList ++ g.stack })
    rw [← hs₂]
    exact hsteps
  · obtain ⟨e2, q2, q3, q4, q5, q6⟩ := id hsm
    have e3 : s₂ = ({ (U.calling g mk a).setFrames s₂.frames with heap := s₂.heap, slotsUsed := s₂.slotsUsed } : State).setVm s₂.vm := by
      have : s₂ = ({ s₂ with vm := (U.calling g mk a).vm } : State).setVm s₂.vm := rfl
      rw [e2] at this
      exact this
    have hf₂ : s₂.frames = .throwing q :: .java g :: U.frames.tail := hend
    have hW' : U.WarmedH s₂.vm := hW₂
    have hs₂ : s₂ = ((({ U with heap := s₂.heap, slotsUsed := s₂.slotsUsed } : State).setVm s₂.vm).setTop g).pushFrame (.throwing q) := by
      refine e3.trans ?_
      rw [hf₂, State.calling_eq h.top, State.setFrames_setFrames, State.pushFrame, State.frames_setTop _ hr', State.setTop_of_frames _ hr', State.setFrames_setFrames, hr]
      rfl
    have hsame : U.sameButNew ({ U with heap := s₂.heap, slotsUsed := s₂.slotsUsed } : State) L mc ms := by
      refine ⟨?_, q2, q3, q4, q5, q6⟩
      obtain ⟨t, ht, -⟩ := State.frames_cons hr
      show ({ U with heap := s₂.heap, slotsUsed := s₂.slotsUsed } : State) = { U.setFrames U.frames with heap := s₂.heap, slotsUsed := s₂.slotsUsed }
      rw [State.setFrames_self ht]
    subst hg
    refine Or.inr ⟨q, ⟨(({ U with heap := s₂.heap, slotsUsed := s₂.slotsUsed } : State).setVm s₂.vm), Ls ++ L, c0 + mc, s0 + ms⟩,
      ⟨X.admits, X.cas, X.clock, X.frames, X.room, X.hears, X.method, X.code, (X.here.setHeapUsed s₂.heap s₂.slotsUsed).setVm hW'.alike, X.tail, State.WarmedH.trans X.warmed hW', X.limits, X.bytes, X.same.trans (hsame.setVm s.vm)⟩,
      ⟨g, mk, s₂, L, E, ce, rfl, rfl, hx, hce, hcv, hcl, rfl, hL, rfl, rfl⟩, ?_⟩
    show Steps p.tables e below _ (((({ U with heap := s₂.heap, slotsUsed := s₂.slotsUsed } : State).setVm s₂.vm).setTop g).pushFrame (.throwing q))
    rw [← hs₂]
    exact hsteps
end
variable {p : Program} {l : Launch} {e : Env} {R : Room} {s : State} {m : MethodId} {args : Array Value} {below : List Frame} {meth : Method} {c : Code} {T : State} {H : Heap} {locs : List Loc} {cells slots : Nat}
theorem vx_callVX (X : Stand p l e R s m args below meth c T locs cells slots) (hexec : p.tables.exec = Jvm.exec) {own C : String} {index : Nat} {y : MethodName} {bytes : ByteArray} {maxL : Nat} {ret : Option FieldType} {hh : List (Nat × Nat × Nat × Nat)}
    (hown : s.vm.findClass own = some m.cls) (hlink : (Cond.methodLink own index y).before args s = true) (hinst : (Cond.instanceMethod y).before args s = true) (hsel : (Cond.selects C y y).before args s = true)
    (hcode : (Cond.codeWith y bytes maxL ret hh).before args s = true) (hy : y.cls ≠ "java/lang/invoke/MethodHandle" ∧ y.cls ≠ "java/lang/invoke/VarHandle")
    {W9 : Nat} {Pre : Pt → Array Value → Prop} {Post : Pt → Array Value → Option Value → Pt → Prop} {PostX : Pt → Array Value → Addr → Pt → Prop} (hK : vx_Back l R p e below s args y 3 W9 Pre Post PostX)
    {b : Addr} {cellB : Cell} (hcell : T.heap[b]? = some cellB) (hobj : cellB.vm.isStatics = false) (hcls : s.vm.findClass C = some cellB.cls)
    {g : JFrame} (hg : g.method = m) (hsize : g.locals.size = c.maxLocals) {argsL rest : List Value} (hlen : ∀ sig, parseMethodDescriptor y.desc = some sig → argsL.length = sig.parameters.length)
    (hstack : g.stack = argsL.reverse ++ .ref b :: rest) (hW : 2 * g.monitorRoom + (rest.map fun v => v.category).sum ≤ W9) (hdg : decode c.code g.pc = .ok (.invokevirtual index, 3))
    (hpre : ∀ vm₁, s.WarmedH vm₁ → Pre ⟨T.setVm vm₁, locs, cells, slots⟩ (Value.ref b :: argsL).toArray) :
    (∃ (v : Option Value) (vm₁ : Vm) (B : Pt), s.WarmedH vm₁ ∧ Stand p l e R s m args below meth c B.U B.locs B.cells B.slots ∧ Post ⟨T.setVm vm₁, locs, cells, slots⟩ (Value.ref b :: argsL).toArray v B ∧
      ∀ target, Steps p.tables e below (B.U.setTop { g with pc := g.pc + 3, stack := v.toList ++ rest }) target → Steps p.tables e below (T.setTop g) target) ∨
    (∃ (q : Addr) (vm₁ : Vm) (B : Pt), s.WarmedH vm₁ ∧ Stand p l e R s m args below meth c B.U B.locs B.cells B.slots ∧ PostX ⟨T.setVm vm₁, locs, cells, slots⟩ (Value.ref b :: argsL).toArray q B ∧
      Steps p.tables e below (T.setTop g) ((B.U.setTop { g with stack := rest }).pushFrame (.throwing q))) := by
  obtain ⟨mk, methM, hnamed, hmethM, hstM, habM⟩ := Cond.instanceMethod_spec hinst
  obtain ⟨m8, methM', cM, hn8, hmethM', -, -, -, -, -, -, hsigM⟩ := Cond.codeWith_spec hcode
  cases Option.some.inj (hn8.symm.trans hnamed)
  cases hmethM.symm.trans hmethM'
  obtain ⟨c2, r2, m2, q1, q2, q3, q4, kP, hkP, hkPi⟩ := Cond.selects_spec hsel
  cases hcls.symm.trans q1
  cases (State.methodFound?_of_named hnamed hy).symm.trans q2
  cases hnamed.symm.trans q3
  have hselP : selectMethod e.platform s.vm cellB.cls mk = .method mk := by rw [Launch.admits_selectMethod X.admits]; exact q4
  obtain ⟨vm₁, X₁, hstep₁⟩ := X.invokevirtual hexec hown hlink hnamed hmethM hstM hkP hkPi hy (a := b) (cell := cellB) hcell
    (fun z h => by rw [h] at hobj; cases hobj) hselP hmethM habM hkP hkPi (g := g) hg (argsL := argsL) (rest := rest) (hlen _ hsigM) hstack hdg
  rcases hK m meth c ⟨T.setVm vm₁, locs, cells, slots⟩ { g with stack := rest } (.invokevirtual index) mk (Value.ref b :: argsL).toArray X₁ hg hsize hdg hW (X₁.named hnamed) (hpre vm₁ X₁.warmed) with ⟨v, B, X', hpost, hsteps⟩ | ⟨q, B, X', hpost, hsteps⟩
  · exact Or.inl ⟨v, vm₁, B, X₁.warmed, X', hpost, fun target h => hstep₁ _ fun acts => by rw [doInvoke_state]; exact hsteps.trans h⟩
  · exact Or.inr ⟨q, vm₁, B, X₁.warmed, X', hpost, hstep₁ _ fun acts => by rw [doInvoke_state]; exact hsteps⟩
theorem vx_callSX (X : Stand p l e R s m args below meth c T locs cells slots) (hexec : p.tables.exec = Jvm.exec) {own : String} {index : Nat} {y : MethodName} {bytes : ByteArray} {maxL : Nat} {ret : Option FieldType} {hh : List (Nat × Nat × Nat × Nat)}
    (hown : s.vm.findClass own = some m.cls) (hlink : (Cond.methodLink own index y).before args s = true) (hstat : (Cond.static y).before args s = true) (hinit : (Cond.initialized y.cls).before args s = true)
    (hcode : (Cond.codeWith y bytes maxL ret hh).before args s = true) (hy : y.cls ≠ "java/lang/invoke/MethodHandle" ∧ y.cls ≠ "java/lang/invoke/VarHandle")
    {W9 : Nat} {Pre : Pt → Array Value → Prop} {Post : Pt → Array Value → Option Value → Pt → Prop} {PostX : Pt → Array Value → Addr → Pt → Prop} (hK : vx_Back l R p e below s args y 3 W9 Pre Post PostX)
    {g : JFrame} (hg : g.method = m) (hsize : g.locals.size = c.maxLocals) {argsL rest : List Value} (hlen : ∀ sig, parseMethodDescriptor y.desc = some sig → argsL.length = sig.parameters.length)
    (hstack : g.stack = argsL.reverse ++ rest) (hW : 2 * g.monitorRoom + (rest.map fun v => v.category).sum ≤ W9) (hdg : decode c.code g.pc = .ok (.invokestatic index, 3))
    (hpre : ∀ vm₁, s.WarmedH vm₁ → Pre ⟨T.setVm vm₁, locs, cells, slots⟩ argsL.toArray) :
    (∃ (v : Option Value) (vm₁ : Vm) (B : Pt), s.WarmedH vm₁ ∧ Stand p l e R s m args below meth c B.U B.locs B.cells B.slots ∧ Post ⟨T.setVm vm₁, locs, cells, slots⟩ argsL.toArray v B ∧
      ∀ target, Steps p.tables e below (B.U.setTop { g with pc := g.pc + 3, stack := v.toList ++ rest }) target → Steps p.tables e below (T.setTop g) target) ∨
    (∃ (q : Addr) (vm₁ : Vm) (B : Pt), s.WarmedH vm₁ ∧ Stand p l e R s m args below meth c B.U B.locs B.cells B.slots ∧ PostX ⟨T.setVm vm₁, locs, cells, slots⟩ argsL.toArray q B ∧
      Steps p.tables e below (T.setTop g) ((B.U.setTop { g with stack := rest }).pushFrame (.throwing q))) := by
  obtain ⟨mk, methM, cM, hnamed, hmethM, -, -, -, -, -, -, hsigM⟩ := Cond.codeWith_spec hcode
  have hstatic : methM.isStatic = true := Cond.static_spec hnamed hmethM hstat
  obtain ⟨kP, hkP, -⟩ := className_of_methodNamed hnamed
  have hinitP : kP.init = .initialized := Cond.initialized_spec (findClass_of_methodNamed hnamed) hkP hinit
  obtain ⟨vm₁, X₁, hstep₁⟩ := X.invokestatic hexec hown hlink hnamed hmethM hstatic hkP hinitP hy (g := g) hg (argsL := argsL) (rest := rest) (hlen _ hsigM) hstack hdg
  rcases hK m meth c ⟨T.setVm vm₁, locs, cells, slots⟩ { g with stack := rest } (.invokestatic index) mk argsL.toArray X₁ hg hsize hdg hW (X₁.named hnamed) (hpre vm₁ X₁.warmed) with ⟨v, B, X', hpost, hsteps⟩ | ⟨q, B, X', hpost, hsteps⟩
  · exact Or.inl ⟨v, vm₁, B, X₁.warmed, X', hpost, fun target h => hstep₁ _ fun acts => by rw [doInvoke_state]; exact hsteps.trans h⟩
  · exact Or.inr ⟨q, vm₁, B, X₁.warmed, X', hpost, hstep₁ _ fun acts => by rw [doInvoke_state]; exact hsteps⟩
theorem vx_callVW (X : Stand p l e R s m args below meth c T locs cells slots) (hexec : p.tables.exec = Jvm.exec) {own C : String} {index : Nat} {y : MethodName} {bytes : ByteArray} {maxL : Nat} {ret : Option FieldType} {hh : List (Nat × Nat × Nat × Nat)}
    (hown : s.vm.findClass own = some m.cls) (hlink : (Cond.methodLink own index y).before args s = true) (hinst : (Cond.instanceMethod y).before args s = true) (hsel : (Cond.selects C y y).before args s = true)
    (hcode : (Cond.codeWith y bytes maxL ret hh).before args s = true) (hy : y.cls ≠ "java/lang/invoke/MethodHandle" ∧ y.cls ≠ "java/lang/invoke/VarHandle")
    {W9 : Nat} {Pre : Pt → Array Value → Prop} {Post : Pt → Array Value → Option Value → Pt → Prop} (hK : Back l R p e below s args y 3 W9 Pre Post)
    {b : Addr} {cellB : Cell} (hcell : T.heap[b]? = some cellB) (hobj : cellB.vm.isStatics = false) (hcls : s.vm.findClass C = some cellB.cls)
    {g : JFrame} (hg : g.method = m) (hsize : g.locals.size = c.maxLocals) {argsL rest : List Value} (hlen : ∀ sig, parseMethodDescriptor y.desc = some sig → argsL.length = sig.parameters.length)
    (hstack : g.stack = argsL.reverse ++ .ref b :: rest) (hW : 2 * g.monitorRoom + (rest.map fun v => v.category).sum ≤ W9) (hdg : decode c.code g.pc = .ok (.invokevirtual index, 3))
    (hpre : ∀ vm₁, s.WarmedH vm₁ → Pre ⟨T.setVm vm₁, locs, cells, slots⟩ (Value.ref b :: argsL).toArray) :
    ∃ (v : Option Value) (vm₁ : Vm) (B : Pt), s.WarmedH vm₁ ∧ Stand p l e R s m args below meth c B.U B.locs B.cells B.slots ∧ Post ⟨T.setVm vm₁, locs, cells, slots⟩ (Value.ref b :: argsL).toArray v B ∧
      ∀ target, Steps p.tables e below (B.U.setTop { g with pc := g.pc + 3, stack := v.toList ++ rest }) target → Steps p.tables e below (T.setTop g) target := by
  obtain ⟨mk, methM, hnamed, hmethM, hstM, habM⟩ := Cond.instanceMethod_spec hinst
  obtain ⟨m8, methM', cM, hn8, hmethM', -, -, -, -, -, -, hsigM⟩ := Cond.codeWith_spec hcode
  cases Option.some.inj (hn8.symm.trans hnamed)
  cases hmethM.symm.trans hmethM'
  obtain ⟨c2, r2, m2, q1, q2, q3, q4, kP, hkP, hkPi⟩ := Cond.selects_spec hsel
  cases hcls.symm.trans q1
  cases (State.methodFound?_of_named hnamed hy).symm.trans q2
  cases hnamed.symm.trans q3
  have hselP : selectMethod e.platform s.vm cellB.cls mk = .method mk := by rw [Launch.admits_selectMethod X.admits]; exact q4
  obtain ⟨vm₁, X₁, hstep₁⟩ := X.invokevirtual hexec hown hlink hnamed hmethM hstM hkP hkPi hy (a := b) (cell := cellB) hcell
    (fun z h => by rw [h] at hobj; cases hobj) hselP hmethM habM hkP hkPi (g := g) hg (argsL := argsL) (rest := rest) (hlen _ hsigM) hstack hdg
  obtain ⟨v, B, X', hpost, hsteps⟩ := hK m meth c ⟨T.setVm vm₁, locs, cells, slots⟩ { g with stack := rest } (.invokevirtual index) mk (Value.ref b :: argsL).toArray X₁ hg hsize hdg hW (X₁.named hnamed) (hpre vm₁ X₁.warmed)
  exact ⟨v, vm₁, B, X₁.warmed, X', hpost, fun target h => hstep₁ _ fun acts => by rw [doInvoke_state]; exact hsteps.trans h⟩
abbrev vx_CVW (R : Room) (s : State) (args : Array Value) (own C : String) (index : Nat) (y : MethodName) (bytes : ByteArray) (maxL : Nat) (ret : Option FieldType) (hh : List (Nat × Nat × Nat × Nat)) (ws : List Cond) (rm : Room) (mc ms n : Nat) : Prop :=
  (rm.cells = mc ∧ rm.slots = ms ∧ rm.frames + 1 ≤ R.frames ∧ 8 + (maxL + 11) + rm.locals ≤ R.locals ∧ (∀ w ∈ ws, ∀ (a' : Array Value) (U : State), s.WarmedH U.vm → w.before a' U = true) ∧ Cond.codeWith y bytes maxL ret hh ∈ ws) ∧
  (Cond.codeWith y bytes maxL ret hh).before args s = true ∧ (Cond.initialized y.cls).before args s = true ∧ (y.cls ≠ "java/lang/invoke/MethodHandle" ∧ y.cls ≠ "java/lang/invoke/VarHandle") ∧
  (∀ sig, parseMethodDescriptor y.desc = some sig → n = sig.parameters.length) ∧ (Cond.methodLink own index y).before args s = true ∧ (Cond.instanceMethod y).before args s = true ∧ (Cond.selects C y y).before args s = true
theorem vx_cwVW {own C : String} {index maxL mc ms : Nat} {y : MethodName} {bytes : ByteArray} {ret : Option FieldType} {hh : List (Nat × Nat × Nat × Nat)} {Ts ws ws' : List Cond} {rm : Room} (n : Nat) (ht : ∀ w ∈ Ts, w.before args s = true) (hT : GoodIn Ts (wsV own index C y ws)) (hw : ws = Cond.codeWith y bytes maxL ret hh :: ws') (hrc : rm.cells = mc) (hrs : rm.slots = ms)
    (hd : y.cls = C ∧ y.cls ≠ "java/lang/invoke/MethodHandle" ∧ y.cls ≠ "java/lang/invoke/VarHandle" ∧ (parseMethodDescriptor y.desc).map (fun d => d.parameters.length) = some n) (hR : rm.frames + 1 ≤ R.frames ∧ 8 + (maxL + 11) + rm.locals ≤ R.locals) :
    vx_CVW R s args own C index y bytes maxL ret hh ws rm mc ms n := by
  obtain ⟨hC, hd⟩ := hd
  subst hC
  have ok : ∀ w ∈ wsV own index y.cls y ws, w.before args s = true := fun w h => ht w (hT w h).1
  have hG : GoodIn Ts ws := fun w h => hT w (by unfold wsV; exact List.mem_append_right _ h)
  have hc : Cond.codeWith y bytes maxL ret hh ∈ ws := by rw [hw]; exact List.mem_cons_self
  refine ⟨⟨hrc, hrs, hR.1, hR.2, pay_in ht hG, hc⟩, ht _ (hG _ hc).1, ok _ (by simp [wsV]), ⟨hd.1, hd.2.1⟩, fun sig h => ?_, ok _ (by simp [wsV]), ok _ (by simp [wsV]), ok _ (by simp [wsV])⟩
  have h2 := hd.2.2
  rw [h] at h2
  exact (Option.some.inj h2).symm
theorem vx_runVW {y : MethodName} {bytes cc : ByteArray} {maxL nL mc ms n index : Nat} {ret : Option FieldType} {hh : List (Nat × Nat × Nat × Nat)} {ws : List Cond} {rm : Room} {Pc : Array Value → State → Prop} {Qc : Array Value → State → Outcome → State → Prop} {free : Addr → Prop} {Ts : List Cond} {own C : String} {b : Addr} {As rest : List Value} {g : JFrame}
    (S : CallFix p m c cc nL s args Ts own) (hM : Met l y ws rm Pc Qc mc ms free) (cw : vx_CVW R s args own C index y bytes maxL ret hh ws rm mc ms n) (hp : PreV s H C b Pc As)
    (hg : g.method = m) (hn : As.length = n) (hsize : g.locals.size = nL) (hstack : g.stack = As.reverse ++ .ref b :: rest) (hW : 2 * g.monitorRoom + (rest.map fun v => v.category).sum ≤ 8) (hdg : decode cc g.pc = .ok (.invokevirtual index, 3)) (hf : cells + mc ≤ R.cells ∧ slots + ms ≤ R.slots) :
    va_Run p l e R s m args below meth c H locs cells slots mc ms g rest (Qc (Value.ref b :: As).toArray) free := by
  obtain ⟨⟨hrc, hrs, hfr, hlo, hws, hcw⟩, hcode, hini, hy, hlen, hl, hin, hse⟩ := cw
  have hK : Back l R p e below s args y 3 8 (PreOf R mc ms Pc) (PostOf Qc mc ms free) := va_backW (hh := hh) (bytes := bytes) (maxL := maxL) (ret := ret) hM hp.1 hrc hrs hfr hlo hws hcw (fun a' U hW => word_at hW (Or.inl (by first | rfl | simp [Cond.onTables, Cond.keeps, Cond.steady])) hini)
  obtain ⟨hx, hb, hml, ho, -⟩ := S
  obtain ⟨-, ⟨cellB, hcB, hoB, hclB⟩, hPc⟩ := hp
  intro T hT X
  obtain ⟨v, vm₁, ⟨U', l2, c2, s2⟩, hW₁, X', ⟨g', mk, t, L, e1, e2, hq, h1, hL, h2, h3⟩, st⟩ := vx_callVW X hx (C := C) (hh := hh) (bytes := bytes) (maxL := maxL) (ret := ret) ho hl hin hse hcode hy hK (by rw [hT]; exact hcB) hoB hclB hg (hsize.trans hml.symm) (argsL := As) (rest := rest) (fun sig h => hn.trans (hlen sig h)) hstack hW (by rw [hb]; exact hdg)
    (fun vm₁ hW₁ => ⟨hf.1, hf.2, hPc (T.setVm vm₁) hT hW₁⟩)
  dsimp only [Pt.U, Pt.locs, Pt.cells, Pt.slots] at X' e1 e2 h1 h2 h3 st
  subst h1; subst h2; subst h3
  exact ⟨v, (T.setVm vm₁).calling g' mk (Value.ref b :: As).toArray, t, U', L, hT, X', hL, e1, e2, hq, st⟩
section
variable {y : MethodName} {bytes cc : ByteArray} {maxL nL mc ms n index : Nat} {ret : Option FieldType} {ws : List Cond} {rm : Room} {Pc : Array Value → State → Prop} {Qc : Array Value → State → Outcome → State → Prop} {XC : String → State → State → Prop} {free : Addr → Prop} {Ts : List Cond} {own C : String} {b : Addr} {As rest : List Value} {g : JFrame}
theorem vx_runVX {hh : List (Nat × Nat × Nat × Nat)} (S : CallFix p m c cc nL s args Ts own) (hM : vx_Met l y ws rm Pc Qc XC mc ms free) (cw : vx_CVW R s args own C index y bytes maxL ret hh ws rm mc ms n) (hp : PreV s H C b Pc As)
    (hg : g.method = m) (hn : As.length = n) (hsize : g.locals.size = nL) (hstack : g.stack = As.reverse ++ .ref b :: rest) (hW : 2 * g.monitorRoom + (rest.map fun v => v.category).sum ≤ 8) (hdg : decode cc g.pc = .ok (.invokevirtual index, 3)) (hf : cells + mc ≤ R.cells ∧ slots + ms ≤ R.slots) :
    vx_Run p l e R s m args below meth c H locs cells slots mc ms g rest (Qc (Value.ref b :: As).toArray) XC free := by
  obtain ⟨⟨hrc, hrs, hfr, hlo, hws, hcw⟩, hcode, hini, hy, hlen, hl, hin, hse⟩ := cw
  have hK : vx_Back l R p e below s args y 3 8 (PreOf R mc ms Pc) (PostOf Qc mc ms free) (vx_Post XC mc ms free) := vx_backW (hh := hh) (bytes := bytes) (maxL := maxL) (ret := ret) hM hp.1 hrc hrs hfr hlo hws hcw (fun a' U hW => word_at hW (Or.inl (by first | rfl | simp [Cond.onTables, Cond.keeps, Cond.steady])) hini)
  obtain ⟨hx, hb, hml, ho, -⟩ := S
  obtain ⟨-, ⟨cellB, hcB, hoB, hclB⟩, hPc⟩ := hp
  intro T hT X
  rcases vx_callVX X hx (C := C) (hh := hh) (bytes := bytes) (maxL := maxL) (ret := ret) ho hl hin hse hcode hy hK (by rw [hT]; exact hcB) hoB hclB hg (hsize.trans hml.symm) (argsL := As) (rest := rest) (fun sig h => hn.trans (hlen sig h)) hstack hW (by rw [hb]; exact hdg)
    (fun vm₁ hW₁ => ⟨hf.1, hf.2, hPc (T.setVm vm₁) hT hW₁⟩) with ⟨v, vm₁, ⟨U', l2, c2, s2⟩, hW₁, X', ⟨g', mk, t, L, e1, e2, hq, h1, hL, h2, h3⟩, st⟩ | ⟨q, vm₁, ⟨U', l2, c2, s2⟩, hW₁, X', ⟨g', mk, t, L, E, ce, e1, e2, hq, hce, hcv, hcl, h1, hL, h2, h3⟩, st⟩
  · dsimp only [Pt.U, Pt.locs, Pt.cells, Pt.slots] at X' e1 e2 h1 h2 h3 st
    subst h1; subst h2; subst h3
    exact Or.inl ⟨v, (T.setVm vm₁).calling g' mk (Value.ref b :: As).toArray, t, U', L, hT, X', hL, e1, e2, hq, st⟩
  · dsimp only [Pt.U, Pt.locs, Pt.cells, Pt.slots] at X' e1 e2 h1 h2 h3 st hcl
    subst h1; subst h2; subst h3
    exact Or.inr ⟨q, (T.setVm vm₁).calling g' mk (Value.ref b :: As).toArray, t, U', L, E, ce, hT, X', hL, e1, e2, hq, hce, hcv, vx_cls hW₁ hcl, st⟩
theorem vx_runSX {hh : List (Nat × Nat × Nat × Nat)} (S : CallFix p m c cc nL s args Ts own) (hM : vx_Met l y ws rm Pc Qc XC mc ms free) (cw : vx_CSW R s args own index y bytes maxL ret hh ws rm mc ms n) (hp : PreS s H Pc As)
    (hg : g.method = m) (hn : As.length = n) (hsize : g.locals.size = nL) (hstack : g.stack = As.reverse ++ rest) (hW : 2 * g.monitorRoom + (rest.map fun v => v.category).sum ≤ 8) (hdg : decode cc g.pc = .ok (.invokestatic index, 3)) (hf : cells + mc ≤ R.cells ∧ slots + ms ≤ R.slots) :
    vx_Run p l e R s m args below meth c H locs cells slots mc ms g rest (Qc As.toArray) XC free := by
  obtain ⟨⟨hrc, hrs, hfr, hlo, hws, hcw⟩, hcode, hini, hy, hlen, hl, hstt⟩ := cw
  have hK : vx_Back l R p e below s args y 3 8 (PreOf R mc ms Pc) (PostOf Qc mc ms free) (vx_Post XC mc ms free) := vx_backW (hh := hh) (bytes := bytes) (maxL := maxL) (ret := ret) hM hp.1 hrc hrs hfr hlo hws hcw (fun a' U hW => word_at hW (Or.inl (by first | rfl | simp [Cond.onTables, Cond.keeps, Cond.steady])) hini)
  obtain ⟨hx, hb, hml, ho, -⟩ := S
  intro T hT X
  rcases vx_callSX X hx (hh := hh) (bytes := bytes) (maxL := maxL) (ret := ret) ho hl hstt hini hcode hy hK hg (hsize.trans hml.symm) (argsL := As) (rest := rest) (fun sig h => hn.trans (hlen sig h)) hstack hW (by rw [hb]; exact hdg)
    (fun vm₁ hW₁ => ⟨hf.1, hf.2, hp.2 (T.setVm vm₁) hT hW₁⟩) with ⟨v, vm₁, ⟨U', l2, c2, s2⟩, hW₁, X', ⟨g', mk, t, L, e1, e2, hq, h1, hL, h2, h3⟩, st⟩ | ⟨q, vm₁, ⟨U', l2, c2, s2⟩, hW₁, X', ⟨g', mk, t, L, E, ce, e1, e2, hq, hce, hcv, hcl, h1, hL, h2, h3⟩, st⟩
  · dsimp only [Pt.U, Pt.locs, Pt.cells, Pt.slots] at X' e1 e2 h1 h2 h3 st
    subst h1; subst h2; subst h3
    exact Or.inl ⟨v, (T.setVm vm₁).calling g' mk As.toArray, t, U', L, hT, X', hL, e1, e2, hq, st⟩
  · dsimp only [Pt.U, Pt.locs, Pt.cells, Pt.slots] at X' e1 e2 h1 h2 h3 st hcl
    subst h1; subst h2; subst h3
    exact Or.inr ⟨q, (T.setVm vm₁).calling g' mk As.toArray, t, U', L, E, ce, hT, X', hL, e1, e2, hq, hce, hcv, vx_cls hW₁ hcl, st⟩
end
end VXH
theorem vx_ofWH {l : Launch} {y : MethodName} {ws ws' : List Cond} {rm : Room} {Pc : Array Value → State → Prop} {Qc : Array Value → State → Outcome → State → Prop} {XC : String → State → State → Prop} {mc ms : Nat} {free : Addr → Prop} {cc : ByteArray} {maxL : Nat} {ret : Option FieldType} {hh : List (Nat × Nat × Nat × Nat)}
    (hy : plainName y.cls = true) (hw : ws = Cond.codeWith y cc maxL ret hh :: ws')
    (body : ∀ p e s m args below meth c s₁, BodyLoose p l y (headSpec ws rm) cc maxL ret e s m args below meth c s₁ → c.maxLocals = maxL → Pc args s →
      W p l e (headSpec ws rm).room s m args below meth c s.heap [] 0 0 (vx_MQ below Qc XC args s mc ms free) (entryFrame m args maxL)) : vx_Met l y ws rm Pc Qc XC mc ms free := by
  refine MetFree.of_bodyS (code := cc) (maxLocals := maxL) (ret := ret) hy ?_ ?_
  · intro args s m h hn
    obtain ⟨m9, meth, c, hn9, h1, h2, h3, h4, -, h5, h6, -⟩ := Cond.codeWith_spec (atoms_spec (ws := ws) h _ (by rw [hw]; exact List.mem_cons_self))
    cases hn.symm.trans hn9
    exact ⟨meth, c, h1, h2, h3, h4, h5, h6⟩
  · intro p e s m args below meth c s₁ B hml hP _
    have hh0 : s₁.heap = s.heap := by rw [B.state]; rfl
    obtain ⟨t, a1, o, b1, b2, b3⟩ := body p e s m args below meth c s₁ B hml hP s₁ hh0 (Stand.of_body B)
    exact ⟨t, o, a1, b1, b2, b3⟩
/-! ===== END ===== -/
end
section
/-! ===== BEGIN printed: names, fields, word lists, decode rows ===== -/
def RX0 : String := "LadderClimb$History"
def TX0 : u_T := fun k => match k with
  | 0 => ("LadderClimb$History", "saved", "[LLadderClimb$Site;", true)
  | 1 => ("LadderClimb$History", "next", "I", false)
  | _ => ("LadderClimb$History", "size", "I", false)
def tyX0 : Nat → FieldType := fun k => match k with
  | 0 => .array (.object "LadderClimb$Site")
  | 1 => .int
  | _ => .int
abbrev wsX00 : List Cond := u_ws RX0 TX0 3
theorem nmX0 : ∀ a, a < 3 → ∀ b, b < 3 → a ≠ b → (TX0 a).2.1 ≠ (TX0 b).2.1 := by decide +kernel
theorem tyX0_ok : ∀ k, k < 3 → parseFieldDescriptor (TX0 k).2.2.1 = some (tyX0 k) := by decide +kernel
abbrev cX0_init : ByteArray := prog_2_method_1_code
def yX0_init : MethodName := ⟨RX0, "<init>", "()V"⟩
abbrev cX0_save : ByteArray := prog_2_method_2_code
def yX0_save : MethodName := ⟨RX0, "save", "(LLadderClimb$Site;)V"⟩
abbrev cX0_restoreTo : ByteArray := prog_2_method_3_code
def yX0_restoreTo : MethodName := ⟨RX0, "restoreTo", "(LLadderClimb$Site;)V"⟩
def RX1 : String := "LadderClimb$Reader"
def TX1 : u_T := fun k => match k with
  | 0 => ("LadderClimb$Reader", "place", "I", false)
  | 1 => ("LadderClimb$Reader", "least", "I", false)
  | 2 => ("LadderClimb$Reader", "most", "I", false)
  | 3 => ("LadderClimb$Reader", "ladder", "I", false)
  | 4 => ("LadderClimb$Reader", "work", "I", false)
  | _ => ("LadderClimb$Reader", "number", "I", false)
def tyX1 : Nat → FieldType := fun k => match k with
  | 0 => .int
  | 1 => .int
  | 2 => .int
  | 3 => .int
  | 4 => .int
  | _ => .int
abbrev wsX10 : List Cond := u_ws RX1 TX1 6
theorem nmX1 : ∀ a, a < 6 → ∀ b, b < 6 → a ≠ b → (TX1 a).2.1 ≠ (TX1 b).2.1 := by decide +kernel
theorem tyX1_ok : ∀ k, k < 6 → parseFieldDescriptor (TX1 k).2.2.1 = some (tyX1 k) := by decide +kernel
abbrev cX1_init : ByteArray := prog_3_method_1_code
def yX1_init : MethodName := ⟨RX1, "<init>", "()V"⟩
abbrev cX1_startPart : ByteArray := prog_3_method_2_code
def yX1_startPart : MethodName := ⟨RX1, "startPart", "()V"⟩
abbrev cX1_isPartWhole : ByteArray := prog_3_method_3_code
def yX1_isPartWhole : MethodName := ⟨RX1, "isPartWhole", "()Z"⟩
abbrev cX1_takes : ByteArray := prog_3_method_4_code
def yX1_takes : MethodName := ⟨RX1, "takes", "(I)Z"⟩
abbrev cX1_takesLadder : ByteArray := prog_3_method_5_code
def yX1_takesLadder : MethodName := ⟨RX1, "takesLadder", "(I)Z"⟩
abbrev cX1_takesWork : ByteArray := prog_3_method_6_code
def yX1_takesWork : MethodName := ⟨RX1, "takesWork", "(I)Z"⟩
abbrev cX1_startNumber : ByteArray := prog_3_method_7_code
def yX1_startNumber : MethodName := ⟨RX1, "startNumber", "(III)Z"⟩
abbrev cX1_takesDigit : ByteArray := prog_3_method_8_code
def yX1_takesDigit : MethodName := ⟨RX1, "takesDigit", "(I)Z"⟩
abbrev cX1_canBecomeNumber : ByteArray := prog_3_method_9_code
def yX1_canBecomeNumber : MethodName := ⟨RX1, "canBecomeNumber", "(I)Z"⟩
abbrev cX1_takesSemicolon : ByteArray := prog_3_method_10_code
def yX1_takesSemicolon : MethodName := ⟨RX1, "takesSemicolon", "()Z"⟩
def RX2 : String := "LadderClimb$Rig"
def TX2 : u_T := fun k => match k with
  | 0 => ("LadderClimb$Rig", "base", "I", false)
  | 1 => ("LadderClimb$Rig", "height", "I", false)
  | 2 => ("LadderClimb$Rig", "weight", "I", false)
  | 3 => ("LadderClimb$Rig", "ground", "I", false)
  | 4 => ("LadderClimb$Rig", "wall", "I", false)
  | 5 => ("LadderClimb$Rig", "rope", "I", false)
  | 6 => ("LadderClimb$Rig", "falls", "I", false)
  | 7 => ("LadderClimb$Rig", "people", "I", false)
  | 8 => ("LadderClimb$Rig", "weights", "[I", true)
  | _ => ("LadderClimb$Rig", "steps", "[I", true)
def tyX2 : Nat → FieldType := fun k => match k with
  | 0 => .int
  | 1 => .int
  | 2 => .int
  | 3 => .int
  | 4 => .int
  | 5 => .int
  | 6 => .int
  | 7 => .int
  | 8 => .array .int
  | _ => .array .int
abbrev wsX20 : List Cond := u_ws RX2 TX2 10
theorem nmX2 : ∀ a, a < 10 → ∀ b, b < 10 → a ≠ b → (TX2 a).2.1 ≠ (TX2 b).2.1 := by decide +kernel
theorem tyX2_ok : ∀ k, k < 10 → parseFieldDescriptor (TX2 k).2.2.1 = some (tyX2 k) := by decide +kernel
abbrev cX2_init : ByteArray := prog_4_method_1_code
def yX2_init : MethodName := ⟨RX2, "<init>", "()V"⟩
abbrev cX2_copyFrom : ByteArray := prog_4_method_2_code
def yX2_copyFrom : MethodName := ⟨RX2, "copyFrom", "(LLadderClimb$Rig;)V"⟩
abbrev cX2_isFull : ByteArray := prog_4_method_3_code
def yX2_isFull : MethodName := ⟨RX2, "isFull", "()Z"⟩
abbrev cX2_bears : ByteArray := prog_4_method_4_code
def yX2_bears : MethodName := ⟨RX2, "bears", "(I)Z"⟩
abbrev cX2_weightOf : ByteArray := prog_4_method_5_code
def yX2_weightOf : MethodName := ⟨RX2, "weightOf", "(I)I"⟩
abbrev cX2_stepOf : ByteArray := prog_4_method_6_code
def yX2_stepOf : MethodName := ⟨RX2, "stepOf", "(I)I"⟩
abbrev cX2_setStep : ByteArray := prog_4_method_7_code
def yX2_setStep : MethodName := ⟨RX2, "setStep", "(II)V"⟩
abbrev cX2_add : ByteArray := prog_4_method_8_code
def yX2_add : MethodName := ⟨RX2, "add", "(I)V"⟩
abbrev cX2_remove : ByteArray := prog_4_method_9_code
def yX2_remove : MethodName := ⟨RX2, "remove", "(I)V"⟩
abbrev cX2_removeAll : ByteArray := prog_4_method_10_code
def yX2_removeAll : MethodName := ⟨RX2, "removeAll", "()V"⟩
abbrev cX2_load : ByteArray := prog_4_method_11_code
def yX2_load : MethodName := ⟨RX2, "load", "()I"⟩
abbrev cX2_moment : ByteArray := prog_4_method_12_code
def yX2_moment : MethodName := ⟨RX2, "moment", "()I"⟩
abbrev cX2_push : ByteArray := prog_4_method_13_code
def yX2_push : MethodName := ⟨RX2, "push", "(I)I"⟩
abbrev cX2_whatGivesWay : ByteArray := prog_4_method_14_code
def yX2_whatGivesWay : MethodName := ⟨RX2, "whatGivesWay", "(I)I"⟩
abbrev cX2_stands : ByteArray := prog_4_method_15_code
def yX2_stands : MethodName := ⟨RX2, "stands", "()Z"⟩
abbrev cX2_forces : ByteArray := prog_4_method_16_code
def yX2_forces : MethodName := ⟨RX2, "forces", "()I"⟩
abbrev cX2_nearestForce : ByteArray := prog_4_method_17_code
def yX2_nearestForce : MethodName := ⟨RX2, "nearestForce", "()I"⟩
abbrev cX2_leastForce : ByteArray := prog_4_method_18_code
def yX2_leastForce : MethodName := ⟨RX2, "leastForce", "()I"⟩
abbrev cX2_greatestForce : ByteArray := prog_4_method_19_code
def yX2_greatestForce : MethodName := ⟨RX2, "greatestForce", "()I"⟩
abbrev cX2_leastByWall : ByteArray := prog_4_method_20_code
def yX2_leastByWall : MethodName := ⟨RX2, "leastByWall", "()I"⟩
abbrev cX2_leastByGround : ByteArray := prog_4_method_21_code
def yX2_leastByGround : MethodName := ⟨RX2, "leastByGround", "()I"⟩
abbrev cX2_groundPercents : ByteArray := prog_4_method_22_code
def yX2_groundPercents : MethodName := ⟨RX2, "groundPercents", "()I"⟩
abbrev cX2_wallPercents : ByteArray := prog_4_method_23_code
def yX2_wallPercents : MethodName := ⟨RX2, "wallPercents", "()I"⟩
def RX3 : String := "LadderClimb$Site"
def TX3 : u_T := fun k => match k with
  | 0 => ("LadderClimb$Site", "rigs", "[LLadderClimb$Rig;", true)
  | 1 => ("LadderClimb$Site", "fallen", "I", false)
  | _ => ("LadderClimb$Site", "climbed", "I", false)
def tyX3 : Nat → FieldType := fun k => match k with
  | 0 => .array (.object "LadderClimb$Rig")
  | 1 => .int
  | _ => .int
abbrev wsX30 : List Cond := u_ws RX3 TX3 3
theorem nmX3 : ∀ a, a < 3 → ∀ b, b < 3 → a ≠ b → (TX3 a).2.1 ≠ (TX3 b).2.1 := by decide +kernel
theorem tyX3_ok : ∀ k, k < 3 → parseFieldDescriptor (TX3 k).2.2.1 = some (tyX3 k) := by decide +kernel
abbrev cX3_init : ByteArray := prog_5_method_1_code
def yX3_init : MethodName := ⟨RX3, "<init>", "()V"⟩
abbrev cX3_copyFrom : ByteArray := prog_5_method_2_code
def yX3_copyFrom : MethodName := ⟨RX3, "copyFrom", "(LLadderClimb$Site;)V"⟩
abbrev cX3_standing : ByteArray := prog_5_method_3_code
def yX3_standing : MethodName := ⟨RX3, "standing", "()I"⟩
abbrev cX3_people : ByteArray := prog_5_method_4_code
def yX3_people : MethodName := ⟨RX3, "people", "()I"⟩
abbrev cX3_falls : ByteArray := prog_5_method_5_code
def yX3_falls : MethodName := ⟨RX3, "falls", "()I"⟩
abbrev cX3_fallsNow : ByteArray := prog_5_method_6_code
def yX3_fallsNow : MethodName := ⟨RX3, "fallsNow", "(LLadderClimb$Rig;)Z"⟩
abbrev cX3_fall : ByteArray := prog_5_method_7_code
def yX3_fall : MethodName := ⟨RX3, "fall", "(LLadderClimb$Rig;)V"⟩
abbrev cX3_walk : ByteArray := prog_5_method_8_code
def yX3_walk : MethodName := ⟨RX3, "walk", "(LLadderClimb$Rig;II)I"⟩
def RX4 : String := "LadderClimb$Works"
def TX4 : u_T := fun k => match k with
  | 0 => ("LadderClimb$Works", "codes", "[I", true)
  | 1 => ("LadderClimb$Works", "length", "I", false)
  | 2 => ("LadderClimb$Works", "cursor", "I", false)
  | _ => ("LadderClimb$Works", "reader", "LLadderClimb$Reader;", true)
def tyX4 : Nat → FieldType := fun k => match k with
  | 0 => .array .int
  | 1 => .int
  | 2 => .int
  | _ => .object "LadderClimb$Reader"
abbrev wsX40 : List Cond := u_ws RX4 TX4 4
theorem nmX4 : ∀ a, a < 4 → ∀ b, b < 4 → a ≠ b → (TX4 a).2.1 ≠ (TX4 b).2.1 := by decide +kernel
theorem tyX4_ok : ∀ k, k < 4 → parseFieldDescriptor (TX4 k).2.2.1 = some (tyX4 k) := by decide +kernel
abbrev cX4_init : ByteArray := prog_6_method_1_code
def yX4_init : MethodName := ⟨RX4, "<init>", "()V"⟩
abbrev cX4_isFull : ByteArray := prog_6_method_2_code
def yX4_isFull : MethodName := ⟨RX4, "isFull", "()Z"⟩
abbrev cX4_add : ByteArray := prog_6_method_3_code
def yX4_add : MethodName := ⟨RX4, "add", "(I)V"⟩
abbrev cX4_clear : ByteArray := prog_6_method_4_code
def yX4_clear : MethodName := ⟨RX4, "clear", "()V"⟩
abbrev cX4_codeAt : ByteArray := prog_6_method_5_code
def yX4_codeAt : MethodName := ⟨RX4, "codeAt", "(I)I"⟩
abbrev cX4_firstFault : ByteArray := prog_6_method_6_code
def yX4_firstFault : MethodName := ⟨RX4, "firstFault", "()I"⟩
abbrev cX4_isWhole : ByteArray := prog_6_method_7_code
def yX4_isWhole : MethodName := ⟨RX4, "isWhole", "()Z"⟩
abbrev cX4_rewind : ByteArray := prog_6_method_8_code
def yX4_rewind : MethodName := ⟨RX4, "rewind", "()V"⟩
abbrev cX4_nextPart : ByteArray := prog_6_method_9_code
def yX4_nextPart : MethodName := ⟨RX4, "nextPart", "()Z"⟩
def RX5 : String := "LadderClimb"
def TX5 : u_T := fun k => match k with
  | 0 => ("LadderClimb", "site", "LLadderClimb$Site;", true)
  | 1 => ("LadderClimb", "history", "LLadderClimb$History;", true)
  | 2 => ("LadderClimb", "works", "LLadderClimb$Works;", true)
  | _ => ("LadderClimb", "trial", "LLadderClimb$Rig;", true)
def tyX5 : Nat → FieldType := fun k => match k with
  | 0 => .object "LadderClimb$Site"
  | 1 => .object "LadderClimb$History"
  | 2 => .object "LadderClimb$Works"
  | _ => .object "LadderClimb$Rig"
abbrev wsX50 : List Cond := u_ws RX5 TX5 4
theorem nmX5 : ∀ a, a < 4 → ∀ b, b < 4 → a ≠ b → (TX5 a).2.1 ≠ (TX5 b).2.1 := by decide +kernel
theorem tyX5_ok : ∀ k, k < 4 → parseFieldDescriptor (TX5 k).2.2.1 = some (tyX5 k) := by decide +kernel
abbrev cX5_init : ByteArray := prog_1_method_1_code
def yX5_init : MethodName := ⟨RX5, "<init>", "()V"⟩
abbrev cX5_put : ByteArray := prog_1_method_2_code
def yX5_put : MethodName := ⟨RX5, "put", "(IIII)I"⟩
abbrev cX5_kinds : ByteArray := prog_1_method_3_code
def yX5_kinds : MethodName := ⟨RX5, "kinds", "(III)I"⟩
abbrev cX5_rope : ByteArray := prog_1_method_4_code
def yX5_rope : MethodName := ⟨RX5, "rope", "(II)I"⟩
abbrev cX5_on : ByteArray := prog_1_method_5_code
def yX5_on : MethodName := ⟨RX5, "on", "(II)I"⟩
abbrev cX5_off : ByteArray := prog_1_method_6_code
def yX5_off : MethodName := ⟨RX5, "off", "(II)I"⟩
abbrev cX5_climb : ByteArray := prog_1_method_7_code
def yX5_climb : MethodName := ⟨RX5, "climb", "(III)I"⟩
abbrev cX5_append : ByteArray := prog_1_method_8_code
def yX5_append : MethodName := ⟨RX5, "append", "(I)I"⟩
abbrev cX5_clearBuffer : ByteArray := prog_1_method_9_code
def yX5_clearBuffer : MethodName := ⟨RX5, "clearBuffer", "()I"⟩
abbrev cX5_firstError : ByteArray := prog_1_method_10_code
def yX5_firstError : MethodName := ⟨RX5, "firstError", "()I"⟩
abbrev cX5_play : ByteArray := prog_1_method_11_code
def yX5_play : MethodName := ⟨RX5, "play", "()I"⟩
abbrev cX5_undo : ByteArray := prog_1_method_12_code
def yX5_undo : MethodName := ⟨RX5, "undo", "()I"⟩
abbrev cX5_ladder : ByteArray := prog_1_method_13_code
def yX5_ladder : MethodName := ⟨RX5, "ladder", "(II)I"⟩
abbrev cX5_person : ByteArray := prog_1_method_14_code
def yX5_person : MethodName := ⟨RX5, "person", "(III)I"⟩
abbrev cX5_force : ByteArray := prog_1_method_15_code
def yX5_force : MethodName := ⟨RX5, "force", "(II)I"⟩
abbrev cX5_held : ByteArray := prog_1_method_16_code
def yX5_held : MethodName := ⟨RX5, "held", "(II)I"⟩
abbrev cX5_count : ByteArray := prog_1_method_17_code
def yX5_count : MethodName := ⟨RX5, "count", "(I)I"⟩
abbrev cX5_highest : ByteArray := prog_1_method_18_code
def yX5_highest : MethodName := ⟨RX5, "highest", "(II)I"⟩
abbrev cX5_neededRope : ByteArray := prog_1_method_19_code
def yX5_neededRope : MethodName := ⟨RX5, "neededRope", "(I)I"⟩
abbrev cX5_bestBase : ByteArray := prog_1_method_20_code
def yX5_bestBase : MethodName := ⟨RX5, "bestBase", "(I)I"⟩
abbrev cX5_riskiest : ByteArray := prog_1_method_21_code
def yX5_riskiest : MethodName := ⟨RX5, "riskiest", "(I)I"⟩
abbrev cX5_walls : ByteArray := prog_1_method_22_code
def yX5_walls : MethodName := ⟨RX5, "walls", "(I)I"⟩
abbrev cX5_safety : ByteArray := prog_1_method_23_code
def yX5_safety : MethodName := ⟨RX5, "safety", "()D"⟩
abbrev cX5_digest : ByteArray := prog_1_method_24_code
def yX5_digest : MethodName := ⟨RX5, "digest", "()J"⟩
abbrev cX5_mixLadder : ByteArray := prog_1_method_25_code
def yX5_mixLadder : MethodName := ⟨RX5, "mixLadder", "(JI)J"⟩
abbrev cX5_mix : ByteArray := prog_1_method_26_code
def yX5_mix : MethodName := ⟨RX5, "mix", "(JJ)J"⟩
abbrev cX5_bitsOf : ByteArray := prog_1_method_27_code
def yX5_bitsOf : MethodName := ⟨RX5, "bitsOf", "(D)J"⟩
abbrev cX5_playPart : ByteArray := prog_1_method_28_code
def yX5_playPart : MethodName := ⟨RX5, "playPart", "(LLadderClimb$Reader;)Z"⟩
abbrev cX5_rigOf : ByteArray := prog_1_method_29_code
def yX5_rigOf : MethodName := ⟨RX5, "rigOf", "(I)LLadderClimb$Rig;"⟩
abbrev cX5_demandPerson : ByteArray := prog_1_method_30_code
def yX5_demandPerson : MethodName := ⟨RX5, "demandPerson", "(LLadderClimb$Rig;I)V"⟩
abbrev cX5_demandRange : ByteArray := prog_1_method_31_code
def yX5_demandRange : MethodName := ⟨RX5, "demandRange", "(III)V"⟩
def RX6 : String := "LadderClimbModel"
def TX6 : u_T := fun k => match k with
  | 0 => ("LadderClimbModel", "thrown", "I", false)
  | 1 => ("LadderClimbModel", "s", "[I", true)
  | 2 => ("LadderClimbModel", "saved", "[I", true)
  | 3 => ("LadderClimbModel", "savedMany", "I", false)
  | 4 => ("LadderClimbModel", "text", "[I", true)
  | 5 => ("LadderClimbModel", "length", "I", false)
  | 6 => ("LadderClimbModel", "heldMany", "I", false)
  | 7 => ("LadderClimbModel", "least", "I", false)
  | 8 => ("LadderClimbModel", "greatest", "I", false)
  | 9 => ("LadderClimbModel", "nearest", "I", false)
  | 10 => ("LadderClimbModel", "place", "I", false)
  | 11 => ("LadderClimbModel", "isWrong", "Z", false)
  | 12 => ("LadderClimbModel", "which", "I", false)
  | 13 => ("LadderClimbModel", "work", "I", false)
  | 14 => ("LadderClimbModel", "number", "I", false)
  | _ => ("LadderClimbModel", "digested", "J", false)
def tyX6 : Nat → FieldType := fun k => match k with
  | 0 => .int
  | 1 => .array .int
  | 2 => .array .int
  | 3 => .int
  | 4 => .array .int
  | 5 => .int
  | 6 => .int
  | 7 => .int
  | 8 => .int
  | 9 => .int
  | 10 => .int
  | 11 => .boolean
  | 12 => .int
  | 13 => .int
  | 14 => .int
  | _ => .long
abbrev wsX60 : List Cond := u_ws RX6 TX6 16
theorem nmX6 : ∀ a, a < 16 → ∀ b, b < 16 → a ≠ b → (TX6 a).2.1 ≠ (TX6 b).2.1 := by decide +kernel
theorem tyX6_ok : ∀ k, k < 16 → parseFieldDescriptor (TX6 k).2.2.1 = some (tyX6 k) := by decide +kernel
abbrev cX6_init : ByteArray := prog_8_method_1_code
def yX6_init : MethodName := ⟨RX6, "<init>", "()V"⟩
abbrev cX6_thrown : ByteArray := prog_8_method_2_code
def yX6_thrown : MethodName := ⟨RX6, "thrown", "()I"⟩
abbrev cX6_in : ByteArray := prog_8_method_3_code
def yX6_in : MethodName := ⟨RX6, "in", "(III)Z"⟩
abbrev cX6_holds : ByteArray := prog_8_method_4_code
def yX6_holds : MethodName := ⟨RX6, "holds", "(I)Z"⟩
abbrev cX6_isLadder : ByteArray := prog_8_method_5_code
def yX6_isLadder : MethodName := ⟨RX6, "isLadder", "(I)Z"⟩
abbrev cX6_isPerson : ByteArray := prog_8_method_6_code
def yX6_isPerson : MethodName := ⟨RX6, "isPerson", "(II)Z"⟩
abbrev cX6_of : ByteArray := prog_8_method_7_code
def yX6_of : MethodName := ⟨RX6, "of", "(II)I"⟩
abbrev cX6_ofPerson : ByteArray := prog_8_method_8_code
def yX6_ofPerson : MethodName := ⟨RX6, "ofPerson", "(III)I"⟩
abbrev cX6_save : ByteArray := prog_8_method_9_code
def yX6_save : MethodName := ⟨RX6, "save", "()V"⟩
abbrev cX6_groundOf : ByteArray := prog_8_method_10_code
def yX6_groundOf : MethodName := ⟨RX6, "groundOf", "(I)I"⟩
abbrev cX6_wallOf : ByteArray := prog_8_method_11_code
def yX6_wallOf : MethodName := ⟨RX6, "wallOf", "(I)I"⟩
abbrev cX6_loadOf : ByteArray := prog_8_method_12_code
def yX6_loadOf : MethodName := ⟨RX6, "loadOf", "(I)I"⟩
abbrev cX6_momentOf : ByteArray := prog_8_method_13_code
def yX6_momentOf : MethodName := ⟨RX6, "momentOf", "(I)I"⟩
abbrev cX6_pushOf : ByteArray := prog_8_method_14_code
def yX6_pushOf : MethodName := ⟨RX6, "pushOf", "(II)I"⟩
abbrev cX6_lacks : ByteArray := prog_8_method_15_code
def yX6_lacks : MethodName := ⟨RX6, "lacks", "(IIII)I"⟩
abbrev cX6_forces : ByteArray := prog_8_method_16_code
def yX6_forces : MethodName := ⟨RX6, "forces", "(I)I"⟩
abbrev cX6_stands : ByteArray := prog_8_method_17_code
def yX6_stands : MethodName := ⟨RX6, "stands", "(I)Z"⟩
abbrev cX6_falls : ByteArray := prog_8_method_18_code
def yX6_falls : MethodName := ⟨RX6, "falls", "(I)Z"⟩
abbrev cX6_put : ByteArray := prog_8_method_19_code
def yX6_put : MethodName := ⟨RX6, "put", "(IIII)I"⟩
abbrev cX6_kinds : ByteArray := prog_8_method_20_code
def yX6_kinds : MethodName := ⟨RX6, "kinds", "(III)I"⟩
abbrev cX6_rope : ByteArray := prog_8_method_21_code
def yX6_rope : MethodName := ⟨RX6, "rope", "(II)I"⟩
abbrev cX6_comes : ByteArray := prog_8_method_22_code
def yX6_comes : MethodName := ⟨RX6, "comes", "(II)I"⟩
abbrev cX6_on : ByteArray := prog_8_method_23_code
def yX6_on : MethodName := ⟨RX6, "on", "(II)I"⟩
abbrev cX6_takesOff : ByteArray := prog_8_method_24_code
def yX6_takesOff : MethodName := ⟨RX6, "takesOff", "(II)V"⟩
abbrev cX6_goes : ByteArray := prog_8_method_25_code
def yX6_goes : MethodName := ⟨RX6, "goes", "(II)I"⟩
abbrev cX6_off : ByteArray := prog_8_method_26_code
def yX6_off : MethodName := ⟨RX6, "off", "(II)I"⟩
abbrev cX6_climbs : ByteArray := prog_8_method_27_code
def yX6_climbs : MethodName := ⟨RX6, "climbs", "(III)I"⟩
abbrev cX6_climb : ByteArray := prog_8_method_28_code
def yX6_climb : MethodName := ⟨RX6, "climb", "(III)I"⟩
abbrev cX6_append : ByteArray := prog_8_method_29_code
def yX6_append : MethodName := ⟨RX6, "append", "(I)I"⟩
abbrev cX6_clearBuffer : ByteArray := prog_8_method_30_code
def yX6_clearBuffer : MethodName := ⟨RX6, "clearBuffer", "()I"⟩
abbrev cX6_sign : ByteArray := prog_8_method_31_code
def yX6_sign : MethodName := ⟨RX6, "sign", "(II)I"⟩
abbrev cX6_begins : ByteArray := prog_8_method_32_code
def yX6_begins : MethodName := ⟨RX6, "begins", "(III)Z"⟩
abbrev cX6_goesOn : ByteArray := prog_8_method_33_code
def yX6_goesOn : MethodName := ⟨RX6, "goesOn", "(II)Z"⟩
abbrev cX6_readNumber : ByteArray := prog_8_method_34_code
def yX6_readNumber : MethodName := ⟨RX6, "readNumber", "(II)V"⟩
abbrev cX6_readPart : ByteArray := prog_8_method_35_code
def yX6_readPart : MethodName := ⟨RX6, "readPart", "()V"⟩
abbrev cX6_doesPart : ByteArray := prog_8_method_36_code
def yX6_doesPart : MethodName := ⟨RX6, "doesPart", "()Z"⟩
abbrev cX6_goesThrough : ByteArray := prog_8_method_37_code
def yX6_goesThrough : MethodName := ⟨RX6, "goesThrough", "(Z)I"⟩
abbrev cX6_firstError : ByteArray := prog_8_method_38_code
def yX6_firstError : MethodName := ⟨RX6, "firstError", "()I"⟩
abbrev cX6_play : ByteArray := prog_8_method_39_code
def yX6_play : MethodName := ⟨RX6, "play", "()I"⟩
abbrev cX6_undo : ByteArray := prog_8_method_40_code
def yX6_undo : MethodName := ⟨RX6, "undo", "()I"⟩
abbrev cX6_ofLadder : ByteArray := prog_8_method_41_code
def yX6_ofLadder : MethodName := ⟨RX6, "ofLadder", "(II)I"⟩
abbrev cX6_ladder : ByteArray := prog_8_method_42_code
def yX6_ladder : MethodName := ⟨RX6, "ladder", "(II)I"⟩
abbrev cX6_person : ByteArray := prog_8_method_43_code
def yX6_person : MethodName := ⟨RX6, "person", "(III)I"⟩
abbrev cX6_ofForce : ByteArray := prog_8_method_44_code
def yX6_ofForce : MethodName := ⟨RX6, "ofForce", "(II)I"⟩
abbrev cX6_force : ByteArray := prog_8_method_45_code
def yX6_force : MethodName := ⟨RX6, "force", "(II)I"⟩
abbrev cX6_lacking : ByteArray := prog_8_method_46_code
def yX6_lacking : MethodName := ⟨RX6, "lacking", "(II)I"⟩
abbrev cX6_held : ByteArray := prog_8_method_47_code
def yX6_held : MethodName := ⟨RX6, "held", "(II)I"⟩
abbrev cX6_sumOf : ByteArray := prog_8_method_48_code
def yX6_sumOf : MethodName := ⟨RX6, "sumOf", "(I)I"⟩
abbrev cX6_counted : ByteArray := prog_8_method_49_code
def yX6_counted : MethodName := ⟨RX6, "counted", "(I)I"⟩
abbrev cX6_count : ByteArray := prog_8_method_50_code
def yX6_count : MethodName := ⟨RX6, "count", "(I)I"⟩
abbrev cX6_highestOf : ByteArray := prog_8_method_51_code
def yX6_highestOf : MethodName := ⟨RX6, "highestOf", "(II)I"⟩
abbrev cX6_highest : ByteArray := prog_8_method_52_code
def yX6_highest : MethodName := ⟨RX6, "highest", "(II)I"⟩
abbrev cX6_ropeFor : ByteArray := prog_8_method_53_code
def yX6_ropeFor : MethodName := ⟨RX6, "ropeFor", "(I)I"⟩
abbrev cX6_neededRope : ByteArray := prog_8_method_54_code
def yX6_neededRope : MethodName := ⟨RX6, "neededRope", "(I)I"⟩
abbrev cX6_baseFor : ByteArray := prog_8_method_55_code
def yX6_baseFor : MethodName := ⟨RX6, "baseFor", "(I)I"⟩
abbrev cX6_bestBase : ByteArray := prog_8_method_56_code
def yX6_bestBase : MethodName := ⟨RX6, "bestBase", "(I)I"⟩
abbrev cX6_riskiestOf : ByteArray := prog_8_method_57_code
def yX6_riskiestOf : MethodName := ⟨RX6, "riskiestOf", "(I)I"⟩
abbrev cX6_riskiest : ByteArray := prog_8_method_58_code
def yX6_riskiest : MethodName := ⟨RX6, "riskiest", "(I)I"⟩
abbrev cX6_wallsFor : ByteArray := prog_8_method_59_code
def yX6_wallsFor : MethodName := ⟨RX6, "wallsFor", "(I)I"⟩
abbrev cX6_walls : ByteArray := prog_8_method_60_code
def yX6_walls : MethodName := ⟨RX6, "walls", "(I)I"⟩
abbrev cX6_share : ByteArray := prog_8_method_61_code
def yX6_share : MethodName := ⟨RX6, "share", "()D"⟩
abbrev cX6_safety : ByteArray := prog_8_method_62_code
def yX6_safety : MethodName := ⟨RX6, "safety", "()D"⟩
abbrev cX6_bitsOf : ByteArray := prog_8_method_63_code
def yX6_bitsOf : MethodName := ⟨RX6, "bitsOf", "(D)J"⟩
abbrev cX6_digestOne : ByteArray := prog_8_method_64_code
def yX6_digestOne : MethodName := ⟨RX6, "digestOne", "(J)V"⟩
abbrev cX6_digestLadder : ByteArray := prog_8_method_65_code
def yX6_digestLadder : MethodName := ⟨RX6, "digestLadder", "(I)V"⟩
abbrev cX6_digest : ByteArray := prog_8_method_66_code
def yX6_digest : MethodName := ⟨RX6, "digest", "()J"⟩
def RJ9 : String := "java/lang/Math"
def TJ9 : u_T := fun k => match k with
  | _ => ("", "", "", false)
def tyJ9 : Nat → FieldType := fun k => match k with
  | _ => .int
abbrev wsJ90 : List Cond := u_ws RJ9 TJ9 0
theorem nmJ9 : ∀ a, a < 0 → ∀ b, b < 0 → a ≠ b → (TJ9 a).2.1 ≠ (TJ9 b).2.1 := by decide +kernel
theorem tyJ9_ok : ∀ k, k < 0 → parseFieldDescriptor (TJ9 k).2.2.1 = some (tyJ9 k) := by decide +kernel
abbrev cJ9_floorDiv_7cf53 : ByteArray := prog_13_method_47_code
def yJ9_floorDiv_7cf53 : MethodName := ⟨RJ9, "floorDiv", "(II)I"⟩
abbrev cJ9_abs_0f7a4 : ByteArray := prog_13_method_59_code
def yJ9_abs_0f7a4 : MethodName := ⟨RJ9, "abs", "(I)I"⟩
abbrev cJ9_max_7cf53 : ByteArray := prog_13_method_65_code
def yJ9_max_7cf53 : MethodName := ⟨RJ9, "max", "(II)I"⟩
abbrev cJ9_min_7cf53 : ByteArray := prog_13_method_69_code
def yJ9_min_7cf53 : MethodName := ⟨RJ9, "min", "(II)I"⟩
def RJ0 : String := "java/lang/String"
def TJ0 : u_T := fun k => match k with
  | _ => ("", "", "", false)
def tyJ0 : Nat → FieldType := fun k => match k with
  | _ => .int
abbrev wsJ00 : List Cond := u_ws RJ0 TJ0 0
theorem nmJ0 : ∀ a, a < 0 → ∀ b, b < 0 → a ≠ b → (TJ0 a).2.1 ≠ (TJ0 b).2.1 := by decide +kernel
theorem tyJ0_ok : ∀ k, k < 0 → parseFieldDescriptor (TJ0 k).2.2.1 = some (tyJ0 k) := by decide +kernel
def RL : String := "LadderClimbLaw"
abbrev cL_put : ByteArray := method_3_code
def yL_put : MethodName := ⟨RL, "put", "(LLadderClimb;IIII[J)I"⟩
abbrev cL_kinds : ByteArray := method_4_code
def yL_kinds : MethodName := ⟨RL, "kinds", "(LLadderClimb;III[J)I"⟩
abbrev cL_rope : ByteArray := method_5_code
def yL_rope : MethodName := ⟨RL, "rope", "(LLadderClimb;II[J)I"⟩
abbrev cL_on : ByteArray := method_6_code
def yL_on : MethodName := ⟨RL, "on", "(LLadderClimb;II[J)I"⟩
abbrev cL_off : ByteArray := method_7_code
def yL_off : MethodName := ⟨RL, "off", "(LLadderClimb;II[J)I"⟩
abbrev cL_climb : ByteArray := method_8_code
def yL_climb : MethodName := ⟨RL, "climb", "(LLadderClimb;III[J)I"⟩
abbrev cL_append : ByteArray := method_9_code
def yL_append : MethodName := ⟨RL, "append", "(LLadderClimb;I[J)I"⟩
abbrev cL_play : ByteArray := method_10_code
def yL_play : MethodName := ⟨RL, "play", "(LLadderClimb;[J)I"⟩
abbrev cL_undo : ByteArray := method_11_code
def yL_undo : MethodName := ⟨RL, "undo", "(LLadderClimb;[J)I"⟩
abbrev cL_ladder : ByteArray := method_12_code
def yL_ladder : MethodName := ⟨RL, "ladder", "(LLadderClimb;II[J)I"⟩
abbrev cL_person : ByteArray := method_13_code
def yL_person : MethodName := ⟨RL, "person", "(LLadderClimb;III[J)I"⟩
abbrev cL_force : ByteArray := method_14_code
def yL_force : MethodName := ⟨RL, "force", "(LLadderClimb;II[J)I"⟩
abbrev cL_held : ByteArray := method_15_code
def yL_held : MethodName := ⟨RL, "held", "(LLadderClimb;II[J)I"⟩
abbrev cL_count : ByteArray := method_16_code
def yL_count : MethodName := ⟨RL, "count", "(LLadderClimb;I[J)I"⟩
abbrev cL_highest : ByteArray := method_17_code
def yL_highest : MethodName := ⟨RL, "highest", "(LLadderClimb;II[J)I"⟩
abbrev cL_neededRope : ByteArray := method_18_code
def yL_neededRope : MethodName := ⟨RL, "neededRope", "(LLadderClimb;I[J)I"⟩
abbrev cL_bestBase : ByteArray := method_19_code
def yL_bestBase : MethodName := ⟨RL, "bestBase", "(LLadderClimb;I[J)I"⟩
abbrev cL_riskiest : ByteArray := method_20_code
def yL_riskiest : MethodName := ⟨RL, "riskiest", "(LLadderClimb;I[J)I"⟩
abbrev cL_walls : ByteArray := method_21_code
def yL_walls : MethodName := ⟨RL, "walls", "(LLadderClimb;I[J)I"⟩
abbrev cL_law : ByteArray := code
def yL_law : MethodName := ⟨RL, "law", "([I)Z"⟩
def wsX2_init : List Cond := .code yX2_init cX2_init 1 none :: ([.methodLink RX2 3 objectInit, .instanceMethod objectInit, .code objectInit ⟨#[0xb1]⟩ 1 none, .fieldLink RX2 9 "LadderClimb$Rig" "base" "I", .fieldLink RX2 15 "LadderClimb$Rig" "height" "I", .fieldLink RX2 18 "LadderClimb$Rig" "weight" "I", .fieldLink RX2 21 "LadderClimb$Rig" "ground" "I", .fieldLink RX2 24 "LadderClimb$Rig" "wall" "I", .fieldLink RX2 27 "LadderClimb$Rig" "rope" "I", .fieldLink RX2 30 "LadderClimb$Rig" "falls" "I", .fieldLink RX2 33 "LadderClimb$Rig" "people" "I", .arrayClass .int, .fieldLink RX2 36 "LadderClimb$Rig" "weights" "[I", .fieldLink RX2 40 "LadderClimb$Rig" "steps" "[I"] ++ wsX20)
def wsX3_init : List Cond := .code yX3_init cX3_init 2 none :: ([.methodLink RX3 3 objectInit, .instanceMethod objectInit, .code objectInit ⟨#[0xb1]⟩ 1 none, .classLink RX3 9 RX2, .fieldLink RX3 11 "LadderClimb$Site" "rigs" "[LLadderClimb$Rig;", .fieldLink RX3 17 "LadderClimb$Site" "fallen" "I", .fieldLink RX3 21 "LadderClimb$Site" "climbed" "I", .instantiable RX2 10, .initialized RX2, .instanceMethod yX2_init, .code yX2_init cX2_init 1 none, .methodLink RX2 3 objectInit, .fieldLink RX2 9 "LadderClimb$Rig" "base" "I", .fieldLink RX2 15 "LadderClimb$Rig" "height" "I", .fieldLink RX2 18 "LadderClimb$Rig" "weight" "I", .fieldLink RX2 21 "LadderClimb$Rig" "ground" "I", .fieldLink RX2 24 "LadderClimb$Rig" "wall" "I", .fieldLink RX2 27 "LadderClimb$Rig" "rope" "I", .fieldLink RX2 30 "LadderClimb$Rig" "falls" "I", .fieldLink RX2 33 "LadderClimb$Rig" "people" "I", .arrayClass .int, .fieldLink RX2 36 "LadderClimb$Rig" "weights" "[I", .fieldLink RX2 40 "LadderClimb$Rig" "steps" "[I"] ++ wsX30 ++ wsX20)
def wsX0_init_r1 : List Cond := [Cond.methodLink RX0 3 objectInit, Cond.instanceMethod objectInit, Cond.code objectInit ⟨#[0xb1]⟩ 1 none, Cond.classLink RX0 9 RX3, Cond.fieldLink RX0 11 "LadderClimb$History" "saved" "[LLadderClimb$Site;", Cond.fieldLink RX0 17 "LadderClimb$History" "next" "I", Cond.fieldLink RX0 21 "LadderClimb$History" "size" "I", Cond.instantiable RX3 3, Cond.initialized RX3, Cond.methodLink RX0 24 yX3_init, Cond.instanceMethod yX3_init, Cond.code yX3_init cX3_init 2 none, Cond.methodLink RX3 3 objectInit, Cond.classLink RX3 9 RX2, Cond.fieldLink RX3 11 "LadderClimb$Site" "rigs" "[LLadderClimb$Rig;", Cond.fieldLink RX3 17 "LadderClimb$Site" "fallen" "I", Cond.fieldLink RX3 21 "LadderClimb$Site" "climbed" "I", Cond.instantiable RX2 10, Cond.initialized RX2, Cond.instanceMethod yX2_init, Cond.code yX2_init cX2_init 1 none, Cond.methodLink RX2 3 objectInit, Cond.fieldLink RX2 9 "LadderClimb$Rig" "base" "I", Cond.fieldLink RX2 15 "LadderClimb$Rig" "height" "I"]
def wsX0_init_r2 : List Cond := [Cond.fieldLink RX2 18 "LadderClimb$Rig" "weight" "I", Cond.fieldLink RX2 21 "LadderClimb$Rig" "ground" "I", Cond.fieldLink RX2 24 "LadderClimb$Rig" "wall" "I", Cond.fieldLink RX2 27 "LadderClimb$Rig" "rope" "I", Cond.fieldLink RX2 30 "LadderClimb$Rig" "falls" "I", Cond.fieldLink RX2 33 "LadderClimb$Rig" "people" "I", Cond.arrayClass .int, Cond.fieldLink RX2 36 "LadderClimb$Rig" "weights" "[I", Cond.fieldLink RX2 40 "LadderClimb$Rig" "steps" "[I"]
def wsX0_init : List Cond := .code yX0_init cX0_init 2 none :: ((wsX0_init_r1 ++ wsX0_init_r2) ++ wsX00 ++ wsX30 ++ wsX20)
def wsX2_copyFrom : List Cond := .code yX2_copyFrom cX2_copyFrom 3 none :: ([.fieldLink RX2 9 "LadderClimb$Rig" "base" "I", .fieldLink RX2 15 "LadderClimb$Rig" "height" "I", .fieldLink RX2 18 "LadderClimb$Rig" "weight" "I", .fieldLink RX2 21 "LadderClimb$Rig" "ground" "I", .fieldLink RX2 24 "LadderClimb$Rig" "wall" "I", .fieldLink RX2 27 "LadderClimb$Rig" "rope" "I", .fieldLink RX2 30 "LadderClimb$Rig" "falls" "I", .fieldLink RX2 33 "LadderClimb$Rig" "people" "I", .fieldLink RX2 36 "LadderClimb$Rig" "weights" "[I", .fieldLink RX2 40 "LadderClimb$Rig" "steps" "[I"] ++ wsX20)
def wsX3_copyFrom : List Cond := .code yX3_copyFrom cX3_copyFrom 3 none :: ([.fieldLink RX3 11 "LadderClimb$Site" "rigs" "[LLadderClimb$Rig;", .fieldLink RX3 17 "LadderClimb$Site" "fallen" "I", .fieldLink RX3 21 "LadderClimb$Site" "climbed" "I", .methodLink RX3 25 yX2_copyFrom, .instanceMethod yX2_copyFrom, .selects RX2 yX2_copyFrom yX2_copyFrom, .initialized RX2, .code yX2_copyFrom cX2_copyFrom 3 none, .fieldLink RX2 9 "LadderClimb$Rig" "base" "I", .fieldLink RX2 15 "LadderClimb$Rig" "height" "I", .fieldLink RX2 18 "LadderClimb$Rig" "weight" "I", .fieldLink RX2 21 "LadderClimb$Rig" "ground" "I", .fieldLink RX2 24 "LadderClimb$Rig" "wall" "I", .fieldLink RX2 27 "LadderClimb$Rig" "rope" "I", .fieldLink RX2 30 "LadderClimb$Rig" "falls" "I", .fieldLink RX2 33 "LadderClimb$Rig" "people" "I", .fieldLink RX2 36 "LadderClimb$Rig" "weights" "[I", .fieldLink RX2 40 "LadderClimb$Rig" "steps" "[I"] ++ wsX30 ++ wsX20)
def wsX0_save_r1 : List Cond := [Cond.fieldLink RX0 17 "LadderClimb$History" "next" "I", Cond.fieldLink RX0 11 "LadderClimb$History" "saved" "[LLadderClimb$Site;", Cond.fieldLink RX0 21 "LadderClimb$History" "size" "I", Cond.methodLink RX0 29 Lib.Math.min.name, Cond.static Lib.Math.min.name, Cond.initialized "java/lang/Math", Cond.code Lib.Math.min.name Lib.Math.min.code 2 (some .int), Cond.methodLink RX0 25 yX3_copyFrom, Cond.instanceMethod yX3_copyFrom, Cond.selects RX3 yX3_copyFrom yX3_copyFrom, Cond.initialized RX3, Cond.code yX3_copyFrom cX3_copyFrom 3 none, Cond.fieldLink RX3 11 "LadderClimb$Site" "rigs" "[LLadderClimb$Rig;", Cond.fieldLink RX3 17 "LadderClimb$Site" "fallen" "I", Cond.fieldLink RX3 21 "LadderClimb$Site" "climbed" "I", Cond.methodLink RX3 25 yX2_copyFrom, Cond.instanceMethod yX2_copyFrom, Cond.selects RX2 yX2_copyFrom yX2_copyFrom, Cond.initialized RX2, Cond.code yX2_copyFrom cX2_copyFrom 3 none, Cond.fieldLink RX2 9 "LadderClimb$Rig" "base" "I", Cond.fieldLink RX2 15 "LadderClimb$Rig" "height" "I", Cond.fieldLink RX2 18 "LadderClimb$Rig" "weight" "I", Cond.fieldLink RX2 21 "LadderClimb$Rig" "ground" "I"]
def wsX0_save_r2 : List Cond := [Cond.fieldLink RX2 24 "LadderClimb$Rig" "wall" "I", Cond.fieldLink RX2 27 "LadderClimb$Rig" "rope" "I", Cond.fieldLink RX2 30 "LadderClimb$Rig" "falls" "I", Cond.fieldLink RX2 33 "LadderClimb$Rig" "people" "I", Cond.fieldLink RX2 36 "LadderClimb$Rig" "weights" "[I", Cond.fieldLink RX2 40 "LadderClimb$Rig" "steps" "[I"]
def wsX0_save : List Cond := .code yX0_save cX0_save 2 none :: ((wsX0_save_r1 ++ wsX0_save_r2) ++ wsX00 ++ wsX30 ++ wsX20)
def wsX0_restoreTo_r1 : List Cond := [Cond.fieldLink RX0 17 "LadderClimb$History" "next" "I", Cond.fieldLink RX0 21 "LadderClimb$History" "size" "I", Cond.fieldLink RX0 11 "LadderClimb$History" "saved" "[LLadderClimb$Site;", Cond.methodLink RX0 25 yX3_copyFrom, Cond.instanceMethod yX3_copyFrom, Cond.selects RX3 yX3_copyFrom yX3_copyFrom, Cond.initialized RX3, Cond.code yX3_copyFrom cX3_copyFrom 3 none, Cond.fieldLink RX3 11 "LadderClimb$Site" "rigs" "[LLadderClimb$Rig;", Cond.fieldLink RX3 17 "LadderClimb$Site" "fallen" "I", Cond.fieldLink RX3 21 "LadderClimb$Site" "climbed" "I", Cond.methodLink RX3 25 yX2_copyFrom, Cond.instanceMethod yX2_copyFrom, Cond.selects RX2 yX2_copyFrom yX2_copyFrom, Cond.initialized RX2, Cond.code yX2_copyFrom cX2_copyFrom 3 none, Cond.fieldLink RX2 9 "LadderClimb$Rig" "base" "I", Cond.fieldLink RX2 15 "LadderClimb$Rig" "height" "I", Cond.fieldLink RX2 18 "LadderClimb$Rig" "weight" "I", Cond.fieldLink RX2 21 "LadderClimb$Rig" "ground" "I", Cond.fieldLink RX2 24 "LadderClimb$Rig" "wall" "I", Cond.fieldLink RX2 27 "LadderClimb$Rig" "rope" "I", Cond.fieldLink RX2 30 "LadderClimb$Rig" "falls" "I", Cond.fieldLink RX2 33 "LadderClimb$Rig" "people" "I"]
def wsX0_restoreTo_r2 : List Cond := [Cond.fieldLink RX2 36 "LadderClimb$Rig" "weights" "[I", Cond.fieldLink RX2 40 "LadderClimb$Rig" "steps" "[I"]
def wsX0_restoreTo : List Cond := .code yX0_restoreTo cX0_restoreTo 3 none :: ((wsX0_restoreTo_r1 ++ wsX0_restoreTo_r2) ++ wsX00 ++ wsX30 ++ wsX20)
def wsX1_init : List Cond := .code yX1_init cX1_init 1 none :: ([.methodLink RX1 3 objectInit, .instanceMethod objectInit, .code objectInit ⟨#[0xb1]⟩ 1 none, .fieldLink RX1 11 "LadderClimb$Reader" "place" "I", .fieldLink RX1 15 "LadderClimb$Reader" "least" "I", .fieldLink RX1 18 "LadderClimb$Reader" "most" "I", .fieldLink RX1 21 "LadderClimb$Reader" "ladder" "I", .fieldLink RX1 24 "LadderClimb$Reader" "work" "I", .fieldLink RX1 27 "LadderClimb$Reader" "number" "I"] ++ wsX10)
def wsX1_startPart : List Cond := .code yX1_startPart cX1_startPart 1 none :: ([.fieldLink RX1 11 "LadderClimb$Reader" "place" "I", .fieldLink RX1 27 "LadderClimb$Reader" "number" "I"] ++ wsX10)
def wsX1_isPartWhole : List Cond := .code yX1_isPartWhole cX1_isPartWhole 1 (some .boolean) :: ([.fieldLink RX1 11 "LadderClimb$Reader" "place" "I", .fieldLink RX1 27 "LadderClimb$Reader" "number" "I", .fieldLink RX1 15 "LadderClimb$Reader" "least" "I", .fieldLink RX1 18 "LadderClimb$Reader" "most" "I"] ++ wsX10)
def wsX1_takesLadder : List Cond := .code yX1_takesLadder cX1_takesLadder 2 (some .boolean) :: ([.fieldLink RX1 21 "LadderClimb$Reader" "ladder" "I", .fieldLink RX1 11 "LadderClimb$Reader" "place" "I"] ++ wsX10)
def wsX1_startNumber : List Cond := .code yX1_startNumber cX1_startNumber 4 (some .boolean) :: ([.fieldLink RX1 24 "LadderClimb$Reader" "work" "I", .fieldLink RX1 15 "LadderClimb$Reader" "least" "I", .fieldLink RX1 18 "LadderClimb$Reader" "most" "I", .fieldLink RX1 11 "LadderClimb$Reader" "place" "I"] ++ wsX10)
def wsX1_takesWork : List Cond := .code yX1_takesWork cX1_takesWork 2 (some .boolean) :: ([.fieldLink RX1 24 "LadderClimb$Reader" "work" "I", .fieldLink RX1 11 "LadderClimb$Reader" "place" "I", .methodLink RX1 44 yX1_startNumber, .instanceMethod yX1_startNumber, .selects RX1 yX1_startNumber yX1_startNumber, .initialized RX1, .code yX1_startNumber cX1_startNumber 4 (some .boolean), .fieldLink RX1 15 "LadderClimb$Reader" "least" "I", .fieldLink RX1 18 "LadderClimb$Reader" "most" "I"] ++ wsX10)
def wsX1_canBecomeNumber : List Cond := .code yX1_canBecomeNumber cX1_canBecomeNumber 5 (some .boolean) :: ([.fieldLink RX1 18 "LadderClimb$Reader" "most" "I", .fieldLink RX1 15 "LadderClimb$Reader" "least" "I"] ++ wsX10)
def wsX1_takesDigit : List Cond := .code yX1_takesDigit cX1_takesDigit 3 (some .boolean) :: ([.fieldLink RX1 27 "LadderClimb$Reader" "number" "I", .fieldLink RX1 11 "LadderClimb$Reader" "place" "I", .methodLink RX1 48 yX1_canBecomeNumber, .instanceMethod yX1_canBecomeNumber, .selects RX1 yX1_canBecomeNumber yX1_canBecomeNumber, .initialized RX1, .code yX1_canBecomeNumber cX1_canBecomeNumber 5 (some .boolean), .fieldLink RX1 18 "LadderClimb$Reader" "most" "I", .fieldLink RX1 15 "LadderClimb$Reader" "least" "I"] ++ wsX10)
def wsX1_takesSemicolon : List Cond := .code yX1_takesSemicolon cX1_takesSemicolon 1 (some .boolean) :: ([.methodLink RX1 51 yX1_isPartWhole, .instanceMethod yX1_isPartWhole, .selects RX1 yX1_isPartWhole yX1_isPartWhole, .initialized RX1, .code yX1_isPartWhole cX1_isPartWhole 1 (some .boolean), .fieldLink RX1 11 "LadderClimb$Reader" "place" "I", .fieldLink RX1 27 "LadderClimb$Reader" "number" "I", .fieldLink RX1 15 "LadderClimb$Reader" "least" "I", .fieldLink RX1 18 "LadderClimb$Reader" "most" "I", .methodLink RX1 54 yX1_startPart, .instanceMethod yX1_startPart, .selects RX1 yX1_startPart yX1_startPart, .code yX1_startPart cX1_startPart 1 none] ++ wsX10)
def wsX1_takes_r1 : List Cond := [Cond.fieldLink RX1 11 "LadderClimb$Reader" "place" "I", Cond.fieldLink RX1 27 "LadderClimb$Reader" "number" "I", Cond.methodLink RX1 30 yX1_takesLadder, Cond.instanceMethod yX1_takesLadder, Cond.selects RX1 yX1_takesLadder yX1_takesLadder, Cond.initialized RX1, Cond.code yX1_takesLadder cX1_takesLadder 2 (some .boolean), Cond.fieldLink RX1 21 "LadderClimb$Reader" "ladder" "I", Cond.methodLink RX1 34 yX1_takesWork, Cond.instanceMethod yX1_takesWork, Cond.selects RX1 yX1_takesWork yX1_takesWork, Cond.code yX1_takesWork cX1_takesWork 2 (some .boolean), Cond.fieldLink RX1 24 "LadderClimb$Reader" "work" "I", Cond.methodLink RX1 44 yX1_startNumber, Cond.instanceMethod yX1_startNumber, Cond.selects RX1 yX1_startNumber yX1_startNumber, Cond.code yX1_startNumber cX1_startNumber 4 (some .boolean), Cond.fieldLink RX1 15 "LadderClimb$Reader" "least" "I", Cond.fieldLink RX1 18 "LadderClimb$Reader" "most" "I", Cond.methodLink RX1 37 yX1_takesDigit, Cond.instanceMethod yX1_takesDigit, Cond.selects RX1 yX1_takesDigit yX1_takesDigit, Cond.code yX1_takesDigit cX1_takesDigit 3 (some .boolean), Cond.methodLink RX1 48 yX1_canBecomeNumber]
def wsX1_takes_r2 : List Cond := [Cond.instanceMethod yX1_canBecomeNumber, Cond.selects RX1 yX1_canBecomeNumber yX1_canBecomeNumber, Cond.code yX1_canBecomeNumber cX1_canBecomeNumber 5 (some .boolean), Cond.methodLink RX1 40 yX1_takesSemicolon, Cond.instanceMethod yX1_takesSemicolon, Cond.selects RX1 yX1_takesSemicolon yX1_takesSemicolon, Cond.code yX1_takesSemicolon cX1_takesSemicolon 1 (some .boolean), Cond.methodLink RX1 51 yX1_isPartWhole, Cond.instanceMethod yX1_isPartWhole, Cond.selects RX1 yX1_isPartWhole yX1_isPartWhole, Cond.code yX1_isPartWhole cX1_isPartWhole 1 (some .boolean), Cond.methodLink RX1 54 yX1_startPart, Cond.instanceMethod yX1_startPart, Cond.selects RX1 yX1_startPart yX1_startPart, Cond.code yX1_startPart cX1_startPart 1 none]
def wsX1_takes : List Cond := .code yX1_takes cX1_takes 2 (some .boolean) :: ((wsX1_takes_r1 ++ wsX1_takes_r2) ++ wsX10)
def wsX2_isFull : List Cond := .code yX2_isFull cX2_isFull 1 (some .boolean) :: ([.fieldLink RX2 33 "LadderClimb$Rig" "people" "I"] ++ wsX20)
def wsX2_bears : List Cond := .code yX2_bears cX2_bears 2 (some .boolean) :: ([.fieldLink RX2 33 "LadderClimb$Rig" "people" "I"] ++ wsX20)
def wsX2_weightOf : List Cond := .code yX2_weightOf cX2_weightOf 2 (some .int) :: ([.fieldLink RX2 36 "LadderClimb$Rig" "weights" "[I", .methodLink RX2 43 yX2_bears, .instanceMethod yX2_bears, .selects RX2 yX2_bears yX2_bears, .initialized RX2, .code yX2_bears cX2_bears 2 (some .boolean), .fieldLink RX2 33 "LadderClimb$Rig" "people" "I"] ++ wsX20)
def wsX2_stepOf : List Cond := .code yX2_stepOf cX2_stepOf 2 (some .int) :: ([.fieldLink RX2 40 "LadderClimb$Rig" "steps" "[I", .methodLink RX2 43 yX2_bears, .instanceMethod yX2_bears, .selects RX2 yX2_bears yX2_bears, .initialized RX2, .code yX2_bears cX2_bears 2 (some .boolean), .fieldLink RX2 33 "LadderClimb$Rig" "people" "I"] ++ wsX20)
def wsX2_setStep : List Cond := .code yX2_setStep cX2_setStep 3 none :: ([.fieldLink RX2 40 "LadderClimb$Rig" "steps" "[I", .methodLink RX2 43 yX2_bears, .instanceMethod yX2_bears, .selects RX2 yX2_bears yX2_bears, .initialized RX2, .code yX2_bears cX2_bears 2 (some .boolean), .fieldLink RX2 33 "LadderClimb$Rig" "people" "I"] ++ wsX20)
def wsX2_add : List Cond := .code yX2_add cX2_add 2 none :: ([.fieldLink RX2 33 "LadderClimb$Rig" "people" "I", .fieldLink RX2 36 "LadderClimb$Rig" "weights" "[I", .fieldLink RX2 40 "LadderClimb$Rig" "steps" "[I"] ++ wsX20)
def wsX2_remove : List Cond := .code yX2_remove cX2_remove 3 none :: ([.fieldLink RX2 36 "LadderClimb$Rig" "weights" "[I", .fieldLink RX2 40 "LadderClimb$Rig" "steps" "[I", .fieldLink RX2 33 "LadderClimb$Rig" "people" "I", .methodLink RX2 43 yX2_bears, .instanceMethod yX2_bears, .selects RX2 yX2_bears yX2_bears, .initialized RX2, .code yX2_bears cX2_bears 2 (some .boolean)] ++ wsX20)
def wsX2_removeAll : List Cond := .code yX2_removeAll cX2_removeAll 2 none :: ([.fieldLink RX2 36 "LadderClimb$Rig" "weights" "[I", .fieldLink RX2 40 "LadderClimb$Rig" "steps" "[I", .fieldLink RX2 33 "LadderClimb$Rig" "people" "I"] ++ wsX20)
def wsX2_load : List Cond := .code yX2_load cX2_load 3 (some .int) :: ([.fieldLink RX2 18 "LadderClimb$Rig" "weight" "I", .fieldLink RX2 36 "LadderClimb$Rig" "weights" "[I"] ++ wsX20)
def wsX2_moment : List Cond := .code yX2_moment cX2_moment 3 (some .int) :: ([.fieldLink RX2 18 "LadderClimb$Rig" "weight" "I", .fieldLink RX2 40 "LadderClimb$Rig" "steps" "[I", .fieldLink RX2 36 "LadderClimb$Rig" "weights" "[I", .fieldLink RX2 9 "LadderClimb$Rig" "base" "I"] ++ wsX20)
def wsX2_push : List Cond := .code yX2_push cX2_push 2 (some .int) :: ([.fieldLink RX2 9 "LadderClimb$Rig" "base" "I", .methodLink RX2 47 yX2_moment, .instanceMethod yX2_moment, .selects RX2 yX2_moment yX2_moment, .initialized RX2, .code yX2_moment cX2_moment 3 (some .int), .fieldLink RX2 18 "LadderClimb$Rig" "weight" "I", .fieldLink RX2 40 "LadderClimb$Rig" "steps" "[I", .fieldLink RX2 36 "LadderClimb$Rig" "weights" "[I"] ++ wsX20)
def wsX2_wallPercents : List Cond := .code yX2_wallPercents cX2_wallPercents 1 (some .int) :: ([.fieldLink RX2 24 "LadderClimb$Rig" "wall" "I"] ++ wsX20)
def wsX2_groundPercents : List Cond := .code yX2_groundPercents cX2_groundPercents 1 (some .int) :: ([.fieldLink RX2 21 "LadderClimb$Rig" "ground" "I"] ++ wsX20)
def wsX2_whatGivesWay_r1 : List Cond := [Cond.fieldLink RX2 15 "LadderClimb$Rig" "height" "I", Cond.methodLink RX2 58 Lib.Math.abs.name, Cond.static Lib.Math.abs.name, Cond.initialized "java/lang/Math", Cond.code Lib.Math.abs.name Lib.Math.abs.code 1 (some .int), Cond.fieldLink RX2 24 "LadderClimb$Rig" "wall" "I", Cond.fieldLink RX2 27 "LadderClimb$Rig" "rope" "I", Cond.methodLink RX2 51 yX2_push, Cond.instanceMethod yX2_push, Cond.selects RX2 yX2_push yX2_push, Cond.initialized RX2, Cond.code yX2_push cX2_push 2 (some .int), Cond.fieldLink RX2 9 "LadderClimb$Rig" "base" "I", Cond.methodLink RX2 47 yX2_moment, Cond.instanceMethod yX2_moment, Cond.selects RX2 yX2_moment yX2_moment, Cond.code yX2_moment cX2_moment 3 (some .int), Cond.fieldLink RX2 18 "LadderClimb$Rig" "weight" "I", Cond.fieldLink RX2 40 "LadderClimb$Rig" "steps" "[I", Cond.fieldLink RX2 36 "LadderClimb$Rig" "weights" "[I", Cond.methodLink RX2 55 yX2_load, Cond.instanceMethod yX2_load, Cond.selects RX2 yX2_load yX2_load, Cond.code yX2_load cX2_load 3 (some .int)]
def wsX2_whatGivesWay_r2 : List Cond := [Cond.methodLink RX2 63 yX2_wallPercents, Cond.instanceMethod yX2_wallPercents, Cond.selects RX2 yX2_wallPercents yX2_wallPercents, Cond.code yX2_wallPercents cX2_wallPercents 1 (some .int), Cond.methodLink RX2 66 yX2_groundPercents, Cond.instanceMethod yX2_groundPercents, Cond.selects RX2 yX2_groundPercents yX2_groundPercents, Cond.code yX2_groundPercents cX2_groundPercents 1 (some .int), Cond.fieldLink RX2 21 "LadderClimb$Rig" "ground" "I"]
def wsX2_whatGivesWay : List Cond := .code yX2_whatGivesWay cX2_whatGivesWay 5 (some .int) :: ((wsX2_whatGivesWay_r1 ++ wsX2_whatGivesWay_r2) ++ wsX20)
def wsJ9_floorDiv_7cf53 : List Cond := .code yJ9_floorDiv_7cf53 cJ9_floorDiv_7cf53 3 (some .int) :: ([])
def wsX2_leastByWall : List Cond := .code yX2_leastByWall cX2_leastByWall 3 (some .int) :: ([.fieldLink RX2 24 "LadderClimb$Rig" "wall" "I", .fieldLink RX2 15 "LadderClimb$Rig" "height" "I", .fieldLink RX2 9 "LadderClimb$Rig" "base" "I", .methodLink RX2 63 yX2_wallPercents, .instanceMethod yX2_wallPercents, .selects RX2 yX2_wallPercents yX2_wallPercents, .initialized RX2, .code yX2_wallPercents cX2_wallPercents 1 (some .int), .methodLink RX2 47 yX2_moment, .instanceMethod yX2_moment, .selects RX2 yX2_moment yX2_moment, .code yX2_moment cX2_moment 3 (some .int), .fieldLink RX2 18 "LadderClimb$Rig" "weight" "I", .fieldLink RX2 40 "LadderClimb$Rig" "steps" "[I", .fieldLink RX2 36 "LadderClimb$Rig" "weights" "[I", .methodLink RX2 88 yJ9_floorDiv_7cf53, .static yJ9_floorDiv_7cf53, .initialized RJ9, .code yJ9_floorDiv_7cf53 cJ9_floorDiv_7cf53 3 (some .int)] ++ wsX20)
def wsX2_leastByGround : List Cond := .code yX2_leastByGround cX2_leastByGround 3 (some .int) :: ([.fieldLink RX2 15 "LadderClimb$Rig" "height" "I", .fieldLink RX2 9 "LadderClimb$Rig" "base" "I", .fieldLink RX2 27 "LadderClimb$Rig" "rope" "I", .methodLink RX2 66 yX2_groundPercents, .instanceMethod yX2_groundPercents, .selects RX2 yX2_groundPercents yX2_groundPercents, .initialized RX2, .code yX2_groundPercents cX2_groundPercents 1 (some .int), .fieldLink RX2 21 "LadderClimb$Rig" "ground" "I", .methodLink RX2 55 yX2_load, .instanceMethod yX2_load, .selects RX2 yX2_load yX2_load, .code yX2_load cX2_load 3 (some .int), .fieldLink RX2 18 "LadderClimb$Rig" "weight" "I", .fieldLink RX2 36 "LadderClimb$Rig" "weights" "[I", .methodLink RX2 47 yX2_moment, .instanceMethod yX2_moment, .selects RX2 yX2_moment yX2_moment, .code yX2_moment cX2_moment 3 (some .int), .fieldLink RX2 40 "LadderClimb$Rig" "steps" "[I", .methodLink RX2 88 yJ9_floorDiv_7cf53, .static yJ9_floorDiv_7cf53, .initialized RJ9, .code yJ9_floorDiv_7cf53 cJ9_floorDiv_7cf53 3 (some .int)] ++ wsX20)
def wsX2_leastForce_r1 : List Cond := [Cond.methodLink RX2 75 Lib.Math.max.name, Cond.static Lib.Math.max.name, Cond.initialized "java/lang/Math", Cond.code Lib.Math.max.name Lib.Math.max.code 2 (some .int), Cond.methodLink RX2 82 yX2_leastByWall, Cond.instanceMethod yX2_leastByWall, Cond.selects RX2 yX2_leastByWall yX2_leastByWall, Cond.initialized RX2, Cond.code yX2_leastByWall cX2_leastByWall 3 (some .int), Cond.fieldLink RX2 24 "LadderClimb$Rig" "wall" "I", Cond.fieldLink RX2 15 "LadderClimb$Rig" "height" "I", Cond.fieldLink RX2 9 "LadderClimb$Rig" "base" "I", Cond.methodLink RX2 63 yX2_wallPercents, Cond.instanceMethod yX2_wallPercents, Cond.selects RX2 yX2_wallPercents yX2_wallPercents, Cond.code yX2_wallPercents cX2_wallPercents 1 (some .int), Cond.methodLink RX2 47 yX2_moment, Cond.instanceMethod yX2_moment, Cond.selects RX2 yX2_moment yX2_moment, Cond.code yX2_moment cX2_moment 3 (some .int), Cond.fieldLink RX2 18 "LadderClimb$Rig" "weight" "I", Cond.fieldLink RX2 40 "LadderClimb$Rig" "steps" "[I", Cond.fieldLink RX2 36 "LadderClimb$Rig" "weights" "[I", Cond.methodLink RX2 88 yJ9_floorDiv_7cf53]
def wsX2_leastForce_r2 : List Cond := [Cond.static yJ9_floorDiv_7cf53, Cond.initialized RJ9, Cond.code yJ9_floorDiv_7cf53 cJ9_floorDiv_7cf53 3 (some .int), Cond.methodLink RX2 85 yX2_leastByGround, Cond.instanceMethod yX2_leastByGround, Cond.selects RX2 yX2_leastByGround yX2_leastByGround, Cond.code yX2_leastByGround cX2_leastByGround 3 (some .int), Cond.fieldLink RX2 27 "LadderClimb$Rig" "rope" "I", Cond.methodLink RX2 66 yX2_groundPercents, Cond.instanceMethod yX2_groundPercents, Cond.selects RX2 yX2_groundPercents yX2_groundPercents, Cond.code yX2_groundPercents cX2_groundPercents 1 (some .int), Cond.fieldLink RX2 21 "LadderClimb$Rig" "ground" "I", Cond.methodLink RX2 55 yX2_load, Cond.instanceMethod yX2_load, Cond.selects RX2 yX2_load yX2_load, Cond.code yX2_load cX2_load 3 (some .int)]
def wsX2_leastForce : List Cond := .code yX2_leastForce cX2_leastForce 1 (some .int) :: ((wsX2_leastForce_r1 ++ wsX2_leastForce_r2) ++ wsX20)
def wsX2_greatestForce : List Cond := .code yX2_greatestForce cX2_greatestForce 3 (some .int) :: ([.fieldLink RX2 15 "LadderClimb$Rig" "height" "I", .fieldLink RX2 9 "LadderClimb$Rig" "base" "I", .methodLink RX2 63 yX2_wallPercents, .instanceMethod yX2_wallPercents, .selects RX2 yX2_wallPercents yX2_wallPercents, .initialized RX2, .code yX2_wallPercents cX2_wallPercents 1 (some .int), .fieldLink RX2 24 "LadderClimb$Rig" "wall" "I", .methodLink RX2 47 yX2_moment, .instanceMethod yX2_moment, .selects RX2 yX2_moment yX2_moment, .code yX2_moment cX2_moment 3 (some .int), .fieldLink RX2 18 "LadderClimb$Rig" "weight" "I", .fieldLink RX2 40 "LadderClimb$Rig" "steps" "[I", .fieldLink RX2 36 "LadderClimb$Rig" "weights" "[I", .methodLink RX2 88 yJ9_floorDiv_7cf53, .static yJ9_floorDiv_7cf53, .initialized RJ9, .code yJ9_floorDiv_7cf53 cJ9_floorDiv_7cf53 3 (some .int)] ++ wsX20)
def wsX2_stands_r1 : List Cond := [Cond.methodLink RX2 69 yX2_leastForce, Cond.instanceMethod yX2_leastForce, Cond.selects RX2 yX2_leastForce yX2_leastForce, Cond.initialized RX2, Cond.code yX2_leastForce cX2_leastForce 1 (some .int), Cond.methodLink RX2 75 Lib.Math.max.name, Cond.static Lib.Math.max.name, Cond.initialized "java/lang/Math", Cond.code Lib.Math.max.name Lib.Math.max.code 2 (some .int), Cond.methodLink RX2 82 yX2_leastByWall, Cond.instanceMethod yX2_leastByWall, Cond.selects RX2 yX2_leastByWall yX2_leastByWall, Cond.code yX2_leastByWall cX2_leastByWall 3 (some .int), Cond.fieldLink RX2 24 "LadderClimb$Rig" "wall" "I", Cond.fieldLink RX2 15 "LadderClimb$Rig" "height" "I", Cond.fieldLink RX2 9 "LadderClimb$Rig" "base" "I", Cond.methodLink RX2 63 yX2_wallPercents, Cond.instanceMethod yX2_wallPercents, Cond.selects RX2 yX2_wallPercents yX2_wallPercents, Cond.code yX2_wallPercents cX2_wallPercents 1 (some .int), Cond.methodLink RX2 47 yX2_moment, Cond.instanceMethod yX2_moment, Cond.selects RX2 yX2_moment yX2_moment, Cond.code yX2_moment cX2_moment 3 (some .int)]
def wsX2_stands_r2 : List Cond := [Cond.fieldLink RX2 18 "LadderClimb$Rig" "weight" "I", Cond.fieldLink RX2 40 "LadderClimb$Rig" "steps" "[I", Cond.fieldLink RX2 36 "LadderClimb$Rig" "weights" "[I", Cond.methodLink RX2 88 yJ9_floorDiv_7cf53, Cond.static yJ9_floorDiv_7cf53, Cond.initialized RJ9, Cond.code yJ9_floorDiv_7cf53 cJ9_floorDiv_7cf53 3 (some .int), Cond.methodLink RX2 85 yX2_leastByGround, Cond.instanceMethod yX2_leastByGround, Cond.selects RX2 yX2_leastByGround yX2_leastByGround, Cond.code yX2_leastByGround cX2_leastByGround 3 (some .int), Cond.fieldLink RX2 27 "LadderClimb$Rig" "rope" "I", Cond.methodLink RX2 66 yX2_groundPercents, Cond.instanceMethod yX2_groundPercents, Cond.selects RX2 yX2_groundPercents yX2_groundPercents, Cond.code yX2_groundPercents cX2_groundPercents 1 (some .int), Cond.fieldLink RX2 21 "LadderClimb$Rig" "ground" "I", Cond.methodLink RX2 55 yX2_load, Cond.instanceMethod yX2_load, Cond.selects RX2 yX2_load yX2_load, Cond.code yX2_load cX2_load 3 (some .int), Cond.methodLink RX2 72 yX2_greatestForce, Cond.instanceMethod yX2_greatestForce, Cond.selects RX2 yX2_greatestForce yX2_greatestForce]
def wsX2_stands_r3 : List Cond := [Cond.code yX2_greatestForce cX2_greatestForce 3 (some .int)]
def wsX2_stands : List Cond := .code yX2_stands cX2_stands 1 (some .boolean) :: ((wsX2_stands_r1 ++ (wsX2_stands_r2 ++ wsX2_stands_r3)) ++ wsX20)
def wsX2_forces_r1 : List Cond := [Cond.methodLink RX2 75 Lib.Math.max.name, Cond.static Lib.Math.max.name, Cond.initialized "java/lang/Math", Cond.code Lib.Math.max.name Lib.Math.max.code 2 (some .int), Cond.methodLink RX2 72 yX2_greatestForce, Cond.instanceMethod yX2_greatestForce, Cond.selects RX2 yX2_greatestForce yX2_greatestForce, Cond.initialized RX2, Cond.code yX2_greatestForce cX2_greatestForce 3 (some .int), Cond.fieldLink RX2 15 "LadderClimb$Rig" "height" "I", Cond.fieldLink RX2 9 "LadderClimb$Rig" "base" "I", Cond.methodLink RX2 63 yX2_wallPercents, Cond.instanceMethod yX2_wallPercents, Cond.selects RX2 yX2_wallPercents yX2_wallPercents, Cond.code yX2_wallPercents cX2_wallPercents 1 (some .int), Cond.fieldLink RX2 24 "LadderClimb$Rig" "wall" "I", Cond.methodLink RX2 47 yX2_moment, Cond.instanceMethod yX2_moment, Cond.selects RX2 yX2_moment yX2_moment, Cond.code yX2_moment cX2_moment 3 (some .int), Cond.fieldLink RX2 18 "LadderClimb$Rig" "weight" "I", Cond.fieldLink RX2 40 "LadderClimb$Rig" "steps" "[I", Cond.fieldLink RX2 36 "LadderClimb$Rig" "weights" "[I", Cond.methodLink RX2 88 yJ9_floorDiv_7cf53]
def wsX2_forces_r2 : List Cond := [Cond.static yJ9_floorDiv_7cf53, Cond.initialized RJ9, Cond.code yJ9_floorDiv_7cf53 cJ9_floorDiv_7cf53 3 (some .int), Cond.methodLink RX2 69 yX2_leastForce, Cond.instanceMethod yX2_leastForce, Cond.selects RX2 yX2_leastForce yX2_leastForce, Cond.code yX2_leastForce cX2_leastForce 1 (some .int), Cond.methodLink RX2 82 yX2_leastByWall, Cond.instanceMethod yX2_leastByWall, Cond.selects RX2 yX2_leastByWall yX2_leastByWall, Cond.code yX2_leastByWall cX2_leastByWall 3 (some .int), Cond.methodLink RX2 85 yX2_leastByGround, Cond.instanceMethod yX2_leastByGround, Cond.selects RX2 yX2_leastByGround yX2_leastByGround, Cond.code yX2_leastByGround cX2_leastByGround 3 (some .int), Cond.fieldLink RX2 27 "LadderClimb$Rig" "rope" "I", Cond.methodLink RX2 66 yX2_groundPercents, Cond.instanceMethod yX2_groundPercents, Cond.selects RX2 yX2_groundPercents yX2_groundPercents, Cond.code yX2_groundPercents cX2_groundPercents 1 (some .int), Cond.fieldLink RX2 21 "LadderClimb$Rig" "ground" "I", Cond.methodLink RX2 55 yX2_load, Cond.instanceMethod yX2_load, Cond.selects RX2 yX2_load yX2_load]
def wsX2_forces_r3 : List Cond := [Cond.code yX2_load cX2_load 3 (some .int)]
def wsX2_forces : List Cond := .code yX2_forces cX2_forces 1 (some .int) :: ((wsX2_forces_r1 ++ (wsX2_forces_r2 ++ wsX2_forces_r3)) ++ wsX20)
def wsX2_nearestForce_r1 : List Cond := [Cond.methodLink RX2 79 Lib.Math.min.name, Cond.static Lib.Math.min.name, Cond.initialized "java/lang/Math", Cond.code Lib.Math.min.name Lib.Math.min.code 2 (some .int), Cond.methodLink RX2 75 Lib.Math.max.name, Cond.static Lib.Math.max.name, Cond.code Lib.Math.max.name Lib.Math.max.code 2 (some .int), Cond.methodLink RX2 69 yX2_leastForce, Cond.instanceMethod yX2_leastForce, Cond.selects RX2 yX2_leastForce yX2_leastForce, Cond.initialized RX2, Cond.code yX2_leastForce cX2_leastForce 1 (some .int), Cond.methodLink RX2 82 yX2_leastByWall, Cond.instanceMethod yX2_leastByWall, Cond.selects RX2 yX2_leastByWall yX2_leastByWall, Cond.code yX2_leastByWall cX2_leastByWall 3 (some .int), Cond.fieldLink RX2 24 "LadderClimb$Rig" "wall" "I", Cond.fieldLink RX2 15 "LadderClimb$Rig" "height" "I", Cond.fieldLink RX2 9 "LadderClimb$Rig" "base" "I", Cond.methodLink RX2 63 yX2_wallPercents, Cond.instanceMethod yX2_wallPercents, Cond.selects RX2 yX2_wallPercents yX2_wallPercents, Cond.code yX2_wallPercents cX2_wallPercents 1 (some .int), Cond.methodLink RX2 47 yX2_moment]
def wsX2_nearestForce_r2 : List Cond := [Cond.instanceMethod yX2_moment, Cond.selects RX2 yX2_moment yX2_moment, Cond.code yX2_moment cX2_moment 3 (some .int), Cond.fieldLink RX2 18 "LadderClimb$Rig" "weight" "I", Cond.fieldLink RX2 40 "LadderClimb$Rig" "steps" "[I", Cond.fieldLink RX2 36 "LadderClimb$Rig" "weights" "[I", Cond.methodLink RX2 88 yJ9_floorDiv_7cf53, Cond.static yJ9_floorDiv_7cf53, Cond.initialized RJ9, Cond.code yJ9_floorDiv_7cf53 cJ9_floorDiv_7cf53 3 (some .int), Cond.methodLink RX2 85 yX2_leastByGround, Cond.instanceMethod yX2_leastByGround, Cond.selects RX2 yX2_leastByGround yX2_leastByGround, Cond.code yX2_leastByGround cX2_leastByGround 3 (some .int), Cond.fieldLink RX2 27 "LadderClimb$Rig" "rope" "I", Cond.methodLink RX2 66 yX2_groundPercents, Cond.instanceMethod yX2_groundPercents, Cond.selects RX2 yX2_groundPercents yX2_groundPercents, Cond.code yX2_groundPercents cX2_groundPercents 1 (some .int), Cond.fieldLink RX2 21 "LadderClimb$Rig" "ground" "I", Cond.methodLink RX2 55 yX2_load, Cond.instanceMethod yX2_load, Cond.selects RX2 yX2_load yX2_load, Cond.code yX2_load cX2_load 3 (some .int)]
def wsX2_nearestForce_r3 : List Cond := [Cond.methodLink RX2 72 yX2_greatestForce, Cond.instanceMethod yX2_greatestForce, Cond.selects RX2 yX2_greatestForce yX2_greatestForce, Cond.code yX2_greatestForce cX2_greatestForce 3 (some .int)]
def wsX2_nearestForce : List Cond := .code yX2_nearestForce cX2_nearestForce 1 (some .int) :: ((wsX2_nearestForce_r1 ++ (wsX2_nearestForce_r2 ++ wsX2_nearestForce_r3)) ++ wsX20)
def wsX3_standing_r1 : List Cond := [Cond.fieldLink RX3 11 "LadderClimb$Site" "rigs" "[LLadderClimb$Rig;", Cond.methodLink RX3 29 yX2_stands, Cond.instanceMethod yX2_stands, Cond.selects RX2 yX2_stands yX2_stands, Cond.initialized RX2, Cond.code yX2_stands cX2_stands 1 (some .boolean), Cond.methodLink RX2 69 yX2_leastForce, Cond.instanceMethod yX2_leastForce, Cond.selects RX2 yX2_leastForce yX2_leastForce, Cond.code yX2_leastForce cX2_leastForce 1 (some .int), Cond.methodLink RX2 75 Lib.Math.max.name, Cond.static Lib.Math.max.name, Cond.initialized "java/lang/Math", Cond.code Lib.Math.max.name Lib.Math.max.code 2 (some .int), Cond.methodLink RX2 82 yX2_leastByWall, Cond.instanceMethod yX2_leastByWall, Cond.selects RX2 yX2_leastByWall yX2_leastByWall, Cond.code yX2_leastByWall cX2_leastByWall 3 (some .int), Cond.fieldLink RX2 24 "LadderClimb$Rig" "wall" "I", Cond.fieldLink RX2 15 "LadderClimb$Rig" "height" "I", Cond.fieldLink RX2 9 "LadderClimb$Rig" "base" "I", Cond.methodLink RX2 63 yX2_wallPercents, Cond.instanceMethod yX2_wallPercents, Cond.selects RX2 yX2_wallPercents yX2_wallPercents]
def wsX3_standing_r2 : List Cond := [Cond.code yX2_wallPercents cX2_wallPercents 1 (some .int), Cond.methodLink RX2 47 yX2_moment, Cond.instanceMethod yX2_moment, Cond.selects RX2 yX2_moment yX2_moment, Cond.code yX2_moment cX2_moment 3 (some .int), Cond.fieldLink RX2 18 "LadderClimb$Rig" "weight" "I", Cond.fieldLink RX2 40 "LadderClimb$Rig" "steps" "[I", Cond.fieldLink RX2 36 "LadderClimb$Rig" "weights" "[I", Cond.methodLink RX2 88 yJ9_floorDiv_7cf53, Cond.static yJ9_floorDiv_7cf53, Cond.initialized RJ9, Cond.code yJ9_floorDiv_7cf53 cJ9_floorDiv_7cf53 3 (some .int), Cond.methodLink RX2 85 yX2_leastByGround, Cond.instanceMethod yX2_leastByGround, Cond.selects RX2 yX2_leastByGround yX2_leastByGround, Cond.code yX2_leastByGround cX2_leastByGround 3 (some .int), Cond.fieldLink RX2 27 "LadderClimb$Rig" "rope" "I", Cond.methodLink RX2 66 yX2_groundPercents, Cond.instanceMethod yX2_groundPercents, Cond.selects RX2 yX2_groundPercents yX2_groundPercents, Cond.code yX2_groundPercents cX2_groundPercents 1 (some .int), Cond.fieldLink RX2 21 "LadderClimb$Rig" "ground" "I", Cond.methodLink RX2 55 yX2_load, Cond.instanceMethod yX2_load]
def wsX3_standing_r3 : List Cond := [Cond.selects RX2 yX2_load yX2_load, Cond.code yX2_load cX2_load 3 (some .int), Cond.methodLink RX2 72 yX2_greatestForce, Cond.instanceMethod yX2_greatestForce, Cond.selects RX2 yX2_greatestForce yX2_greatestForce, Cond.code yX2_greatestForce cX2_greatestForce 3 (some .int)]
def wsX3_standing : List Cond := .code yX3_standing cX3_standing 3 (some .int) :: ((wsX3_standing_r1 ++ (wsX3_standing_r2 ++ wsX3_standing_r3)) ++ wsX30 ++ wsX20)
def wsX3_people : List Cond := .code yX3_people cX3_people 3 (some .int) :: ([.fieldLink RX3 11 "LadderClimb$Site" "rigs" "[LLadderClimb$Rig;", .fieldLink RX3 33 "LadderClimb$Rig" "people" "I"] ++ wsX30 ++ wsX20)
def wsX3_falls : List Cond := .code yX3_falls cX3_falls 3 (some .int) :: ([.fieldLink RX3 11 "LadderClimb$Site" "rigs" "[LLadderClimb$Rig;", .fieldLink RX3 36 "LadderClimb$Rig" "falls" "I"] ++ wsX30 ++ wsX20)
def wsX3_fall : List Cond := .code yX3_fall cX3_fall 2 none :: ([.fieldLink RX3 17 "LadderClimb$Site" "fallen" "I", .fieldLink RX3 33 "LadderClimb$Rig" "people" "I", .fieldLink RX3 36 "LadderClimb$Rig" "falls" "I", .methodLink RX3 42 yX2_removeAll, .instanceMethod yX2_removeAll, .selects RX2 yX2_removeAll yX2_removeAll, .initialized RX2, .code yX2_removeAll cX2_removeAll 2 none, .fieldLink RX2 36 "LadderClimb$Rig" "weights" "[I", .fieldLink RX2 40 "LadderClimb$Rig" "steps" "[I", .fieldLink RX2 33 "LadderClimb$Rig" "people" "I"] ++ wsX30 ++ wsX20)
def wsX3_fallsNow_r1 : List Cond := [Cond.fieldLink RX3 33 "LadderClimb$Rig" "people" "I", Cond.methodLink RX3 29 yX2_stands, Cond.instanceMethod yX2_stands, Cond.selects RX2 yX2_stands yX2_stands, Cond.initialized RX2, Cond.code yX2_stands cX2_stands 1 (some .boolean), Cond.methodLink RX2 69 yX2_leastForce, Cond.instanceMethod yX2_leastForce, Cond.selects RX2 yX2_leastForce yX2_leastForce, Cond.code yX2_leastForce cX2_leastForce 1 (some .int), Cond.methodLink RX2 75 Lib.Math.max.name, Cond.static Lib.Math.max.name, Cond.initialized "java/lang/Math", Cond.code Lib.Math.max.name Lib.Math.max.code 2 (some .int), Cond.methodLink RX2 82 yX2_leastByWall, Cond.instanceMethod yX2_leastByWall, Cond.selects RX2 yX2_leastByWall yX2_leastByWall, Cond.code yX2_leastByWall cX2_leastByWall 3 (some .int), Cond.fieldLink RX2 24 "LadderClimb$Rig" "wall" "I", Cond.fieldLink RX2 15 "LadderClimb$Rig" "height" "I", Cond.fieldLink RX2 9 "LadderClimb$Rig" "base" "I", Cond.methodLink RX2 63 yX2_wallPercents, Cond.instanceMethod yX2_wallPercents, Cond.selects RX2 yX2_wallPercents yX2_wallPercents]
def wsX3_fallsNow_r2 : List Cond := [Cond.code yX2_wallPercents cX2_wallPercents 1 (some .int), Cond.methodLink RX2 47 yX2_moment, Cond.instanceMethod yX2_moment, Cond.selects RX2 yX2_moment yX2_moment, Cond.code yX2_moment cX2_moment 3 (some .int), Cond.fieldLink RX2 18 "LadderClimb$Rig" "weight" "I", Cond.fieldLink RX2 40 "LadderClimb$Rig" "steps" "[I", Cond.fieldLink RX2 36 "LadderClimb$Rig" "weights" "[I", Cond.methodLink RX2 88 yJ9_floorDiv_7cf53, Cond.static yJ9_floorDiv_7cf53, Cond.initialized RJ9, Cond.code yJ9_floorDiv_7cf53 cJ9_floorDiv_7cf53 3 (some .int), Cond.methodLink RX2 85 yX2_leastByGround, Cond.instanceMethod yX2_leastByGround, Cond.selects RX2 yX2_leastByGround yX2_leastByGround, Cond.code yX2_leastByGround cX2_leastByGround 3 (some .int), Cond.fieldLink RX2 27 "LadderClimb$Rig" "rope" "I", Cond.methodLink RX2 66 yX2_groundPercents, Cond.instanceMethod yX2_groundPercents, Cond.selects RX2 yX2_groundPercents yX2_groundPercents, Cond.code yX2_groundPercents cX2_groundPercents 1 (some .int), Cond.fieldLink RX2 21 "LadderClimb$Rig" "ground" "I", Cond.methodLink RX2 55 yX2_load, Cond.instanceMethod yX2_load]
def wsX3_fallsNow_r3 : List Cond := [Cond.selects RX2 yX2_load yX2_load, Cond.code yX2_load cX2_load 3 (some .int), Cond.methodLink RX2 72 yX2_greatestForce, Cond.instanceMethod yX2_greatestForce, Cond.selects RX2 yX2_greatestForce yX2_greatestForce, Cond.code yX2_greatestForce cX2_greatestForce 3 (some .int), Cond.methodLink RX3 39 yX3_fall, Cond.instanceMethod yX3_fall, Cond.selects RX3 yX3_fall yX3_fall, Cond.initialized RX3, Cond.code yX3_fall cX3_fall 2 none, Cond.fieldLink RX3 17 "LadderClimb$Site" "fallen" "I", Cond.fieldLink RX3 36 "LadderClimb$Rig" "falls" "I", Cond.methodLink RX3 42 yX2_removeAll, Cond.instanceMethod yX2_removeAll, Cond.selects RX2 yX2_removeAll yX2_removeAll, Cond.code yX2_removeAll cX2_removeAll 2 none, Cond.fieldLink RX2 33 "LadderClimb$Rig" "people" "I"]
def wsX3_fallsNow : List Cond := .code yX3_fallsNow cX3_fallsNow 2 (some .boolean) :: ((wsX3_fallsNow_r1 ++ (wsX3_fallsNow_r2 ++ wsX3_fallsNow_r3)) ++ wsX20 ++ wsX30)
def wsX3_walk_r1 : List Cond := [Cond.methodLink RX3 49 Lib.Math.abs.name, Cond.static Lib.Math.abs.name, Cond.initialized "java/lang/Math", Cond.code Lib.Math.abs.name Lib.Math.abs.code 1 (some .int), Cond.fieldLink RX3 21 "LadderClimb$Site" "climbed" "I", Cond.methodLink RX3 45 yX2_stepOf, Cond.instanceMethod yX2_stepOf, Cond.selects RX2 yX2_stepOf yX2_stepOf, Cond.initialized RX2, Cond.code yX2_stepOf cX2_stepOf 2 (some .int), Cond.fieldLink RX2 40 "LadderClimb$Rig" "steps" "[I", Cond.methodLink RX2 43 yX2_bears, Cond.instanceMethod yX2_bears, Cond.selects RX2 yX2_bears yX2_bears, Cond.code yX2_bears cX2_bears 2 (some .boolean), Cond.fieldLink RX2 33 "LadderClimb$Rig" "people" "I", Cond.methodLink RX3 54 yX2_setStep, Cond.instanceMethod yX2_setStep, Cond.selects RX2 yX2_setStep yX2_setStep, Cond.code yX2_setStep cX2_setStep 3 none, Cond.methodLink RX3 29 yX2_stands, Cond.instanceMethod yX2_stands, Cond.selects RX2 yX2_stands yX2_stands, Cond.code yX2_stands cX2_stands 1 (some .boolean)]
def wsX3_walk_r2 : List Cond := [Cond.methodLink RX2 69 yX2_leastForce, Cond.instanceMethod yX2_leastForce, Cond.selects RX2 yX2_leastForce yX2_leastForce, Cond.code yX2_leastForce cX2_leastForce 1 (some .int), Cond.methodLink RX2 75 Lib.Math.max.name, Cond.static Lib.Math.max.name, Cond.code Lib.Math.max.name Lib.Math.max.code 2 (some .int), Cond.methodLink RX2 82 yX2_leastByWall, Cond.instanceMethod yX2_leastByWall, Cond.selects RX2 yX2_leastByWall yX2_leastByWall, Cond.code yX2_leastByWall cX2_leastByWall 3 (some .int), Cond.fieldLink RX2 24 "LadderClimb$Rig" "wall" "I", Cond.fieldLink RX2 15 "LadderClimb$Rig" "height" "I", Cond.fieldLink RX2 9 "LadderClimb$Rig" "base" "I", Cond.methodLink RX2 63 yX2_wallPercents, Cond.instanceMethod yX2_wallPercents, Cond.selects RX2 yX2_wallPercents yX2_wallPercents, Cond.code yX2_wallPercents cX2_wallPercents 1 (some .int), Cond.methodLink RX2 47 yX2_moment, Cond.instanceMethod yX2_moment, Cond.selects RX2 yX2_moment yX2_moment, Cond.code yX2_moment cX2_moment 3 (some .int), Cond.fieldLink RX2 18 "LadderClimb$Rig" "weight" "I", Cond.fieldLink RX2 36 "LadderClimb$Rig" "weights" "[I"]
def wsX3_walk_r3 : List Cond := [Cond.methodLink RX2 88 yJ9_floorDiv_7cf53, Cond.static yJ9_floorDiv_7cf53, Cond.initialized RJ9, Cond.code yJ9_floorDiv_7cf53 cJ9_floorDiv_7cf53 3 (some .int), Cond.methodLink RX2 85 yX2_leastByGround, Cond.instanceMethod yX2_leastByGround, Cond.selects RX2 yX2_leastByGround yX2_leastByGround, Cond.code yX2_leastByGround cX2_leastByGround 3 (some .int), Cond.fieldLink RX2 27 "LadderClimb$Rig" "rope" "I", Cond.methodLink RX2 66 yX2_groundPercents, Cond.instanceMethod yX2_groundPercents, Cond.selects RX2 yX2_groundPercents yX2_groundPercents, Cond.code yX2_groundPercents cX2_groundPercents 1 (some .int), Cond.fieldLink RX2 21 "LadderClimb$Rig" "ground" "I", Cond.methodLink RX2 55 yX2_load, Cond.instanceMethod yX2_load, Cond.selects RX2 yX2_load yX2_load, Cond.code yX2_load cX2_load 3 (some .int), Cond.methodLink RX2 72 yX2_greatestForce, Cond.instanceMethod yX2_greatestForce, Cond.selects RX2 yX2_greatestForce yX2_greatestForce, Cond.code yX2_greatestForce cX2_greatestForce 3 (some .int), Cond.methodLink RX3 39 yX3_fall, Cond.instanceMethod yX3_fall]
def wsX3_walk_r4 : List Cond := [Cond.selects RX3 yX3_fall yX3_fall, Cond.initialized RX3, Cond.code yX3_fall cX3_fall 2 none, Cond.fieldLink RX3 17 "LadderClimb$Site" "fallen" "I", Cond.fieldLink RX3 33 "LadderClimb$Rig" "people" "I", Cond.fieldLink RX3 36 "LadderClimb$Rig" "falls" "I", Cond.methodLink RX3 42 yX2_removeAll, Cond.instanceMethod yX2_removeAll, Cond.selects RX2 yX2_removeAll yX2_removeAll, Cond.code yX2_removeAll cX2_removeAll 2 none]
def wsX3_walk : List Cond := .code yX3_walk cX3_walk 8 (some .int) :: ((wsX3_walk_r1 ++ (wsX3_walk_r2 ++ (wsX3_walk_r3 ++ wsX3_walk_r4))) ++ wsX30 ++ wsX20)
def wsX4_init : List Cond := .code yX4_init cX4_init 1 none :: ([.methodLink RX4 3 objectInit, .instanceMethod objectInit, .code objectInit ⟨#[0xb1]⟩ 1 none, .arrayClass .int, .fieldLink RX4 9 "LadderClimb$Works" "codes" "[I", .fieldLink RX4 15 "LadderClimb$Works" "length" "I", .fieldLink RX4 19 "LadderClimb$Works" "cursor" "I", .classLink RX4 22 RX1, .instantiable RX1 6, .initialized RX1, .fieldLink RX4 25 "LadderClimb$Works" "reader" "LLadderClimb$Reader;", .instanceMethod yX1_init, .code yX1_init cX1_init 1 none, .methodLink RX1 3 objectInit, .fieldLink RX1 11 "LadderClimb$Reader" "place" "I", .fieldLink RX1 15 "LadderClimb$Reader" "least" "I", .fieldLink RX1 18 "LadderClimb$Reader" "most" "I", .fieldLink RX1 21 "LadderClimb$Reader" "ladder" "I", .fieldLink RX1 24 "LadderClimb$Reader" "work" "I", .fieldLink RX1 27 "LadderClimb$Reader" "number" "I"] ++ wsX40 ++ wsX10)
def wsX4_isFull : List Cond := .code yX4_isFull cX4_isFull 1 (some .boolean) :: ([.fieldLink RX4 15 "LadderClimb$Works" "length" "I"] ++ wsX40)
def wsX4_add : List Cond := .code yX4_add cX4_add 2 none :: ([.fieldLink RX4 15 "LadderClimb$Works" "length" "I", .fieldLink RX4 9 "LadderClimb$Works" "codes" "[I"] ++ wsX40)
def wsX4_clear : List Cond := .code yX4_clear cX4_clear 1 none :: ([.fieldLink RX4 15 "LadderClimb$Works" "length" "I"] ++ wsX40)
def wsX4_codeAt : List Cond := .code yX4_codeAt cX4_codeAt 2 (some .int) :: ([.fieldLink RX4 15 "LadderClimb$Works" "length" "I", .fieldLink RX4 9 "LadderClimb$Works" "codes" "[I"] ++ wsX40)
def wsX4_firstFault_r1 : List Cond := [Cond.fieldLink RX4 25 "LadderClimb$Works" "reader" "LLadderClimb$Reader;", Cond.fieldLink RX4 15 "LadderClimb$Works" "length" "I", Cond.methodLink RX4 29 yX1_startPart, Cond.instanceMethod yX1_startPart, Cond.selects RX1 yX1_startPart yX1_startPart, Cond.initialized RX1, Cond.code yX1_startPart cX1_startPart 1 none, Cond.fieldLink RX1 11 "LadderClimb$Reader" "place" "I", Cond.fieldLink RX1 27 "LadderClimb$Reader" "number" "I", Cond.methodLink RX4 32 yX4_codeAt, Cond.instanceMethod yX4_codeAt, Cond.selects RX4 yX4_codeAt yX4_codeAt, Cond.initialized RX4, Cond.code yX4_codeAt cX4_codeAt 2 (some .int), Cond.fieldLink RX4 9 "LadderClimb$Works" "codes" "[I", Cond.methodLink RX4 36 yX1_takes, Cond.instanceMethod yX1_takes, Cond.selects RX1 yX1_takes yX1_takes, Cond.code yX1_takes cX1_takes 2 (some .boolean), Cond.methodLink RX1 30 yX1_takesLadder, Cond.instanceMethod yX1_takesLadder, Cond.selects RX1 yX1_takesLadder yX1_takesLadder, Cond.code yX1_takesLadder cX1_takesLadder 2 (some .boolean), Cond.fieldLink RX1 21 "LadderClimb$Reader" "ladder" "I"]
def wsX4_firstFault_r2 : List Cond := [Cond.methodLink RX1 34 yX1_takesWork, Cond.instanceMethod yX1_takesWork, Cond.selects RX1 yX1_takesWork yX1_takesWork, Cond.code yX1_takesWork cX1_takesWork 2 (some .boolean), Cond.fieldLink RX1 24 "LadderClimb$Reader" "work" "I", Cond.methodLink RX1 44 yX1_startNumber, Cond.instanceMethod yX1_startNumber, Cond.selects RX1 yX1_startNumber yX1_startNumber, Cond.code yX1_startNumber cX1_startNumber 4 (some .boolean), Cond.fieldLink RX1 15 "LadderClimb$Reader" "least" "I", Cond.fieldLink RX1 18 "LadderClimb$Reader" "most" "I", Cond.methodLink RX1 37 yX1_takesDigit, Cond.instanceMethod yX1_takesDigit, Cond.selects RX1 yX1_takesDigit yX1_takesDigit, Cond.code yX1_takesDigit cX1_takesDigit 3 (some .boolean), Cond.methodLink RX1 48 yX1_canBecomeNumber, Cond.instanceMethod yX1_canBecomeNumber, Cond.selects RX1 yX1_canBecomeNumber yX1_canBecomeNumber, Cond.code yX1_canBecomeNumber cX1_canBecomeNumber 5 (some .boolean), Cond.methodLink RX1 40 yX1_takesSemicolon, Cond.instanceMethod yX1_takesSemicolon, Cond.selects RX1 yX1_takesSemicolon yX1_takesSemicolon, Cond.code yX1_takesSemicolon cX1_takesSemicolon 1 (some .boolean), Cond.methodLink RX1 51 yX1_isPartWhole]
def wsX4_firstFault_r3 : List Cond := [Cond.instanceMethod yX1_isPartWhole, Cond.selects RX1 yX1_isPartWhole yX1_isPartWhole, Cond.code yX1_isPartWhole cX1_isPartWhole 1 (some .boolean), Cond.methodLink RX1 54 yX1_startPart]
def wsX4_firstFault : List Cond := .code yX4_firstFault cX4_firstFault 2 (some .int) :: ((wsX4_firstFault_r1 ++ (wsX4_firstFault_r2 ++ wsX4_firstFault_r3)) ++ wsX40 ++ wsX10)
def wsX4_isWhole_r1 : List Cond := [Cond.fieldLink RX4 15 "LadderClimb$Works" "length" "I", Cond.fieldLink RX4 25 "LadderClimb$Works" "reader" "LLadderClimb$Reader;", Cond.methodLink RX4 40 yX4_firstFault, Cond.instanceMethod yX4_firstFault, Cond.selects RX4 yX4_firstFault yX4_firstFault, Cond.initialized RX4, Cond.code yX4_firstFault cX4_firstFault 2 (some .int), Cond.methodLink RX4 29 yX1_startPart, Cond.instanceMethod yX1_startPart, Cond.selects RX1 yX1_startPart yX1_startPart, Cond.initialized RX1, Cond.code yX1_startPart cX1_startPart 1 none, Cond.fieldLink RX1 11 "LadderClimb$Reader" "place" "I", Cond.fieldLink RX1 27 "LadderClimb$Reader" "number" "I", Cond.methodLink RX4 32 yX4_codeAt, Cond.instanceMethod yX4_codeAt, Cond.selects RX4 yX4_codeAt yX4_codeAt, Cond.code yX4_codeAt cX4_codeAt 2 (some .int), Cond.fieldLink RX4 9 "LadderClimb$Works" "codes" "[I", Cond.methodLink RX4 36 yX1_takes, Cond.instanceMethod yX1_takes, Cond.selects RX1 yX1_takes yX1_takes, Cond.code yX1_takes cX1_takes 2 (some .boolean), Cond.methodLink RX1 30 yX1_takesLadder]
def wsX4_isWhole_r2 : List Cond := [Cond.instanceMethod yX1_takesLadder, Cond.selects RX1 yX1_takesLadder yX1_takesLadder, Cond.code yX1_takesLadder cX1_takesLadder 2 (some .boolean), Cond.fieldLink RX1 21 "LadderClimb$Reader" "ladder" "I", Cond.methodLink RX1 34 yX1_takesWork, Cond.instanceMethod yX1_takesWork, Cond.selects RX1 yX1_takesWork yX1_takesWork, Cond.code yX1_takesWork cX1_takesWork 2 (some .boolean), Cond.fieldLink RX1 24 "LadderClimb$Reader" "work" "I", Cond.methodLink RX1 44 yX1_startNumber, Cond.instanceMethod yX1_startNumber, Cond.selects RX1 yX1_startNumber yX1_startNumber, Cond.code yX1_startNumber cX1_startNumber 4 (some .boolean), Cond.fieldLink RX1 15 "LadderClimb$Reader" "least" "I", Cond.fieldLink RX1 18 "LadderClimb$Reader" "most" "I", Cond.methodLink RX1 37 yX1_takesDigit, Cond.instanceMethod yX1_takesDigit, Cond.selects RX1 yX1_takesDigit yX1_takesDigit, Cond.code yX1_takesDigit cX1_takesDigit 3 (some .boolean), Cond.methodLink RX1 48 yX1_canBecomeNumber, Cond.instanceMethod yX1_canBecomeNumber, Cond.selects RX1 yX1_canBecomeNumber yX1_canBecomeNumber, Cond.code yX1_canBecomeNumber cX1_canBecomeNumber 5 (some .boolean), Cond.methodLink RX1 40 yX1_takesSemicolon]
def wsX4_isWhole_r3 : List Cond := [Cond.instanceMethod yX1_takesSemicolon, Cond.selects RX1 yX1_takesSemicolon yX1_takesSemicolon, Cond.code yX1_takesSemicolon cX1_takesSemicolon 1 (some .boolean), Cond.methodLink RX1 51 yX1_isPartWhole, Cond.instanceMethod yX1_isPartWhole, Cond.selects RX1 yX1_isPartWhole yX1_isPartWhole, Cond.code yX1_isPartWhole cX1_isPartWhole 1 (some .boolean), Cond.methodLink RX1 54 yX1_startPart, Cond.methodLink RX4 44 yX1_isPartWhole]
def wsX4_isWhole : List Cond := .code yX4_isWhole cX4_isWhole 1 (some .boolean) :: ((wsX4_isWhole_r1 ++ (wsX4_isWhole_r2 ++ wsX4_isWhole_r3)) ++ wsX40 ++ wsX10)
def wsX4_rewind : List Cond := .code yX4_rewind cX4_rewind 1 none :: ([.fieldLink RX4 19 "LadderClimb$Works" "cursor" "I"] ++ wsX40)
def wsX4_nextPart_r1 : List Cond := [Cond.fieldLink RX4 19 "LadderClimb$Works" "cursor" "I", Cond.fieldLink RX4 15 "LadderClimb$Works" "length" "I", Cond.fieldLink RX4 25 "LadderClimb$Works" "reader" "LLadderClimb$Reader;", Cond.methodLink RX4 29 yX1_startPart, Cond.instanceMethod yX1_startPart, Cond.selects RX1 yX1_startPart yX1_startPart, Cond.initialized RX1, Cond.code yX1_startPart cX1_startPart 1 none, Cond.fieldLink RX1 11 "LadderClimb$Reader" "place" "I", Cond.fieldLink RX1 27 "LadderClimb$Reader" "number" "I", Cond.methodLink RX4 32 yX4_codeAt, Cond.instanceMethod yX4_codeAt, Cond.selects RX4 yX4_codeAt yX4_codeAt, Cond.initialized RX4, Cond.code yX4_codeAt cX4_codeAt 2 (some .int), Cond.fieldLink RX4 9 "LadderClimb$Works" "codes" "[I", Cond.methodLink RX4 36 yX1_takes, Cond.instanceMethod yX1_takes, Cond.selects RX1 yX1_takes yX1_takes, Cond.code yX1_takes cX1_takes 2 (some .boolean), Cond.methodLink RX1 30 yX1_takesLadder, Cond.instanceMethod yX1_takesLadder, Cond.selects RX1 yX1_takesLadder yX1_takesLadder, Cond.code yX1_takesLadder cX1_takesLadder 2 (some .boolean)]
def wsX4_nextPart_r2 : List Cond := [Cond.fieldLink RX1 21 "LadderClimb$Reader" "ladder" "I", Cond.methodLink RX1 34 yX1_takesWork, Cond.instanceMethod yX1_takesWork, Cond.selects RX1 yX1_takesWork yX1_takesWork, Cond.code yX1_takesWork cX1_takesWork 2 (some .boolean), Cond.fieldLink RX1 24 "LadderClimb$Reader" "work" "I", Cond.methodLink RX1 44 yX1_startNumber, Cond.instanceMethod yX1_startNumber, Cond.selects RX1 yX1_startNumber yX1_startNumber, Cond.code yX1_startNumber cX1_startNumber 4 (some .boolean), Cond.fieldLink RX1 15 "LadderClimb$Reader" "least" "I", Cond.fieldLink RX1 18 "LadderClimb$Reader" "most" "I", Cond.methodLink RX1 37 yX1_takesDigit, Cond.instanceMethod yX1_takesDigit, Cond.selects RX1 yX1_takesDigit yX1_takesDigit, Cond.code yX1_takesDigit cX1_takesDigit 3 (some .boolean), Cond.methodLink RX1 48 yX1_canBecomeNumber, Cond.instanceMethod yX1_canBecomeNumber, Cond.selects RX1 yX1_canBecomeNumber yX1_canBecomeNumber, Cond.code yX1_canBecomeNumber cX1_canBecomeNumber 5 (some .boolean), Cond.methodLink RX1 40 yX1_takesSemicolon, Cond.instanceMethod yX1_takesSemicolon, Cond.selects RX1 yX1_takesSemicolon yX1_takesSemicolon, Cond.code yX1_takesSemicolon cX1_takesSemicolon 1 (some .boolean)]
def wsX4_nextPart_r3 : List Cond := [Cond.methodLink RX1 51 yX1_isPartWhole, Cond.instanceMethod yX1_isPartWhole, Cond.selects RX1 yX1_isPartWhole yX1_isPartWhole, Cond.code yX1_isPartWhole cX1_isPartWhole 1 (some .boolean), Cond.methodLink RX1 54 yX1_startPart]
def wsX4_nextPart : List Cond := .code yX4_nextPart cX4_nextPart 2 (some .boolean) :: ((wsX4_nextPart_r1 ++ (wsX4_nextPart_r2 ++ wsX4_nextPart_r3)) ++ wsX40 ++ wsX10)
def wsX5_init_r1 : List Cond := [Cond.methodLink RX5 1 objectInit, Cond.instanceMethod objectInit, Cond.code objectInit ⟨#[0xb1]⟩ 1 none, Cond.classLink RX5 7 RX3, Cond.instantiable RX3 3, Cond.initialized RX3, Cond.fieldLink RX5 10 "LadderClimb" "site" "LLadderClimb$Site;", Cond.classLink RX5 16 RX0, Cond.instantiable RX0 3, Cond.initialized RX0, Cond.fieldLink RX5 19 "LadderClimb" "history" "LLadderClimb$History;", Cond.classLink RX5 23 RX4, Cond.instantiable RX4 4, Cond.initialized RX4, Cond.fieldLink RX5 26 "LadderClimb" "works" "LLadderClimb$Works;", Cond.classLink RX5 30 RX2, Cond.instantiable RX2 10, Cond.initialized RX2, Cond.fieldLink RX5 33 "LadderClimb" "trial" "LLadderClimb$Rig;", Cond.methodLink RX5 9 yX3_init, Cond.instanceMethod yX3_init, Cond.code yX3_init cX3_init 2 none, Cond.methodLink RX3 3 objectInit, Cond.classLink RX3 9 RX2]
def wsX5_init_r2 : List Cond := [Cond.fieldLink RX3 11 "LadderClimb$Site" "rigs" "[LLadderClimb$Rig;", Cond.fieldLink RX3 17 "LadderClimb$Site" "fallen" "I", Cond.fieldLink RX3 21 "LadderClimb$Site" "climbed" "I", Cond.instanceMethod yX2_init, Cond.code yX2_init cX2_init 1 none, Cond.methodLink RX2 3 objectInit, Cond.fieldLink RX2 9 "LadderClimb$Rig" "base" "I", Cond.fieldLink RX2 15 "LadderClimb$Rig" "height" "I", Cond.fieldLink RX2 18 "LadderClimb$Rig" "weight" "I", Cond.fieldLink RX2 21 "LadderClimb$Rig" "ground" "I", Cond.fieldLink RX2 24 "LadderClimb$Rig" "wall" "I", Cond.fieldLink RX2 27 "LadderClimb$Rig" "rope" "I", Cond.fieldLink RX2 30 "LadderClimb$Rig" "falls" "I", Cond.fieldLink RX2 33 "LadderClimb$Rig" "people" "I", Cond.arrayClass .int, Cond.fieldLink RX2 36 "LadderClimb$Rig" "weights" "[I", Cond.fieldLink RX2 40 "LadderClimb$Rig" "steps" "[I", Cond.methodLink RX5 18 yX0_init, Cond.instanceMethod yX0_init, Cond.code yX0_init cX0_init 2 none, Cond.methodLink RX0 3 objectInit, Cond.classLink RX0 9 RX3, Cond.fieldLink RX0 11 "LadderClimb$History" "saved" "[LLadderClimb$Site;", Cond.fieldLink RX0 17 "LadderClimb$History" "next" "I"]
def wsX5_init_r3 : List Cond := [Cond.fieldLink RX0 21 "LadderClimb$History" "size" "I", Cond.methodLink RX0 24 yX3_init, Cond.instanceMethod yX4_init, Cond.code yX4_init cX4_init 1 none, Cond.methodLink RX4 3 objectInit, Cond.fieldLink RX4 9 "LadderClimb$Works" "codes" "[I", Cond.fieldLink RX4 15 "LadderClimb$Works" "length" "I", Cond.fieldLink RX4 19 "LadderClimb$Works" "cursor" "I", Cond.classLink RX4 22 RX1, Cond.instantiable RX1 6, Cond.initialized RX1, Cond.fieldLink RX4 25 "LadderClimb$Works" "reader" "LLadderClimb$Reader;", Cond.instanceMethod yX1_init, Cond.code yX1_init cX1_init 1 none, Cond.methodLink RX1 3 objectInit, Cond.fieldLink RX1 11 "LadderClimb$Reader" "place" "I", Cond.fieldLink RX1 15 "LadderClimb$Reader" "least" "I", Cond.fieldLink RX1 18 "LadderClimb$Reader" "most" "I", Cond.fieldLink RX1 21 "LadderClimb$Reader" "ladder" "I", Cond.fieldLink RX1 24 "LadderClimb$Reader" "work" "I", Cond.fieldLink RX1 27 "LadderClimb$Reader" "number" "I"]
def wsX5_init : List Cond := .code yX5_init cX5_init 1 none :: ((wsX5_init_r1 ++ (wsX5_init_r2 ++ wsX5_init_r3)) ++ wsX30 ++ wsX50 ++ wsX00 ++ wsX40 ++ wsX20 ++ wsX10)
def wsX5_rigOf : List Cond := .code yX5_rigOf cX5_rigOf 2 (some (.object "LadderClimb$Rig")) :: ([.classLink RX5 280 "java/lang/IndexOutOfBoundsException", .initialized "java/lang/IndexOutOfBoundsException", .fieldLink RX5 10 "LadderClimb" "site" "LLadderClimb$Site;", .fieldLink RX5 285 "LadderClimb$Site" "rigs" "[LLadderClimb$Rig;"] ++ wsX50 ++ wsX30 ++ (vx_atS RX5 284 "java/lang/IndexOutOfBoundsException" ["java/lang/RuntimeException", "java/lang/Exception"]).filter goodWord)
def wsX5_demandRange : List Cond := .code yX5_demandRange cX5_demandRange 3 none :: ([.classLink RX5 118 "java/lang/IllegalArgumentException", .initialized "java/lang/IllegalArgumentException"] ++ (vx_atS RX5 122 "java/lang/IllegalArgumentException" ["java/lang/RuntimeException", "java/lang/Exception"]).filter goodWord)
def wsX5_put_r1 : List Cond := [Cond.fieldLink RX5 19 "LadderClimb" "history" "LLadderClimb$History;", Cond.fieldLink RX5 10 "LadderClimb" "site" "LLadderClimb$Site;", Cond.fieldLink RX5 49 "LadderClimb$Rig" "base" "I", Cond.fieldLink RX5 53 "LadderClimb$Rig" "height" "I", Cond.fieldLink RX5 56 "LadderClimb$Rig" "weight" "I", Cond.methodLink RX5 37 yX5_rigOf, Cond.instanceMethod yX5_rigOf, Cond.selects RX5 yX5_rigOf yX5_rigOf, Cond.initialized RX5, Cond.code yX5_rigOf cX5_rigOf 2 (some (.object "LadderClimb$Rig")), Cond.classLink RX5 280 "java/lang/IndexOutOfBoundsException", Cond.initialized "java/lang/IndexOutOfBoundsException", Cond.fieldLink RX5 285 "LadderClimb$Site" "rigs" "[LLadderClimb$Rig;", Cond.methodLink RX5 41 yX5_demandRange, Cond.static yX5_demandRange, Cond.code yX5_demandRange cX5_demandRange 3 none, Cond.classLink RX5 118 "java/lang/IllegalArgumentException", Cond.initialized "java/lang/IllegalArgumentException", Cond.methodLink RX5 45 yX0_save, Cond.instanceMethod yX0_save, Cond.selects RX0 yX0_save yX0_save, Cond.initialized RX0, Cond.code yX0_save cX0_save 2 none, Cond.fieldLink RX0 17 "LadderClimb$History" "next" "I"]
def wsX5_put_r2 : List Cond := [Cond.fieldLink RX0 11 "LadderClimb$History" "saved" "[LLadderClimb$Site;", Cond.fieldLink RX0 21 "LadderClimb$History" "size" "I", Cond.methodLink RX0 29 Lib.Math.min.name, Cond.static Lib.Math.min.name, Cond.initialized "java/lang/Math", Cond.code Lib.Math.min.name Lib.Math.min.code 2 (some .int), Cond.methodLink RX0 25 yX3_copyFrom, Cond.instanceMethod yX3_copyFrom, Cond.selects RX3 yX3_copyFrom yX3_copyFrom, Cond.initialized RX3, Cond.code yX3_copyFrom cX3_copyFrom 3 none, Cond.fieldLink RX3 11 "LadderClimb$Site" "rigs" "[LLadderClimb$Rig;", Cond.fieldLink RX3 17 "LadderClimb$Site" "fallen" "I", Cond.fieldLink RX3 21 "LadderClimb$Site" "climbed" "I", Cond.methodLink RX3 25 yX2_copyFrom, Cond.instanceMethod yX2_copyFrom, Cond.selects RX2 yX2_copyFrom yX2_copyFrom, Cond.initialized RX2, Cond.code yX2_copyFrom cX2_copyFrom 3 none, Cond.fieldLink RX2 9 "LadderClimb$Rig" "base" "I", Cond.fieldLink RX2 15 "LadderClimb$Rig" "height" "I", Cond.fieldLink RX2 18 "LadderClimb$Rig" "weight" "I", Cond.fieldLink RX2 21 "LadderClimb$Rig" "ground" "I", Cond.fieldLink RX2 24 "LadderClimb$Rig" "wall" "I"]
def wsX5_put_r3 : List Cond := [Cond.fieldLink RX2 27 "LadderClimb$Rig" "rope" "I", Cond.fieldLink RX2 30 "LadderClimb$Rig" "falls" "I", Cond.fieldLink RX2 33 "LadderClimb$Rig" "people" "I", Cond.fieldLink RX2 36 "LadderClimb$Rig" "weights" "[I", Cond.fieldLink RX2 40 "LadderClimb$Rig" "steps" "[I", Cond.methodLink RX5 59 yX3_fallsNow, Cond.instanceMethod yX3_fallsNow, Cond.selects RX3 yX3_fallsNow yX3_fallsNow, Cond.code yX3_fallsNow cX3_fallsNow 2 (some .boolean), Cond.fieldLink RX3 33 "LadderClimb$Rig" "people" "I", Cond.methodLink RX3 29 yX2_stands, Cond.instanceMethod yX2_stands, Cond.selects RX2 yX2_stands yX2_stands, Cond.code yX2_stands cX2_stands 1 (some .boolean), Cond.methodLink RX2 69 yX2_leastForce, Cond.instanceMethod yX2_leastForce, Cond.selects RX2 yX2_leastForce yX2_leastForce, Cond.code yX2_leastForce cX2_leastForce 1 (some .int), Cond.methodLink RX2 75 Lib.Math.max.name, Cond.static Lib.Math.max.name, Cond.code Lib.Math.max.name Lib.Math.max.code 2 (some .int), Cond.methodLink RX2 82 yX2_leastByWall, Cond.instanceMethod yX2_leastByWall, Cond.selects RX2 yX2_leastByWall yX2_leastByWall]
def wsX5_put_r4 : List Cond := [Cond.code yX2_leastByWall cX2_leastByWall 3 (some .int), Cond.methodLink RX2 63 yX2_wallPercents, Cond.instanceMethod yX2_wallPercents, Cond.selects RX2 yX2_wallPercents yX2_wallPercents, Cond.code yX2_wallPercents cX2_wallPercents 1 (some .int), Cond.methodLink RX2 47 yX2_moment, Cond.instanceMethod yX2_moment, Cond.selects RX2 yX2_moment yX2_moment, Cond.code yX2_moment cX2_moment 3 (some .int), Cond.methodLink RX2 88 yJ9_floorDiv_7cf53, Cond.static yJ9_floorDiv_7cf53, Cond.initialized RJ9, Cond.code yJ9_floorDiv_7cf53 cJ9_floorDiv_7cf53 3 (some .int), Cond.methodLink RX2 85 yX2_leastByGround, Cond.instanceMethod yX2_leastByGround, Cond.selects RX2 yX2_leastByGround yX2_leastByGround, Cond.code yX2_leastByGround cX2_leastByGround 3 (some .int), Cond.methodLink RX2 66 yX2_groundPercents, Cond.instanceMethod yX2_groundPercents, Cond.selects RX2 yX2_groundPercents yX2_groundPercents, Cond.code yX2_groundPercents cX2_groundPercents 1 (some .int), Cond.methodLink RX2 55 yX2_load, Cond.instanceMethod yX2_load, Cond.selects RX2 yX2_load yX2_load]
def wsX5_put_r5 : List Cond := [Cond.code yX2_load cX2_load 3 (some .int), Cond.methodLink RX2 72 yX2_greatestForce, Cond.instanceMethod yX2_greatestForce, Cond.selects RX2 yX2_greatestForce yX2_greatestForce, Cond.code yX2_greatestForce cX2_greatestForce 3 (some .int), Cond.methodLink RX3 39 yX3_fall, Cond.instanceMethod yX3_fall, Cond.selects RX3 yX3_fall yX3_fall, Cond.code yX3_fall cX3_fall 2 none, Cond.fieldLink RX3 36 "LadderClimb$Rig" "falls" "I", Cond.methodLink RX3 42 yX2_removeAll, Cond.instanceMethod yX2_removeAll, Cond.selects RX2 yX2_removeAll yX2_removeAll, Cond.code yX2_removeAll cX2_removeAll 2 none]
def wsX5_put : List Cond := .code yX5_put cX5_put 6 (some .int) :: ((wsX5_put_r1 ++ (wsX5_put_r2 ++ (wsX5_put_r3 ++ (wsX5_put_r4 ++ wsX5_put_r5)))) ++ wsX50 ++ wsX20 ++ wsX30 ++ wsX00 ++ (vx_atS RX5 284 "java/lang/IndexOutOfBoundsException" ["java/lang/RuntimeException", "java/lang/Exception"]).filter goodWord ++ (vx_atS RX5 122 "java/lang/IllegalArgumentException" ["java/lang/RuntimeException", "java/lang/Exception"]).filter goodWord)
def wsX5_kinds_r1 : List Cond := [Cond.fieldLink RX5 19 "LadderClimb" "history" "LLadderClimb$History;", Cond.fieldLink RX5 10 "LadderClimb" "site" "LLadderClimb$Site;", Cond.fieldLink RX5 63 "LadderClimb$Rig" "ground" "I", Cond.fieldLink RX5 66 "LadderClimb$Rig" "wall" "I", Cond.methodLink RX5 37 yX5_rigOf, Cond.instanceMethod yX5_rigOf, Cond.selects RX5 yX5_rigOf yX5_rigOf, Cond.initialized RX5, Cond.code yX5_rigOf cX5_rigOf 2 (some (.object "LadderClimb$Rig")), Cond.classLink RX5 280 "java/lang/IndexOutOfBoundsException", Cond.initialized "java/lang/IndexOutOfBoundsException", Cond.fieldLink RX5 285 "LadderClimb$Site" "rigs" "[LLadderClimb$Rig;", Cond.methodLink RX5 41 yX5_demandRange, Cond.static yX5_demandRange, Cond.code yX5_demandRange cX5_demandRange 3 none, Cond.classLink RX5 118 "java/lang/IllegalArgumentException", Cond.initialized "java/lang/IllegalArgumentException", Cond.methodLink RX5 45 yX0_save, Cond.instanceMethod yX0_save, Cond.selects RX0 yX0_save yX0_save, Cond.initialized RX0, Cond.code yX0_save cX0_save 2 none, Cond.fieldLink RX0 17 "LadderClimb$History" "next" "I", Cond.fieldLink RX0 11 "LadderClimb$History" "saved" "[LLadderClimb$Site;"]
def wsX5_kinds_r2 : List Cond := [Cond.fieldLink RX0 21 "LadderClimb$History" "size" "I", Cond.methodLink RX0 29 Lib.Math.min.name, Cond.static Lib.Math.min.name, Cond.initialized "java/lang/Math", Cond.code Lib.Math.min.name Lib.Math.min.code 2 (some .int), Cond.methodLink RX0 25 yX3_copyFrom, Cond.instanceMethod yX3_copyFrom, Cond.selects RX3 yX3_copyFrom yX3_copyFrom, Cond.initialized RX3, Cond.code yX3_copyFrom cX3_copyFrom 3 none, Cond.fieldLink RX3 11 "LadderClimb$Site" "rigs" "[LLadderClimb$Rig;", Cond.fieldLink RX3 17 "LadderClimb$Site" "fallen" "I", Cond.fieldLink RX3 21 "LadderClimb$Site" "climbed" "I", Cond.methodLink RX3 25 yX2_copyFrom, Cond.instanceMethod yX2_copyFrom, Cond.selects RX2 yX2_copyFrom yX2_copyFrom, Cond.initialized RX2, Cond.code yX2_copyFrom cX2_copyFrom 3 none, Cond.fieldLink RX2 9 "LadderClimb$Rig" "base" "I", Cond.fieldLink RX2 15 "LadderClimb$Rig" "height" "I", Cond.fieldLink RX2 18 "LadderClimb$Rig" "weight" "I", Cond.fieldLink RX2 21 "LadderClimb$Rig" "ground" "I", Cond.fieldLink RX2 24 "LadderClimb$Rig" "wall" "I", Cond.fieldLink RX2 27 "LadderClimb$Rig" "rope" "I"]
def wsX5_kinds_r3 : List Cond := [Cond.fieldLink RX2 30 "LadderClimb$Rig" "falls" "I", Cond.fieldLink RX2 33 "LadderClimb$Rig" "people" "I", Cond.fieldLink RX2 36 "LadderClimb$Rig" "weights" "[I", Cond.fieldLink RX2 40 "LadderClimb$Rig" "steps" "[I", Cond.methodLink RX5 59 yX3_fallsNow, Cond.instanceMethod yX3_fallsNow, Cond.selects RX3 yX3_fallsNow yX3_fallsNow, Cond.code yX3_fallsNow cX3_fallsNow 2 (some .boolean), Cond.fieldLink RX3 33 "LadderClimb$Rig" "people" "I", Cond.methodLink RX3 29 yX2_stands, Cond.instanceMethod yX2_stands, Cond.selects RX2 yX2_stands yX2_stands, Cond.code yX2_stands cX2_stands 1 (some .boolean), Cond.methodLink RX2 69 yX2_leastForce, Cond.instanceMethod yX2_leastForce, Cond.selects RX2 yX2_leastForce yX2_leastForce, Cond.code yX2_leastForce cX2_leastForce 1 (some .int), Cond.methodLink RX2 75 Lib.Math.max.name, Cond.static Lib.Math.max.name, Cond.code Lib.Math.max.name Lib.Math.max.code 2 (some .int), Cond.methodLink RX2 82 yX2_leastByWall, Cond.instanceMethod yX2_leastByWall, Cond.selects RX2 yX2_leastByWall yX2_leastByWall, Cond.code yX2_leastByWall cX2_leastByWall 3 (some .int)]
def wsX5_kinds_r4 : List Cond := [Cond.methodLink RX2 63 yX2_wallPercents, Cond.instanceMethod yX2_wallPercents, Cond.selects RX2 yX2_wallPercents yX2_wallPercents, Cond.code yX2_wallPercents cX2_wallPercents 1 (some .int), Cond.methodLink RX2 47 yX2_moment, Cond.instanceMethod yX2_moment, Cond.selects RX2 yX2_moment yX2_moment, Cond.code yX2_moment cX2_moment 3 (some .int), Cond.methodLink RX2 88 yJ9_floorDiv_7cf53, Cond.static yJ9_floorDiv_7cf53, Cond.initialized RJ9, Cond.code yJ9_floorDiv_7cf53 cJ9_floorDiv_7cf53 3 (some .int), Cond.methodLink RX2 85 yX2_leastByGround, Cond.instanceMethod yX2_leastByGround, Cond.selects RX2 yX2_leastByGround yX2_leastByGround, Cond.code yX2_leastByGround cX2_leastByGround 3 (some .int), Cond.methodLink RX2 66 yX2_groundPercents, Cond.instanceMethod yX2_groundPercents, Cond.selects RX2 yX2_groundPercents yX2_groundPercents, Cond.code yX2_groundPercents cX2_groundPercents 1 (some .int), Cond.methodLink RX2 55 yX2_load, Cond.instanceMethod yX2_load, Cond.selects RX2 yX2_load yX2_load, Cond.code yX2_load cX2_load 3 (some .int)]
def wsX5_kinds_r5 : List Cond := [Cond.methodLink RX2 72 yX2_greatestForce, Cond.instanceMethod yX2_greatestForce, Cond.selects RX2 yX2_greatestForce yX2_greatestForce, Cond.code yX2_greatestForce cX2_greatestForce 3 (some .int), Cond.methodLink RX3 39 yX3_fall, Cond.instanceMethod yX3_fall, Cond.selects RX3 yX3_fall yX3_fall, Cond.code yX3_fall cX3_fall 2 none, Cond.fieldLink RX3 36 "LadderClimb$Rig" "falls" "I", Cond.methodLink RX3 42 yX2_removeAll, Cond.instanceMethod yX2_removeAll, Cond.selects RX2 yX2_removeAll yX2_removeAll, Cond.code yX2_removeAll cX2_removeAll 2 none]
def wsX5_kinds : List Cond := .code yX5_kinds cX5_kinds 5 (some .int) :: ((wsX5_kinds_r1 ++ (wsX5_kinds_r2 ++ (wsX5_kinds_r3 ++ (wsX5_kinds_r4 ++ wsX5_kinds_r5)))) ++ wsX50 ++ wsX20 ++ wsX30 ++ wsX00 ++ (vx_atS RX5 284 "java/lang/IndexOutOfBoundsException" ["java/lang/RuntimeException", "java/lang/Exception"]).filter goodWord ++ (vx_atS RX5 122 "java/lang/IllegalArgumentException" ["java/lang/RuntimeException", "java/lang/Exception"]).filter goodWord)
def wsX5_rope_r1 : List Cond := [Cond.fieldLink RX5 19 "LadderClimb" "history" "LLadderClimb$History;", Cond.fieldLink RX5 10 "LadderClimb" "site" "LLadderClimb$Site;", Cond.fieldLink RX5 69 "LadderClimb$Rig" "rope" "I", Cond.methodLink RX5 37 yX5_rigOf, Cond.instanceMethod yX5_rigOf, Cond.selects RX5 yX5_rigOf yX5_rigOf, Cond.initialized RX5, Cond.code yX5_rigOf cX5_rigOf 2 (some (.object "LadderClimb$Rig")), Cond.classLink RX5 280 "java/lang/IndexOutOfBoundsException", Cond.initialized "java/lang/IndexOutOfBoundsException", Cond.fieldLink RX5 285 "LadderClimb$Site" "rigs" "[LLadderClimb$Rig;", Cond.methodLink RX5 41 yX5_demandRange, Cond.static yX5_demandRange, Cond.code yX5_demandRange cX5_demandRange 3 none, Cond.classLink RX5 118 "java/lang/IllegalArgumentException", Cond.initialized "java/lang/IllegalArgumentException", Cond.methodLink RX5 45 yX0_save, Cond.instanceMethod yX0_save, Cond.selects RX0 yX0_save yX0_save, Cond.initialized RX0, Cond.code yX0_save cX0_save 2 none, Cond.fieldLink RX0 17 "LadderClimb$History" "next" "I", Cond.fieldLink RX0 11 "LadderClimb$History" "saved" "[LLadderClimb$Site;", Cond.fieldLink RX0 21 "LadderClimb$History" "size" "I"]
def wsX5_rope_r2 : List Cond := [Cond.methodLink RX0 29 Lib.Math.min.name, Cond.static Lib.Math.min.name, Cond.initialized "java/lang/Math", Cond.code Lib.Math.min.name Lib.Math.min.code 2 (some .int), Cond.methodLink RX0 25 yX3_copyFrom, Cond.instanceMethod yX3_copyFrom, Cond.selects RX3 yX3_copyFrom yX3_copyFrom, Cond.initialized RX3, Cond.code yX3_copyFrom cX3_copyFrom 3 none, Cond.fieldLink RX3 11 "LadderClimb$Site" "rigs" "[LLadderClimb$Rig;", Cond.fieldLink RX3 17 "LadderClimb$Site" "fallen" "I", Cond.fieldLink RX3 21 "LadderClimb$Site" "climbed" "I", Cond.methodLink RX3 25 yX2_copyFrom, Cond.instanceMethod yX2_copyFrom, Cond.selects RX2 yX2_copyFrom yX2_copyFrom, Cond.initialized RX2, Cond.code yX2_copyFrom cX2_copyFrom 3 none, Cond.fieldLink RX2 9 "LadderClimb$Rig" "base" "I", Cond.fieldLink RX2 15 "LadderClimb$Rig" "height" "I", Cond.fieldLink RX2 18 "LadderClimb$Rig" "weight" "I", Cond.fieldLink RX2 21 "LadderClimb$Rig" "ground" "I", Cond.fieldLink RX2 24 "LadderClimb$Rig" "wall" "I", Cond.fieldLink RX2 27 "LadderClimb$Rig" "rope" "I", Cond.fieldLink RX2 30 "LadderClimb$Rig" "falls" "I"]
def wsX5_rope_r3 : List Cond := [Cond.fieldLink RX2 33 "LadderClimb$Rig" "people" "I", Cond.fieldLink RX2 36 "LadderClimb$Rig" "weights" "[I", Cond.fieldLink RX2 40 "LadderClimb$Rig" "steps" "[I", Cond.methodLink RX5 59 yX3_fallsNow, Cond.instanceMethod yX3_fallsNow, Cond.selects RX3 yX3_fallsNow yX3_fallsNow, Cond.code yX3_fallsNow cX3_fallsNow 2 (some .boolean), Cond.fieldLink RX3 33 "LadderClimb$Rig" "people" "I", Cond.methodLink RX3 29 yX2_stands, Cond.instanceMethod yX2_stands, Cond.selects RX2 yX2_stands yX2_stands, Cond.code yX2_stands cX2_stands 1 (some .boolean), Cond.methodLink RX2 69 yX2_leastForce, Cond.instanceMethod yX2_leastForce, Cond.selects RX2 yX2_leastForce yX2_leastForce, Cond.code yX2_leastForce cX2_leastForce 1 (some .int), Cond.methodLink RX2 75 Lib.Math.max.name, Cond.static Lib.Math.max.name, Cond.code Lib.Math.max.name Lib.Math.max.code 2 (some .int), Cond.methodLink RX2 82 yX2_leastByWall, Cond.instanceMethod yX2_leastByWall, Cond.selects RX2 yX2_leastByWall yX2_leastByWall, Cond.code yX2_leastByWall cX2_leastByWall 3 (some .int), Cond.methodLink RX2 63 yX2_wallPercents]
def wsX5_rope_r4 : List Cond := [Cond.instanceMethod yX2_wallPercents, Cond.selects RX2 yX2_wallPercents yX2_wallPercents, Cond.code yX2_wallPercents cX2_wallPercents 1 (some .int), Cond.methodLink RX2 47 yX2_moment, Cond.instanceMethod yX2_moment, Cond.selects RX2 yX2_moment yX2_moment, Cond.code yX2_moment cX2_moment 3 (some .int), Cond.methodLink RX2 88 yJ9_floorDiv_7cf53, Cond.static yJ9_floorDiv_7cf53, Cond.initialized RJ9, Cond.code yJ9_floorDiv_7cf53 cJ9_floorDiv_7cf53 3 (some .int), Cond.methodLink RX2 85 yX2_leastByGround, Cond.instanceMethod yX2_leastByGround, Cond.selects RX2 yX2_leastByGround yX2_leastByGround, Cond.code yX2_leastByGround cX2_leastByGround 3 (some .int), Cond.methodLink RX2 66 yX2_groundPercents, Cond.instanceMethod yX2_groundPercents, Cond.selects RX2 yX2_groundPercents yX2_groundPercents, Cond.code yX2_groundPercents cX2_groundPercents 1 (some .int), Cond.methodLink RX2 55 yX2_load, Cond.instanceMethod yX2_load, Cond.selects RX2 yX2_load yX2_load, Cond.code yX2_load cX2_load 3 (some .int), Cond.methodLink RX2 72 yX2_greatestForce]
def wsX5_rope_r5 : List Cond := [Cond.instanceMethod yX2_greatestForce, Cond.selects RX2 yX2_greatestForce yX2_greatestForce, Cond.code yX2_greatestForce cX2_greatestForce 3 (some .int), Cond.methodLink RX3 39 yX3_fall, Cond.instanceMethod yX3_fall, Cond.selects RX3 yX3_fall yX3_fall, Cond.code yX3_fall cX3_fall 2 none, Cond.fieldLink RX3 36 "LadderClimb$Rig" "falls" "I", Cond.methodLink RX3 42 yX2_removeAll, Cond.instanceMethod yX2_removeAll, Cond.selects RX2 yX2_removeAll yX2_removeAll, Cond.code yX2_removeAll cX2_removeAll 2 none]
def wsX5_rope : List Cond := .code yX5_rope cX5_rope 4 (some .int) :: ((wsX5_rope_r1 ++ (wsX5_rope_r2 ++ (wsX5_rope_r3 ++ (wsX5_rope_r4 ++ wsX5_rope_r5)))) ++ wsX50 ++ wsX20 ++ wsX30 ++ wsX00 ++ (vx_atS RX5 284 "java/lang/IndexOutOfBoundsException" ["java/lang/RuntimeException", "java/lang/Exception"]).filter goodWord ++ (vx_atS RX5 122 "java/lang/IllegalArgumentException" ["java/lang/RuntimeException", "java/lang/Exception"]).filter goodWord)
def wsX5_on_r1 : List Cond := [Cond.classLink RX5 76 "java/lang/IllegalStateException", Cond.initialized "java/lang/IllegalStateException", Cond.fieldLink RX5 19 "LadderClimb" "history" "LLadderClimb$History;", Cond.fieldLink RX5 10 "LadderClimb" "site" "LLadderClimb$Site;", Cond.fieldLink RX5 87 "LadderClimb$Rig" "people" "I", Cond.methodLink RX5 37 yX5_rigOf, Cond.instanceMethod yX5_rigOf, Cond.selects RX5 yX5_rigOf yX5_rigOf, Cond.initialized RX5, Cond.code yX5_rigOf cX5_rigOf 2 (some (.object "LadderClimb$Rig")), Cond.classLink RX5 280 "java/lang/IndexOutOfBoundsException", Cond.initialized "java/lang/IndexOutOfBoundsException", Cond.fieldLink RX5 285 "LadderClimb$Site" "rigs" "[LLadderClimb$Rig;", Cond.methodLink RX5 41 yX5_demandRange, Cond.static yX5_demandRange, Cond.code yX5_demandRange cX5_demandRange 3 none, Cond.classLink RX5 118 "java/lang/IllegalArgumentException", Cond.initialized "java/lang/IllegalArgumentException", Cond.methodLink RX5 72 yX2_isFull, Cond.instanceMethod yX2_isFull, Cond.selects RX2 yX2_isFull yX2_isFull, Cond.initialized RX2, Cond.code yX2_isFull cX2_isFull 1 (some .boolean), Cond.fieldLink RX2 33 "LadderClimb$Rig" "people" "I"]
def wsX5_on_r2 : List Cond := [Cond.methodLink RX5 45 yX0_save, Cond.instanceMethod yX0_save, Cond.selects RX0 yX0_save yX0_save, Cond.initialized RX0, Cond.code yX0_save cX0_save 2 none, Cond.fieldLink RX0 17 "LadderClimb$History" "next" "I", Cond.fieldLink RX0 11 "LadderClimb$History" "saved" "[LLadderClimb$Site;", Cond.fieldLink RX0 21 "LadderClimb$History" "size" "I", Cond.methodLink RX0 29 Lib.Math.min.name, Cond.static Lib.Math.min.name, Cond.initialized "java/lang/Math", Cond.code Lib.Math.min.name Lib.Math.min.code 2 (some .int), Cond.methodLink RX0 25 yX3_copyFrom, Cond.instanceMethod yX3_copyFrom, Cond.selects RX3 yX3_copyFrom yX3_copyFrom, Cond.initialized RX3, Cond.code yX3_copyFrom cX3_copyFrom 3 none, Cond.fieldLink RX3 11 "LadderClimb$Site" "rigs" "[LLadderClimb$Rig;", Cond.fieldLink RX3 17 "LadderClimb$Site" "fallen" "I", Cond.fieldLink RX3 21 "LadderClimb$Site" "climbed" "I", Cond.methodLink RX3 25 yX2_copyFrom, Cond.instanceMethod yX2_copyFrom, Cond.selects RX2 yX2_copyFrom yX2_copyFrom, Cond.code yX2_copyFrom cX2_copyFrom 3 none]
def wsX5_on_r3 : List Cond := [Cond.fieldLink RX2 9 "LadderClimb$Rig" "base" "I", Cond.fieldLink RX2 15 "LadderClimb$Rig" "height" "I", Cond.fieldLink RX2 18 "LadderClimb$Rig" "weight" "I", Cond.fieldLink RX2 21 "LadderClimb$Rig" "ground" "I", Cond.fieldLink RX2 24 "LadderClimb$Rig" "wall" "I", Cond.fieldLink RX2 27 "LadderClimb$Rig" "rope" "I", Cond.fieldLink RX2 30 "LadderClimb$Rig" "falls" "I", Cond.fieldLink RX2 36 "LadderClimb$Rig" "weights" "[I", Cond.fieldLink RX2 40 "LadderClimb$Rig" "steps" "[I", Cond.methodLink RX5 83 yX2_add, Cond.instanceMethod yX2_add, Cond.selects RX2 yX2_add yX2_add, Cond.code yX2_add cX2_add 2 none, Cond.methodLink RX5 59 yX3_fallsNow, Cond.instanceMethod yX3_fallsNow, Cond.selects RX3 yX3_fallsNow yX3_fallsNow, Cond.code yX3_fallsNow cX3_fallsNow 2 (some .boolean), Cond.fieldLink RX3 33 "LadderClimb$Rig" "people" "I", Cond.methodLink RX3 29 yX2_stands, Cond.instanceMethod yX2_stands, Cond.selects RX2 yX2_stands yX2_stands, Cond.code yX2_stands cX2_stands 1 (some .boolean), Cond.methodLink RX2 69 yX2_leastForce, Cond.instanceMethod yX2_leastForce]
def wsX5_on_r4 : List Cond := [Cond.selects RX2 yX2_leastForce yX2_leastForce, Cond.code yX2_leastForce cX2_leastForce 1 (some .int), Cond.methodLink RX2 75 Lib.Math.max.name, Cond.static Lib.Math.max.name, Cond.code Lib.Math.max.name Lib.Math.max.code 2 (some .int), Cond.methodLink RX2 82 yX2_leastByWall, Cond.instanceMethod yX2_leastByWall, Cond.selects RX2 yX2_leastByWall yX2_leastByWall, Cond.code yX2_leastByWall cX2_leastByWall 3 (some .int), Cond.methodLink RX2 63 yX2_wallPercents, Cond.instanceMethod yX2_wallPercents, Cond.selects RX2 yX2_wallPercents yX2_wallPercents, Cond.code yX2_wallPercents cX2_wallPercents 1 (some .int), Cond.methodLink RX2 47 yX2_moment, Cond.instanceMethod yX2_moment, Cond.selects RX2 yX2_moment yX2_moment, Cond.code yX2_moment cX2_moment 3 (some .int), Cond.methodLink RX2 88 yJ9_floorDiv_7cf53, Cond.static yJ9_floorDiv_7cf53, Cond.initialized RJ9, Cond.code yJ9_floorDiv_7cf53 cJ9_floorDiv_7cf53 3 (some .int), Cond.methodLink RX2 85 yX2_leastByGround, Cond.instanceMethod yX2_leastByGround, Cond.selects RX2 yX2_leastByGround yX2_leastByGround]
def wsX5_on_r5 : List Cond := [Cond.code yX2_leastByGround cX2_leastByGround 3 (some .int), Cond.methodLink RX2 66 yX2_groundPercents, Cond.instanceMethod yX2_groundPercents, Cond.selects RX2 yX2_groundPercents yX2_groundPercents, Cond.code yX2_groundPercents cX2_groundPercents 1 (some .int), Cond.methodLink RX2 55 yX2_load, Cond.instanceMethod yX2_load, Cond.selects RX2 yX2_load yX2_load, Cond.code yX2_load cX2_load 3 (some .int), Cond.methodLink RX2 72 yX2_greatestForce, Cond.instanceMethod yX2_greatestForce, Cond.selects RX2 yX2_greatestForce yX2_greatestForce, Cond.code yX2_greatestForce cX2_greatestForce 3 (some .int), Cond.methodLink RX3 39 yX3_fall, Cond.instanceMethod yX3_fall, Cond.selects RX3 yX3_fall yX3_fall, Cond.code yX3_fall cX3_fall 2 none, Cond.fieldLink RX3 36 "LadderClimb$Rig" "falls" "I", Cond.methodLink RX3 42 yX2_removeAll, Cond.instanceMethod yX2_removeAll, Cond.selects RX2 yX2_removeAll yX2_removeAll, Cond.code yX2_removeAll cX2_removeAll 2 none]
def wsX5_on : List Cond := .code yX5_on cX5_on 4 (some .int) :: ((wsX5_on_r1 ++ (wsX5_on_r2 ++ (wsX5_on_r3 ++ (wsX5_on_r4 ++ wsX5_on_r5)))) ++ wsX50 ++ wsX20 ++ wsX30 ++ wsX00 ++ (vx_atS RX5 80 "java/lang/IllegalStateException" ["java/lang/RuntimeException", "java/lang/Exception"]).filter goodWord ++ (vx_atS RX5 284 "java/lang/IndexOutOfBoundsException" ["java/lang/RuntimeException", "java/lang/Exception"]).filter goodWord ++ (vx_atS RX5 122 "java/lang/IllegalArgumentException" ["java/lang/RuntimeException", "java/lang/Exception"]).filter goodWord)
def wsX5_demandPerson : List Cond := .code yX5_demandPerson cX5_demandPerson 2 none :: ([.classLink RX5 280 "java/lang/IndexOutOfBoundsException", .initialized "java/lang/IndexOutOfBoundsException", .methodLink RX5 289 yX2_bears, .instanceMethod yX2_bears, .selects RX2 yX2_bears yX2_bears, .initialized RX2, .code yX2_bears cX2_bears 2 (some .boolean), .fieldLink RX2 33 "LadderClimb$Rig" "people" "I"] ++ wsX20 ++ (vx_atS RX5 284 "java/lang/IndexOutOfBoundsException" ["java/lang/RuntimeException", "java/lang/Exception"]).filter goodWord)
def wsX5_off_r1 : List Cond := [Cond.fieldLink RX5 19 "LadderClimb" "history" "LLadderClimb$History;", Cond.fieldLink RX5 10 "LadderClimb" "site" "LLadderClimb$Site;", Cond.fieldLink RX5 87 "LadderClimb$Rig" "people" "I", Cond.methodLink RX5 37 yX5_rigOf, Cond.instanceMethod yX5_rigOf, Cond.selects RX5 yX5_rigOf yX5_rigOf, Cond.initialized RX5, Cond.code yX5_rigOf cX5_rigOf 2 (some (.object "LadderClimb$Rig")), Cond.classLink RX5 280 "java/lang/IndexOutOfBoundsException", Cond.initialized "java/lang/IndexOutOfBoundsException", Cond.fieldLink RX5 285 "LadderClimb$Site" "rigs" "[LLadderClimb$Rig;", Cond.methodLink RX5 90 yX5_demandPerson, Cond.static yX5_demandPerson, Cond.code yX5_demandPerson cX5_demandPerson 2 none, Cond.methodLink RX5 289 yX2_bears, Cond.instanceMethod yX2_bears, Cond.selects RX2 yX2_bears yX2_bears, Cond.initialized RX2, Cond.code yX2_bears cX2_bears 2 (some .boolean), Cond.fieldLink RX2 33 "LadderClimb$Rig" "people" "I", Cond.methodLink RX5 45 yX0_save, Cond.instanceMethod yX0_save, Cond.selects RX0 yX0_save yX0_save, Cond.initialized RX0]
def wsX5_off_r2 : List Cond := [Cond.code yX0_save cX0_save 2 none, Cond.fieldLink RX0 17 "LadderClimb$History" "next" "I", Cond.fieldLink RX0 11 "LadderClimb$History" "saved" "[LLadderClimb$Site;", Cond.fieldLink RX0 21 "LadderClimb$History" "size" "I", Cond.methodLink RX0 29 Lib.Math.min.name, Cond.static Lib.Math.min.name, Cond.initialized "java/lang/Math", Cond.code Lib.Math.min.name Lib.Math.min.code 2 (some .int), Cond.methodLink RX0 25 yX3_copyFrom, Cond.instanceMethod yX3_copyFrom, Cond.selects RX3 yX3_copyFrom yX3_copyFrom, Cond.initialized RX3, Cond.code yX3_copyFrom cX3_copyFrom 3 none, Cond.fieldLink RX3 11 "LadderClimb$Site" "rigs" "[LLadderClimb$Rig;", Cond.fieldLink RX3 17 "LadderClimb$Site" "fallen" "I", Cond.fieldLink RX3 21 "LadderClimb$Site" "climbed" "I", Cond.methodLink RX3 25 yX2_copyFrom, Cond.instanceMethod yX2_copyFrom, Cond.selects RX2 yX2_copyFrom yX2_copyFrom, Cond.code yX2_copyFrom cX2_copyFrom 3 none, Cond.fieldLink RX2 9 "LadderClimb$Rig" "base" "I", Cond.fieldLink RX2 15 "LadderClimb$Rig" "height" "I", Cond.fieldLink RX2 18 "LadderClimb$Rig" "weight" "I", Cond.fieldLink RX2 21 "LadderClimb$Rig" "ground" "I"]
def wsX5_off_r3 : List Cond := [Cond.fieldLink RX2 24 "LadderClimb$Rig" "wall" "I", Cond.fieldLink RX2 27 "LadderClimb$Rig" "rope" "I", Cond.fieldLink RX2 30 "LadderClimb$Rig" "falls" "I", Cond.fieldLink RX2 36 "LadderClimb$Rig" "weights" "[I", Cond.fieldLink RX2 40 "LadderClimb$Rig" "steps" "[I", Cond.methodLink RX5 94 yX2_remove, Cond.instanceMethod yX2_remove, Cond.selects RX2 yX2_remove yX2_remove, Cond.code yX2_remove cX2_remove 3 none, Cond.methodLink RX2 43 yX2_bears, Cond.methodLink RX5 59 yX3_fallsNow, Cond.instanceMethod yX3_fallsNow, Cond.selects RX3 yX3_fallsNow yX3_fallsNow, Cond.code yX3_fallsNow cX3_fallsNow 2 (some .boolean), Cond.fieldLink RX3 33 "LadderClimb$Rig" "people" "I", Cond.methodLink RX3 29 yX2_stands, Cond.instanceMethod yX2_stands, Cond.selects RX2 yX2_stands yX2_stands, Cond.code yX2_stands cX2_stands 1 (some .boolean), Cond.methodLink RX2 69 yX2_leastForce, Cond.instanceMethod yX2_leastForce, Cond.selects RX2 yX2_leastForce yX2_leastForce, Cond.code yX2_leastForce cX2_leastForce 1 (some .int), Cond.methodLink RX2 75 Lib.Math.max.name]
def wsX5_off_r4 : List Cond := [Cond.static Lib.Math.max.name, Cond.code Lib.Math.max.name Lib.Math.max.code 2 (some .int), Cond.methodLink RX2 82 yX2_leastByWall, Cond.instanceMethod yX2_leastByWall, Cond.selects RX2 yX2_leastByWall yX2_leastByWall, Cond.code yX2_leastByWall cX2_leastByWall 3 (some .int), Cond.methodLink RX2 63 yX2_wallPercents, Cond.instanceMethod yX2_wallPercents, Cond.selects RX2 yX2_wallPercents yX2_wallPercents, Cond.code yX2_wallPercents cX2_wallPercents 1 (some .int), Cond.methodLink RX2 47 yX2_moment, Cond.instanceMethod yX2_moment, Cond.selects RX2 yX2_moment yX2_moment, Cond.code yX2_moment cX2_moment 3 (some .int), Cond.methodLink RX2 88 yJ9_floorDiv_7cf53, Cond.static yJ9_floorDiv_7cf53, Cond.initialized RJ9, Cond.code yJ9_floorDiv_7cf53 cJ9_floorDiv_7cf53 3 (some .int), Cond.methodLink RX2 85 yX2_leastByGround, Cond.instanceMethod yX2_leastByGround, Cond.selects RX2 yX2_leastByGround yX2_leastByGround, Cond.code yX2_leastByGround cX2_leastByGround 3 (some .int), Cond.methodLink RX2 66 yX2_groundPercents, Cond.instanceMethod yX2_groundPercents]
def wsX5_off_r5 : List Cond := [Cond.selects RX2 yX2_groundPercents yX2_groundPercents, Cond.code yX2_groundPercents cX2_groundPercents 1 (some .int), Cond.methodLink RX2 55 yX2_load, Cond.instanceMethod yX2_load, Cond.selects RX2 yX2_load yX2_load, Cond.code yX2_load cX2_load 3 (some .int), Cond.methodLink RX2 72 yX2_greatestForce, Cond.instanceMethod yX2_greatestForce, Cond.selects RX2 yX2_greatestForce yX2_greatestForce, Cond.code yX2_greatestForce cX2_greatestForce 3 (some .int), Cond.methodLink RX3 39 yX3_fall, Cond.instanceMethod yX3_fall, Cond.selects RX3 yX3_fall yX3_fall, Cond.code yX3_fall cX3_fall 2 none, Cond.fieldLink RX3 36 "LadderClimb$Rig" "falls" "I", Cond.methodLink RX3 42 yX2_removeAll, Cond.instanceMethod yX2_removeAll, Cond.selects RX2 yX2_removeAll yX2_removeAll, Cond.code yX2_removeAll cX2_removeAll 2 none]
def wsX5_off : List Cond := .code yX5_off cX5_off 4 (some .int) :: ((wsX5_off_r1 ++ (wsX5_off_r2 ++ (wsX5_off_r3 ++ (wsX5_off_r4 ++ wsX5_off_r5)))) ++ wsX50 ++ wsX20 ++ wsX30 ++ wsX00 ++ (vx_atS RX5 284 "java/lang/IndexOutOfBoundsException" ["java/lang/RuntimeException", "java/lang/Exception"]).filter goodWord)
def wsX5_climb_r1 : List Cond := [Cond.fieldLink RX5 19 "LadderClimb" "history" "LLadderClimb$History;", Cond.fieldLink RX5 10 "LadderClimb" "site" "LLadderClimb$Site;", Cond.methodLink RX5 37 yX5_rigOf, Cond.instanceMethod yX5_rigOf, Cond.selects RX5 yX5_rigOf yX5_rigOf, Cond.initialized RX5, Cond.code yX5_rigOf cX5_rigOf 2 (some (.object "LadderClimb$Rig")), Cond.classLink RX5 280 "java/lang/IndexOutOfBoundsException", Cond.initialized "java/lang/IndexOutOfBoundsException", Cond.fieldLink RX5 285 "LadderClimb$Site" "rigs" "[LLadderClimb$Rig;", Cond.methodLink RX5 90 yX5_demandPerson, Cond.static yX5_demandPerson, Cond.code yX5_demandPerson cX5_demandPerson 2 none, Cond.methodLink RX5 289 yX2_bears, Cond.instanceMethod yX2_bears, Cond.selects RX2 yX2_bears yX2_bears, Cond.initialized RX2, Cond.code yX2_bears cX2_bears 2 (some .boolean), Cond.fieldLink RX2 33 "LadderClimb$Rig" "people" "I", Cond.methodLink RX5 41 yX5_demandRange, Cond.static yX5_demandRange, Cond.code yX5_demandRange cX5_demandRange 3 none, Cond.classLink RX5 118 "java/lang/IllegalArgumentException", Cond.initialized "java/lang/IllegalArgumentException"]
def wsX5_climb_r2 : List Cond := [Cond.methodLink RX5 45 yX0_save, Cond.instanceMethod yX0_save, Cond.selects RX0 yX0_save yX0_save, Cond.initialized RX0, Cond.code yX0_save cX0_save 2 none, Cond.fieldLink RX0 17 "LadderClimb$History" "next" "I", Cond.fieldLink RX0 11 "LadderClimb$History" "saved" "[LLadderClimb$Site;", Cond.fieldLink RX0 21 "LadderClimb$History" "size" "I", Cond.methodLink RX0 29 Lib.Math.min.name, Cond.static Lib.Math.min.name, Cond.initialized "java/lang/Math", Cond.code Lib.Math.min.name Lib.Math.min.code 2 (some .int), Cond.methodLink RX0 25 yX3_copyFrom, Cond.instanceMethod yX3_copyFrom, Cond.selects RX3 yX3_copyFrom yX3_copyFrom, Cond.initialized RX3, Cond.code yX3_copyFrom cX3_copyFrom 3 none, Cond.fieldLink RX3 11 "LadderClimb$Site" "rigs" "[LLadderClimb$Rig;", Cond.fieldLink RX3 17 "LadderClimb$Site" "fallen" "I", Cond.fieldLink RX3 21 "LadderClimb$Site" "climbed" "I", Cond.methodLink RX3 25 yX2_copyFrom, Cond.instanceMethod yX2_copyFrom, Cond.selects RX2 yX2_copyFrom yX2_copyFrom, Cond.code yX2_copyFrom cX2_copyFrom 3 none]
def wsX5_climb_r3 : List Cond := [Cond.fieldLink RX2 9 "LadderClimb$Rig" "base" "I", Cond.fieldLink RX2 15 "LadderClimb$Rig" "height" "I", Cond.fieldLink RX2 18 "LadderClimb$Rig" "weight" "I", Cond.fieldLink RX2 21 "LadderClimb$Rig" "ground" "I", Cond.fieldLink RX2 24 "LadderClimb$Rig" "wall" "I", Cond.fieldLink RX2 27 "LadderClimb$Rig" "rope" "I", Cond.fieldLink RX2 30 "LadderClimb$Rig" "falls" "I", Cond.fieldLink RX2 36 "LadderClimb$Rig" "weights" "[I", Cond.fieldLink RX2 40 "LadderClimb$Rig" "steps" "[I", Cond.methodLink RX5 97 yX3_walk, Cond.instanceMethod yX3_walk, Cond.selects RX3 yX3_walk yX3_walk, Cond.code yX3_walk cX3_walk 8 (some .int), Cond.methodLink RX3 49 Lib.Math.abs.name, Cond.static Lib.Math.abs.name, Cond.code Lib.Math.abs.name Lib.Math.abs.code 1 (some .int), Cond.methodLink RX3 45 yX2_stepOf, Cond.instanceMethod yX2_stepOf, Cond.selects RX2 yX2_stepOf yX2_stepOf, Cond.code yX2_stepOf cX2_stepOf 2 (some .int), Cond.methodLink RX2 43 yX2_bears, Cond.methodLink RX3 54 yX2_setStep, Cond.instanceMethod yX2_setStep, Cond.selects RX2 yX2_setStep yX2_setStep]
def wsX5_climb_r4 : List Cond := [Cond.code yX2_setStep cX2_setStep 3 none, Cond.methodLink RX3 29 yX2_stands, Cond.instanceMethod yX2_stands, Cond.selects RX2 yX2_stands yX2_stands, Cond.code yX2_stands cX2_stands 1 (some .boolean), Cond.methodLink RX2 69 yX2_leastForce, Cond.instanceMethod yX2_leastForce, Cond.selects RX2 yX2_leastForce yX2_leastForce, Cond.code yX2_leastForce cX2_leastForce 1 (some .int), Cond.methodLink RX2 75 Lib.Math.max.name, Cond.static Lib.Math.max.name, Cond.code Lib.Math.max.name Lib.Math.max.code 2 (some .int), Cond.methodLink RX2 82 yX2_leastByWall, Cond.instanceMethod yX2_leastByWall, Cond.selects RX2 yX2_leastByWall yX2_leastByWall, Cond.code yX2_leastByWall cX2_leastByWall 3 (some .int), Cond.methodLink RX2 63 yX2_wallPercents, Cond.instanceMethod yX2_wallPercents, Cond.selects RX2 yX2_wallPercents yX2_wallPercents, Cond.code yX2_wallPercents cX2_wallPercents 1 (some .int), Cond.methodLink RX2 47 yX2_moment, Cond.instanceMethod yX2_moment, Cond.selects RX2 yX2_moment yX2_moment, Cond.code yX2_moment cX2_moment 3 (some .int)]
def wsX5_climb_r5 : List Cond := [Cond.methodLink RX2 88 yJ9_floorDiv_7cf53, Cond.static yJ9_floorDiv_7cf53, Cond.initialized RJ9, Cond.code yJ9_floorDiv_7cf53 cJ9_floorDiv_7cf53 3 (some .int), Cond.methodLink RX2 85 yX2_leastByGround, Cond.instanceMethod yX2_leastByGround, Cond.selects RX2 yX2_leastByGround yX2_leastByGround, Cond.code yX2_leastByGround cX2_leastByGround 3 (some .int), Cond.methodLink RX2 66 yX2_groundPercents, Cond.instanceMethod yX2_groundPercents, Cond.selects RX2 yX2_groundPercents yX2_groundPercents, Cond.code yX2_groundPercents cX2_groundPercents 1 (some .int), Cond.methodLink RX2 55 yX2_load, Cond.instanceMethod yX2_load, Cond.selects RX2 yX2_load yX2_load, Cond.code yX2_load cX2_load 3 (some .int), Cond.methodLink RX2 72 yX2_greatestForce, Cond.instanceMethod yX2_greatestForce, Cond.selects RX2 yX2_greatestForce yX2_greatestForce, Cond.code yX2_greatestForce cX2_greatestForce 3 (some .int), Cond.methodLink RX3 39 yX3_fall, Cond.instanceMethod yX3_fall, Cond.selects RX3 yX3_fall yX3_fall, Cond.code yX3_fall cX3_fall 2 none]
def wsX5_climb_r6 : List Cond := [Cond.fieldLink RX3 33 "LadderClimb$Rig" "people" "I", Cond.fieldLink RX3 36 "LadderClimb$Rig" "falls" "I", Cond.methodLink RX3 42 yX2_removeAll, Cond.instanceMethod yX2_removeAll, Cond.selects RX2 yX2_removeAll yX2_removeAll, Cond.code yX2_removeAll cX2_removeAll 2 none]
def wsX5_climb : List Cond := .code yX5_climb cX5_climb 5 (some .int) :: ((wsX5_climb_r1 ++ (wsX5_climb_r2 ++ (wsX5_climb_r3 ++ (wsX5_climb_r4 ++ (wsX5_climb_r5 ++ wsX5_climb_r6))))) ++ wsX50 ++ wsX30 ++ wsX20 ++ wsX00 ++ (vx_atS RX5 284 "java/lang/IndexOutOfBoundsException" ["java/lang/RuntimeException", "java/lang/Exception"]).filter goodWord ++ (vx_atS RX5 122 "java/lang/IllegalArgumentException" ["java/lang/RuntimeException", "java/lang/Exception"]).filter goodWord)
def wsX5_append : List Cond := .code yX5_append cX5_append 2 (some .int) :: ([.classLink RX5 76 "java/lang/IllegalStateException", .initialized "java/lang/IllegalStateException", .fieldLink RX5 26 "LadderClimb" "works" "LLadderClimb$Works;", .fieldLink RX5 105 "LadderClimb$Works" "length" "I", .methodLink RX5 41 yX5_demandRange, .static yX5_demandRange, .initialized RX5, .code yX5_demandRange cX5_demandRange 3 none, .classLink RX5 118 "java/lang/IllegalArgumentException", .initialized "java/lang/IllegalArgumentException", .methodLink RX5 101 yX4_isFull, .instanceMethod yX4_isFull, .selects RX4 yX4_isFull yX4_isFull, .initialized RX4, .code yX4_isFull cX4_isFull 1 (some .boolean), .fieldLink RX4 15 "LadderClimb$Works" "length" "I", .methodLink RX5 104 yX4_add, .instanceMethod yX4_add, .selects RX4 yX4_add yX4_add, .code yX4_add cX4_add 2 none, .fieldLink RX4 9 "LadderClimb$Works" "codes" "[I"] ++ wsX50 ++ wsX40 ++ (vx_atS RX5 80 "java/lang/IllegalStateException" ["java/lang/RuntimeException", "java/lang/Exception"]).filter goodWord ++ (vx_atS RX5 122 "java/lang/IllegalArgumentException" ["java/lang/RuntimeException", "java/lang/Exception"]).filter goodWord)
def wsX5_clearBuffer : List Cond := .code yX5_clearBuffer cX5_clearBuffer 2 (some .int) :: ([.fieldLink RX5 26 "LadderClimb" "works" "LLadderClimb$Works;", .fieldLink RX5 105 "LadderClimb$Works" "length" "I", .methodLink RX5 108 yX4_clear, .instanceMethod yX4_clear, .selects RX4 yX4_clear yX4_clear, .initialized RX4, .code yX4_clear cX4_clear 1 none, .fieldLink RX4 15 "LadderClimb$Works" "length" "I"] ++ wsX50 ++ wsX40)
def wsX5_firstError_r1 : List Cond := [Cond.fieldLink RX5 26 "LadderClimb" "works" "LLadderClimb$Works;", Cond.methodLink RX5 111 yX4_firstFault, Cond.instanceMethod yX4_firstFault, Cond.selects RX4 yX4_firstFault yX4_firstFault, Cond.initialized RX4, Cond.code yX4_firstFault cX4_firstFault 2 (some .int), Cond.fieldLink RX4 25 "LadderClimb$Works" "reader" "LLadderClimb$Reader;", Cond.fieldLink RX4 15 "LadderClimb$Works" "length" "I", Cond.methodLink RX4 29 yX1_startPart, Cond.instanceMethod yX1_startPart, Cond.selects RX1 yX1_startPart yX1_startPart, Cond.initialized RX1, Cond.code yX1_startPart cX1_startPart 1 none, Cond.fieldLink RX1 11 "LadderClimb$Reader" "place" "I", Cond.fieldLink RX1 27 "LadderClimb$Reader" "number" "I", Cond.methodLink RX4 32 yX4_codeAt, Cond.instanceMethod yX4_codeAt, Cond.selects RX4 yX4_codeAt yX4_codeAt, Cond.code yX4_codeAt cX4_codeAt 2 (some .int), Cond.fieldLink RX4 9 "LadderClimb$Works" "codes" "[I", Cond.methodLink RX4 36 yX1_takes, Cond.instanceMethod yX1_takes, Cond.selects RX1 yX1_takes yX1_takes, Cond.code yX1_takes cX1_takes 2 (some .boolean)]
def wsX5_firstError_r2 : List Cond := [Cond.methodLink RX1 30 yX1_takesLadder, Cond.instanceMethod yX1_takesLadder, Cond.selects RX1 yX1_takesLadder yX1_takesLadder, Cond.code yX1_takesLadder cX1_takesLadder 2 (some .boolean), Cond.fieldLink RX1 21 "LadderClimb$Reader" "ladder" "I", Cond.methodLink RX1 34 yX1_takesWork, Cond.instanceMethod yX1_takesWork, Cond.selects RX1 yX1_takesWork yX1_takesWork, Cond.code yX1_takesWork cX1_takesWork 2 (some .boolean), Cond.fieldLink RX1 24 "LadderClimb$Reader" "work" "I", Cond.methodLink RX1 44 yX1_startNumber, Cond.instanceMethod yX1_startNumber, Cond.selects RX1 yX1_startNumber yX1_startNumber, Cond.code yX1_startNumber cX1_startNumber 4 (some .boolean), Cond.fieldLink RX1 15 "LadderClimb$Reader" "least" "I", Cond.fieldLink RX1 18 "LadderClimb$Reader" "most" "I", Cond.methodLink RX1 37 yX1_takesDigit, Cond.instanceMethod yX1_takesDigit, Cond.selects RX1 yX1_takesDigit yX1_takesDigit, Cond.code yX1_takesDigit cX1_takesDigit 3 (some .boolean), Cond.methodLink RX1 48 yX1_canBecomeNumber, Cond.instanceMethod yX1_canBecomeNumber, Cond.selects RX1 yX1_canBecomeNumber yX1_canBecomeNumber, Cond.code yX1_canBecomeNumber cX1_canBecomeNumber 5 (some .boolean)]
def wsX5_firstError_r3 : List Cond := [Cond.methodLink RX1 40 yX1_takesSemicolon, Cond.instanceMethod yX1_takesSemicolon, Cond.selects RX1 yX1_takesSemicolon yX1_takesSemicolon, Cond.code yX1_takesSemicolon cX1_takesSemicolon 1 (some .boolean), Cond.methodLink RX1 51 yX1_isPartWhole, Cond.instanceMethod yX1_isPartWhole, Cond.selects RX1 yX1_isPartWhole yX1_isPartWhole, Cond.code yX1_isPartWhole cX1_isPartWhole 1 (some .boolean), Cond.methodLink RX1 54 yX1_startPart]
def wsX5_firstError : List Cond := .code yX5_firstError cX5_firstError 1 (some .int) :: ((wsX5_firstError_r1 ++ (wsX5_firstError_r2 ++ wsX5_firstError_r3)) ++ wsX50 ++ wsX40 ++ wsX10)
def wsX5_playPart_r1 : List Cond := [Cond.fieldLink RX5 270 "LadderClimb$Reader" "ladder" "I", Cond.fieldLink RX5 274 "LadderClimb$Reader" "work" "I", Cond.fieldLink RX5 87 "LadderClimb$Rig" "people" "I", Cond.fieldLink RX5 10 "LadderClimb" "site" "LLadderClimb$Site;", Cond.fieldLink RX5 277 "LadderClimb$Reader" "number" "I", Cond.fieldLink RX5 69 "LadderClimb$Rig" "rope" "I", Cond.methodLink RX5 37 yX5_rigOf, Cond.instanceMethod yX5_rigOf, Cond.selects RX5 yX5_rigOf yX5_rigOf, Cond.initialized RX5, Cond.code yX5_rigOf cX5_rigOf 2 (some (.object "LadderClimb$Rig")), Cond.classLink RX5 280 "java/lang/IndexOutOfBoundsException", Cond.initialized "java/lang/IndexOutOfBoundsException", Cond.fieldLink RX5 285 "LadderClimb$Site" "rigs" "[LLadderClimb$Rig;", Cond.methodLink RX5 97 yX3_walk, Cond.instanceMethod yX3_walk, Cond.selects RX3 yX3_walk yX3_walk, Cond.initialized RX3, Cond.code yX3_walk cX3_walk 8 (some .int), Cond.methodLink RX3 49 Lib.Math.abs.name, Cond.static Lib.Math.abs.name, Cond.initialized "java/lang/Math", Cond.code Lib.Math.abs.name Lib.Math.abs.code 1 (some .int), Cond.fieldLink RX3 21 "LadderClimb$Site" "climbed" "I"]
def wsX5_playPart_r2 : List Cond := [Cond.methodLink RX3 45 yX2_stepOf, Cond.instanceMethod yX2_stepOf, Cond.selects RX2 yX2_stepOf yX2_stepOf, Cond.initialized RX2, Cond.code yX2_stepOf cX2_stepOf 2 (some .int), Cond.fieldLink RX2 40 "LadderClimb$Rig" "steps" "[I", Cond.methodLink RX2 43 yX2_bears, Cond.instanceMethod yX2_bears, Cond.selects RX2 yX2_bears yX2_bears, Cond.code yX2_bears cX2_bears 2 (some .boolean), Cond.fieldLink RX2 33 "LadderClimb$Rig" "people" "I", Cond.methodLink RX3 54 yX2_setStep, Cond.instanceMethod yX2_setStep, Cond.selects RX2 yX2_setStep yX2_setStep, Cond.code yX2_setStep cX2_setStep 3 none, Cond.methodLink RX3 29 yX2_stands, Cond.instanceMethod yX2_stands, Cond.selects RX2 yX2_stands yX2_stands, Cond.code yX2_stands cX2_stands 1 (some .boolean), Cond.methodLink RX2 69 yX2_leastForce, Cond.instanceMethod yX2_leastForce, Cond.selects RX2 yX2_leastForce yX2_leastForce, Cond.code yX2_leastForce cX2_leastForce 1 (some .int), Cond.methodLink RX2 75 Lib.Math.max.name]
def wsX5_playPart_r3 : List Cond := [Cond.static Lib.Math.max.name, Cond.code Lib.Math.max.name Lib.Math.max.code 2 (some .int), Cond.methodLink RX2 82 yX2_leastByWall, Cond.instanceMethod yX2_leastByWall, Cond.selects RX2 yX2_leastByWall yX2_leastByWall, Cond.code yX2_leastByWall cX2_leastByWall 3 (some .int), Cond.fieldLink RX2 24 "LadderClimb$Rig" "wall" "I", Cond.fieldLink RX2 15 "LadderClimb$Rig" "height" "I", Cond.fieldLink RX2 9 "LadderClimb$Rig" "base" "I", Cond.methodLink RX2 63 yX2_wallPercents, Cond.instanceMethod yX2_wallPercents, Cond.selects RX2 yX2_wallPercents yX2_wallPercents, Cond.code yX2_wallPercents cX2_wallPercents 1 (some .int), Cond.methodLink RX2 47 yX2_moment, Cond.instanceMethod yX2_moment, Cond.selects RX2 yX2_moment yX2_moment, Cond.code yX2_moment cX2_moment 3 (some .int), Cond.fieldLink RX2 18 "LadderClimb$Rig" "weight" "I", Cond.fieldLink RX2 36 "LadderClimb$Rig" "weights" "[I", Cond.methodLink RX2 88 yJ9_floorDiv_7cf53, Cond.static yJ9_floorDiv_7cf53, Cond.initialized RJ9, Cond.code yJ9_floorDiv_7cf53 cJ9_floorDiv_7cf53 3 (some .int), Cond.methodLink RX2 85 yX2_leastByGround]
def wsX5_playPart_r4 : List Cond := [Cond.instanceMethod yX2_leastByGround, Cond.selects RX2 yX2_leastByGround yX2_leastByGround, Cond.code yX2_leastByGround cX2_leastByGround 3 (some .int), Cond.fieldLink RX2 27 "LadderClimb$Rig" "rope" "I", Cond.methodLink RX2 66 yX2_groundPercents, Cond.instanceMethod yX2_groundPercents, Cond.selects RX2 yX2_groundPercents yX2_groundPercents, Cond.code yX2_groundPercents cX2_groundPercents 1 (some .int), Cond.fieldLink RX2 21 "LadderClimb$Rig" "ground" "I", Cond.methodLink RX2 55 yX2_load, Cond.instanceMethod yX2_load, Cond.selects RX2 yX2_load yX2_load, Cond.code yX2_load cX2_load 3 (some .int), Cond.methodLink RX2 72 yX2_greatestForce, Cond.instanceMethod yX2_greatestForce, Cond.selects RX2 yX2_greatestForce yX2_greatestForce, Cond.code yX2_greatestForce cX2_greatestForce 3 (some .int), Cond.methodLink RX3 39 yX3_fall, Cond.instanceMethod yX3_fall, Cond.selects RX3 yX3_fall yX3_fall, Cond.code yX3_fall cX3_fall 2 none, Cond.fieldLink RX3 17 "LadderClimb$Site" "fallen" "I", Cond.fieldLink RX3 33 "LadderClimb$Rig" "people" "I", Cond.fieldLink RX3 36 "LadderClimb$Rig" "falls" "I"]
def wsX5_playPart_r5 : List Cond := [Cond.methodLink RX3 42 yX2_removeAll, Cond.instanceMethod yX2_removeAll, Cond.selects RX2 yX2_removeAll yX2_removeAll, Cond.code yX2_removeAll cX2_removeAll 2 none, Cond.methodLink RX5 72 yX2_isFull, Cond.instanceMethod yX2_isFull, Cond.selects RX2 yX2_isFull yX2_isFull, Cond.code yX2_isFull cX2_isFull 1 (some .boolean), Cond.methodLink RX5 83 yX2_add, Cond.instanceMethod yX2_add, Cond.selects RX2 yX2_add yX2_add, Cond.code yX2_add cX2_add 2 none, Cond.methodLink RX5 94 yX2_remove, Cond.instanceMethod yX2_remove, Cond.selects RX2 yX2_remove yX2_remove, Cond.code yX2_remove cX2_remove 3 none, Cond.methodLink RX5 59 yX3_fallsNow, Cond.instanceMethod yX3_fallsNow, Cond.selects RX3 yX3_fallsNow yX3_fallsNow, Cond.code yX3_fallsNow cX3_fallsNow 2 (some .boolean)]
def wsX5_playPart : List Cond := .code yX5_playPart cX5_playPart 3 (some .boolean) :: ((wsX5_playPart_r1 ++ (wsX5_playPart_r2 ++ (wsX5_playPart_r3 ++ (wsX5_playPart_r4 ++ wsX5_playPart_r5)))) ++ wsX10 ++ wsX20 ++ wsX50 ++ wsX30 ++ (vx_atS RX5 284 "java/lang/IndexOutOfBoundsException" ["java/lang/RuntimeException", "java/lang/Exception"]).filter goodWord)
def wsX5_play_r1 : List Cond := [Cond.classLink RX5 118 "java/lang/IllegalArgumentException", Cond.initialized "java/lang/IllegalArgumentException", Cond.fieldLink RX5 26 "LadderClimb" "works" "LLadderClimb$Works;", Cond.fieldLink RX5 19 "LadderClimb" "history" "LLadderClimb$History;", Cond.fieldLink RX5 10 "LadderClimb" "site" "LLadderClimb$Site;", Cond.fieldLink RX5 129 "LadderClimb$Works" "reader" "LLadderClimb$Reader;", Cond.methodLink RX5 115 yX4_isWhole, Cond.instanceMethod yX4_isWhole, Cond.selects RX4 yX4_isWhole yX4_isWhole, Cond.initialized RX4, Cond.code yX4_isWhole cX4_isWhole 1 (some .boolean), Cond.fieldLink RX4 15 "LadderClimb$Works" "length" "I", Cond.fieldLink RX4 25 "LadderClimb$Works" "reader" "LLadderClimb$Reader;", Cond.methodLink RX4 40 yX4_firstFault, Cond.instanceMethod yX4_firstFault, Cond.selects RX4 yX4_firstFault yX4_firstFault, Cond.code yX4_firstFault cX4_firstFault 2 (some .int), Cond.methodLink RX4 29 yX1_startPart, Cond.instanceMethod yX1_startPart, Cond.selects RX1 yX1_startPart yX1_startPart, Cond.initialized RX1, Cond.code yX1_startPart cX1_startPart 1 none, Cond.fieldLink RX1 11 "LadderClimb$Reader" "place" "I", Cond.fieldLink RX1 27 "LadderClimb$Reader" "number" "I"]
def wsX5_play_r2 : List Cond := [Cond.methodLink RX4 32 yX4_codeAt, Cond.instanceMethod yX4_codeAt, Cond.selects RX4 yX4_codeAt yX4_codeAt, Cond.code yX4_codeAt cX4_codeAt 2 (some .int), Cond.fieldLink RX4 9 "LadderClimb$Works" "codes" "[I", Cond.methodLink RX4 36 yX1_takes, Cond.instanceMethod yX1_takes, Cond.selects RX1 yX1_takes yX1_takes, Cond.code yX1_takes cX1_takes 2 (some .boolean), Cond.methodLink RX1 30 yX1_takesLadder, Cond.instanceMethod yX1_takesLadder, Cond.selects RX1 yX1_takesLadder yX1_takesLadder, Cond.code yX1_takesLadder cX1_takesLadder 2 (some .boolean), Cond.fieldLink RX1 21 "LadderClimb$Reader" "ladder" "I", Cond.methodLink RX1 34 yX1_takesWork, Cond.instanceMethod yX1_takesWork, Cond.selects RX1 yX1_takesWork yX1_takesWork, Cond.code yX1_takesWork cX1_takesWork 2 (some .boolean), Cond.fieldLink RX1 24 "LadderClimb$Reader" "work" "I", Cond.methodLink RX1 44 yX1_startNumber, Cond.instanceMethod yX1_startNumber, Cond.selects RX1 yX1_startNumber yX1_startNumber, Cond.code yX1_startNumber cX1_startNumber 4 (some .boolean), Cond.fieldLink RX1 15 "LadderClimb$Reader" "least" "I"]
def wsX5_play_r3 : List Cond := [Cond.fieldLink RX1 18 "LadderClimb$Reader" "most" "I", Cond.methodLink RX1 37 yX1_takesDigit, Cond.instanceMethod yX1_takesDigit, Cond.selects RX1 yX1_takesDigit yX1_takesDigit, Cond.code yX1_takesDigit cX1_takesDigit 3 (some .boolean), Cond.methodLink RX1 48 yX1_canBecomeNumber, Cond.instanceMethod yX1_canBecomeNumber, Cond.selects RX1 yX1_canBecomeNumber yX1_canBecomeNumber, Cond.code yX1_canBecomeNumber cX1_canBecomeNumber 5 (some .boolean), Cond.methodLink RX1 40 yX1_takesSemicolon, Cond.instanceMethod yX1_takesSemicolon, Cond.selects RX1 yX1_takesSemicolon yX1_takesSemicolon, Cond.code yX1_takesSemicolon cX1_takesSemicolon 1 (some .boolean), Cond.methodLink RX1 51 yX1_isPartWhole, Cond.instanceMethod yX1_isPartWhole, Cond.selects RX1 yX1_isPartWhole yX1_isPartWhole, Cond.code yX1_isPartWhole cX1_isPartWhole 1 (some .boolean), Cond.methodLink RX1 54 yX1_startPart, Cond.methodLink RX4 44 yX1_isPartWhole, Cond.methodLink RX5 45 yX0_save, Cond.instanceMethod yX0_save, Cond.selects RX0 yX0_save yX0_save, Cond.initialized RX0, Cond.code yX0_save cX0_save 2 none]
def wsX5_play_r4 : List Cond := [Cond.fieldLink RX0 17 "LadderClimb$History" "next" "I", Cond.fieldLink RX0 11 "LadderClimb$History" "saved" "[LLadderClimb$Site;", Cond.fieldLink RX0 21 "LadderClimb$History" "size" "I", Cond.methodLink RX0 29 Lib.Math.min.name, Cond.static Lib.Math.min.name, Cond.initialized "java/lang/Math", Cond.code Lib.Math.min.name Lib.Math.min.code 2 (some .int), Cond.methodLink RX0 25 yX3_copyFrom, Cond.instanceMethod yX3_copyFrom, Cond.selects RX3 yX3_copyFrom yX3_copyFrom, Cond.initialized RX3, Cond.code yX3_copyFrom cX3_copyFrom 3 none, Cond.fieldLink RX3 11 "LadderClimb$Site" "rigs" "[LLadderClimb$Rig;", Cond.fieldLink RX3 17 "LadderClimb$Site" "fallen" "I", Cond.fieldLink RX3 21 "LadderClimb$Site" "climbed" "I", Cond.methodLink RX3 25 yX2_copyFrom, Cond.instanceMethod yX2_copyFrom, Cond.selects RX2 yX2_copyFrom yX2_copyFrom, Cond.initialized RX2, Cond.code yX2_copyFrom cX2_copyFrom 3 none, Cond.fieldLink RX2 9 "LadderClimb$Rig" "base" "I", Cond.fieldLink RX2 15 "LadderClimb$Rig" "height" "I", Cond.fieldLink RX2 18 "LadderClimb$Rig" "weight" "I", Cond.fieldLink RX2 21 "LadderClimb$Rig" "ground" "I"]
def wsX5_play_r5 : List Cond := [Cond.fieldLink RX2 24 "LadderClimb$Rig" "wall" "I", Cond.fieldLink RX2 27 "LadderClimb$Rig" "rope" "I", Cond.fieldLink RX2 30 "LadderClimb$Rig" "falls" "I", Cond.fieldLink RX2 33 "LadderClimb$Rig" "people" "I", Cond.fieldLink RX2 36 "LadderClimb$Rig" "weights" "[I", Cond.fieldLink RX2 40 "LadderClimb$Rig" "steps" "[I", Cond.methodLink RX5 123 yX4_rewind, Cond.instanceMethod yX4_rewind, Cond.selects RX4 yX4_rewind yX4_rewind, Cond.code yX4_rewind cX4_rewind 1 none, Cond.fieldLink RX4 19 "LadderClimb$Works" "cursor" "I", Cond.methodLink RX5 126 yX4_nextPart, Cond.instanceMethod yX4_nextPart, Cond.selects RX4 yX4_nextPart yX4_nextPart, Cond.code yX4_nextPart cX4_nextPart 2 (some .boolean), Cond.methodLink RX5 133 yX5_playPart, Cond.instanceMethod yX5_playPart, Cond.selects RX5 yX5_playPart yX5_playPart, Cond.initialized RX5, Cond.code yX5_playPart cX5_playPart 3 (some .boolean), Cond.fieldLink RX5 270 "LadderClimb$Reader" "ladder" "I", Cond.fieldLink RX5 274 "LadderClimb$Reader" "work" "I", Cond.fieldLink RX5 87 "LadderClimb$Rig" "people" "I", Cond.fieldLink RX5 277 "LadderClimb$Reader" "number" "I"]
def wsX5_play_r6 : List Cond := [Cond.fieldLink RX5 69 "LadderClimb$Rig" "rope" "I", Cond.methodLink RX5 37 yX5_rigOf, Cond.instanceMethod yX5_rigOf, Cond.selects RX5 yX5_rigOf yX5_rigOf, Cond.code yX5_rigOf cX5_rigOf 2 (some (.object "LadderClimb$Rig")), Cond.classLink RX5 280 "java/lang/IndexOutOfBoundsException", Cond.initialized "java/lang/IndexOutOfBoundsException", Cond.fieldLink RX5 285 "LadderClimb$Site" "rigs" "[LLadderClimb$Rig;", Cond.methodLink RX5 97 yX3_walk, Cond.instanceMethod yX3_walk, Cond.selects RX3 yX3_walk yX3_walk, Cond.code yX3_walk cX3_walk 8 (some .int), Cond.methodLink RX3 49 Lib.Math.abs.name, Cond.static Lib.Math.abs.name, Cond.code Lib.Math.abs.name Lib.Math.abs.code 1 (some .int), Cond.methodLink RX3 45 yX2_stepOf, Cond.instanceMethod yX2_stepOf, Cond.selects RX2 yX2_stepOf yX2_stepOf, Cond.code yX2_stepOf cX2_stepOf 2 (some .int), Cond.methodLink RX2 43 yX2_bears, Cond.instanceMethod yX2_bears, Cond.selects RX2 yX2_bears yX2_bears, Cond.code yX2_bears cX2_bears 2 (some .boolean), Cond.methodLink RX3 54 yX2_setStep]
def wsX5_play_r7 : List Cond := [Cond.instanceMethod yX2_setStep, Cond.selects RX2 yX2_setStep yX2_setStep, Cond.code yX2_setStep cX2_setStep 3 none, Cond.methodLink RX3 29 yX2_stands, Cond.instanceMethod yX2_stands, Cond.selects RX2 yX2_stands yX2_stands, Cond.code yX2_stands cX2_stands 1 (some .boolean), Cond.methodLink RX2 69 yX2_leastForce, Cond.instanceMethod yX2_leastForce, Cond.selects RX2 yX2_leastForce yX2_leastForce, Cond.code yX2_leastForce cX2_leastForce 1 (some .int), Cond.methodLink RX2 75 Lib.Math.max.name, Cond.static Lib.Math.max.name, Cond.code Lib.Math.max.name Lib.Math.max.code 2 (some .int), Cond.methodLink RX2 82 yX2_leastByWall, Cond.instanceMethod yX2_leastByWall, Cond.selects RX2 yX2_leastByWall yX2_leastByWall, Cond.code yX2_leastByWall cX2_leastByWall 3 (some .int), Cond.methodLink RX2 63 yX2_wallPercents, Cond.instanceMethod yX2_wallPercents, Cond.selects RX2 yX2_wallPercents yX2_wallPercents, Cond.code yX2_wallPercents cX2_wallPercents 1 (some .int), Cond.methodLink RX2 47 yX2_moment, Cond.instanceMethod yX2_moment]
def wsX5_play_r8 : List Cond := [Cond.selects RX2 yX2_moment yX2_moment, Cond.code yX2_moment cX2_moment 3 (some .int), Cond.methodLink RX2 88 yJ9_floorDiv_7cf53, Cond.static yJ9_floorDiv_7cf53, Cond.initialized RJ9, Cond.code yJ9_floorDiv_7cf53 cJ9_floorDiv_7cf53 3 (some .int), Cond.methodLink RX2 85 yX2_leastByGround, Cond.instanceMethod yX2_leastByGround, Cond.selects RX2 yX2_leastByGround yX2_leastByGround, Cond.code yX2_leastByGround cX2_leastByGround 3 (some .int), Cond.methodLink RX2 66 yX2_groundPercents, Cond.instanceMethod yX2_groundPercents, Cond.selects RX2 yX2_groundPercents yX2_groundPercents, Cond.code yX2_groundPercents cX2_groundPercents 1 (some .int), Cond.methodLink RX2 55 yX2_load, Cond.instanceMethod yX2_load, Cond.selects RX2 yX2_load yX2_load, Cond.code yX2_load cX2_load 3 (some .int), Cond.methodLink RX2 72 yX2_greatestForce, Cond.instanceMethod yX2_greatestForce, Cond.selects RX2 yX2_greatestForce yX2_greatestForce, Cond.code yX2_greatestForce cX2_greatestForce 3 (some .int), Cond.methodLink RX3 39 yX3_fall, Cond.instanceMethod yX3_fall]
def wsX5_play_r9 : List Cond := [Cond.selects RX3 yX3_fall yX3_fall, Cond.code yX3_fall cX3_fall 2 none, Cond.fieldLink RX3 33 "LadderClimb$Rig" "people" "I", Cond.fieldLink RX3 36 "LadderClimb$Rig" "falls" "I", Cond.methodLink RX3 42 yX2_removeAll, Cond.instanceMethod yX2_removeAll, Cond.selects RX2 yX2_removeAll yX2_removeAll, Cond.code yX2_removeAll cX2_removeAll 2 none, Cond.methodLink RX5 72 yX2_isFull, Cond.instanceMethod yX2_isFull, Cond.selects RX2 yX2_isFull yX2_isFull, Cond.code yX2_isFull cX2_isFull 1 (some .boolean), Cond.methodLink RX5 83 yX2_add, Cond.instanceMethod yX2_add, Cond.selects RX2 yX2_add yX2_add, Cond.code yX2_add cX2_add 2 none, Cond.methodLink RX5 94 yX2_remove, Cond.instanceMethod yX2_remove, Cond.selects RX2 yX2_remove yX2_remove, Cond.code yX2_remove cX2_remove 3 none, Cond.methodLink RX5 59 yX3_fallsNow, Cond.instanceMethod yX3_fallsNow, Cond.selects RX3 yX3_fallsNow yX3_fallsNow, Cond.code yX3_fallsNow cX3_fallsNow 2 (some .boolean)]
def wsX5_play_r10 : List Cond := [Cond.methodLink RX5 108 yX4_clear, Cond.instanceMethod yX4_clear, Cond.selects RX4 yX4_clear yX4_clear, Cond.code yX4_clear cX4_clear 1 none]
def wsX5_play : List Cond := .code yX5_play cX5_play 3 (some .int) :: ((wsX5_play_r1 ++ (wsX5_play_r2 ++ (wsX5_play_r3 ++ (wsX5_play_r4 ++ (wsX5_play_r5 ++ (wsX5_play_r6 ++ (wsX5_play_r7 ++ (wsX5_play_r8 ++ (wsX5_play_r9 ++ wsX5_play_r10))))))))) ++ wsX50 ++ wsX40 ++ wsX10 ++ wsX00 ++ wsX30 ++ wsX20 ++ (vx_atS RX5 122 "java/lang/IllegalArgumentException" ["java/lang/RuntimeException", "java/lang/Exception"]).filter goodWord ++ (vx_atS RX5 284 "java/lang/IndexOutOfBoundsException" ["java/lang/RuntimeException", "java/lang/Exception"]).filter goodWord)
def wsX5_undo_r1 : List Cond := [Cond.classLink RX5 76 "java/lang/IllegalStateException", Cond.initialized "java/lang/IllegalStateException", Cond.fieldLink RX5 19 "LadderClimb" "history" "LLadderClimb$History;", Cond.fieldLink RX5 137 "LadderClimb$History" "size" "I", Cond.fieldLink RX5 10 "LadderClimb" "site" "LLadderClimb$Site;", Cond.methodLink RX5 142 yX0_restoreTo, Cond.instanceMethod yX0_restoreTo, Cond.selects RX0 yX0_restoreTo yX0_restoreTo, Cond.initialized RX0, Cond.code yX0_restoreTo cX0_restoreTo 3 none, Cond.fieldLink RX0 17 "LadderClimb$History" "next" "I", Cond.fieldLink RX0 21 "LadderClimb$History" "size" "I", Cond.fieldLink RX0 11 "LadderClimb$History" "saved" "[LLadderClimb$Site;", Cond.methodLink RX0 25 yX3_copyFrom, Cond.instanceMethod yX3_copyFrom, Cond.selects RX3 yX3_copyFrom yX3_copyFrom, Cond.initialized RX3, Cond.code yX3_copyFrom cX3_copyFrom 3 none, Cond.fieldLink RX3 11 "LadderClimb$Site" "rigs" "[LLadderClimb$Rig;", Cond.fieldLink RX3 17 "LadderClimb$Site" "fallen" "I", Cond.fieldLink RX3 21 "LadderClimb$Site" "climbed" "I", Cond.methodLink RX3 25 yX2_copyFrom, Cond.instanceMethod yX2_copyFrom, Cond.selects RX2 yX2_copyFrom yX2_copyFrom]
def wsX5_undo_r2 : List Cond := [Cond.initialized RX2, Cond.code yX2_copyFrom cX2_copyFrom 3 none, Cond.fieldLink RX2 9 "LadderClimb$Rig" "base" "I", Cond.fieldLink RX2 15 "LadderClimb$Rig" "height" "I", Cond.fieldLink RX2 18 "LadderClimb$Rig" "weight" "I", Cond.fieldLink RX2 21 "LadderClimb$Rig" "ground" "I", Cond.fieldLink RX2 24 "LadderClimb$Rig" "wall" "I", Cond.fieldLink RX2 27 "LadderClimb$Rig" "rope" "I", Cond.fieldLink RX2 30 "LadderClimb$Rig" "falls" "I", Cond.fieldLink RX2 33 "LadderClimb$Rig" "people" "I", Cond.fieldLink RX2 36 "LadderClimb$Rig" "weights" "[I", Cond.fieldLink RX2 40 "LadderClimb$Rig" "steps" "[I"]
def wsX5_undo : List Cond := .code yX5_undo cX5_undo 1 (some .int) :: ((wsX5_undo_r1 ++ wsX5_undo_r2) ++ wsX50 ++ wsX00 ++ wsX30 ++ wsX20 ++ (vx_atS RX5 80 "java/lang/IllegalStateException" ["java/lang/RuntimeException", "java/lang/Exception"]).filter goodWord)
def wsX5_ladder_r1 : List Cond := [Cond.classLink RX5 118 "java/lang/IllegalArgumentException", Cond.initialized "java/lang/IllegalArgumentException", Cond.fieldLink RX5 49 "LadderClimb$Rig" "base" "I", Cond.fieldLink RX5 53 "LadderClimb$Rig" "height" "I", Cond.fieldLink RX5 56 "LadderClimb$Rig" "weight" "I", Cond.fieldLink RX5 63 "LadderClimb$Rig" "ground" "I", Cond.fieldLink RX5 66 "LadderClimb$Rig" "wall" "I", Cond.fieldLink RX5 69 "LadderClimb$Rig" "rope" "I", Cond.fieldLink RX5 87 "LadderClimb$Rig" "people" "I", Cond.fieldLink RX5 151 "LadderClimb$Rig" "falls" "I", Cond.methodLink RX5 37 yX5_rigOf, Cond.instanceMethod yX5_rigOf, Cond.selects RX5 yX5_rigOf yX5_rigOf, Cond.initialized RX5, Cond.code yX5_rigOf cX5_rigOf 2 (some (.object "LadderClimb$Rig")), Cond.classLink RX5 280 "java/lang/IndexOutOfBoundsException", Cond.initialized "java/lang/IndexOutOfBoundsException", Cond.fieldLink RX5 10 "LadderClimb" "site" "LLadderClimb$Site;", Cond.fieldLink RX5 285 "LadderClimb$Site" "rigs" "[LLadderClimb$Rig;", Cond.methodLink RX5 145 yX2_load, Cond.instanceMethod yX2_load, Cond.selects RX2 yX2_load yX2_load, Cond.initialized RX2, Cond.code yX2_load cX2_load 3 (some .int)]
def wsX5_ladder_r2 : List Cond := [Cond.fieldLink RX2 18 "LadderClimb$Rig" "weight" "I", Cond.fieldLink RX2 36 "LadderClimb$Rig" "weights" "[I", Cond.methodLink RX5 148 yX2_moment, Cond.instanceMethod yX2_moment, Cond.selects RX2 yX2_moment yX2_moment, Cond.code yX2_moment cX2_moment 3 (some .int), Cond.fieldLink RX2 40 "LadderClimb$Rig" "steps" "[I", Cond.fieldLink RX2 9 "LadderClimb$Rig" "base" "I", Cond.methodLink RX5 154 yX2_stands, Cond.instanceMethod yX2_stands, Cond.selects RX2 yX2_stands yX2_stands, Cond.code yX2_stands cX2_stands 1 (some .boolean), Cond.methodLink RX2 69 yX2_leastForce, Cond.instanceMethod yX2_leastForce, Cond.selects RX2 yX2_leastForce yX2_leastForce, Cond.code yX2_leastForce cX2_leastForce 1 (some .int), Cond.methodLink RX2 75 Lib.Math.max.name, Cond.static Lib.Math.max.name, Cond.initialized "java/lang/Math", Cond.code Lib.Math.max.name Lib.Math.max.code 2 (some .int), Cond.methodLink RX2 82 yX2_leastByWall, Cond.instanceMethod yX2_leastByWall, Cond.selects RX2 yX2_leastByWall yX2_leastByWall, Cond.code yX2_leastByWall cX2_leastByWall 3 (some .int)]
def wsX5_ladder_r3 : List Cond := [Cond.fieldLink RX2 24 "LadderClimb$Rig" "wall" "I", Cond.fieldLink RX2 15 "LadderClimb$Rig" "height" "I", Cond.methodLink RX2 63 yX2_wallPercents, Cond.instanceMethod yX2_wallPercents, Cond.selects RX2 yX2_wallPercents yX2_wallPercents, Cond.code yX2_wallPercents cX2_wallPercents 1 (some .int), Cond.methodLink RX2 47 yX2_moment, Cond.methodLink RX2 88 yJ9_floorDiv_7cf53, Cond.static yJ9_floorDiv_7cf53, Cond.initialized RJ9, Cond.code yJ9_floorDiv_7cf53 cJ9_floorDiv_7cf53 3 (some .int), Cond.methodLink RX2 85 yX2_leastByGround, Cond.instanceMethod yX2_leastByGround, Cond.selects RX2 yX2_leastByGround yX2_leastByGround, Cond.code yX2_leastByGround cX2_leastByGround 3 (some .int), Cond.fieldLink RX2 27 "LadderClimb$Rig" "rope" "I", Cond.methodLink RX2 66 yX2_groundPercents, Cond.instanceMethod yX2_groundPercents, Cond.selects RX2 yX2_groundPercents yX2_groundPercents, Cond.code yX2_groundPercents cX2_groundPercents 1 (some .int), Cond.fieldLink RX2 21 "LadderClimb$Rig" "ground" "I", Cond.methodLink RX2 55 yX2_load, Cond.methodLink RX2 72 yX2_greatestForce, Cond.instanceMethod yX2_greatestForce]
def wsX5_ladder_r4 : List Cond := [Cond.selects RX2 yX2_greatestForce yX2_greatestForce, Cond.code yX2_greatestForce cX2_greatestForce 3 (some .int)]
def wsX5_ladder : List Cond := .code yX5_ladder cX5_ladder 4 (some .int) :: ((wsX5_ladder_r1 ++ (wsX5_ladder_r2 ++ (wsX5_ladder_r3 ++ wsX5_ladder_r4))) ++ wsX20 ++ wsX50 ++ wsX30 ++ (vx_atS RX5 122 "java/lang/IllegalArgumentException" ["java/lang/RuntimeException", "java/lang/Exception"]).filter goodWord ++ (vx_atS RX5 284 "java/lang/IndexOutOfBoundsException" ["java/lang/RuntimeException", "java/lang/Exception"]).filter goodWord)
def wsX5_person_r1 : List Cond := [Cond.classLink RX5 118 "java/lang/IllegalArgumentException", Cond.initialized "java/lang/IllegalArgumentException", Cond.methodLink RX5 37 yX5_rigOf, Cond.instanceMethod yX5_rigOf, Cond.selects RX5 yX5_rigOf yX5_rigOf, Cond.initialized RX5, Cond.code yX5_rigOf cX5_rigOf 2 (some (.object "LadderClimb$Rig")), Cond.classLink RX5 280 "java/lang/IndexOutOfBoundsException", Cond.initialized "java/lang/IndexOutOfBoundsException", Cond.fieldLink RX5 10 "LadderClimb" "site" "LLadderClimb$Site;", Cond.fieldLink RX5 285 "LadderClimb$Site" "rigs" "[LLadderClimb$Rig;", Cond.methodLink RX5 90 yX5_demandPerson, Cond.static yX5_demandPerson, Cond.code yX5_demandPerson cX5_demandPerson 2 none, Cond.methodLink RX5 289 yX2_bears, Cond.instanceMethod yX2_bears, Cond.selects RX2 yX2_bears yX2_bears, Cond.initialized RX2, Cond.code yX2_bears cX2_bears 2 (some .boolean), Cond.fieldLink RX2 33 "LadderClimb$Rig" "people" "I", Cond.methodLink RX5 159 yX2_weightOf, Cond.instanceMethod yX2_weightOf, Cond.selects RX2 yX2_weightOf yX2_weightOf, Cond.code yX2_weightOf cX2_weightOf 2 (some .int)]
def wsX5_person_r2 : List Cond := [Cond.fieldLink RX2 36 "LadderClimb$Rig" "weights" "[I", Cond.methodLink RX2 43 yX2_bears, Cond.methodLink RX5 163 yX2_stepOf, Cond.instanceMethod yX2_stepOf, Cond.selects RX2 yX2_stepOf yX2_stepOf, Cond.code yX2_stepOf cX2_stepOf 2 (some .int), Cond.fieldLink RX2 40 "LadderClimb$Rig" "steps" "[I"]
def wsX5_person : List Cond := .code yX5_person cX5_person 5 (some .int) :: ((wsX5_person_r1 ++ wsX5_person_r2) ++ wsX50 ++ wsX30 ++ wsX20 ++ (vx_atS RX5 122 "java/lang/IllegalArgumentException" ["java/lang/RuntimeException", "java/lang/Exception"]).filter goodWord ++ (vx_atS RX5 284 "java/lang/IndexOutOfBoundsException" ["java/lang/RuntimeException", "java/lang/Exception"]).filter goodWord)
def wsX5_force_r1 : List Cond := [Cond.methodLink RX5 37 yX5_rigOf, Cond.instanceMethod yX5_rigOf, Cond.selects RX5 yX5_rigOf yX5_rigOf, Cond.initialized RX5, Cond.code yX5_rigOf cX5_rigOf 2 (some (.object "LadderClimb$Rig")), Cond.classLink RX5 280 "java/lang/IndexOutOfBoundsException", Cond.initialized "java/lang/IndexOutOfBoundsException", Cond.fieldLink RX5 10 "LadderClimb" "site" "LLadderClimb$Site;", Cond.fieldLink RX5 285 "LadderClimb$Site" "rigs" "[LLadderClimb$Rig;", Cond.methodLink RX5 41 yX5_demandRange, Cond.static yX5_demandRange, Cond.code yX5_demandRange cX5_demandRange 3 none, Cond.classLink RX5 118 "java/lang/IllegalArgumentException", Cond.initialized "java/lang/IllegalArgumentException", Cond.methodLink RX5 168 yX2_forces, Cond.instanceMethod yX2_forces, Cond.selects RX2 yX2_forces yX2_forces, Cond.initialized RX2, Cond.code yX2_forces cX2_forces 1 (some .int), Cond.methodLink RX2 75 Lib.Math.max.name, Cond.static Lib.Math.max.name, Cond.initialized "java/lang/Math", Cond.code Lib.Math.max.name Lib.Math.max.code 2 (some .int), Cond.methodLink RX2 72 yX2_greatestForce]
def wsX5_force_r2 : List Cond := [Cond.instanceMethod yX2_greatestForce, Cond.selects RX2 yX2_greatestForce yX2_greatestForce, Cond.code yX2_greatestForce cX2_greatestForce 3 (some .int), Cond.fieldLink RX2 15 "LadderClimb$Rig" "height" "I", Cond.fieldLink RX2 9 "LadderClimb$Rig" "base" "I", Cond.methodLink RX2 63 yX2_wallPercents, Cond.instanceMethod yX2_wallPercents, Cond.selects RX2 yX2_wallPercents yX2_wallPercents, Cond.code yX2_wallPercents cX2_wallPercents 1 (some .int), Cond.fieldLink RX2 24 "LadderClimb$Rig" "wall" "I", Cond.methodLink RX2 47 yX2_moment, Cond.instanceMethod yX2_moment, Cond.selects RX2 yX2_moment yX2_moment, Cond.code yX2_moment cX2_moment 3 (some .int), Cond.fieldLink RX2 18 "LadderClimb$Rig" "weight" "I", Cond.fieldLink RX2 40 "LadderClimb$Rig" "steps" "[I", Cond.fieldLink RX2 36 "LadderClimb$Rig" "weights" "[I", Cond.methodLink RX2 88 yJ9_floorDiv_7cf53, Cond.static yJ9_floorDiv_7cf53, Cond.initialized RJ9, Cond.code yJ9_floorDiv_7cf53 cJ9_floorDiv_7cf53 3 (some .int), Cond.methodLink RX2 69 yX2_leastForce, Cond.instanceMethod yX2_leastForce, Cond.selects RX2 yX2_leastForce yX2_leastForce]
def wsX5_force_r3 : List Cond := [Cond.code yX2_leastForce cX2_leastForce 1 (some .int), Cond.methodLink RX2 82 yX2_leastByWall, Cond.instanceMethod yX2_leastByWall, Cond.selects RX2 yX2_leastByWall yX2_leastByWall, Cond.code yX2_leastByWall cX2_leastByWall 3 (some .int), Cond.methodLink RX2 85 yX2_leastByGround, Cond.instanceMethod yX2_leastByGround, Cond.selects RX2 yX2_leastByGround yX2_leastByGround, Cond.code yX2_leastByGround cX2_leastByGround 3 (some .int), Cond.fieldLink RX2 27 "LadderClimb$Rig" "rope" "I", Cond.methodLink RX2 66 yX2_groundPercents, Cond.instanceMethod yX2_groundPercents, Cond.selects RX2 yX2_groundPercents yX2_groundPercents, Cond.code yX2_groundPercents cX2_groundPercents 1 (some .int), Cond.fieldLink RX2 21 "LadderClimb$Rig" "ground" "I", Cond.methodLink RX2 55 yX2_load, Cond.instanceMethod yX2_load, Cond.selects RX2 yX2_load yX2_load, Cond.code yX2_load cX2_load 3 (some .int), Cond.methodLink RX5 154 yX2_stands, Cond.instanceMethod yX2_stands, Cond.selects RX2 yX2_stands yX2_stands, Cond.code yX2_stands cX2_stands 1 (some .boolean), Cond.methodLink RX5 171 yX2_leastForce]
def wsX5_force_r4 : List Cond := [Cond.methodLink RX5 174 yX2_greatestForce, Cond.methodLink RX5 177 yX2_nearestForce, Cond.instanceMethod yX2_nearestForce, Cond.selects RX2 yX2_nearestForce yX2_nearestForce, Cond.code yX2_nearestForce cX2_nearestForce 1 (some .int), Cond.methodLink RX2 79 Lib.Math.min.name, Cond.static Lib.Math.min.name, Cond.code Lib.Math.min.name Lib.Math.min.code 2 (some .int), Cond.methodLink RX5 180 yX2_push, Cond.instanceMethod yX2_push, Cond.selects RX2 yX2_push yX2_push, Cond.code yX2_push cX2_push 2 (some .int), Cond.methodLink RX5 145 yX2_load]
def wsX5_force : List Cond := .code yX5_force cX5_force 4 (some .int) :: ((wsX5_force_r1 ++ (wsX5_force_r2 ++ (wsX5_force_r3 ++ wsX5_force_r4))) ++ wsX50 ++ wsX30 ++ wsX20 ++ (vx_atS RX5 284 "java/lang/IndexOutOfBoundsException" ["java/lang/RuntimeException", "java/lang/Exception"]).filter goodWord ++ (vx_atS RX5 122 "java/lang/IllegalArgumentException" ["java/lang/RuntimeException", "java/lang/Exception"]).filter goodWord)
def wsX5_held_r1 : List Cond := [Cond.methodLink RX5 37 yX5_rigOf, Cond.instanceMethod yX5_rigOf, Cond.selects RX5 yX5_rigOf yX5_rigOf, Cond.initialized RX5, Cond.code yX5_rigOf cX5_rigOf 2 (some (.object "LadderClimb$Rig")), Cond.classLink RX5 280 "java/lang/IndexOutOfBoundsException", Cond.initialized "java/lang/IndexOutOfBoundsException", Cond.fieldLink RX5 10 "LadderClimb" "site" "LLadderClimb$Site;", Cond.fieldLink RX5 285 "LadderClimb$Site" "rigs" "[LLadderClimb$Rig;", Cond.methodLink RX5 41 yX5_demandRange, Cond.static yX5_demandRange, Cond.code yX5_demandRange cX5_demandRange 3 none, Cond.classLink RX5 118 "java/lang/IllegalArgumentException", Cond.initialized "java/lang/IllegalArgumentException", Cond.methodLink RX5 183 yX2_whatGivesWay, Cond.instanceMethod yX2_whatGivesWay, Cond.selects RX2 yX2_whatGivesWay yX2_whatGivesWay, Cond.initialized RX2, Cond.code yX2_whatGivesWay cX2_whatGivesWay 5 (some .int), Cond.fieldLink RX2 15 "LadderClimb$Rig" "height" "I", Cond.methodLink RX2 58 Lib.Math.abs.name, Cond.static Lib.Math.abs.name, Cond.initialized "java/lang/Math", Cond.code Lib.Math.abs.name Lib.Math.abs.code 1 (some .int)]
def wsX5_held_r2 : List Cond := [Cond.fieldLink RX2 24 "LadderClimb$Rig" "wall" "I", Cond.fieldLink RX2 27 "LadderClimb$Rig" "rope" "I", Cond.methodLink RX2 51 yX2_push, Cond.instanceMethod yX2_push, Cond.selects RX2 yX2_push yX2_push, Cond.code yX2_push cX2_push 2 (some .int), Cond.fieldLink RX2 9 "LadderClimb$Rig" "base" "I", Cond.methodLink RX2 47 yX2_moment, Cond.instanceMethod yX2_moment, Cond.selects RX2 yX2_moment yX2_moment, Cond.code yX2_moment cX2_moment 3 (some .int), Cond.fieldLink RX2 18 "LadderClimb$Rig" "weight" "I", Cond.fieldLink RX2 40 "LadderClimb$Rig" "steps" "[I", Cond.fieldLink RX2 36 "LadderClimb$Rig" "weights" "[I", Cond.methodLink RX2 55 yX2_load, Cond.instanceMethod yX2_load, Cond.selects RX2 yX2_load yX2_load, Cond.code yX2_load cX2_load 3 (some .int), Cond.methodLink RX2 63 yX2_wallPercents, Cond.instanceMethod yX2_wallPercents, Cond.selects RX2 yX2_wallPercents yX2_wallPercents, Cond.code yX2_wallPercents cX2_wallPercents 1 (some .int), Cond.methodLink RX2 66 yX2_groundPercents, Cond.instanceMethod yX2_groundPercents]
def wsX5_held_r3 : List Cond := [Cond.selects RX2 yX2_groundPercents yX2_groundPercents, Cond.code yX2_groundPercents cX2_groundPercents 1 (some .int), Cond.fieldLink RX2 21 "LadderClimb$Rig" "ground" "I"]
def wsX5_held : List Cond := .code yX5_held cX5_held 4 (some .int) :: ((wsX5_held_r1 ++ (wsX5_held_r2 ++ wsX5_held_r3)) ++ wsX50 ++ wsX30 ++ wsX20 ++ (vx_atS RX5 284 "java/lang/IndexOutOfBoundsException" ["java/lang/RuntimeException", "java/lang/Exception"]).filter goodWord ++ (vx_atS RX5 122 "java/lang/IllegalArgumentException" ["java/lang/RuntimeException", "java/lang/Exception"]).filter goodWord)
def wsX5_count_r1 : List Cond := [Cond.classLink RX5 118 "java/lang/IllegalArgumentException", Cond.initialized "java/lang/IllegalArgumentException", Cond.fieldLink RX5 10 "LadderClimb" "site" "LLadderClimb$Site;", Cond.fieldLink RX5 193 "LadderClimb$Site" "fallen" "I", Cond.fieldLink RX5 196 "LadderClimb$Site" "climbed" "I", Cond.fieldLink RX5 19 "LadderClimb" "history" "LLadderClimb$History;", Cond.fieldLink RX5 137 "LadderClimb$History" "size" "I", Cond.methodLink RX5 186 yX3_standing, Cond.instanceMethod yX3_standing, Cond.selects RX3 yX3_standing yX3_standing, Cond.initialized RX3, Cond.code yX3_standing cX3_standing 3 (some .int), Cond.fieldLink RX3 11 "LadderClimb$Site" "rigs" "[LLadderClimb$Rig;", Cond.methodLink RX3 29 yX2_stands, Cond.instanceMethod yX2_stands, Cond.selects RX2 yX2_stands yX2_stands, Cond.initialized RX2, Cond.code yX2_stands cX2_stands 1 (some .boolean), Cond.methodLink RX2 69 yX2_leastForce, Cond.instanceMethod yX2_leastForce, Cond.selects RX2 yX2_leastForce yX2_leastForce, Cond.code yX2_leastForce cX2_leastForce 1 (some .int), Cond.methodLink RX2 75 Lib.Math.max.name, Cond.static Lib.Math.max.name]
def wsX5_count_r2 : List Cond := [Cond.initialized "java/lang/Math", Cond.code Lib.Math.max.name Lib.Math.max.code 2 (some .int), Cond.methodLink RX2 82 yX2_leastByWall, Cond.instanceMethod yX2_leastByWall, Cond.selects RX2 yX2_leastByWall yX2_leastByWall, Cond.code yX2_leastByWall cX2_leastByWall 3 (some .int), Cond.fieldLink RX2 24 "LadderClimb$Rig" "wall" "I", Cond.fieldLink RX2 15 "LadderClimb$Rig" "height" "I", Cond.fieldLink RX2 9 "LadderClimb$Rig" "base" "I", Cond.methodLink RX2 63 yX2_wallPercents, Cond.instanceMethod yX2_wallPercents, Cond.selects RX2 yX2_wallPercents yX2_wallPercents, Cond.code yX2_wallPercents cX2_wallPercents 1 (some .int), Cond.methodLink RX2 47 yX2_moment, Cond.instanceMethod yX2_moment, Cond.selects RX2 yX2_moment yX2_moment, Cond.code yX2_moment cX2_moment 3 (some .int), Cond.fieldLink RX2 18 "LadderClimb$Rig" "weight" "I", Cond.fieldLink RX2 40 "LadderClimb$Rig" "steps" "[I", Cond.fieldLink RX2 36 "LadderClimb$Rig" "weights" "[I", Cond.methodLink RX2 88 yJ9_floorDiv_7cf53, Cond.static yJ9_floorDiv_7cf53, Cond.initialized RJ9, Cond.code yJ9_floorDiv_7cf53 cJ9_floorDiv_7cf53 3 (some .int)]
def wsX5_count_r3 : List Cond := [Cond.methodLink RX2 85 yX2_leastByGround, Cond.instanceMethod yX2_leastByGround, Cond.selects RX2 yX2_leastByGround yX2_leastByGround, Cond.code yX2_leastByGround cX2_leastByGround 3 (some .int), Cond.fieldLink RX2 27 "LadderClimb$Rig" "rope" "I", Cond.methodLink RX2 66 yX2_groundPercents, Cond.instanceMethod yX2_groundPercents, Cond.selects RX2 yX2_groundPercents yX2_groundPercents, Cond.code yX2_groundPercents cX2_groundPercents 1 (some .int), Cond.fieldLink RX2 21 "LadderClimb$Rig" "ground" "I", Cond.methodLink RX2 55 yX2_load, Cond.instanceMethod yX2_load, Cond.selects RX2 yX2_load yX2_load, Cond.code yX2_load cX2_load 3 (some .int), Cond.methodLink RX2 72 yX2_greatestForce, Cond.instanceMethod yX2_greatestForce, Cond.selects RX2 yX2_greatestForce yX2_greatestForce, Cond.code yX2_greatestForce cX2_greatestForce 3 (some .int), Cond.methodLink RX5 189 yX3_people, Cond.instanceMethod yX3_people, Cond.selects RX3 yX3_people yX3_people, Cond.code yX3_people cX3_people 3 (some .int), Cond.fieldLink RX3 33 "LadderClimb$Rig" "people" "I", Cond.methodLink RX5 191 yX3_falls]
def wsX5_count_r4 : List Cond := [Cond.instanceMethod yX3_falls, Cond.selects RX3 yX3_falls yX3_falls, Cond.code yX3_falls cX3_falls 3 (some .int), Cond.fieldLink RX3 36 "LadderClimb$Rig" "falls" "I"]
def wsX5_count : List Cond := .code yX5_count cX5_count 2 (some .int) :: ((wsX5_count_r1 ++ (wsX5_count_r2 ++ (wsX5_count_r3 ++ wsX5_count_r4))) ++ wsX50 ++ wsX30 ++ wsX00 ++ wsX20 ++ (vx_atS RX5 122 "java/lang/IllegalArgumentException" ["java/lang/RuntimeException", "java/lang/Exception"]).filter goodWord)
def wsX5_highest_r1 : List Cond := [Cond.fieldLink RX5 33 "LadderClimb" "trial" "LLadderClimb$Rig;", Cond.methodLink RX5 37 yX5_rigOf, Cond.instanceMethod yX5_rigOf, Cond.selects RX5 yX5_rigOf yX5_rigOf, Cond.initialized RX5, Cond.code yX5_rigOf cX5_rigOf 2 (some (.object "LadderClimb$Rig")), Cond.classLink RX5 280 "java/lang/IndexOutOfBoundsException", Cond.initialized "java/lang/IndexOutOfBoundsException", Cond.fieldLink RX5 10 "LadderClimb" "site" "LLadderClimb$Site;", Cond.fieldLink RX5 285 "LadderClimb$Site" "rigs" "[LLadderClimb$Rig;", Cond.methodLink RX5 90 yX5_demandPerson, Cond.static yX5_demandPerson, Cond.code yX5_demandPerson cX5_demandPerson 2 none, Cond.methodLink RX5 289 yX2_bears, Cond.instanceMethod yX2_bears, Cond.selects RX2 yX2_bears yX2_bears, Cond.initialized RX2, Cond.code yX2_bears cX2_bears 2 (some .boolean), Cond.fieldLink RX2 33 "LadderClimb$Rig" "people" "I", Cond.methodLink RX5 201 yX2_copyFrom, Cond.instanceMethod yX2_copyFrom, Cond.selects RX2 yX2_copyFrom yX2_copyFrom, Cond.code yX2_copyFrom cX2_copyFrom 3 none, Cond.fieldLink RX2 9 "LadderClimb$Rig" "base" "I"]
def wsX5_highest_r2 : List Cond := [Cond.fieldLink RX2 15 "LadderClimb$Rig" "height" "I", Cond.fieldLink RX2 18 "LadderClimb$Rig" "weight" "I", Cond.fieldLink RX2 21 "LadderClimb$Rig" "ground" "I", Cond.fieldLink RX2 24 "LadderClimb$Rig" "wall" "I", Cond.fieldLink RX2 27 "LadderClimb$Rig" "rope" "I", Cond.fieldLink RX2 30 "LadderClimb$Rig" "falls" "I", Cond.fieldLink RX2 36 "LadderClimb$Rig" "weights" "[I", Cond.fieldLink RX2 40 "LadderClimb$Rig" "steps" "[I", Cond.methodLink RX5 163 yX2_stepOf, Cond.instanceMethod yX2_stepOf, Cond.selects RX2 yX2_stepOf yX2_stepOf, Cond.code yX2_stepOf cX2_stepOf 2 (some .int), Cond.methodLink RX2 43 yX2_bears, Cond.methodLink RX5 205 yX2_setStep, Cond.instanceMethod yX2_setStep, Cond.selects RX2 yX2_setStep yX2_setStep, Cond.code yX2_setStep cX2_setStep 3 none, Cond.methodLink RX5 154 yX2_stands, Cond.instanceMethod yX2_stands, Cond.selects RX2 yX2_stands yX2_stands, Cond.code yX2_stands cX2_stands 1 (some .boolean), Cond.methodLink RX2 69 yX2_leastForce, Cond.instanceMethod yX2_leastForce, Cond.selects RX2 yX2_leastForce yX2_leastForce]
def wsX5_highest_r3 : List Cond := [Cond.code yX2_leastForce cX2_leastForce 1 (some .int), Cond.methodLink RX2 75 Lib.Math.max.name, Cond.static Lib.Math.max.name, Cond.initialized "java/lang/Math", Cond.code Lib.Math.max.name Lib.Math.max.code 2 (some .int), Cond.methodLink RX2 82 yX2_leastByWall, Cond.instanceMethod yX2_leastByWall, Cond.selects RX2 yX2_leastByWall yX2_leastByWall, Cond.code yX2_leastByWall cX2_leastByWall 3 (some .int), Cond.methodLink RX2 63 yX2_wallPercents, Cond.instanceMethod yX2_wallPercents, Cond.selects RX2 yX2_wallPercents yX2_wallPercents, Cond.code yX2_wallPercents cX2_wallPercents 1 (some .int), Cond.methodLink RX2 47 yX2_moment, Cond.instanceMethod yX2_moment, Cond.selects RX2 yX2_moment yX2_moment, Cond.code yX2_moment cX2_moment 3 (some .int), Cond.methodLink RX2 88 yJ9_floorDiv_7cf53, Cond.static yJ9_floorDiv_7cf53, Cond.initialized RJ9, Cond.code yJ9_floorDiv_7cf53 cJ9_floorDiv_7cf53 3 (some .int), Cond.methodLink RX2 85 yX2_leastByGround, Cond.instanceMethod yX2_leastByGround, Cond.selects RX2 yX2_leastByGround yX2_leastByGround]
def wsX5_highest_r4 : List Cond := [Cond.code yX2_leastByGround cX2_leastByGround 3 (some .int), Cond.methodLink RX2 66 yX2_groundPercents, Cond.instanceMethod yX2_groundPercents, Cond.selects RX2 yX2_groundPercents yX2_groundPercents, Cond.code yX2_groundPercents cX2_groundPercents 1 (some .int), Cond.methodLink RX2 55 yX2_load, Cond.instanceMethod yX2_load, Cond.selects RX2 yX2_load yX2_load, Cond.code yX2_load cX2_load 3 (some .int), Cond.methodLink RX2 72 yX2_greatestForce, Cond.instanceMethod yX2_greatestForce, Cond.selects RX2 yX2_greatestForce yX2_greatestForce, Cond.code yX2_greatestForce cX2_greatestForce 3 (some .int)]
def wsX5_highest : List Cond := .code yX5_highest cX5_highest 6 (some .int) :: ((wsX5_highest_r1 ++ (wsX5_highest_r2 ++ (wsX5_highest_r3 ++ wsX5_highest_r4))) ++ wsX50 ++ wsX30 ++ wsX20 ++ (vx_atS RX5 284 "java/lang/IndexOutOfBoundsException" ["java/lang/RuntimeException", "java/lang/Exception"]).filter goodWord)
def wsX5_neededRope_r1 : List Cond := [Cond.fieldLink RX5 33 "LadderClimb" "trial" "LLadderClimb$Rig;", Cond.fieldLink RX5 69 "LadderClimb$Rig" "rope" "I", Cond.methodLink RX5 37 yX5_rigOf, Cond.instanceMethod yX5_rigOf, Cond.selects RX5 yX5_rigOf yX5_rigOf, Cond.initialized RX5, Cond.code yX5_rigOf cX5_rigOf 2 (some (.object "LadderClimb$Rig")), Cond.classLink RX5 280 "java/lang/IndexOutOfBoundsException", Cond.initialized "java/lang/IndexOutOfBoundsException", Cond.fieldLink RX5 10 "LadderClimb" "site" "LLadderClimb$Site;", Cond.fieldLink RX5 285 "LadderClimb$Site" "rigs" "[LLadderClimb$Rig;", Cond.methodLink RX5 201 yX2_copyFrom, Cond.instanceMethod yX2_copyFrom, Cond.selects RX2 yX2_copyFrom yX2_copyFrom, Cond.initialized RX2, Cond.code yX2_copyFrom cX2_copyFrom 3 none, Cond.fieldLink RX2 9 "LadderClimb$Rig" "base" "I", Cond.fieldLink RX2 15 "LadderClimb$Rig" "height" "I", Cond.fieldLink RX2 18 "LadderClimb$Rig" "weight" "I", Cond.fieldLink RX2 21 "LadderClimb$Rig" "ground" "I", Cond.fieldLink RX2 24 "LadderClimb$Rig" "wall" "I", Cond.fieldLink RX2 27 "LadderClimb$Rig" "rope" "I", Cond.fieldLink RX2 30 "LadderClimb$Rig" "falls" "I", Cond.fieldLink RX2 33 "LadderClimb$Rig" "people" "I"]
def wsX5_neededRope_r2 : List Cond := [Cond.fieldLink RX2 36 "LadderClimb$Rig" "weights" "[I", Cond.fieldLink RX2 40 "LadderClimb$Rig" "steps" "[I", Cond.methodLink RX5 154 yX2_stands, Cond.instanceMethod yX2_stands, Cond.selects RX2 yX2_stands yX2_stands, Cond.code yX2_stands cX2_stands 1 (some .boolean), Cond.methodLink RX2 69 yX2_leastForce, Cond.instanceMethod yX2_leastForce, Cond.selects RX2 yX2_leastForce yX2_leastForce, Cond.code yX2_leastForce cX2_leastForce 1 (some .int), Cond.methodLink RX2 75 Lib.Math.max.name, Cond.static Lib.Math.max.name, Cond.initialized "java/lang/Math", Cond.code Lib.Math.max.name Lib.Math.max.code 2 (some .int), Cond.methodLink RX2 82 yX2_leastByWall, Cond.instanceMethod yX2_leastByWall, Cond.selects RX2 yX2_leastByWall yX2_leastByWall, Cond.code yX2_leastByWall cX2_leastByWall 3 (some .int), Cond.methodLink RX2 63 yX2_wallPercents, Cond.instanceMethod yX2_wallPercents, Cond.selects RX2 yX2_wallPercents yX2_wallPercents, Cond.code yX2_wallPercents cX2_wallPercents 1 (some .int), Cond.methodLink RX2 47 yX2_moment, Cond.instanceMethod yX2_moment]
def wsX5_neededRope_r3 : List Cond := [Cond.selects RX2 yX2_moment yX2_moment, Cond.code yX2_moment cX2_moment 3 (some .int), Cond.methodLink RX2 88 yJ9_floorDiv_7cf53, Cond.static yJ9_floorDiv_7cf53, Cond.initialized RJ9, Cond.code yJ9_floorDiv_7cf53 cJ9_floorDiv_7cf53 3 (some .int), Cond.methodLink RX2 85 yX2_leastByGround, Cond.instanceMethod yX2_leastByGround, Cond.selects RX2 yX2_leastByGround yX2_leastByGround, Cond.code yX2_leastByGround cX2_leastByGround 3 (some .int), Cond.methodLink RX2 66 yX2_groundPercents, Cond.instanceMethod yX2_groundPercents, Cond.selects RX2 yX2_groundPercents yX2_groundPercents, Cond.code yX2_groundPercents cX2_groundPercents 1 (some .int), Cond.methodLink RX2 55 yX2_load, Cond.instanceMethod yX2_load, Cond.selects RX2 yX2_load yX2_load, Cond.code yX2_load cX2_load 3 (some .int), Cond.methodLink RX2 72 yX2_greatestForce, Cond.instanceMethod yX2_greatestForce, Cond.selects RX2 yX2_greatestForce yX2_greatestForce, Cond.code yX2_greatestForce cX2_greatestForce 3 (some .int)]
def wsX5_neededRope : List Cond := .code yX5_neededRope cX5_neededRope 3 (some .int) :: ((wsX5_neededRope_r1 ++ (wsX5_neededRope_r2 ++ wsX5_neededRope_r3)) ++ wsX50 ++ wsX20 ++ wsX30 ++ (vx_atS RX5 284 "java/lang/IndexOutOfBoundsException" ["java/lang/RuntimeException", "java/lang/Exception"]).filter goodWord)
def wsX5_bestBase_r1 : List Cond := [Cond.fieldLink RX5 33 "LadderClimb" "trial" "LLadderClimb$Rig;", Cond.fieldLink RX5 49 "LadderClimb$Rig" "base" "I", Cond.methodLink RX5 37 yX5_rigOf, Cond.instanceMethod yX5_rigOf, Cond.selects RX5 yX5_rigOf yX5_rigOf, Cond.initialized RX5, Cond.code yX5_rigOf cX5_rigOf 2 (some (.object "LadderClimb$Rig")), Cond.classLink RX5 280 "java/lang/IndexOutOfBoundsException", Cond.initialized "java/lang/IndexOutOfBoundsException", Cond.fieldLink RX5 10 "LadderClimb" "site" "LLadderClimb$Site;", Cond.fieldLink RX5 285 "LadderClimb$Site" "rigs" "[LLadderClimb$Rig;", Cond.methodLink RX5 201 yX2_copyFrom, Cond.instanceMethod yX2_copyFrom, Cond.selects RX2 yX2_copyFrom yX2_copyFrom, Cond.initialized RX2, Cond.code yX2_copyFrom cX2_copyFrom 3 none, Cond.fieldLink RX2 9 "LadderClimb$Rig" "base" "I", Cond.fieldLink RX2 15 "LadderClimb$Rig" "height" "I", Cond.fieldLink RX2 18 "LadderClimb$Rig" "weight" "I", Cond.fieldLink RX2 21 "LadderClimb$Rig" "ground" "I", Cond.fieldLink RX2 24 "LadderClimb$Rig" "wall" "I", Cond.fieldLink RX2 27 "LadderClimb$Rig" "rope" "I", Cond.fieldLink RX2 30 "LadderClimb$Rig" "falls" "I", Cond.fieldLink RX2 33 "LadderClimb$Rig" "people" "I"]
def wsX5_bestBase_r2 : List Cond := [Cond.fieldLink RX2 36 "LadderClimb$Rig" "weights" "[I", Cond.fieldLink RX2 40 "LadderClimb$Rig" "steps" "[I", Cond.methodLink RX5 168 yX2_forces, Cond.instanceMethod yX2_forces, Cond.selects RX2 yX2_forces yX2_forces, Cond.code yX2_forces cX2_forces 1 (some .int), Cond.methodLink RX2 75 Lib.Math.max.name, Cond.static Lib.Math.max.name, Cond.initialized "java/lang/Math", Cond.code Lib.Math.max.name Lib.Math.max.code 2 (some .int), Cond.methodLink RX2 72 yX2_greatestForce, Cond.instanceMethod yX2_greatestForce, Cond.selects RX2 yX2_greatestForce yX2_greatestForce, Cond.code yX2_greatestForce cX2_greatestForce 3 (some .int), Cond.methodLink RX2 63 yX2_wallPercents, Cond.instanceMethod yX2_wallPercents, Cond.selects RX2 yX2_wallPercents yX2_wallPercents, Cond.code yX2_wallPercents cX2_wallPercents 1 (some .int), Cond.methodLink RX2 47 yX2_moment, Cond.instanceMethod yX2_moment, Cond.selects RX2 yX2_moment yX2_moment, Cond.code yX2_moment cX2_moment 3 (some .int), Cond.methodLink RX2 88 yJ9_floorDiv_7cf53, Cond.static yJ9_floorDiv_7cf53]
def wsX5_bestBase_r3 : List Cond := [Cond.initialized RJ9, Cond.code yJ9_floorDiv_7cf53 cJ9_floorDiv_7cf53 3 (some .int), Cond.methodLink RX2 69 yX2_leastForce, Cond.instanceMethod yX2_leastForce, Cond.selects RX2 yX2_leastForce yX2_leastForce, Cond.code yX2_leastForce cX2_leastForce 1 (some .int), Cond.methodLink RX2 82 yX2_leastByWall, Cond.instanceMethod yX2_leastByWall, Cond.selects RX2 yX2_leastByWall yX2_leastByWall, Cond.code yX2_leastByWall cX2_leastByWall 3 (some .int), Cond.methodLink RX2 85 yX2_leastByGround, Cond.instanceMethod yX2_leastByGround, Cond.selects RX2 yX2_leastByGround yX2_leastByGround, Cond.code yX2_leastByGround cX2_leastByGround 3 (some .int), Cond.methodLink RX2 66 yX2_groundPercents, Cond.instanceMethod yX2_groundPercents, Cond.selects RX2 yX2_groundPercents yX2_groundPercents, Cond.code yX2_groundPercents cX2_groundPercents 1 (some .int), Cond.methodLink RX2 55 yX2_load, Cond.instanceMethod yX2_load, Cond.selects RX2 yX2_load yX2_load, Cond.code yX2_load cX2_load 3 (some .int)]
def wsX5_bestBase : List Cond := .code yX5_bestBase cX5_bestBase 6 (some .int) :: ((wsX5_bestBase_r1 ++ (wsX5_bestBase_r2 ++ wsX5_bestBase_r3)) ++ wsX50 ++ wsX20 ++ wsX30 ++ (vx_atS RX5 284 "java/lang/IndexOutOfBoundsException" ["java/lang/RuntimeException", "java/lang/Exception"]).filter goodWord)
def wsX5_riskiest_r1 : List Cond := [Cond.fieldLink RX5 87 "LadderClimb$Rig" "people" "I", Cond.fieldLink RX5 33 "LadderClimb" "trial" "LLadderClimb$Rig;", Cond.methodLink RX5 37 yX5_rigOf, Cond.instanceMethod yX5_rigOf, Cond.selects RX5 yX5_rigOf yX5_rigOf, Cond.initialized RX5, Cond.code yX5_rigOf cX5_rigOf 2 (some (.object "LadderClimb$Rig")), Cond.classLink RX5 280 "java/lang/IndexOutOfBoundsException", Cond.initialized "java/lang/IndexOutOfBoundsException", Cond.fieldLink RX5 10 "LadderClimb" "site" "LLadderClimb$Site;", Cond.fieldLink RX5 285 "LadderClimb$Site" "rigs" "[LLadderClimb$Rig;", Cond.methodLink RX5 201 yX2_copyFrom, Cond.instanceMethod yX2_copyFrom, Cond.selects RX2 yX2_copyFrom yX2_copyFrom, Cond.initialized RX2, Cond.code yX2_copyFrom cX2_copyFrom 3 none, Cond.fieldLink RX2 9 "LadderClimb$Rig" "base" "I", Cond.fieldLink RX2 15 "LadderClimb$Rig" "height" "I", Cond.fieldLink RX2 18 "LadderClimb$Rig" "weight" "I", Cond.fieldLink RX2 21 "LadderClimb$Rig" "ground" "I", Cond.fieldLink RX2 24 "LadderClimb$Rig" "wall" "I", Cond.fieldLink RX2 27 "LadderClimb$Rig" "rope" "I", Cond.fieldLink RX2 30 "LadderClimb$Rig" "falls" "I", Cond.fieldLink RX2 33 "LadderClimb$Rig" "people" "I"]
def wsX5_riskiest_r2 : List Cond := [Cond.fieldLink RX2 36 "LadderClimb$Rig" "weights" "[I", Cond.fieldLink RX2 40 "LadderClimb$Rig" "steps" "[I", Cond.methodLink RX5 94 yX2_remove, Cond.instanceMethod yX2_remove, Cond.selects RX2 yX2_remove yX2_remove, Cond.code yX2_remove cX2_remove 3 none, Cond.methodLink RX2 43 yX2_bears, Cond.instanceMethod yX2_bears, Cond.selects RX2 yX2_bears yX2_bears, Cond.code yX2_bears cX2_bears 2 (some .boolean), Cond.methodLink RX5 168 yX2_forces, Cond.instanceMethod yX2_forces, Cond.selects RX2 yX2_forces yX2_forces, Cond.code yX2_forces cX2_forces 1 (some .int), Cond.methodLink RX2 75 Lib.Math.max.name, Cond.static Lib.Math.max.name, Cond.initialized "java/lang/Math", Cond.code Lib.Math.max.name Lib.Math.max.code 2 (some .int), Cond.methodLink RX2 72 yX2_greatestForce, Cond.instanceMethod yX2_greatestForce, Cond.selects RX2 yX2_greatestForce yX2_greatestForce, Cond.code yX2_greatestForce cX2_greatestForce 3 (some .int), Cond.methodLink RX2 63 yX2_wallPercents, Cond.instanceMethod yX2_wallPercents]
def wsX5_riskiest_r3 : List Cond := [Cond.selects RX2 yX2_wallPercents yX2_wallPercents, Cond.code yX2_wallPercents cX2_wallPercents 1 (some .int), Cond.methodLink RX2 47 yX2_moment, Cond.instanceMethod yX2_moment, Cond.selects RX2 yX2_moment yX2_moment, Cond.code yX2_moment cX2_moment 3 (some .int), Cond.methodLink RX2 88 yJ9_floorDiv_7cf53, Cond.static yJ9_floorDiv_7cf53, Cond.initialized RJ9, Cond.code yJ9_floorDiv_7cf53 cJ9_floorDiv_7cf53 3 (some .int), Cond.methodLink RX2 69 yX2_leastForce, Cond.instanceMethod yX2_leastForce, Cond.selects RX2 yX2_leastForce yX2_leastForce, Cond.code yX2_leastForce cX2_leastForce 1 (some .int), Cond.methodLink RX2 82 yX2_leastByWall, Cond.instanceMethod yX2_leastByWall, Cond.selects RX2 yX2_leastByWall yX2_leastByWall, Cond.code yX2_leastByWall cX2_leastByWall 3 (some .int), Cond.methodLink RX2 85 yX2_leastByGround, Cond.instanceMethod yX2_leastByGround, Cond.selects RX2 yX2_leastByGround yX2_leastByGround, Cond.code yX2_leastByGround cX2_leastByGround 3 (some .int), Cond.methodLink RX2 66 yX2_groundPercents, Cond.instanceMethod yX2_groundPercents]
def wsX5_riskiest_r4 : List Cond := [Cond.selects RX2 yX2_groundPercents yX2_groundPercents, Cond.code yX2_groundPercents cX2_groundPercents 1 (some .int), Cond.methodLink RX2 55 yX2_load, Cond.instanceMethod yX2_load, Cond.selects RX2 yX2_load yX2_load, Cond.code yX2_load cX2_load 3 (some .int)]
def wsX5_riskiest : List Cond := .code yX5_riskiest cX5_riskiest 7 (some .int) :: ((wsX5_riskiest_r1 ++ (wsX5_riskiest_r2 ++ (wsX5_riskiest_r3 ++ wsX5_riskiest_r4))) ++ wsX20 ++ wsX50 ++ wsX30 ++ (vx_atS RX5 284 "java/lang/IndexOutOfBoundsException" ["java/lang/RuntimeException", "java/lang/Exception"]).filter goodWord)
def wsX5_walls_r1 : List Cond := [Cond.fieldLink RX5 33 "LadderClimb" "trial" "LLadderClimb$Rig;", Cond.fieldLink RX5 66 "LadderClimb$Rig" "wall" "I", Cond.methodLink RX5 37 yX5_rigOf, Cond.instanceMethod yX5_rigOf, Cond.selects RX5 yX5_rigOf yX5_rigOf, Cond.initialized RX5, Cond.code yX5_rigOf cX5_rigOf 2 (some (.object "LadderClimb$Rig")), Cond.classLink RX5 280 "java/lang/IndexOutOfBoundsException", Cond.initialized "java/lang/IndexOutOfBoundsException", Cond.fieldLink RX5 10 "LadderClimb" "site" "LLadderClimb$Site;", Cond.fieldLink RX5 285 "LadderClimb$Site" "rigs" "[LLadderClimb$Rig;", Cond.methodLink RX5 201 yX2_copyFrom, Cond.instanceMethod yX2_copyFrom, Cond.selects RX2 yX2_copyFrom yX2_copyFrom, Cond.initialized RX2, Cond.code yX2_copyFrom cX2_copyFrom 3 none, Cond.fieldLink RX2 9 "LadderClimb$Rig" "base" "I", Cond.fieldLink RX2 15 "LadderClimb$Rig" "height" "I", Cond.fieldLink RX2 18 "LadderClimb$Rig" "weight" "I", Cond.fieldLink RX2 21 "LadderClimb$Rig" "ground" "I", Cond.fieldLink RX2 24 "LadderClimb$Rig" "wall" "I", Cond.fieldLink RX2 27 "LadderClimb$Rig" "rope" "I", Cond.fieldLink RX2 30 "LadderClimb$Rig" "falls" "I", Cond.fieldLink RX2 33 "LadderClimb$Rig" "people" "I"]
def wsX5_walls_r2 : List Cond := [Cond.fieldLink RX2 36 "LadderClimb$Rig" "weights" "[I", Cond.fieldLink RX2 40 "LadderClimb$Rig" "steps" "[I", Cond.methodLink RX5 154 yX2_stands, Cond.instanceMethod yX2_stands, Cond.selects RX2 yX2_stands yX2_stands, Cond.code yX2_stands cX2_stands 1 (some .boolean), Cond.methodLink RX2 69 yX2_leastForce, Cond.instanceMethod yX2_leastForce, Cond.selects RX2 yX2_leastForce yX2_leastForce, Cond.code yX2_leastForce cX2_leastForce 1 (some .int), Cond.methodLink RX2 75 Lib.Math.max.name, Cond.static Lib.Math.max.name, Cond.initialized "java/lang/Math", Cond.code Lib.Math.max.name Lib.Math.max.code 2 (some .int), Cond.methodLink RX2 82 yX2_leastByWall, Cond.instanceMethod yX2_leastByWall, Cond.selects RX2 yX2_leastByWall yX2_leastByWall, Cond.code yX2_leastByWall cX2_leastByWall 3 (some .int), Cond.methodLink RX2 63 yX2_wallPercents, Cond.instanceMethod yX2_wallPercents, Cond.selects RX2 yX2_wallPercents yX2_wallPercents, Cond.code yX2_wallPercents cX2_wallPercents 1 (some .int), Cond.methodLink RX2 47 yX2_moment, Cond.instanceMethod yX2_moment]
def wsX5_walls_r3 : List Cond := [Cond.selects RX2 yX2_moment yX2_moment, Cond.code yX2_moment cX2_moment 3 (some .int), Cond.methodLink RX2 88 yJ9_floorDiv_7cf53, Cond.static yJ9_floorDiv_7cf53, Cond.initialized RJ9, Cond.code yJ9_floorDiv_7cf53 cJ9_floorDiv_7cf53 3 (some .int), Cond.methodLink RX2 85 yX2_leastByGround, Cond.instanceMethod yX2_leastByGround, Cond.selects RX2 yX2_leastByGround yX2_leastByGround, Cond.code yX2_leastByGround cX2_leastByGround 3 (some .int), Cond.methodLink RX2 66 yX2_groundPercents, Cond.instanceMethod yX2_groundPercents, Cond.selects RX2 yX2_groundPercents yX2_groundPercents, Cond.code yX2_groundPercents cX2_groundPercents 1 (some .int), Cond.methodLink RX2 55 yX2_load, Cond.instanceMethod yX2_load, Cond.selects RX2 yX2_load yX2_load, Cond.code yX2_load cX2_load 3 (some .int), Cond.methodLink RX2 72 yX2_greatestForce, Cond.instanceMethod yX2_greatestForce, Cond.selects RX2 yX2_greatestForce yX2_greatestForce, Cond.code yX2_greatestForce cX2_greatestForce 3 (some .int)]
def wsX5_walls : List Cond := .code yX5_walls cX5_walls 4 (some .int) :: ((wsX5_walls_r1 ++ (wsX5_walls_r2 ++ wsX5_walls_r3)) ++ wsX50 ++ wsX20 ++ wsX30 ++ (vx_atS RX5 284 "java/lang/IndexOutOfBoundsException" ["java/lang/RuntimeException", "java/lang/Exception"]).filter goodWord)
def wsX5_safety : List Cond := .code yX5_safety cX5_safety 3 (some .double) :: ([.fieldLink RX5 10 "LadderClimb" "site" "LLadderClimb$Site;", .fieldLink RX5 193 "LadderClimb$Site" "fallen" "I", .methodLink RX5 189 yX3_people, .instanceMethod yX3_people, .selects RX3 yX3_people yX3_people, .initialized RX3, .code yX3_people cX3_people 3 (some .int), .fieldLink RX3 11 "LadderClimb$Site" "rigs" "[LLadderClimb$Rig;", .fieldLink RX3 33 "LadderClimb$Rig" "people" "I"] ++ wsX50 ++ wsX30 ++ wsX20)
def wsX5_mix : List Cond := .code yX5_mix cX5_mix 4 (some .long) :: ([.constantLong RX5 262 (31)])
def wsX5_mixLadder_r1 : List Cond := [Cond.methodLink RX5 237 yX5_ladder, Cond.instanceMethod yX5_ladder, Cond.selects RX5 yX5_ladder yX5_ladder, Cond.initialized RX5, Cond.code yX5_ladder cX5_ladder 4 (some .int), Cond.classLink RX5 118 "java/lang/IllegalArgumentException", Cond.initialized "java/lang/IllegalArgumentException", Cond.fieldLink RX5 49 "LadderClimb$Rig" "base" "I", Cond.fieldLink RX5 53 "LadderClimb$Rig" "height" "I", Cond.fieldLink RX5 56 "LadderClimb$Rig" "weight" "I", Cond.fieldLink RX5 63 "LadderClimb$Rig" "ground" "I", Cond.fieldLink RX5 66 "LadderClimb$Rig" "wall" "I", Cond.fieldLink RX5 69 "LadderClimb$Rig" "rope" "I", Cond.fieldLink RX5 87 "LadderClimb$Rig" "people" "I", Cond.fieldLink RX5 151 "LadderClimb$Rig" "falls" "I", Cond.methodLink RX5 37 yX5_rigOf, Cond.instanceMethod yX5_rigOf, Cond.selects RX5 yX5_rigOf yX5_rigOf, Cond.code yX5_rigOf cX5_rigOf 2 (some (.object "LadderClimb$Rig")), Cond.classLink RX5 280 "java/lang/IndexOutOfBoundsException", Cond.initialized "java/lang/IndexOutOfBoundsException", Cond.fieldLink RX5 10 "LadderClimb" "site" "LLadderClimb$Site;", Cond.fieldLink RX5 285 "LadderClimb$Site" "rigs" "[LLadderClimb$Rig;", Cond.methodLink RX5 145 yX2_load]
def wsX5_mixLadder_r2 : List Cond := [Cond.instanceMethod yX2_load, Cond.selects RX2 yX2_load yX2_load, Cond.initialized RX2, Cond.code yX2_load cX2_load 3 (some .int), Cond.fieldLink RX2 18 "LadderClimb$Rig" "weight" "I", Cond.fieldLink RX2 36 "LadderClimb$Rig" "weights" "[I", Cond.methodLink RX5 148 yX2_moment, Cond.instanceMethod yX2_moment, Cond.selects RX2 yX2_moment yX2_moment, Cond.code yX2_moment cX2_moment 3 (some .int), Cond.fieldLink RX2 40 "LadderClimb$Rig" "steps" "[I", Cond.fieldLink RX2 9 "LadderClimb$Rig" "base" "I", Cond.methodLink RX5 154 yX2_stands, Cond.instanceMethod yX2_stands, Cond.selects RX2 yX2_stands yX2_stands, Cond.code yX2_stands cX2_stands 1 (some .boolean), Cond.methodLink RX2 69 yX2_leastForce, Cond.instanceMethod yX2_leastForce, Cond.selects RX2 yX2_leastForce yX2_leastForce, Cond.code yX2_leastForce cX2_leastForce 1 (some .int), Cond.methodLink RX2 75 Lib.Math.max.name, Cond.static Lib.Math.max.name, Cond.initialized "java/lang/Math", Cond.code Lib.Math.max.name Lib.Math.max.code 2 (some .int)]
def wsX5_mixLadder_r3 : List Cond := [Cond.methodLink RX2 82 yX2_leastByWall, Cond.instanceMethod yX2_leastByWall, Cond.selects RX2 yX2_leastByWall yX2_leastByWall, Cond.code yX2_leastByWall cX2_leastByWall 3 (some .int), Cond.fieldLink RX2 24 "LadderClimb$Rig" "wall" "I", Cond.fieldLink RX2 15 "LadderClimb$Rig" "height" "I", Cond.methodLink RX2 63 yX2_wallPercents, Cond.instanceMethod yX2_wallPercents, Cond.selects RX2 yX2_wallPercents yX2_wallPercents, Cond.code yX2_wallPercents cX2_wallPercents 1 (some .int), Cond.methodLink RX2 47 yX2_moment, Cond.methodLink RX2 88 yJ9_floorDiv_7cf53, Cond.static yJ9_floorDiv_7cf53, Cond.initialized RJ9, Cond.code yJ9_floorDiv_7cf53 cJ9_floorDiv_7cf53 3 (some .int), Cond.methodLink RX2 85 yX2_leastByGround, Cond.instanceMethod yX2_leastByGround, Cond.selects RX2 yX2_leastByGround yX2_leastByGround, Cond.code yX2_leastByGround cX2_leastByGround 3 (some .int), Cond.fieldLink RX2 27 "LadderClimb$Rig" "rope" "I", Cond.methodLink RX2 66 yX2_groundPercents, Cond.instanceMethod yX2_groundPercents, Cond.selects RX2 yX2_groundPercents yX2_groundPercents, Cond.code yX2_groundPercents cX2_groundPercents 1 (some .int)]
def wsX5_mixLadder_r4 : List Cond := [Cond.fieldLink RX2 21 "LadderClimb$Rig" "ground" "I", Cond.methodLink RX2 55 yX2_load, Cond.methodLink RX2 72 yX2_greatestForce, Cond.instanceMethod yX2_greatestForce, Cond.selects RX2 yX2_greatestForce yX2_greatestForce, Cond.code yX2_greatestForce cX2_greatestForce 3 (some .int), Cond.methodLink RX5 214 yX5_mix, Cond.static yX5_mix, Cond.code yX5_mix cX5_mix 4 (some .long), Cond.constantLong RX5 262 (31), Cond.methodLink RX5 240 yX5_force, Cond.instanceMethod yX5_force, Cond.selects RX5 yX5_force yX5_force, Cond.code yX5_force cX5_force 4 (some .int), Cond.methodLink RX5 41 yX5_demandRange, Cond.static yX5_demandRange, Cond.code yX5_demandRange cX5_demandRange 3 none, Cond.methodLink RX5 168 yX2_forces, Cond.instanceMethod yX2_forces, Cond.selects RX2 yX2_forces yX2_forces, Cond.code yX2_forces cX2_forces 1 (some .int), Cond.methodLink RX5 171 yX2_leastForce, Cond.methodLink RX5 174 yX2_greatestForce, Cond.methodLink RX5 177 yX2_nearestForce]
def wsX5_mixLadder_r5 : List Cond := [Cond.instanceMethod yX2_nearestForce, Cond.selects RX2 yX2_nearestForce yX2_nearestForce, Cond.code yX2_nearestForce cX2_nearestForce 1 (some .int), Cond.methodLink RX2 79 Lib.Math.min.name, Cond.static Lib.Math.min.name, Cond.code Lib.Math.min.name Lib.Math.min.code 2 (some .int), Cond.methodLink RX5 180 yX2_push, Cond.instanceMethod yX2_push, Cond.selects RX2 yX2_push yX2_push, Cond.code yX2_push cX2_push 2 (some .int), Cond.methodLink RX5 243 yX5_person, Cond.instanceMethod yX5_person, Cond.selects RX5 yX5_person yX5_person, Cond.code yX5_person cX5_person 5 (some .int), Cond.methodLink RX5 90 yX5_demandPerson, Cond.static yX5_demandPerson, Cond.code yX5_demandPerson cX5_demandPerson 2 none, Cond.methodLink RX5 289 yX2_bears, Cond.instanceMethod yX2_bears, Cond.selects RX2 yX2_bears yX2_bears, Cond.code yX2_bears cX2_bears 2 (some .boolean), Cond.fieldLink RX2 33 "LadderClimb$Rig" "people" "I", Cond.methodLink RX5 159 yX2_weightOf, Cond.instanceMethod yX2_weightOf]
def wsX5_mixLadder_r6 : List Cond := [Cond.selects RX2 yX2_weightOf yX2_weightOf, Cond.code yX2_weightOf cX2_weightOf 2 (some .int), Cond.methodLink RX2 43 yX2_bears, Cond.methodLink RX5 163 yX2_stepOf, Cond.instanceMethod yX2_stepOf, Cond.selects RX2 yX2_stepOf yX2_stepOf, Cond.code yX2_stepOf cX2_stepOf 2 (some .int), Cond.methodLink RX5 247 yX5_highest, Cond.instanceMethod yX5_highest, Cond.selects RX5 yX5_highest yX5_highest, Cond.code yX5_highest cX5_highest 6 (some .int), Cond.fieldLink RX5 33 "LadderClimb" "trial" "LLadderClimb$Rig;", Cond.methodLink RX5 201 yX2_copyFrom, Cond.instanceMethod yX2_copyFrom, Cond.selects RX2 yX2_copyFrom yX2_copyFrom, Cond.code yX2_copyFrom cX2_copyFrom 3 none, Cond.fieldLink RX2 30 "LadderClimb$Rig" "falls" "I", Cond.methodLink RX5 205 yX2_setStep, Cond.instanceMethod yX2_setStep, Cond.selects RX2 yX2_setStep yX2_setStep, Cond.code yX2_setStep cX2_setStep 3 none, Cond.methodLink RX5 250 yX5_neededRope, Cond.instanceMethod yX5_neededRope, Cond.selects RX5 yX5_neededRope yX5_neededRope]
def wsX5_mixLadder_r7 : List Cond := [Cond.code yX5_neededRope cX5_neededRope 3 (some .int), Cond.methodLink RX5 253 yX5_bestBase, Cond.instanceMethod yX5_bestBase, Cond.selects RX5 yX5_bestBase yX5_bestBase, Cond.code yX5_bestBase cX5_bestBase 6 (some .int), Cond.methodLink RX5 256 yX5_riskiest, Cond.instanceMethod yX5_riskiest, Cond.selects RX5 yX5_riskiest yX5_riskiest, Cond.code yX5_riskiest cX5_riskiest 7 (some .int), Cond.methodLink RX5 94 yX2_remove, Cond.instanceMethod yX2_remove, Cond.selects RX2 yX2_remove yX2_remove, Cond.code yX2_remove cX2_remove 3 none, Cond.methodLink RX5 259 yX5_walls, Cond.instanceMethod yX5_walls, Cond.selects RX5 yX5_walls yX5_walls, Cond.code yX5_walls cX5_walls 4 (some .int)]
def wsX5_mixLadder : List Cond := .code yX5_mixLadder cX5_mixLadder 8 (some .long) :: ((wsX5_mixLadder_r1 ++ (wsX5_mixLadder_r2 ++ (wsX5_mixLadder_r3 ++ (wsX5_mixLadder_r4 ++ (wsX5_mixLadder_r5 ++ (wsX5_mixLadder_r6 ++ wsX5_mixLadder_r7)))))) ++ wsX20 ++ wsX50 ++ wsX30 ++ (vx_atS RX5 122 "java/lang/IllegalArgumentException" ["java/lang/RuntimeException", "java/lang/Exception"]).filter goodWord ++ (vx_atS RX5 284 "java/lang/IndexOutOfBoundsException" ["java/lang/RuntimeException", "java/lang/Exception"]).filter goodWord)
def wsX5_bitsOf : List Cond := .code yX5_bitsOf cX5_bitsOf 8 (some .long) :: ([.constantLong RX5 264 (1023), .constantDouble RX5 266 (4611686018427387904), .constantDouble RX5 268 (4841369599423283200)])
def wsX5_digest_r1 : List Cond := [Cond.constantLong RX5 209 (3617), Cond.fieldLink RX5 26 "LadderClimb" "works" "LLadderClimb$Works;", Cond.fieldLink RX5 105 "LadderClimb$Works" "length" "I", Cond.methodLink RX5 211 yX5_count, Cond.instanceMethod yX5_count, Cond.selects RX5 yX5_count yX5_count, Cond.initialized RX5, Cond.code yX5_count cX5_count 2 (some .int), Cond.classLink RX5 118 "java/lang/IllegalArgumentException", Cond.initialized "java/lang/IllegalArgumentException", Cond.fieldLink RX5 10 "LadderClimb" "site" "LLadderClimb$Site;", Cond.fieldLink RX5 193 "LadderClimb$Site" "fallen" "I", Cond.fieldLink RX5 196 "LadderClimb$Site" "climbed" "I", Cond.fieldLink RX5 19 "LadderClimb" "history" "LLadderClimb$History;", Cond.fieldLink RX5 137 "LadderClimb$History" "size" "I", Cond.methodLink RX5 186 yX3_standing, Cond.instanceMethod yX3_standing, Cond.selects RX3 yX3_standing yX3_standing, Cond.initialized RX3, Cond.code yX3_standing cX3_standing 3 (some .int), Cond.fieldLink RX3 11 "LadderClimb$Site" "rigs" "[LLadderClimb$Rig;", Cond.methodLink RX3 29 yX2_stands, Cond.instanceMethod yX2_stands, Cond.selects RX2 yX2_stands yX2_stands]
def wsX5_digest_r2 : List Cond := [Cond.initialized RX2, Cond.code yX2_stands cX2_stands 1 (some .boolean), Cond.methodLink RX2 69 yX2_leastForce, Cond.instanceMethod yX2_leastForce, Cond.selects RX2 yX2_leastForce yX2_leastForce, Cond.code yX2_leastForce cX2_leastForce 1 (some .int), Cond.methodLink RX2 75 Lib.Math.max.name, Cond.static Lib.Math.max.name, Cond.initialized "java/lang/Math", Cond.code Lib.Math.max.name Lib.Math.max.code 2 (some .int), Cond.methodLink RX2 82 yX2_leastByWall, Cond.instanceMethod yX2_leastByWall, Cond.selects RX2 yX2_leastByWall yX2_leastByWall, Cond.code yX2_leastByWall cX2_leastByWall 3 (some .int), Cond.fieldLink RX2 24 "LadderClimb$Rig" "wall" "I", Cond.fieldLink RX2 15 "LadderClimb$Rig" "height" "I", Cond.fieldLink RX2 9 "LadderClimb$Rig" "base" "I", Cond.methodLink RX2 63 yX2_wallPercents, Cond.instanceMethod yX2_wallPercents, Cond.selects RX2 yX2_wallPercents yX2_wallPercents, Cond.code yX2_wallPercents cX2_wallPercents 1 (some .int), Cond.methodLink RX2 47 yX2_moment, Cond.instanceMethod yX2_moment, Cond.selects RX2 yX2_moment yX2_moment]
def wsX5_digest_r3 : List Cond := [Cond.code yX2_moment cX2_moment 3 (some .int), Cond.fieldLink RX2 18 "LadderClimb$Rig" "weight" "I", Cond.fieldLink RX2 40 "LadderClimb$Rig" "steps" "[I", Cond.fieldLink RX2 36 "LadderClimb$Rig" "weights" "[I", Cond.methodLink RX2 88 yJ9_floorDiv_7cf53, Cond.static yJ9_floorDiv_7cf53, Cond.initialized RJ9, Cond.code yJ9_floorDiv_7cf53 cJ9_floorDiv_7cf53 3 (some .int), Cond.methodLink RX2 85 yX2_leastByGround, Cond.instanceMethod yX2_leastByGround, Cond.selects RX2 yX2_leastByGround yX2_leastByGround, Cond.code yX2_leastByGround cX2_leastByGround 3 (some .int), Cond.fieldLink RX2 27 "LadderClimb$Rig" "rope" "I", Cond.methodLink RX2 66 yX2_groundPercents, Cond.instanceMethod yX2_groundPercents, Cond.selects RX2 yX2_groundPercents yX2_groundPercents, Cond.code yX2_groundPercents cX2_groundPercents 1 (some .int), Cond.fieldLink RX2 21 "LadderClimb$Rig" "ground" "I", Cond.methodLink RX2 55 yX2_load, Cond.instanceMethod yX2_load, Cond.selects RX2 yX2_load yX2_load, Cond.code yX2_load cX2_load 3 (some .int), Cond.methodLink RX2 72 yX2_greatestForce, Cond.instanceMethod yX2_greatestForce]
def wsX5_digest_r4 : List Cond := [Cond.selects RX2 yX2_greatestForce yX2_greatestForce, Cond.code yX2_greatestForce cX2_greatestForce 3 (some .int), Cond.methodLink RX5 189 yX3_people, Cond.instanceMethod yX3_people, Cond.selects RX3 yX3_people yX3_people, Cond.code yX3_people cX3_people 3 (some .int), Cond.fieldLink RX3 33 "LadderClimb$Rig" "people" "I", Cond.methodLink RX5 191 yX3_falls, Cond.instanceMethod yX3_falls, Cond.selects RX3 yX3_falls yX3_falls, Cond.code yX3_falls cX3_falls 3 (some .int), Cond.fieldLink RX3 36 "LadderClimb$Rig" "falls" "I", Cond.methodLink RX5 214 yX5_mix, Cond.static yX5_mix, Cond.code yX5_mix cX5_mix 4 (some .long), Cond.constantLong RX5 262 (31), Cond.methodLink RX5 218 yX5_mixLadder, Cond.instanceMethod yX5_mixLadder, Cond.selects RX5 yX5_mixLadder yX5_mixLadder, Cond.code yX5_mixLadder cX5_mixLadder 8 (some .long), Cond.methodLink RX5 237 yX5_ladder, Cond.instanceMethod yX5_ladder, Cond.selects RX5 yX5_ladder yX5_ladder, Cond.code yX5_ladder cX5_ladder 4 (some .int)]
def wsX5_digest_r5 : List Cond := [Cond.fieldLink RX5 49 "LadderClimb$Rig" "base" "I", Cond.fieldLink RX5 53 "LadderClimb$Rig" "height" "I", Cond.fieldLink RX5 56 "LadderClimb$Rig" "weight" "I", Cond.fieldLink RX5 63 "LadderClimb$Rig" "ground" "I", Cond.fieldLink RX5 66 "LadderClimb$Rig" "wall" "I", Cond.fieldLink RX5 69 "LadderClimb$Rig" "rope" "I", Cond.fieldLink RX5 87 "LadderClimb$Rig" "people" "I", Cond.fieldLink RX5 151 "LadderClimb$Rig" "falls" "I", Cond.methodLink RX5 37 yX5_rigOf, Cond.instanceMethod yX5_rigOf, Cond.selects RX5 yX5_rigOf yX5_rigOf, Cond.code yX5_rigOf cX5_rigOf 2 (some (.object "LadderClimb$Rig")), Cond.classLink RX5 280 "java/lang/IndexOutOfBoundsException", Cond.initialized "java/lang/IndexOutOfBoundsException", Cond.fieldLink RX5 285 "LadderClimb$Site" "rigs" "[LLadderClimb$Rig;", Cond.methodLink RX5 145 yX2_load, Cond.methodLink RX5 148 yX2_moment, Cond.methodLink RX5 154 yX2_stands, Cond.methodLink RX5 240 yX5_force, Cond.instanceMethod yX5_force, Cond.selects RX5 yX5_force yX5_force, Cond.code yX5_force cX5_force 4 (some .int), Cond.methodLink RX5 41 yX5_demandRange, Cond.static yX5_demandRange]
def wsX5_digest_r6 : List Cond := [Cond.code yX5_demandRange cX5_demandRange 3 none, Cond.methodLink RX5 168 yX2_forces, Cond.instanceMethod yX2_forces, Cond.selects RX2 yX2_forces yX2_forces, Cond.code yX2_forces cX2_forces 1 (some .int), Cond.methodLink RX5 171 yX2_leastForce, Cond.methodLink RX5 174 yX2_greatestForce, Cond.methodLink RX5 177 yX2_nearestForce, Cond.instanceMethod yX2_nearestForce, Cond.selects RX2 yX2_nearestForce yX2_nearestForce, Cond.code yX2_nearestForce cX2_nearestForce 1 (some .int), Cond.methodLink RX2 79 Lib.Math.min.name, Cond.static Lib.Math.min.name, Cond.code Lib.Math.min.name Lib.Math.min.code 2 (some .int), Cond.methodLink RX5 180 yX2_push, Cond.instanceMethod yX2_push, Cond.selects RX2 yX2_push yX2_push, Cond.code yX2_push cX2_push 2 (some .int), Cond.methodLink RX5 243 yX5_person, Cond.instanceMethod yX5_person, Cond.selects RX5 yX5_person yX5_person, Cond.code yX5_person cX5_person 5 (some .int), Cond.methodLink RX5 90 yX5_demandPerson, Cond.static yX5_demandPerson]
def wsX5_digest_r7 : List Cond := [Cond.code yX5_demandPerson cX5_demandPerson 2 none, Cond.methodLink RX5 289 yX2_bears, Cond.instanceMethod yX2_bears, Cond.selects RX2 yX2_bears yX2_bears, Cond.code yX2_bears cX2_bears 2 (some .boolean), Cond.fieldLink RX2 33 "LadderClimb$Rig" "people" "I", Cond.methodLink RX5 159 yX2_weightOf, Cond.instanceMethod yX2_weightOf, Cond.selects RX2 yX2_weightOf yX2_weightOf, Cond.code yX2_weightOf cX2_weightOf 2 (some .int), Cond.methodLink RX2 43 yX2_bears, Cond.methodLink RX5 163 yX2_stepOf, Cond.instanceMethod yX2_stepOf, Cond.selects RX2 yX2_stepOf yX2_stepOf, Cond.code yX2_stepOf cX2_stepOf 2 (some .int), Cond.methodLink RX5 247 yX5_highest, Cond.instanceMethod yX5_highest, Cond.selects RX5 yX5_highest yX5_highest, Cond.code yX5_highest cX5_highest 6 (some .int), Cond.fieldLink RX5 33 "LadderClimb" "trial" "LLadderClimb$Rig;", Cond.methodLink RX5 201 yX2_copyFrom, Cond.instanceMethod yX2_copyFrom, Cond.selects RX2 yX2_copyFrom yX2_copyFrom, Cond.code yX2_copyFrom cX2_copyFrom 3 none]
def wsX5_digest_r8 : List Cond := [Cond.fieldLink RX2 30 "LadderClimb$Rig" "falls" "I", Cond.methodLink RX5 205 yX2_setStep, Cond.instanceMethod yX2_setStep, Cond.selects RX2 yX2_setStep yX2_setStep, Cond.code yX2_setStep cX2_setStep 3 none, Cond.methodLink RX5 250 yX5_neededRope, Cond.instanceMethod yX5_neededRope, Cond.selects RX5 yX5_neededRope yX5_neededRope, Cond.code yX5_neededRope cX5_neededRope 3 (some .int), Cond.methodLink RX5 253 yX5_bestBase, Cond.instanceMethod yX5_bestBase, Cond.selects RX5 yX5_bestBase yX5_bestBase, Cond.code yX5_bestBase cX5_bestBase 6 (some .int), Cond.methodLink RX5 256 yX5_riskiest, Cond.instanceMethod yX5_riskiest, Cond.selects RX5 yX5_riskiest yX5_riskiest, Cond.code yX5_riskiest cX5_riskiest 7 (some .int), Cond.methodLink RX5 94 yX2_remove, Cond.instanceMethod yX2_remove, Cond.selects RX2 yX2_remove yX2_remove, Cond.code yX2_remove cX2_remove 3 none, Cond.methodLink RX5 259 yX5_walls, Cond.instanceMethod yX5_walls, Cond.selects RX5 yX5_walls yX5_walls]
def wsX5_digest_r9 : List Cond := [Cond.code yX5_walls cX5_walls 4 (some .int), Cond.methodLink RX5 222 yX5_held, Cond.instanceMethod yX5_held, Cond.selects RX5 yX5_held yX5_held, Cond.code yX5_held cX5_held 4 (some .int), Cond.methodLink RX5 183 yX2_whatGivesWay, Cond.instanceMethod yX2_whatGivesWay, Cond.selects RX2 yX2_whatGivesWay yX2_whatGivesWay, Cond.code yX2_whatGivesWay cX2_whatGivesWay 5 (some .int), Cond.methodLink RX2 58 Lib.Math.abs.name, Cond.static Lib.Math.abs.name, Cond.code Lib.Math.abs.name Lib.Math.abs.code 1 (some .int), Cond.methodLink RX2 51 yX2_push, Cond.methodLink RX5 226 yX5_safety, Cond.instanceMethod yX5_safety, Cond.selects RX5 yX5_safety yX5_safety, Cond.code yX5_safety cX5_safety 3 (some .double), Cond.methodLink RX5 230 yX5_bitsOf, Cond.static yX5_bitsOf, Cond.code yX5_bitsOf cX5_bitsOf 8 (some .long), Cond.constantLong RX5 264 (1023), Cond.constantDouble RX5 266 (4611686018427387904), Cond.constantDouble RX5 268 (4841369599423283200), Cond.methodLink RX5 234 yX4_codeAt]
def wsX5_digest_r10 : List Cond := [Cond.instanceMethod yX4_codeAt, Cond.selects RX4 yX4_codeAt yX4_codeAt, Cond.initialized RX4, Cond.code yX4_codeAt cX4_codeAt 2 (some .int), Cond.fieldLink RX4 15 "LadderClimb$Works" "length" "I", Cond.fieldLink RX4 9 "LadderClimb$Works" "codes" "[I"]
def wsX5_digest : List Cond := .code yX5_digest cX5_digest 4 (some .long) :: ((wsX5_digest_r1 ++ (wsX5_digest_r2 ++ (wsX5_digest_r3 ++ (wsX5_digest_r4 ++ (wsX5_digest_r5 ++ (wsX5_digest_r6 ++ (wsX5_digest_r7 ++ (wsX5_digest_r8 ++ (wsX5_digest_r9 ++ wsX5_digest_r10))))))))) ++ wsX50 ++ wsX40 ++ wsX30 ++ wsX00 ++ wsX20 ++ (vx_atS RX5 122 "java/lang/IllegalArgumentException" ["java/lang/RuntimeException", "java/lang/Exception"]).filter goodWord ++ (vx_atS RX5 284 "java/lang/IndexOutOfBoundsException" ["java/lang/RuntimeException", "java/lang/Exception"]).filter goodWord)
def wsX6_of : List Cond := .code yX6_of cX6_of 2 (some .int) :: ([])
def wsX6_init : List Cond := .code yX6_init cX6_init 2 none :: ([.methodLink RX6 1 objectInit, .instanceMethod objectInit, .code objectInit ⟨#[0xb1]⟩ 1 none, .arrayClass .int, .fieldLink RX6 7 "LadderClimbModel" "s" "[I", .fieldLink RX6 13 "LadderClimbModel" "saved" "[I", .fieldLink RX6 16 "LadderClimbModel" "text" "[I", .methodLink RX6 19 yX6_of, .static yX6_of, .initialized RX6, .code yX6_of cX6_of 2 (some .int)] ++ wsX60)
def wsX6_thrown : List Cond := .code yX6_thrown cX6_thrown 1 (some .int) :: ([.fieldLink RX6 23 "LadderClimbModel" "thrown" "I"] ++ wsX60)
def wsX6_in : List Cond := .code yX6_in cX6_in 3 (some .boolean) :: ([])
def wsX6_holds : List Cond := .code yX6_holds cX6_holds 2 (some .boolean) :: ([.fieldLink RX6 23 "LadderClimbModel" "thrown" "I"] ++ wsX60)
def wsX6_isLadder : List Cond := .code yX6_isLadder cX6_isLadder 1 (some .boolean) :: ([.methodLink RX6 27 yX6_in, .static yX6_in, .initialized RX6, .code yX6_in cX6_in 3 (some .boolean)])
def wsX6_isPerson : List Cond := .code yX6_isPerson cX6_isPerson 3 (some .boolean) :: ([.fieldLink RX6 7 "LadderClimbModel" "s" "[I", .methodLink RX6 31 yX6_isLadder, .static yX6_isLadder, .initialized RX6, .code yX6_isLadder cX6_isLadder 1 (some .boolean), .methodLink RX6 27 yX6_in, .static yX6_in, .code yX6_in cX6_in 3 (some .boolean), .methodLink RX6 19 yX6_of, .static yX6_of, .code yX6_of cX6_of 2 (some .int)] ++ wsX60)
def wsX6_ofPerson : List Cond := .code yX6_ofPerson cX6_ofPerson 3 (some .int) :: ([])
def wsX6_save : List Cond := .code yX6_save cX6_save 2 none :: ([.fieldLink RX6 35 "LadderClimbModel" "savedMany" "I", .fieldLink RX6 13 "LadderClimbModel" "saved" "[I", .fieldLink RX6 7 "LadderClimbModel" "s" "[I"] ++ wsX60)
def wsX6_groundOf : List Cond := .code yX6_groundOf cX6_groundOf 1 (some .int) :: ([])
def wsX6_wallOf : List Cond := .code yX6_wallOf cX6_wallOf 1 (some .int) :: ([])
def wsX6_loadOf : List Cond := .code yX6_loadOf cX6_loadOf 4 (some .int) :: ([.fieldLink RX6 7 "LadderClimbModel" "s" "[I", .methodLink RX6 19 yX6_of, .static yX6_of, .initialized RX6, .code yX6_of cX6_of 2 (some .int), .methodLink RX6 38 yX6_ofPerson, .static yX6_ofPerson, .code yX6_ofPerson cX6_ofPerson 3 (some .int)] ++ wsX60)
def wsX6_momentOf : List Cond := .code yX6_momentOf cX6_momentOf 4 (some .int) :: ([.fieldLink RX6 7 "LadderClimbModel" "s" "[I", .methodLink RX6 19 yX6_of, .static yX6_of, .initialized RX6, .code yX6_of cX6_of 2 (some .int), .methodLink RX6 38 yX6_ofPerson, .static yX6_ofPerson, .code yX6_ofPerson cX6_ofPerson 3 (some .int)] ++ wsX60)
def wsX6_pushOf : List Cond := .code yX6_pushOf cX6_pushOf 3 (some .int) :: ([.fieldLink RX6 7 "LadderClimbModel" "s" "[I", .methodLink RX6 42 yX6_momentOf, .instanceMethod yX6_momentOf, .selects RX6 yX6_momentOf yX6_momentOf, .initialized RX6, .code yX6_momentOf cX6_momentOf 4 (some .int), .methodLink RX6 19 yX6_of, .static yX6_of, .code yX6_of cX6_of 2 (some .int), .methodLink RX6 38 yX6_ofPerson, .static yX6_ofPerson, .code yX6_ofPerson cX6_ofPerson 3 (some .int)] ++ wsX60)
def wsX6_lacks : List Cond := .code yX6_lacks cX6_lacks 10 (some .int) :: ([.fieldLink RX6 7 "LadderClimbModel" "s" "[I", .methodLink RX6 19 yX6_of, .static yX6_of, .initialized RX6, .code yX6_of cX6_of 2 (some .int), .methodLink RX6 46 yX6_wallOf, .static yX6_wallOf, .code yX6_wallOf cX6_wallOf 1 (some .int), .methodLink RX6 49 yX6_groundOf, .static yX6_groundOf, .code yX6_groundOf cX6_groundOf 1 (some .int)] ++ wsX60)
def wsX6_forces_r1 : List Cond := [Cond.fieldLink RX6 7 "LadderClimbModel" "s" "[I", Cond.fieldLink RX6 55 "LadderClimbModel" "heldMany" "I", Cond.fieldLink RX6 58 "LadderClimbModel" "least" "I", Cond.fieldLink RX6 61 "LadderClimbModel" "greatest" "I", Cond.fieldLink RX6 64 "LadderClimbModel" "nearest" "I", Cond.methodLink RX6 52 yX6_loadOf, Cond.instanceMethod yX6_loadOf, Cond.selects RX6 yX6_loadOf yX6_loadOf, Cond.initialized RX6, Cond.code yX6_loadOf cX6_loadOf 4 (some .int), Cond.methodLink RX6 19 yX6_of, Cond.static yX6_of, Cond.code yX6_of cX6_of 2 (some .int), Cond.methodLink RX6 38 yX6_ofPerson, Cond.static yX6_ofPerson, Cond.code yX6_ofPerson cX6_ofPerson 3 (some .int), Cond.methodLink RX6 42 yX6_momentOf, Cond.instanceMethod yX6_momentOf, Cond.selects RX6 yX6_momentOf yX6_momentOf, Cond.code yX6_momentOf cX6_momentOf 4 (some .int), Cond.methodLink RX6 67 yX6_lacks, Cond.instanceMethod yX6_lacks, Cond.selects RX6 yX6_lacks yX6_lacks, Cond.code yX6_lacks cX6_lacks 10 (some .int)]
def wsX6_forces_r2 : List Cond := [Cond.methodLink RX6 46 yX6_wallOf, Cond.static yX6_wallOf, Cond.code yX6_wallOf cX6_wallOf 1 (some .int), Cond.methodLink RX6 49 yX6_groundOf, Cond.static yX6_groundOf, Cond.code yX6_groundOf cX6_groundOf 1 (some .int)]
def wsX6_forces : List Cond := .code yX6_forces cX6_forces 7 (some .int) :: ((wsX6_forces_r1 ++ wsX6_forces_r2) ++ wsX60)
def wsX6_stands_r1 : List Cond := [Cond.methodLink RX6 71 yX6_forces, Cond.instanceMethod yX6_forces, Cond.selects RX6 yX6_forces yX6_forces, Cond.initialized RX6, Cond.code yX6_forces cX6_forces 7 (some .int), Cond.fieldLink RX6 7 "LadderClimbModel" "s" "[I", Cond.fieldLink RX6 55 "LadderClimbModel" "heldMany" "I", Cond.fieldLink RX6 58 "LadderClimbModel" "least" "I", Cond.fieldLink RX6 61 "LadderClimbModel" "greatest" "I", Cond.fieldLink RX6 64 "LadderClimbModel" "nearest" "I", Cond.methodLink RX6 52 yX6_loadOf, Cond.instanceMethod yX6_loadOf, Cond.selects RX6 yX6_loadOf yX6_loadOf, Cond.code yX6_loadOf cX6_loadOf 4 (some .int), Cond.methodLink RX6 19 yX6_of, Cond.static yX6_of, Cond.code yX6_of cX6_of 2 (some .int), Cond.methodLink RX6 38 yX6_ofPerson, Cond.static yX6_ofPerson, Cond.code yX6_ofPerson cX6_ofPerson 3 (some .int), Cond.methodLink RX6 42 yX6_momentOf, Cond.instanceMethod yX6_momentOf, Cond.selects RX6 yX6_momentOf yX6_momentOf, Cond.code yX6_momentOf cX6_momentOf 4 (some .int)]
def wsX6_stands_r2 : List Cond := [Cond.methodLink RX6 67 yX6_lacks, Cond.instanceMethod yX6_lacks, Cond.selects RX6 yX6_lacks yX6_lacks, Cond.code yX6_lacks cX6_lacks 10 (some .int), Cond.methodLink RX6 46 yX6_wallOf, Cond.static yX6_wallOf, Cond.code yX6_wallOf cX6_wallOf 1 (some .int), Cond.methodLink RX6 49 yX6_groundOf, Cond.static yX6_groundOf, Cond.code yX6_groundOf cX6_groundOf 1 (some .int)]
def wsX6_stands : List Cond := .code yX6_stands cX6_stands 2 (some .boolean) :: ((wsX6_stands_r1 ++ wsX6_stands_r2) ++ wsX60)
def wsX6_falls_r1 : List Cond := [Cond.fieldLink RX6 7 "LadderClimbModel" "s" "[I", Cond.methodLink RX6 19 yX6_of, Cond.static yX6_of, Cond.initialized RX6, Cond.code yX6_of cX6_of 2 (some .int), Cond.methodLink RX6 74 yX6_stands, Cond.instanceMethod yX6_stands, Cond.selects RX6 yX6_stands yX6_stands, Cond.code yX6_stands cX6_stands 2 (some .boolean), Cond.methodLink RX6 71 yX6_forces, Cond.instanceMethod yX6_forces, Cond.selects RX6 yX6_forces yX6_forces, Cond.code yX6_forces cX6_forces 7 (some .int), Cond.fieldLink RX6 55 "LadderClimbModel" "heldMany" "I", Cond.fieldLink RX6 58 "LadderClimbModel" "least" "I", Cond.fieldLink RX6 61 "LadderClimbModel" "greatest" "I", Cond.fieldLink RX6 64 "LadderClimbModel" "nearest" "I", Cond.methodLink RX6 52 yX6_loadOf, Cond.instanceMethod yX6_loadOf, Cond.selects RX6 yX6_loadOf yX6_loadOf, Cond.code yX6_loadOf cX6_loadOf 4 (some .int), Cond.methodLink RX6 38 yX6_ofPerson, Cond.static yX6_ofPerson, Cond.code yX6_ofPerson cX6_ofPerson 3 (some .int)]
def wsX6_falls_r2 : List Cond := [Cond.methodLink RX6 42 yX6_momentOf, Cond.instanceMethod yX6_momentOf, Cond.selects RX6 yX6_momentOf yX6_momentOf, Cond.code yX6_momentOf cX6_momentOf 4 (some .int), Cond.methodLink RX6 67 yX6_lacks, Cond.instanceMethod yX6_lacks, Cond.selects RX6 yX6_lacks yX6_lacks, Cond.code yX6_lacks cX6_lacks 10 (some .int), Cond.methodLink RX6 46 yX6_wallOf, Cond.static yX6_wallOf, Cond.code yX6_wallOf cX6_wallOf 1 (some .int), Cond.methodLink RX6 49 yX6_groundOf, Cond.static yX6_groundOf, Cond.code yX6_groundOf cX6_groundOf 1 (some .int)]
def wsX6_falls : List Cond := .code yX6_falls cX6_falls 3 (some .boolean) :: ((wsX6_falls_r1 ++ wsX6_falls_r2) ++ wsX60)
def wsX6_put_r1 : List Cond := [Cond.fieldLink RX6 7 "LadderClimbModel" "s" "[I", Cond.methodLink RX6 27 yX6_in, Cond.static yX6_in, Cond.initialized RX6, Cond.code yX6_in cX6_in 3 (some .boolean), Cond.methodLink RX6 31 yX6_isLadder, Cond.static yX6_isLadder, Cond.code yX6_isLadder cX6_isLadder 1 (some .boolean), Cond.methodLink RX6 77 yX6_holds, Cond.instanceMethod yX6_holds, Cond.selects RX6 yX6_holds yX6_holds, Cond.code yX6_holds cX6_holds 2 (some .boolean), Cond.fieldLink RX6 23 "LadderClimbModel" "thrown" "I", Cond.methodLink RX6 80 yX6_save, Cond.instanceMethod yX6_save, Cond.selects RX6 yX6_save yX6_save, Cond.code yX6_save cX6_save 2 none, Cond.fieldLink RX6 35 "LadderClimbModel" "savedMany" "I", Cond.fieldLink RX6 13 "LadderClimbModel" "saved" "[I", Cond.methodLink RX6 19 yX6_of, Cond.static yX6_of, Cond.code yX6_of cX6_of 2 (some .int), Cond.methodLink RX6 83 yX6_falls, Cond.instanceMethod yX6_falls]
def wsX6_put_r2 : List Cond := [Cond.selects RX6 yX6_falls yX6_falls, Cond.code yX6_falls cX6_falls 3 (some .boolean), Cond.methodLink RX6 74 yX6_stands, Cond.instanceMethod yX6_stands, Cond.selects RX6 yX6_stands yX6_stands, Cond.code yX6_stands cX6_stands 2 (some .boolean), Cond.methodLink RX6 71 yX6_forces, Cond.instanceMethod yX6_forces, Cond.selects RX6 yX6_forces yX6_forces, Cond.code yX6_forces cX6_forces 7 (some .int), Cond.fieldLink RX6 55 "LadderClimbModel" "heldMany" "I", Cond.fieldLink RX6 58 "LadderClimbModel" "least" "I", Cond.fieldLink RX6 61 "LadderClimbModel" "greatest" "I", Cond.fieldLink RX6 64 "LadderClimbModel" "nearest" "I", Cond.methodLink RX6 52 yX6_loadOf, Cond.instanceMethod yX6_loadOf, Cond.selects RX6 yX6_loadOf yX6_loadOf, Cond.code yX6_loadOf cX6_loadOf 4 (some .int), Cond.methodLink RX6 38 yX6_ofPerson, Cond.static yX6_ofPerson, Cond.code yX6_ofPerson cX6_ofPerson 3 (some .int), Cond.methodLink RX6 42 yX6_momentOf, Cond.instanceMethod yX6_momentOf, Cond.selects RX6 yX6_momentOf yX6_momentOf]
def wsX6_put_r3 : List Cond := [Cond.code yX6_momentOf cX6_momentOf 4 (some .int), Cond.methodLink RX6 67 yX6_lacks, Cond.instanceMethod yX6_lacks, Cond.selects RX6 yX6_lacks yX6_lacks, Cond.code yX6_lacks cX6_lacks 10 (some .int), Cond.methodLink RX6 46 yX6_wallOf, Cond.static yX6_wallOf, Cond.code yX6_wallOf cX6_wallOf 1 (some .int), Cond.methodLink RX6 49 yX6_groundOf, Cond.static yX6_groundOf, Cond.code yX6_groundOf cX6_groundOf 1 (some .int)]
def wsX6_put : List Cond := .code yX6_put cX6_put 6 (some .int) :: ((wsX6_put_r1 ++ (wsX6_put_r2 ++ wsX6_put_r3)) ++ wsX60)
def wsX6_kinds_r1 : List Cond := [Cond.fieldLink RX6 7 "LadderClimbModel" "s" "[I", Cond.methodLink RX6 31 yX6_isLadder, Cond.static yX6_isLadder, Cond.initialized RX6, Cond.code yX6_isLadder cX6_isLadder 1 (some .boolean), Cond.methodLink RX6 27 yX6_in, Cond.static yX6_in, Cond.code yX6_in cX6_in 3 (some .boolean), Cond.methodLink RX6 77 yX6_holds, Cond.instanceMethod yX6_holds, Cond.selects RX6 yX6_holds yX6_holds, Cond.code yX6_holds cX6_holds 2 (some .boolean), Cond.fieldLink RX6 23 "LadderClimbModel" "thrown" "I", Cond.methodLink RX6 80 yX6_save, Cond.instanceMethod yX6_save, Cond.selects RX6 yX6_save yX6_save, Cond.code yX6_save cX6_save 2 none, Cond.fieldLink RX6 35 "LadderClimbModel" "savedMany" "I", Cond.fieldLink RX6 13 "LadderClimbModel" "saved" "[I", Cond.methodLink RX6 19 yX6_of, Cond.static yX6_of, Cond.code yX6_of cX6_of 2 (some .int), Cond.methodLink RX6 83 yX6_falls, Cond.instanceMethod yX6_falls]
def wsX6_kinds_r2 : List Cond := [Cond.selects RX6 yX6_falls yX6_falls, Cond.code yX6_falls cX6_falls 3 (some .boolean), Cond.methodLink RX6 74 yX6_stands, Cond.instanceMethod yX6_stands, Cond.selects RX6 yX6_stands yX6_stands, Cond.code yX6_stands cX6_stands 2 (some .boolean), Cond.methodLink RX6 71 yX6_forces, Cond.instanceMethod yX6_forces, Cond.selects RX6 yX6_forces yX6_forces, Cond.code yX6_forces cX6_forces 7 (some .int), Cond.fieldLink RX6 55 "LadderClimbModel" "heldMany" "I", Cond.fieldLink RX6 58 "LadderClimbModel" "least" "I", Cond.fieldLink RX6 61 "LadderClimbModel" "greatest" "I", Cond.fieldLink RX6 64 "LadderClimbModel" "nearest" "I", Cond.methodLink RX6 52 yX6_loadOf, Cond.instanceMethod yX6_loadOf, Cond.selects RX6 yX6_loadOf yX6_loadOf, Cond.code yX6_loadOf cX6_loadOf 4 (some .int), Cond.methodLink RX6 38 yX6_ofPerson, Cond.static yX6_ofPerson, Cond.code yX6_ofPerson cX6_ofPerson 3 (some .int), Cond.methodLink RX6 42 yX6_momentOf, Cond.instanceMethod yX6_momentOf, Cond.selects RX6 yX6_momentOf yX6_momentOf]
def wsX6_kinds_r3 : List Cond := [Cond.code yX6_momentOf cX6_momentOf 4 (some .int), Cond.methodLink RX6 67 yX6_lacks, Cond.instanceMethod yX6_lacks, Cond.selects RX6 yX6_lacks yX6_lacks, Cond.code yX6_lacks cX6_lacks 10 (some .int), Cond.methodLink RX6 46 yX6_wallOf, Cond.static yX6_wallOf, Cond.code yX6_wallOf cX6_wallOf 1 (some .int), Cond.methodLink RX6 49 yX6_groundOf, Cond.static yX6_groundOf, Cond.code yX6_groundOf cX6_groundOf 1 (some .int)]
def wsX6_kinds : List Cond := .code yX6_kinds cX6_kinds 4 (some .int) :: ((wsX6_kinds_r1 ++ (wsX6_kinds_r2 ++ wsX6_kinds_r3)) ++ wsX60)
def wsX6_rope_r1 : List Cond := [Cond.fieldLink RX6 7 "LadderClimbModel" "s" "[I", Cond.methodLink RX6 31 yX6_isLadder, Cond.static yX6_isLadder, Cond.initialized RX6, Cond.code yX6_isLadder cX6_isLadder 1 (some .boolean), Cond.methodLink RX6 27 yX6_in, Cond.static yX6_in, Cond.code yX6_in cX6_in 3 (some .boolean), Cond.methodLink RX6 77 yX6_holds, Cond.instanceMethod yX6_holds, Cond.selects RX6 yX6_holds yX6_holds, Cond.code yX6_holds cX6_holds 2 (some .boolean), Cond.fieldLink RX6 23 "LadderClimbModel" "thrown" "I", Cond.methodLink RX6 80 yX6_save, Cond.instanceMethod yX6_save, Cond.selects RX6 yX6_save yX6_save, Cond.code yX6_save cX6_save 2 none, Cond.fieldLink RX6 35 "LadderClimbModel" "savedMany" "I", Cond.fieldLink RX6 13 "LadderClimbModel" "saved" "[I", Cond.methodLink RX6 19 yX6_of, Cond.static yX6_of, Cond.code yX6_of cX6_of 2 (some .int), Cond.methodLink RX6 83 yX6_falls, Cond.instanceMethod yX6_falls]
def wsX6_rope_r2 : List Cond := [Cond.selects RX6 yX6_falls yX6_falls, Cond.code yX6_falls cX6_falls 3 (some .boolean), Cond.methodLink RX6 74 yX6_stands, Cond.instanceMethod yX6_stands, Cond.selects RX6 yX6_stands yX6_stands, Cond.code yX6_stands cX6_stands 2 (some .boolean), Cond.methodLink RX6 71 yX6_forces, Cond.instanceMethod yX6_forces, Cond.selects RX6 yX6_forces yX6_forces, Cond.code yX6_forces cX6_forces 7 (some .int), Cond.fieldLink RX6 55 "LadderClimbModel" "heldMany" "I", Cond.fieldLink RX6 58 "LadderClimbModel" "least" "I", Cond.fieldLink RX6 61 "LadderClimbModel" "greatest" "I", Cond.fieldLink RX6 64 "LadderClimbModel" "nearest" "I", Cond.methodLink RX6 52 yX6_loadOf, Cond.instanceMethod yX6_loadOf, Cond.selects RX6 yX6_loadOf yX6_loadOf, Cond.code yX6_loadOf cX6_loadOf 4 (some .int), Cond.methodLink RX6 38 yX6_ofPerson, Cond.static yX6_ofPerson, Cond.code yX6_ofPerson cX6_ofPerson 3 (some .int), Cond.methodLink RX6 42 yX6_momentOf, Cond.instanceMethod yX6_momentOf, Cond.selects RX6 yX6_momentOf yX6_momentOf]
def wsX6_rope_r3 : List Cond := [Cond.code yX6_momentOf cX6_momentOf 4 (some .int), Cond.methodLink RX6 67 yX6_lacks, Cond.instanceMethod yX6_lacks, Cond.selects RX6 yX6_lacks yX6_lacks, Cond.code yX6_lacks cX6_lacks 10 (some .int), Cond.methodLink RX6 46 yX6_wallOf, Cond.static yX6_wallOf, Cond.code yX6_wallOf cX6_wallOf 1 (some .int), Cond.methodLink RX6 49 yX6_groundOf, Cond.static yX6_groundOf, Cond.code yX6_groundOf cX6_groundOf 1 (some .int)]
def wsX6_rope : List Cond := .code yX6_rope cX6_rope 3 (some .int) :: ((wsX6_rope_r1 ++ (wsX6_rope_r2 ++ wsX6_rope_r3)) ++ wsX60)
def wsX6_comes_r1 : List Cond := [Cond.fieldLink RX6 7 "LadderClimbModel" "s" "[I", Cond.methodLink RX6 19 yX6_of, Cond.static yX6_of, Cond.initialized RX6, Cond.code yX6_of cX6_of 2 (some .int), Cond.methodLink RX6 38 yX6_ofPerson, Cond.static yX6_ofPerson, Cond.code yX6_ofPerson cX6_ofPerson 3 (some .int), Cond.methodLink RX6 83 yX6_falls, Cond.instanceMethod yX6_falls, Cond.selects RX6 yX6_falls yX6_falls, Cond.code yX6_falls cX6_falls 3 (some .boolean), Cond.methodLink RX6 74 yX6_stands, Cond.instanceMethod yX6_stands, Cond.selects RX6 yX6_stands yX6_stands, Cond.code yX6_stands cX6_stands 2 (some .boolean), Cond.methodLink RX6 71 yX6_forces, Cond.instanceMethod yX6_forces, Cond.selects RX6 yX6_forces yX6_forces, Cond.code yX6_forces cX6_forces 7 (some .int), Cond.fieldLink RX6 55 "LadderClimbModel" "heldMany" "I", Cond.fieldLink RX6 58 "LadderClimbModel" "least" "I", Cond.fieldLink RX6 61 "LadderClimbModel" "greatest" "I", Cond.fieldLink RX6 64 "LadderClimbModel" "nearest" "I"]
def wsX6_comes_r2 : List Cond := [Cond.methodLink RX6 52 yX6_loadOf, Cond.instanceMethod yX6_loadOf, Cond.selects RX6 yX6_loadOf yX6_loadOf, Cond.code yX6_loadOf cX6_loadOf 4 (some .int), Cond.methodLink RX6 42 yX6_momentOf, Cond.instanceMethod yX6_momentOf, Cond.selects RX6 yX6_momentOf yX6_momentOf, Cond.code yX6_momentOf cX6_momentOf 4 (some .int), Cond.methodLink RX6 67 yX6_lacks, Cond.instanceMethod yX6_lacks, Cond.selects RX6 yX6_lacks yX6_lacks, Cond.code yX6_lacks cX6_lacks 10 (some .int), Cond.methodLink RX6 46 yX6_wallOf, Cond.static yX6_wallOf, Cond.code yX6_wallOf cX6_wallOf 1 (some .int), Cond.methodLink RX6 49 yX6_groundOf, Cond.static yX6_groundOf, Cond.code yX6_groundOf cX6_groundOf 1 (some .int)]
def wsX6_comes : List Cond := .code yX6_comes cX6_comes 4 (some .int) :: ((wsX6_comes_r1 ++ wsX6_comes_r2) ++ wsX60)
def wsX6_on_r1 : List Cond := [Cond.fieldLink RX6 7 "LadderClimbModel" "s" "[I", Cond.methodLink RX6 31 yX6_isLadder, Cond.static yX6_isLadder, Cond.initialized RX6, Cond.code yX6_isLadder cX6_isLadder 1 (some .boolean), Cond.methodLink RX6 27 yX6_in, Cond.static yX6_in, Cond.code yX6_in cX6_in 3 (some .boolean), Cond.methodLink RX6 19 yX6_of, Cond.static yX6_of, Cond.code yX6_of cX6_of 2 (some .int), Cond.methodLink RX6 77 yX6_holds, Cond.instanceMethod yX6_holds, Cond.selects RX6 yX6_holds yX6_holds, Cond.code yX6_holds cX6_holds 2 (some .boolean), Cond.fieldLink RX6 23 "LadderClimbModel" "thrown" "I", Cond.methodLink RX6 80 yX6_save, Cond.instanceMethod yX6_save, Cond.selects RX6 yX6_save yX6_save, Cond.code yX6_save cX6_save 2 none, Cond.fieldLink RX6 35 "LadderClimbModel" "savedMany" "I", Cond.fieldLink RX6 13 "LadderClimbModel" "saved" "[I", Cond.methodLink RX6 86 yX6_comes, Cond.instanceMethod yX6_comes]
def wsX6_on_r2 : List Cond := [Cond.selects RX6 yX6_comes yX6_comes, Cond.code yX6_comes cX6_comes 4 (some .int), Cond.methodLink RX6 38 yX6_ofPerson, Cond.static yX6_ofPerson, Cond.code yX6_ofPerson cX6_ofPerson 3 (some .int), Cond.methodLink RX6 83 yX6_falls, Cond.instanceMethod yX6_falls, Cond.selects RX6 yX6_falls yX6_falls, Cond.code yX6_falls cX6_falls 3 (some .boolean), Cond.methodLink RX6 74 yX6_stands, Cond.instanceMethod yX6_stands, Cond.selects RX6 yX6_stands yX6_stands, Cond.code yX6_stands cX6_stands 2 (some .boolean), Cond.methodLink RX6 71 yX6_forces, Cond.instanceMethod yX6_forces, Cond.selects RX6 yX6_forces yX6_forces, Cond.code yX6_forces cX6_forces 7 (some .int), Cond.fieldLink RX6 55 "LadderClimbModel" "heldMany" "I", Cond.fieldLink RX6 58 "LadderClimbModel" "least" "I", Cond.fieldLink RX6 61 "LadderClimbModel" "greatest" "I", Cond.fieldLink RX6 64 "LadderClimbModel" "nearest" "I", Cond.methodLink RX6 52 yX6_loadOf, Cond.instanceMethod yX6_loadOf, Cond.selects RX6 yX6_loadOf yX6_loadOf]
def wsX6_on_r3 : List Cond := [Cond.code yX6_loadOf cX6_loadOf 4 (some .int), Cond.methodLink RX6 42 yX6_momentOf, Cond.instanceMethod yX6_momentOf, Cond.selects RX6 yX6_momentOf yX6_momentOf, Cond.code yX6_momentOf cX6_momentOf 4 (some .int), Cond.methodLink RX6 67 yX6_lacks, Cond.instanceMethod yX6_lacks, Cond.selects RX6 yX6_lacks yX6_lacks, Cond.code yX6_lacks cX6_lacks 10 (some .int), Cond.methodLink RX6 46 yX6_wallOf, Cond.static yX6_wallOf, Cond.code yX6_wallOf cX6_wallOf 1 (some .int), Cond.methodLink RX6 49 yX6_groundOf, Cond.static yX6_groundOf, Cond.code yX6_groundOf cX6_groundOf 1 (some .int)]
def wsX6_on : List Cond := .code yX6_on cX6_on 3 (some .int) :: ((wsX6_on_r1 ++ (wsX6_on_r2 ++ wsX6_on_r3)) ++ wsX60)
def wsX6_takesOff : List Cond := .code yX6_takesOff cX6_takesOff 4 none :: ([.fieldLink RX6 7 "LadderClimbModel" "s" "[I", .methodLink RX6 38 yX6_ofPerson, .static yX6_ofPerson, .initialized RX6, .code yX6_ofPerson cX6_ofPerson 3 (some .int), .methodLink RX6 19 yX6_of, .static yX6_of, .code yX6_of cX6_of 2 (some .int)] ++ wsX60)
def wsX6_goes_r1 : List Cond := [Cond.fieldLink RX6 7 "LadderClimbModel" "s" "[I", Cond.methodLink RX6 89 yX6_takesOff, Cond.instanceMethod yX6_takesOff, Cond.selects RX6 yX6_takesOff yX6_takesOff, Cond.initialized RX6, Cond.code yX6_takesOff cX6_takesOff 4 none, Cond.methodLink RX6 38 yX6_ofPerson, Cond.static yX6_ofPerson, Cond.code yX6_ofPerson cX6_ofPerson 3 (some .int), Cond.methodLink RX6 19 yX6_of, Cond.static yX6_of, Cond.code yX6_of cX6_of 2 (some .int), Cond.methodLink RX6 83 yX6_falls, Cond.instanceMethod yX6_falls, Cond.selects RX6 yX6_falls yX6_falls, Cond.code yX6_falls cX6_falls 3 (some .boolean), Cond.methodLink RX6 74 yX6_stands, Cond.instanceMethod yX6_stands, Cond.selects RX6 yX6_stands yX6_stands, Cond.code yX6_stands cX6_stands 2 (some .boolean), Cond.methodLink RX6 71 yX6_forces, Cond.instanceMethod yX6_forces, Cond.selects RX6 yX6_forces yX6_forces, Cond.code yX6_forces cX6_forces 7 (some .int)]
def wsX6_goes_r2 : List Cond := [Cond.fieldLink RX6 55 "LadderClimbModel" "heldMany" "I", Cond.fieldLink RX6 58 "LadderClimbModel" "least" "I", Cond.fieldLink RX6 61 "LadderClimbModel" "greatest" "I", Cond.fieldLink RX6 64 "LadderClimbModel" "nearest" "I", Cond.methodLink RX6 52 yX6_loadOf, Cond.instanceMethod yX6_loadOf, Cond.selects RX6 yX6_loadOf yX6_loadOf, Cond.code yX6_loadOf cX6_loadOf 4 (some .int), Cond.methodLink RX6 42 yX6_momentOf, Cond.instanceMethod yX6_momentOf, Cond.selects RX6 yX6_momentOf yX6_momentOf, Cond.code yX6_momentOf cX6_momentOf 4 (some .int), Cond.methodLink RX6 67 yX6_lacks, Cond.instanceMethod yX6_lacks, Cond.selects RX6 yX6_lacks yX6_lacks, Cond.code yX6_lacks cX6_lacks 10 (some .int), Cond.methodLink RX6 46 yX6_wallOf, Cond.static yX6_wallOf, Cond.code yX6_wallOf cX6_wallOf 1 (some .int), Cond.methodLink RX6 49 yX6_groundOf, Cond.static yX6_groundOf, Cond.code yX6_groundOf cX6_groundOf 1 (some .int)]
def wsX6_goes : List Cond := .code yX6_goes cX6_goes 3 (some .int) :: ((wsX6_goes_r1 ++ wsX6_goes_r2) ++ wsX60)
def wsX6_off_r1 : List Cond := [Cond.methodLink RX6 93 yX6_isPerson, Cond.instanceMethod yX6_isPerson, Cond.selects RX6 yX6_isPerson yX6_isPerson, Cond.initialized RX6, Cond.code yX6_isPerson cX6_isPerson 3 (some .boolean), Cond.fieldLink RX6 7 "LadderClimbModel" "s" "[I", Cond.methodLink RX6 31 yX6_isLadder, Cond.static yX6_isLadder, Cond.code yX6_isLadder cX6_isLadder 1 (some .boolean), Cond.methodLink RX6 27 yX6_in, Cond.static yX6_in, Cond.code yX6_in cX6_in 3 (some .boolean), Cond.methodLink RX6 19 yX6_of, Cond.static yX6_of, Cond.code yX6_of cX6_of 2 (some .int), Cond.methodLink RX6 77 yX6_holds, Cond.instanceMethod yX6_holds, Cond.selects RX6 yX6_holds yX6_holds, Cond.code yX6_holds cX6_holds 2 (some .boolean), Cond.fieldLink RX6 23 "LadderClimbModel" "thrown" "I", Cond.methodLink RX6 80 yX6_save, Cond.instanceMethod yX6_save, Cond.selects RX6 yX6_save yX6_save, Cond.code yX6_save cX6_save 2 none]
def wsX6_off_r2 : List Cond := [Cond.fieldLink RX6 35 "LadderClimbModel" "savedMany" "I", Cond.fieldLink RX6 13 "LadderClimbModel" "saved" "[I", Cond.methodLink RX6 97 yX6_goes, Cond.instanceMethod yX6_goes, Cond.selects RX6 yX6_goes yX6_goes, Cond.code yX6_goes cX6_goes 3 (some .int), Cond.methodLink RX6 89 yX6_takesOff, Cond.instanceMethod yX6_takesOff, Cond.selects RX6 yX6_takesOff yX6_takesOff, Cond.code yX6_takesOff cX6_takesOff 4 none, Cond.methodLink RX6 38 yX6_ofPerson, Cond.static yX6_ofPerson, Cond.code yX6_ofPerson cX6_ofPerson 3 (some .int), Cond.methodLink RX6 83 yX6_falls, Cond.instanceMethod yX6_falls, Cond.selects RX6 yX6_falls yX6_falls, Cond.code yX6_falls cX6_falls 3 (some .boolean), Cond.methodLink RX6 74 yX6_stands, Cond.instanceMethod yX6_stands, Cond.selects RX6 yX6_stands yX6_stands, Cond.code yX6_stands cX6_stands 2 (some .boolean), Cond.methodLink RX6 71 yX6_forces, Cond.instanceMethod yX6_forces, Cond.selects RX6 yX6_forces yX6_forces]
def wsX6_off_r3 : List Cond := [Cond.code yX6_forces cX6_forces 7 (some .int), Cond.fieldLink RX6 55 "LadderClimbModel" "heldMany" "I", Cond.fieldLink RX6 58 "LadderClimbModel" "least" "I", Cond.fieldLink RX6 61 "LadderClimbModel" "greatest" "I", Cond.fieldLink RX6 64 "LadderClimbModel" "nearest" "I", Cond.methodLink RX6 52 yX6_loadOf, Cond.instanceMethod yX6_loadOf, Cond.selects RX6 yX6_loadOf yX6_loadOf, Cond.code yX6_loadOf cX6_loadOf 4 (some .int), Cond.methodLink RX6 42 yX6_momentOf, Cond.instanceMethod yX6_momentOf, Cond.selects RX6 yX6_momentOf yX6_momentOf, Cond.code yX6_momentOf cX6_momentOf 4 (some .int), Cond.methodLink RX6 67 yX6_lacks, Cond.instanceMethod yX6_lacks, Cond.selects RX6 yX6_lacks yX6_lacks, Cond.code yX6_lacks cX6_lacks 10 (some .int), Cond.methodLink RX6 46 yX6_wallOf, Cond.static yX6_wallOf, Cond.code yX6_wallOf cX6_wallOf 1 (some .int), Cond.methodLink RX6 49 yX6_groundOf, Cond.static yX6_groundOf, Cond.code yX6_groundOf cX6_groundOf 1 (some .int)]
def wsX6_off : List Cond := .code yX6_off cX6_off 3 (some .int) :: ((wsX6_off_r1 ++ (wsX6_off_r2 ++ wsX6_off_r3)) ++ wsX60)
def wsX6_climbs_r1 : List Cond := [Cond.fieldLink RX6 7 "LadderClimbModel" "s" "[I", Cond.methodLink RX6 38 yX6_ofPerson, Cond.static yX6_ofPerson, Cond.initialized RX6, Cond.code yX6_ofPerson cX6_ofPerson 3 (some .int), Cond.methodLink RX6 83 yX6_falls, Cond.instanceMethod yX6_falls, Cond.selects RX6 yX6_falls yX6_falls, Cond.code yX6_falls cX6_falls 3 (some .boolean), Cond.methodLink RX6 19 yX6_of, Cond.static yX6_of, Cond.code yX6_of cX6_of 2 (some .int), Cond.methodLink RX6 74 yX6_stands, Cond.instanceMethod yX6_stands, Cond.selects RX6 yX6_stands yX6_stands, Cond.code yX6_stands cX6_stands 2 (some .boolean), Cond.methodLink RX6 71 yX6_forces, Cond.instanceMethod yX6_forces, Cond.selects RX6 yX6_forces yX6_forces, Cond.code yX6_forces cX6_forces 7 (some .int), Cond.fieldLink RX6 55 "LadderClimbModel" "heldMany" "I", Cond.fieldLink RX6 58 "LadderClimbModel" "least" "I", Cond.fieldLink RX6 61 "LadderClimbModel" "greatest" "I", Cond.fieldLink RX6 64 "LadderClimbModel" "nearest" "I"]
def wsX6_climbs_r2 : List Cond := [Cond.methodLink RX6 52 yX6_loadOf, Cond.instanceMethod yX6_loadOf, Cond.selects RX6 yX6_loadOf yX6_loadOf, Cond.code yX6_loadOf cX6_loadOf 4 (some .int), Cond.methodLink RX6 42 yX6_momentOf, Cond.instanceMethod yX6_momentOf, Cond.selects RX6 yX6_momentOf yX6_momentOf, Cond.code yX6_momentOf cX6_momentOf 4 (some .int), Cond.methodLink RX6 67 yX6_lacks, Cond.instanceMethod yX6_lacks, Cond.selects RX6 yX6_lacks yX6_lacks, Cond.code yX6_lacks cX6_lacks 10 (some .int), Cond.methodLink RX6 46 yX6_wallOf, Cond.static yX6_wallOf, Cond.code yX6_wallOf cX6_wallOf 1 (some .int), Cond.methodLink RX6 49 yX6_groundOf, Cond.static yX6_groundOf, Cond.code yX6_groundOf cX6_groundOf 1 (some .int)]
def wsX6_climbs : List Cond := .code yX6_climbs cX6_climbs 6 (some .int) :: ((wsX6_climbs_r1 ++ wsX6_climbs_r2) ++ wsX60)
def wsX6_climb_r1 : List Cond := [Cond.methodLink RX6 93 yX6_isPerson, Cond.instanceMethod yX6_isPerson, Cond.selects RX6 yX6_isPerson yX6_isPerson, Cond.initialized RX6, Cond.code yX6_isPerson cX6_isPerson 3 (some .boolean), Cond.fieldLink RX6 7 "LadderClimbModel" "s" "[I", Cond.methodLink RX6 31 yX6_isLadder, Cond.static yX6_isLadder, Cond.code yX6_isLadder cX6_isLadder 1 (some .boolean), Cond.methodLink RX6 27 yX6_in, Cond.static yX6_in, Cond.code yX6_in cX6_in 3 (some .boolean), Cond.methodLink RX6 19 yX6_of, Cond.static yX6_of, Cond.code yX6_of cX6_of 2 (some .int), Cond.methodLink RX6 77 yX6_holds, Cond.instanceMethod yX6_holds, Cond.selects RX6 yX6_holds yX6_holds, Cond.code yX6_holds cX6_holds 2 (some .boolean), Cond.fieldLink RX6 23 "LadderClimbModel" "thrown" "I", Cond.methodLink RX6 80 yX6_save, Cond.instanceMethod yX6_save, Cond.selects RX6 yX6_save yX6_save, Cond.code yX6_save cX6_save 2 none]
def wsX6_climb_r2 : List Cond := [Cond.fieldLink RX6 35 "LadderClimbModel" "savedMany" "I", Cond.fieldLink RX6 13 "LadderClimbModel" "saved" "[I", Cond.methodLink RX6 100 yX6_climbs, Cond.instanceMethod yX6_climbs, Cond.selects RX6 yX6_climbs yX6_climbs, Cond.code yX6_climbs cX6_climbs 6 (some .int), Cond.methodLink RX6 38 yX6_ofPerson, Cond.static yX6_ofPerson, Cond.code yX6_ofPerson cX6_ofPerson 3 (some .int), Cond.methodLink RX6 83 yX6_falls, Cond.instanceMethod yX6_falls, Cond.selects RX6 yX6_falls yX6_falls, Cond.code yX6_falls cX6_falls 3 (some .boolean), Cond.methodLink RX6 74 yX6_stands, Cond.instanceMethod yX6_stands, Cond.selects RX6 yX6_stands yX6_stands, Cond.code yX6_stands cX6_stands 2 (some .boolean), Cond.methodLink RX6 71 yX6_forces, Cond.instanceMethod yX6_forces, Cond.selects RX6 yX6_forces yX6_forces, Cond.code yX6_forces cX6_forces 7 (some .int), Cond.fieldLink RX6 55 "LadderClimbModel" "heldMany" "I", Cond.fieldLink RX6 58 "LadderClimbModel" "least" "I", Cond.fieldLink RX6 61 "LadderClimbModel" "greatest" "I"]
def wsX6_climb_r3 : List Cond := [Cond.fieldLink RX6 64 "LadderClimbModel" "nearest" "I", Cond.methodLink RX6 52 yX6_loadOf, Cond.instanceMethod yX6_loadOf, Cond.selects RX6 yX6_loadOf yX6_loadOf, Cond.code yX6_loadOf cX6_loadOf 4 (some .int), Cond.methodLink RX6 42 yX6_momentOf, Cond.instanceMethod yX6_momentOf, Cond.selects RX6 yX6_momentOf yX6_momentOf, Cond.code yX6_momentOf cX6_momentOf 4 (some .int), Cond.methodLink RX6 67 yX6_lacks, Cond.instanceMethod yX6_lacks, Cond.selects RX6 yX6_lacks yX6_lacks, Cond.code yX6_lacks cX6_lacks 10 (some .int), Cond.methodLink RX6 46 yX6_wallOf, Cond.static yX6_wallOf, Cond.code yX6_wallOf cX6_wallOf 1 (some .int), Cond.methodLink RX6 49 yX6_groundOf, Cond.static yX6_groundOf, Cond.code yX6_groundOf cX6_groundOf 1 (some .int)]
def wsX6_climb : List Cond := .code yX6_climb cX6_climb 4 (some .int) :: ((wsX6_climb_r1 ++ (wsX6_climb_r2 ++ wsX6_climb_r3)) ++ wsX60)
def wsX6_append : List Cond := .code yX6_append cX6_append 2 (some .int) :: ([.fieldLink RX6 103 "LadderClimbModel" "length" "I", .fieldLink RX6 16 "LadderClimbModel" "text" "[I", .methodLink RX6 27 yX6_in, .static yX6_in, .initialized RX6, .code yX6_in cX6_in 3 (some .boolean), .methodLink RX6 77 yX6_holds, .instanceMethod yX6_holds, .selects RX6 yX6_holds yX6_holds, .code yX6_holds cX6_holds 2 (some .boolean), .fieldLink RX6 23 "LadderClimbModel" "thrown" "I"] ++ wsX60)
def wsX6_clearBuffer : List Cond := .code yX6_clearBuffer cX6_clearBuffer 2 (some .int) :: ([.fieldLink RX6 23 "LadderClimbModel" "thrown" "I", .fieldLink RX6 103 "LadderClimbModel" "length" "I"] ++ wsX60)
def wsX6_sign : List Cond := .code yX6_sign cX6_sign 4 (some .int) :: ([.fieldLink RX6 106 "LadderClimbModel" "place" "I", .fieldLink RX6 103 "LadderClimbModel" "length" "I", .fieldLink RX6 16 "LadderClimbModel" "text" "[I", .fieldLink RX6 109 "LadderClimbModel" "isWrong" "Z", .methodLink RX6 27 yX6_in, .static yX6_in, .initialized RX6, .code yX6_in cX6_in 3 (some .boolean)] ++ wsX60)
def wsX6_begins : List Cond := .code yX6_begins cX6_begins 3 (some .boolean) :: ([.methodLink RX6 27 yX6_in, .static yX6_in, .initialized RX6, .code yX6_in cX6_in 3 (some .boolean)])
def wsX6_goesOn : List Cond := .code yX6_goesOn cX6_goesOn 4 (some .boolean) :: ([.fieldLink RX6 109 "LadderClimbModel" "isWrong" "Z", .fieldLink RX6 106 "LadderClimbModel" "place" "I", .fieldLink RX6 103 "LadderClimbModel" "length" "I", .fieldLink RX6 16 "LadderClimbModel" "text" "[I", .fieldLink RX6 113 "LadderClimbModel" "number" "I", .methodLink RX6 27 yX6_in, .static yX6_in, .initialized RX6, .code yX6_in cX6_in 3 (some .boolean), .methodLink RX6 116 yX6_begins, .static yX6_begins, .code yX6_begins cX6_begins 3 (some .boolean)] ++ wsX60)
def wsX6_readNumber : List Cond := .code yX6_readNumber cX6_readNumber 3 none :: ([.fieldLink RX6 113 "LadderClimbModel" "number" "I", .fieldLink RX6 16 "LadderClimbModel" "text" "[I", .fieldLink RX6 106 "LadderClimbModel" "place" "I", .fieldLink RX6 109 "LadderClimbModel" "isWrong" "Z", .methodLink RX6 119 yX6_sign, .instanceMethod yX6_sign, .selects RX6 yX6_sign yX6_sign, .initialized RX6, .code yX6_sign cX6_sign 4 (some .int), .fieldLink RX6 103 "LadderClimbModel" "length" "I", .methodLink RX6 27 yX6_in, .static yX6_in, .code yX6_in cX6_in 3 (some .boolean), .methodLink RX6 122 yX6_goesOn, .instanceMethod yX6_goesOn, .selects RX6 yX6_goesOn yX6_goesOn, .code yX6_goesOn cX6_goesOn 4 (some .boolean), .methodLink RX6 116 yX6_begins, .static yX6_begins, .code yX6_begins cX6_begins 3 (some .boolean)] ++ wsX60)
def wsX6_readPart_r1 : List Cond := [Cond.fieldLink RX6 125 "LadderClimbModel" "which" "I", Cond.fieldLink RX6 106 "LadderClimbModel" "place" "I", Cond.fieldLink RX6 103 "LadderClimbModel" "length" "I", Cond.fieldLink RX6 16 "LadderClimbModel" "text" "[I", Cond.fieldLink RX6 128 "LadderClimbModel" "work" "I", Cond.fieldLink RX6 109 "LadderClimbModel" "isWrong" "Z", Cond.methodLink RX6 119 yX6_sign, Cond.instanceMethod yX6_sign, Cond.selects RX6 yX6_sign yX6_sign, Cond.initialized RX6, Cond.code yX6_sign cX6_sign 4 (some .int), Cond.methodLink RX6 27 yX6_in, Cond.static yX6_in, Cond.code yX6_in cX6_in 3 (some .boolean), Cond.methodLink RX6 131 yX6_readNumber, Cond.instanceMethod yX6_readNumber, Cond.selects RX6 yX6_readNumber yX6_readNumber, Cond.code yX6_readNumber cX6_readNumber 3 none, Cond.fieldLink RX6 113 "LadderClimbModel" "number" "I", Cond.methodLink RX6 122 yX6_goesOn, Cond.instanceMethod yX6_goesOn, Cond.selects RX6 yX6_goesOn yX6_goesOn, Cond.code yX6_goesOn cX6_goesOn 4 (some .boolean), Cond.methodLink RX6 116 yX6_begins]
def wsX6_readPart_r2 : List Cond := [Cond.static yX6_begins, Cond.code yX6_begins cX6_begins 3 (some .boolean)]
def wsX6_readPart : List Cond := .code yX6_readPart cX6_readPart 1 none :: ((wsX6_readPart_r1 ++ wsX6_readPart_r2) ++ wsX60)
def wsX6_doesPart_r1 : List Cond := [Cond.fieldLink RX6 7 "LadderClimbModel" "s" "[I", Cond.fieldLink RX6 125 "LadderClimbModel" "which" "I", Cond.fieldLink RX6 128 "LadderClimbModel" "work" "I", Cond.fieldLink RX6 113 "LadderClimbModel" "number" "I", Cond.methodLink RX6 19 yX6_of, Cond.static yX6_of, Cond.initialized RX6, Cond.code yX6_of cX6_of 2 (some .int), Cond.methodLink RX6 100 yX6_climbs, Cond.instanceMethod yX6_climbs, Cond.selects RX6 yX6_climbs yX6_climbs, Cond.code yX6_climbs cX6_climbs 6 (some .int), Cond.methodLink RX6 38 yX6_ofPerson, Cond.static yX6_ofPerson, Cond.code yX6_ofPerson cX6_ofPerson 3 (some .int), Cond.methodLink RX6 83 yX6_falls, Cond.instanceMethod yX6_falls, Cond.selects RX6 yX6_falls yX6_falls, Cond.code yX6_falls cX6_falls 3 (some .boolean), Cond.methodLink RX6 74 yX6_stands, Cond.instanceMethod yX6_stands, Cond.selects RX6 yX6_stands yX6_stands, Cond.code yX6_stands cX6_stands 2 (some .boolean), Cond.methodLink RX6 71 yX6_forces]
def wsX6_doesPart_r2 : List Cond := [Cond.instanceMethod yX6_forces, Cond.selects RX6 yX6_forces yX6_forces, Cond.code yX6_forces cX6_forces 7 (some .int), Cond.fieldLink RX6 55 "LadderClimbModel" "heldMany" "I", Cond.fieldLink RX6 58 "LadderClimbModel" "least" "I", Cond.fieldLink RX6 61 "LadderClimbModel" "greatest" "I", Cond.fieldLink RX6 64 "LadderClimbModel" "nearest" "I", Cond.methodLink RX6 52 yX6_loadOf, Cond.instanceMethod yX6_loadOf, Cond.selects RX6 yX6_loadOf yX6_loadOf, Cond.code yX6_loadOf cX6_loadOf 4 (some .int), Cond.methodLink RX6 42 yX6_momentOf, Cond.instanceMethod yX6_momentOf, Cond.selects RX6 yX6_momentOf yX6_momentOf, Cond.code yX6_momentOf cX6_momentOf 4 (some .int), Cond.methodLink RX6 67 yX6_lacks, Cond.instanceMethod yX6_lacks, Cond.selects RX6 yX6_lacks yX6_lacks, Cond.code yX6_lacks cX6_lacks 10 (some .int), Cond.methodLink RX6 46 yX6_wallOf, Cond.static yX6_wallOf, Cond.code yX6_wallOf cX6_wallOf 1 (some .int), Cond.methodLink RX6 49 yX6_groundOf, Cond.static yX6_groundOf]
def wsX6_doesPart_r3 : List Cond := [Cond.code yX6_groundOf cX6_groundOf 1 (some .int), Cond.methodLink RX6 86 yX6_comes, Cond.instanceMethod yX6_comes, Cond.selects RX6 yX6_comes yX6_comes, Cond.code yX6_comes cX6_comes 4 (some .int), Cond.methodLink RX6 97 yX6_goes, Cond.instanceMethod yX6_goes, Cond.selects RX6 yX6_goes yX6_goes, Cond.code yX6_goes cX6_goes 3 (some .int), Cond.methodLink RX6 89 yX6_takesOff, Cond.instanceMethod yX6_takesOff, Cond.selects RX6 yX6_takesOff yX6_takesOff, Cond.code yX6_takesOff cX6_takesOff 4 none]
def wsX6_doesPart : List Cond := .code yX6_doesPart cX6_doesPart 4 (some .boolean) :: ((wsX6_doesPart_r1 ++ (wsX6_doesPart_r2 ++ wsX6_doesPart_r3)) ++ wsX60)
def wsX6_goesThrough_r1 : List Cond := [Cond.fieldLink RX6 106 "LadderClimbModel" "place" "I", Cond.fieldLink RX6 109 "LadderClimbModel" "isWrong" "Z", Cond.fieldLink RX6 103 "LadderClimbModel" "length" "I", Cond.methodLink RX6 134 yX6_readPart, Cond.instanceMethod yX6_readPart, Cond.selects RX6 yX6_readPart yX6_readPart, Cond.initialized RX6, Cond.code yX6_readPart cX6_readPart 1 none, Cond.fieldLink RX6 125 "LadderClimbModel" "which" "I", Cond.fieldLink RX6 16 "LadderClimbModel" "text" "[I", Cond.fieldLink RX6 128 "LadderClimbModel" "work" "I", Cond.methodLink RX6 119 yX6_sign, Cond.instanceMethod yX6_sign, Cond.selects RX6 yX6_sign yX6_sign, Cond.code yX6_sign cX6_sign 4 (some .int), Cond.methodLink RX6 27 yX6_in, Cond.static yX6_in, Cond.code yX6_in cX6_in 3 (some .boolean), Cond.methodLink RX6 131 yX6_readNumber, Cond.instanceMethod yX6_readNumber, Cond.selects RX6 yX6_readNumber yX6_readNumber, Cond.code yX6_readNumber cX6_readNumber 3 none, Cond.fieldLink RX6 113 "LadderClimbModel" "number" "I", Cond.methodLink RX6 122 yX6_goesOn]
def wsX6_goesThrough_r2 : List Cond := [Cond.instanceMethod yX6_goesOn, Cond.selects RX6 yX6_goesOn yX6_goesOn, Cond.code yX6_goesOn cX6_goesOn 4 (some .boolean), Cond.methodLink RX6 116 yX6_begins, Cond.static yX6_begins, Cond.code yX6_begins cX6_begins 3 (some .boolean), Cond.methodLink RX6 137 yX6_doesPart, Cond.instanceMethod yX6_doesPart, Cond.selects RX6 yX6_doesPart yX6_doesPart, Cond.code yX6_doesPart cX6_doesPart 4 (some .boolean), Cond.fieldLink RX6 7 "LadderClimbModel" "s" "[I", Cond.methodLink RX6 19 yX6_of, Cond.static yX6_of, Cond.code yX6_of cX6_of 2 (some .int), Cond.methodLink RX6 100 yX6_climbs, Cond.instanceMethod yX6_climbs, Cond.selects RX6 yX6_climbs yX6_climbs, Cond.code yX6_climbs cX6_climbs 6 (some .int), Cond.methodLink RX6 38 yX6_ofPerson, Cond.static yX6_ofPerson, Cond.code yX6_ofPerson cX6_ofPerson 3 (some .int), Cond.methodLink RX6 83 yX6_falls, Cond.instanceMethod yX6_falls, Cond.selects RX6 yX6_falls yX6_falls]
def wsX6_goesThrough_r3 : List Cond := [Cond.code yX6_falls cX6_falls 3 (some .boolean), Cond.methodLink RX6 74 yX6_stands, Cond.instanceMethod yX6_stands, Cond.selects RX6 yX6_stands yX6_stands, Cond.code yX6_stands cX6_stands 2 (some .boolean), Cond.methodLink RX6 71 yX6_forces, Cond.instanceMethod yX6_forces, Cond.selects RX6 yX6_forces yX6_forces, Cond.code yX6_forces cX6_forces 7 (some .int), Cond.fieldLink RX6 55 "LadderClimbModel" "heldMany" "I", Cond.fieldLink RX6 58 "LadderClimbModel" "least" "I", Cond.fieldLink RX6 61 "LadderClimbModel" "greatest" "I", Cond.fieldLink RX6 64 "LadderClimbModel" "nearest" "I", Cond.methodLink RX6 52 yX6_loadOf, Cond.instanceMethod yX6_loadOf, Cond.selects RX6 yX6_loadOf yX6_loadOf, Cond.code yX6_loadOf cX6_loadOf 4 (some .int), Cond.methodLink RX6 42 yX6_momentOf, Cond.instanceMethod yX6_momentOf, Cond.selects RX6 yX6_momentOf yX6_momentOf, Cond.code yX6_momentOf cX6_momentOf 4 (some .int), Cond.methodLink RX6 67 yX6_lacks, Cond.instanceMethod yX6_lacks, Cond.selects RX6 yX6_lacks yX6_lacks]
def wsX6_goesThrough_r4 : List Cond := [Cond.code yX6_lacks cX6_lacks 10 (some .int), Cond.methodLink RX6 46 yX6_wallOf, Cond.static yX6_wallOf, Cond.code yX6_wallOf cX6_wallOf 1 (some .int), Cond.methodLink RX6 49 yX6_groundOf, Cond.static yX6_groundOf, Cond.code yX6_groundOf cX6_groundOf 1 (some .int), Cond.methodLink RX6 86 yX6_comes, Cond.instanceMethod yX6_comes, Cond.selects RX6 yX6_comes yX6_comes, Cond.code yX6_comes cX6_comes 4 (some .int), Cond.methodLink RX6 97 yX6_goes, Cond.instanceMethod yX6_goes, Cond.selects RX6 yX6_goes yX6_goes, Cond.code yX6_goes cX6_goes 3 (some .int), Cond.methodLink RX6 89 yX6_takesOff, Cond.instanceMethod yX6_takesOff, Cond.selects RX6 yX6_takesOff yX6_takesOff, Cond.code yX6_takesOff cX6_takesOff 4 none]
def wsX6_goesThrough : List Cond := .code yX6_goesThrough cX6_goesThrough 5 (some .int) :: ((wsX6_goesThrough_r1 ++ (wsX6_goesThrough_r2 ++ (wsX6_goesThrough_r3 ++ wsX6_goesThrough_r4))) ++ wsX60)
def wsX6_firstError_r1 : List Cond := [Cond.fieldLink RX6 23 "LadderClimbModel" "thrown" "I", Cond.fieldLink RX6 109 "LadderClimbModel" "isWrong" "Z", Cond.fieldLink RX6 106 "LadderClimbModel" "place" "I", Cond.fieldLink RX6 103 "LadderClimbModel" "length" "I", Cond.methodLink RX6 141 yX6_goesThrough, Cond.instanceMethod yX6_goesThrough, Cond.selects RX6 yX6_goesThrough yX6_goesThrough, Cond.initialized RX6, Cond.code yX6_goesThrough cX6_goesThrough 5 (some .int), Cond.methodLink RX6 134 yX6_readPart, Cond.instanceMethod yX6_readPart, Cond.selects RX6 yX6_readPart yX6_readPart, Cond.code yX6_readPart cX6_readPart 1 none, Cond.fieldLink RX6 125 "LadderClimbModel" "which" "I", Cond.fieldLink RX6 16 "LadderClimbModel" "text" "[I", Cond.fieldLink RX6 128 "LadderClimbModel" "work" "I", Cond.methodLink RX6 119 yX6_sign, Cond.instanceMethod yX6_sign, Cond.selects RX6 yX6_sign yX6_sign, Cond.code yX6_sign cX6_sign 4 (some .int), Cond.methodLink RX6 27 yX6_in, Cond.static yX6_in, Cond.code yX6_in cX6_in 3 (some .boolean), Cond.methodLink RX6 131 yX6_readNumber]
def wsX6_firstError_r2 : List Cond := [Cond.instanceMethod yX6_readNumber, Cond.selects RX6 yX6_readNumber yX6_readNumber, Cond.code yX6_readNumber cX6_readNumber 3 none, Cond.fieldLink RX6 113 "LadderClimbModel" "number" "I", Cond.methodLink RX6 122 yX6_goesOn, Cond.instanceMethod yX6_goesOn, Cond.selects RX6 yX6_goesOn yX6_goesOn, Cond.code yX6_goesOn cX6_goesOn 4 (some .boolean), Cond.methodLink RX6 116 yX6_begins, Cond.static yX6_begins, Cond.code yX6_begins cX6_begins 3 (some .boolean), Cond.methodLink RX6 137 yX6_doesPart, Cond.instanceMethod yX6_doesPart, Cond.selects RX6 yX6_doesPart yX6_doesPart, Cond.code yX6_doesPart cX6_doesPart 4 (some .boolean), Cond.fieldLink RX6 7 "LadderClimbModel" "s" "[I", Cond.methodLink RX6 19 yX6_of, Cond.static yX6_of, Cond.code yX6_of cX6_of 2 (some .int), Cond.methodLink RX6 100 yX6_climbs, Cond.instanceMethod yX6_climbs, Cond.selects RX6 yX6_climbs yX6_climbs, Cond.code yX6_climbs cX6_climbs 6 (some .int), Cond.methodLink RX6 38 yX6_ofPerson]
def wsX6_firstError_r3 : List Cond := [Cond.static yX6_ofPerson, Cond.code yX6_ofPerson cX6_ofPerson 3 (some .int), Cond.methodLink RX6 83 yX6_falls, Cond.instanceMethod yX6_falls, Cond.selects RX6 yX6_falls yX6_falls, Cond.code yX6_falls cX6_falls 3 (some .boolean), Cond.methodLink RX6 74 yX6_stands, Cond.instanceMethod yX6_stands, Cond.selects RX6 yX6_stands yX6_stands, Cond.code yX6_stands cX6_stands 2 (some .boolean), Cond.methodLink RX6 71 yX6_forces, Cond.instanceMethod yX6_forces, Cond.selects RX6 yX6_forces yX6_forces, Cond.code yX6_forces cX6_forces 7 (some .int), Cond.fieldLink RX6 55 "LadderClimbModel" "heldMany" "I", Cond.fieldLink RX6 58 "LadderClimbModel" "least" "I", Cond.fieldLink RX6 61 "LadderClimbModel" "greatest" "I", Cond.fieldLink RX6 64 "LadderClimbModel" "nearest" "I", Cond.methodLink RX6 52 yX6_loadOf, Cond.instanceMethod yX6_loadOf, Cond.selects RX6 yX6_loadOf yX6_loadOf, Cond.code yX6_loadOf cX6_loadOf 4 (some .int), Cond.methodLink RX6 42 yX6_momentOf, Cond.instanceMethod yX6_momentOf]
def wsX6_firstError_r4 : List Cond := [Cond.selects RX6 yX6_momentOf yX6_momentOf, Cond.code yX6_momentOf cX6_momentOf 4 (some .int), Cond.methodLink RX6 67 yX6_lacks, Cond.instanceMethod yX6_lacks, Cond.selects RX6 yX6_lacks yX6_lacks, Cond.code yX6_lacks cX6_lacks 10 (some .int), Cond.methodLink RX6 46 yX6_wallOf, Cond.static yX6_wallOf, Cond.code yX6_wallOf cX6_wallOf 1 (some .int), Cond.methodLink RX6 49 yX6_groundOf, Cond.static yX6_groundOf, Cond.code yX6_groundOf cX6_groundOf 1 (some .int), Cond.methodLink RX6 86 yX6_comes, Cond.instanceMethod yX6_comes, Cond.selects RX6 yX6_comes yX6_comes, Cond.code yX6_comes cX6_comes 4 (some .int), Cond.methodLink RX6 97 yX6_goes, Cond.instanceMethod yX6_goes, Cond.selects RX6 yX6_goes yX6_goes, Cond.code yX6_goes cX6_goes 3 (some .int), Cond.methodLink RX6 89 yX6_takesOff, Cond.instanceMethod yX6_takesOff, Cond.selects RX6 yX6_takesOff yX6_takesOff, Cond.code yX6_takesOff cX6_takesOff 4 none]
def wsX6_firstError : List Cond := .code yX6_firstError cX6_firstError 2 (some .int) :: ((wsX6_firstError_r1 ++ (wsX6_firstError_r2 ++ (wsX6_firstError_r3 ++ wsX6_firstError_r4))) ++ wsX60)
def wsX6_play_r1 : List Cond := [Cond.fieldLink RX6 109 "LadderClimbModel" "isWrong" "Z", Cond.fieldLink RX6 103 "LadderClimbModel" "length" "I", Cond.methodLink RX6 141 yX6_goesThrough, Cond.instanceMethod yX6_goesThrough, Cond.selects RX6 yX6_goesThrough yX6_goesThrough, Cond.initialized RX6, Cond.code yX6_goesThrough cX6_goesThrough 5 (some .int), Cond.fieldLink RX6 106 "LadderClimbModel" "place" "I", Cond.methodLink RX6 134 yX6_readPart, Cond.instanceMethod yX6_readPart, Cond.selects RX6 yX6_readPart yX6_readPart, Cond.code yX6_readPart cX6_readPart 1 none, Cond.fieldLink RX6 125 "LadderClimbModel" "which" "I", Cond.fieldLink RX6 16 "LadderClimbModel" "text" "[I", Cond.fieldLink RX6 128 "LadderClimbModel" "work" "I", Cond.methodLink RX6 119 yX6_sign, Cond.instanceMethod yX6_sign, Cond.selects RX6 yX6_sign yX6_sign, Cond.code yX6_sign cX6_sign 4 (some .int), Cond.methodLink RX6 27 yX6_in, Cond.static yX6_in, Cond.code yX6_in cX6_in 3 (some .boolean), Cond.methodLink RX6 131 yX6_readNumber, Cond.instanceMethod yX6_readNumber]
def wsX6_play_r2 : List Cond := [Cond.selects RX6 yX6_readNumber yX6_readNumber, Cond.code yX6_readNumber cX6_readNumber 3 none, Cond.fieldLink RX6 113 "LadderClimbModel" "number" "I", Cond.methodLink RX6 122 yX6_goesOn, Cond.instanceMethod yX6_goesOn, Cond.selects RX6 yX6_goesOn yX6_goesOn, Cond.code yX6_goesOn cX6_goesOn 4 (some .boolean), Cond.methodLink RX6 116 yX6_begins, Cond.static yX6_begins, Cond.code yX6_begins cX6_begins 3 (some .boolean), Cond.methodLink RX6 137 yX6_doesPart, Cond.instanceMethod yX6_doesPart, Cond.selects RX6 yX6_doesPart yX6_doesPart, Cond.code yX6_doesPart cX6_doesPart 4 (some .boolean), Cond.fieldLink RX6 7 "LadderClimbModel" "s" "[I", Cond.methodLink RX6 19 yX6_of, Cond.static yX6_of, Cond.code yX6_of cX6_of 2 (some .int), Cond.methodLink RX6 100 yX6_climbs, Cond.instanceMethod yX6_climbs, Cond.selects RX6 yX6_climbs yX6_climbs, Cond.code yX6_climbs cX6_climbs 6 (some .int), Cond.methodLink RX6 38 yX6_ofPerson, Cond.static yX6_ofPerson]
def wsX6_play_r3 : List Cond := [Cond.code yX6_ofPerson cX6_ofPerson 3 (some .int), Cond.methodLink RX6 83 yX6_falls, Cond.instanceMethod yX6_falls, Cond.selects RX6 yX6_falls yX6_falls, Cond.code yX6_falls cX6_falls 3 (some .boolean), Cond.methodLink RX6 74 yX6_stands, Cond.instanceMethod yX6_stands, Cond.selects RX6 yX6_stands yX6_stands, Cond.code yX6_stands cX6_stands 2 (some .boolean), Cond.methodLink RX6 71 yX6_forces, Cond.instanceMethod yX6_forces, Cond.selects RX6 yX6_forces yX6_forces, Cond.code yX6_forces cX6_forces 7 (some .int), Cond.fieldLink RX6 55 "LadderClimbModel" "heldMany" "I", Cond.fieldLink RX6 58 "LadderClimbModel" "least" "I", Cond.fieldLink RX6 61 "LadderClimbModel" "greatest" "I", Cond.fieldLink RX6 64 "LadderClimbModel" "nearest" "I", Cond.methodLink RX6 52 yX6_loadOf, Cond.instanceMethod yX6_loadOf, Cond.selects RX6 yX6_loadOf yX6_loadOf, Cond.code yX6_loadOf cX6_loadOf 4 (some .int), Cond.methodLink RX6 42 yX6_momentOf, Cond.instanceMethod yX6_momentOf, Cond.selects RX6 yX6_momentOf yX6_momentOf]
def wsX6_play_r4 : List Cond := [Cond.code yX6_momentOf cX6_momentOf 4 (some .int), Cond.methodLink RX6 67 yX6_lacks, Cond.instanceMethod yX6_lacks, Cond.selects RX6 yX6_lacks yX6_lacks, Cond.code yX6_lacks cX6_lacks 10 (some .int), Cond.methodLink RX6 46 yX6_wallOf, Cond.static yX6_wallOf, Cond.code yX6_wallOf cX6_wallOf 1 (some .int), Cond.methodLink RX6 49 yX6_groundOf, Cond.static yX6_groundOf, Cond.code yX6_groundOf cX6_groundOf 1 (some .int), Cond.methodLink RX6 86 yX6_comes, Cond.instanceMethod yX6_comes, Cond.selects RX6 yX6_comes yX6_comes, Cond.code yX6_comes cX6_comes 4 (some .int), Cond.methodLink RX6 97 yX6_goes, Cond.instanceMethod yX6_goes, Cond.selects RX6 yX6_goes yX6_goes, Cond.code yX6_goes cX6_goes 3 (some .int), Cond.methodLink RX6 89 yX6_takesOff, Cond.instanceMethod yX6_takesOff, Cond.selects RX6 yX6_takesOff yX6_takesOff, Cond.code yX6_takesOff cX6_takesOff 4 none, Cond.methodLink RX6 77 yX6_holds]
def wsX6_play_r5 : List Cond := [Cond.instanceMethod yX6_holds, Cond.selects RX6 yX6_holds yX6_holds, Cond.code yX6_holds cX6_holds 2 (some .boolean), Cond.fieldLink RX6 23 "LadderClimbModel" "thrown" "I", Cond.methodLink RX6 80 yX6_save, Cond.instanceMethod yX6_save, Cond.selects RX6 yX6_save yX6_save, Cond.code yX6_save cX6_save 2 none, Cond.fieldLink RX6 35 "LadderClimbModel" "savedMany" "I", Cond.fieldLink RX6 13 "LadderClimbModel" "saved" "[I"]
def wsX6_play : List Cond := .code yX6_play cX6_play 2 (some .int) :: ((wsX6_play_r1 ++ (wsX6_play_r2 ++ (wsX6_play_r3 ++ (wsX6_play_r4 ++ wsX6_play_r5)))) ++ wsX60)
def wsX6_undo : List Cond := .code yX6_undo cX6_undo 2 (some .int) :: ([.fieldLink RX6 35 "LadderClimbModel" "savedMany" "I", .fieldLink RX6 7 "LadderClimbModel" "s" "[I", .fieldLink RX6 13 "LadderClimbModel" "saved" "[I", .methodLink RX6 77 yX6_holds, .instanceMethod yX6_holds, .selects RX6 yX6_holds yX6_holds, .initialized RX6, .code yX6_holds cX6_holds 2 (some .boolean), .fieldLink RX6 23 "LadderClimbModel" "thrown" "I"] ++ wsX60)
def wsX6_ofLadder_r1 : List Cond := [Cond.fieldLink RX6 7 "LadderClimbModel" "s" "[I", Cond.methodLink RX6 52 yX6_loadOf, Cond.instanceMethod yX6_loadOf, Cond.selects RX6 yX6_loadOf yX6_loadOf, Cond.initialized RX6, Cond.code yX6_loadOf cX6_loadOf 4 (some .int), Cond.methodLink RX6 19 yX6_of, Cond.static yX6_of, Cond.code yX6_of cX6_of 2 (some .int), Cond.methodLink RX6 38 yX6_ofPerson, Cond.static yX6_ofPerson, Cond.code yX6_ofPerson cX6_ofPerson 3 (some .int), Cond.methodLink RX6 42 yX6_momentOf, Cond.instanceMethod yX6_momentOf, Cond.selects RX6 yX6_momentOf yX6_momentOf, Cond.code yX6_momentOf cX6_momentOf 4 (some .int), Cond.methodLink RX6 74 yX6_stands, Cond.instanceMethod yX6_stands, Cond.selects RX6 yX6_stands yX6_stands, Cond.code yX6_stands cX6_stands 2 (some .boolean), Cond.methodLink RX6 71 yX6_forces, Cond.instanceMethod yX6_forces, Cond.selects RX6 yX6_forces yX6_forces, Cond.code yX6_forces cX6_forces 7 (some .int)]
def wsX6_ofLadder_r2 : List Cond := [Cond.fieldLink RX6 55 "LadderClimbModel" "heldMany" "I", Cond.fieldLink RX6 58 "LadderClimbModel" "least" "I", Cond.fieldLink RX6 61 "LadderClimbModel" "greatest" "I", Cond.fieldLink RX6 64 "LadderClimbModel" "nearest" "I", Cond.methodLink RX6 67 yX6_lacks, Cond.instanceMethod yX6_lacks, Cond.selects RX6 yX6_lacks yX6_lacks, Cond.code yX6_lacks cX6_lacks 10 (some .int), Cond.methodLink RX6 46 yX6_wallOf, Cond.static yX6_wallOf, Cond.code yX6_wallOf cX6_wallOf 1 (some .int), Cond.methodLink RX6 49 yX6_groundOf, Cond.static yX6_groundOf, Cond.code yX6_groundOf cX6_groundOf 1 (some .int)]
def wsX6_ofLadder : List Cond := .code yX6_ofLadder cX6_ofLadder 3 (some .int) :: ((wsX6_ofLadder_r1 ++ wsX6_ofLadder_r2) ++ wsX60)
def wsX6_ladder_r1 : List Cond := [Cond.methodLink RX6 31 yX6_isLadder, Cond.static yX6_isLadder, Cond.initialized RX6, Cond.code yX6_isLadder cX6_isLadder 1 (some .boolean), Cond.methodLink RX6 27 yX6_in, Cond.static yX6_in, Cond.code yX6_in cX6_in 3 (some .boolean), Cond.methodLink RX6 77 yX6_holds, Cond.instanceMethod yX6_holds, Cond.selects RX6 yX6_holds yX6_holds, Cond.code yX6_holds cX6_holds 2 (some .boolean), Cond.fieldLink RX6 23 "LadderClimbModel" "thrown" "I", Cond.methodLink RX6 145 yX6_ofLadder, Cond.instanceMethod yX6_ofLadder, Cond.selects RX6 yX6_ofLadder yX6_ofLadder, Cond.code yX6_ofLadder cX6_ofLadder 3 (some .int), Cond.fieldLink RX6 7 "LadderClimbModel" "s" "[I", Cond.methodLink RX6 52 yX6_loadOf, Cond.instanceMethod yX6_loadOf, Cond.selects RX6 yX6_loadOf yX6_loadOf, Cond.code yX6_loadOf cX6_loadOf 4 (some .int), Cond.methodLink RX6 19 yX6_of, Cond.static yX6_of, Cond.code yX6_of cX6_of 2 (some .int)]
def wsX6_ladder_r2 : List Cond := [Cond.methodLink RX6 38 yX6_ofPerson, Cond.static yX6_ofPerson, Cond.code yX6_ofPerson cX6_ofPerson 3 (some .int), Cond.methodLink RX6 42 yX6_momentOf, Cond.instanceMethod yX6_momentOf, Cond.selects RX6 yX6_momentOf yX6_momentOf, Cond.code yX6_momentOf cX6_momentOf 4 (some .int), Cond.methodLink RX6 74 yX6_stands, Cond.instanceMethod yX6_stands, Cond.selects RX6 yX6_stands yX6_stands, Cond.code yX6_stands cX6_stands 2 (some .boolean), Cond.methodLink RX6 71 yX6_forces, Cond.instanceMethod yX6_forces, Cond.selects RX6 yX6_forces yX6_forces, Cond.code yX6_forces cX6_forces 7 (some .int), Cond.fieldLink RX6 55 "LadderClimbModel" "heldMany" "I", Cond.fieldLink RX6 58 "LadderClimbModel" "least" "I", Cond.fieldLink RX6 61 "LadderClimbModel" "greatest" "I", Cond.fieldLink RX6 64 "LadderClimbModel" "nearest" "I", Cond.methodLink RX6 67 yX6_lacks, Cond.instanceMethod yX6_lacks, Cond.selects RX6 yX6_lacks yX6_lacks, Cond.code yX6_lacks cX6_lacks 10 (some .int), Cond.methodLink RX6 46 yX6_wallOf]
def wsX6_ladder_r3 : List Cond := [Cond.static yX6_wallOf, Cond.code yX6_wallOf cX6_wallOf 1 (some .int), Cond.methodLink RX6 49 yX6_groundOf, Cond.static yX6_groundOf, Cond.code yX6_groundOf cX6_groundOf 1 (some .int)]
def wsX6_ladder : List Cond := .code yX6_ladder cX6_ladder 3 (some .int) :: ((wsX6_ladder_r1 ++ (wsX6_ladder_r2 ++ wsX6_ladder_r3)) ++ wsX60)
def wsX6_person : List Cond := .code yX6_person cX6_person 4 (some .int) :: ([.fieldLink RX6 7 "LadderClimbModel" "s" "[I", .methodLink RX6 93 yX6_isPerson, .instanceMethod yX6_isPerson, .selects RX6 yX6_isPerson yX6_isPerson, .initialized RX6, .code yX6_isPerson cX6_isPerson 3 (some .boolean), .methodLink RX6 31 yX6_isLadder, .static yX6_isLadder, .code yX6_isLadder cX6_isLadder 1 (some .boolean), .methodLink RX6 27 yX6_in, .static yX6_in, .code yX6_in cX6_in 3 (some .boolean), .methodLink RX6 19 yX6_of, .static yX6_of, .code yX6_of cX6_of 2 (some .int), .methodLink RX6 77 yX6_holds, .instanceMethod yX6_holds, .selects RX6 yX6_holds yX6_holds, .code yX6_holds cX6_holds 2 (some .boolean), .fieldLink RX6 23 "LadderClimbModel" "thrown" "I", .methodLink RX6 38 yX6_ofPerson, .static yX6_ofPerson, .code yX6_ofPerson cX6_ofPerson 3 (some .int)] ++ wsX60)
def wsX6_ofForce_r1 : List Cond := [Cond.fieldLink RX6 58 "LadderClimbModel" "least" "I", Cond.fieldLink RX6 61 "LadderClimbModel" "greatest" "I", Cond.fieldLink RX6 64 "LadderClimbModel" "nearest" "I", Cond.methodLink RX6 71 yX6_forces, Cond.instanceMethod yX6_forces, Cond.selects RX6 yX6_forces yX6_forces, Cond.initialized RX6, Cond.code yX6_forces cX6_forces 7 (some .int), Cond.fieldLink RX6 7 "LadderClimbModel" "s" "[I", Cond.fieldLink RX6 55 "LadderClimbModel" "heldMany" "I", Cond.methodLink RX6 52 yX6_loadOf, Cond.instanceMethod yX6_loadOf, Cond.selects RX6 yX6_loadOf yX6_loadOf, Cond.code yX6_loadOf cX6_loadOf 4 (some .int), Cond.methodLink RX6 19 yX6_of, Cond.static yX6_of, Cond.code yX6_of cX6_of 2 (some .int), Cond.methodLink RX6 38 yX6_ofPerson, Cond.static yX6_ofPerson, Cond.code yX6_ofPerson cX6_ofPerson 3 (some .int), Cond.methodLink RX6 42 yX6_momentOf, Cond.instanceMethod yX6_momentOf, Cond.selects RX6 yX6_momentOf yX6_momentOf, Cond.code yX6_momentOf cX6_momentOf 4 (some .int)]
def wsX6_ofForce_r2 : List Cond := [Cond.methodLink RX6 67 yX6_lacks, Cond.instanceMethod yX6_lacks, Cond.selects RX6 yX6_lacks yX6_lacks, Cond.code yX6_lacks cX6_lacks 10 (some .int), Cond.methodLink RX6 46 yX6_wallOf, Cond.static yX6_wallOf, Cond.code yX6_wallOf cX6_wallOf 1 (some .int), Cond.methodLink RX6 49 yX6_groundOf, Cond.static yX6_groundOf, Cond.code yX6_groundOf cX6_groundOf 1 (some .int), Cond.methodLink RX6 148 yX6_pushOf, Cond.instanceMethod yX6_pushOf, Cond.selects RX6 yX6_pushOf yX6_pushOf, Cond.code yX6_pushOf cX6_pushOf 3 (some .int)]
def wsX6_ofForce : List Cond := .code yX6_ofForce cX6_ofForce 4 (some .int) :: ((wsX6_ofForce_r1 ++ wsX6_ofForce_r2) ++ wsX60)
def wsX6_force_r1 : List Cond := [Cond.methodLink RX6 31 yX6_isLadder, Cond.static yX6_isLadder, Cond.initialized RX6, Cond.code yX6_isLadder cX6_isLadder 1 (some .boolean), Cond.methodLink RX6 27 yX6_in, Cond.static yX6_in, Cond.code yX6_in cX6_in 3 (some .boolean), Cond.methodLink RX6 77 yX6_holds, Cond.instanceMethod yX6_holds, Cond.selects RX6 yX6_holds yX6_holds, Cond.code yX6_holds cX6_holds 2 (some .boolean), Cond.fieldLink RX6 23 "LadderClimbModel" "thrown" "I", Cond.methodLink RX6 151 yX6_ofForce, Cond.instanceMethod yX6_ofForce, Cond.selects RX6 yX6_ofForce yX6_ofForce, Cond.code yX6_ofForce cX6_ofForce 4 (some .int), Cond.fieldLink RX6 58 "LadderClimbModel" "least" "I", Cond.fieldLink RX6 61 "LadderClimbModel" "greatest" "I", Cond.fieldLink RX6 64 "LadderClimbModel" "nearest" "I", Cond.methodLink RX6 71 yX6_forces, Cond.instanceMethod yX6_forces, Cond.selects RX6 yX6_forces yX6_forces, Cond.code yX6_forces cX6_forces 7 (some .int), Cond.fieldLink RX6 7 "LadderClimbModel" "s" "[I"]
def wsX6_force_r2 : List Cond := [Cond.fieldLink RX6 55 "LadderClimbModel" "heldMany" "I", Cond.methodLink RX6 52 yX6_loadOf, Cond.instanceMethod yX6_loadOf, Cond.selects RX6 yX6_loadOf yX6_loadOf, Cond.code yX6_loadOf cX6_loadOf 4 (some .int), Cond.methodLink RX6 19 yX6_of, Cond.static yX6_of, Cond.code yX6_of cX6_of 2 (some .int), Cond.methodLink RX6 38 yX6_ofPerson, Cond.static yX6_ofPerson, Cond.code yX6_ofPerson cX6_ofPerson 3 (some .int), Cond.methodLink RX6 42 yX6_momentOf, Cond.instanceMethod yX6_momentOf, Cond.selects RX6 yX6_momentOf yX6_momentOf, Cond.code yX6_momentOf cX6_momentOf 4 (some .int), Cond.methodLink RX6 67 yX6_lacks, Cond.instanceMethod yX6_lacks, Cond.selects RX6 yX6_lacks yX6_lacks, Cond.code yX6_lacks cX6_lacks 10 (some .int), Cond.methodLink RX6 46 yX6_wallOf, Cond.static yX6_wallOf, Cond.code yX6_wallOf cX6_wallOf 1 (some .int), Cond.methodLink RX6 49 yX6_groundOf, Cond.static yX6_groundOf]
def wsX6_force_r3 : List Cond := [Cond.code yX6_groundOf cX6_groundOf 1 (some .int), Cond.methodLink RX6 148 yX6_pushOf, Cond.instanceMethod yX6_pushOf, Cond.selects RX6 yX6_pushOf yX6_pushOf, Cond.code yX6_pushOf cX6_pushOf 3 (some .int)]
def wsX6_force : List Cond := .code yX6_force cX6_force 3 (some .int) :: ((wsX6_force_r1 ++ (wsX6_force_r2 ++ wsX6_force_r3)) ++ wsX60)
def wsX6_lacking_r1 : List Cond := [Cond.methodLink RX6 52 yX6_loadOf, Cond.instanceMethod yX6_loadOf, Cond.selects RX6 yX6_loadOf yX6_loadOf, Cond.initialized RX6, Cond.code yX6_loadOf cX6_loadOf 4 (some .int), Cond.fieldLink RX6 7 "LadderClimbModel" "s" "[I", Cond.methodLink RX6 19 yX6_of, Cond.static yX6_of, Cond.code yX6_of cX6_of 2 (some .int), Cond.methodLink RX6 38 yX6_ofPerson, Cond.static yX6_ofPerson, Cond.code yX6_ofPerson cX6_ofPerson 3 (some .int), Cond.methodLink RX6 148 yX6_pushOf, Cond.instanceMethod yX6_pushOf, Cond.selects RX6 yX6_pushOf yX6_pushOf, Cond.code yX6_pushOf cX6_pushOf 3 (some .int), Cond.methodLink RX6 42 yX6_momentOf, Cond.instanceMethod yX6_momentOf, Cond.selects RX6 yX6_momentOf yX6_momentOf, Cond.code yX6_momentOf cX6_momentOf 4 (some .int), Cond.methodLink RX6 67 yX6_lacks, Cond.instanceMethod yX6_lacks, Cond.selects RX6 yX6_lacks yX6_lacks, Cond.code yX6_lacks cX6_lacks 10 (some .int)]
def wsX6_lacking_r2 : List Cond := [Cond.methodLink RX6 46 yX6_wallOf, Cond.static yX6_wallOf, Cond.code yX6_wallOf cX6_wallOf 1 (some .int), Cond.methodLink RX6 49 yX6_groundOf, Cond.static yX6_groundOf, Cond.code yX6_groundOf cX6_groundOf 1 (some .int)]
def wsX6_lacking : List Cond := .code yX6_lacking cX6_lacking 3 (some .int) :: ((wsX6_lacking_r1 ++ wsX6_lacking_r2) ++ wsX60)
def wsX6_held_r1 : List Cond := [Cond.methodLink RX6 31 yX6_isLadder, Cond.static yX6_isLadder, Cond.initialized RX6, Cond.code yX6_isLadder cX6_isLadder 1 (some .boolean), Cond.methodLink RX6 27 yX6_in, Cond.static yX6_in, Cond.code yX6_in cX6_in 3 (some .boolean), Cond.methodLink RX6 77 yX6_holds, Cond.instanceMethod yX6_holds, Cond.selects RX6 yX6_holds yX6_holds, Cond.code yX6_holds cX6_holds 2 (some .boolean), Cond.fieldLink RX6 23 "LadderClimbModel" "thrown" "I", Cond.methodLink RX6 154 yX6_lacking, Cond.instanceMethod yX6_lacking, Cond.selects RX6 yX6_lacking yX6_lacking, Cond.code yX6_lacking cX6_lacking 3 (some .int), Cond.methodLink RX6 52 yX6_loadOf, Cond.instanceMethod yX6_loadOf, Cond.selects RX6 yX6_loadOf yX6_loadOf, Cond.code yX6_loadOf cX6_loadOf 4 (some .int), Cond.fieldLink RX6 7 "LadderClimbModel" "s" "[I", Cond.methodLink RX6 19 yX6_of, Cond.static yX6_of, Cond.code yX6_of cX6_of 2 (some .int)]
def wsX6_held_r2 : List Cond := [Cond.methodLink RX6 38 yX6_ofPerson, Cond.static yX6_ofPerson, Cond.code yX6_ofPerson cX6_ofPerson 3 (some .int), Cond.methodLink RX6 148 yX6_pushOf, Cond.instanceMethod yX6_pushOf, Cond.selects RX6 yX6_pushOf yX6_pushOf, Cond.code yX6_pushOf cX6_pushOf 3 (some .int), Cond.methodLink RX6 42 yX6_momentOf, Cond.instanceMethod yX6_momentOf, Cond.selects RX6 yX6_momentOf yX6_momentOf, Cond.code yX6_momentOf cX6_momentOf 4 (some .int), Cond.methodLink RX6 67 yX6_lacks, Cond.instanceMethod yX6_lacks, Cond.selects RX6 yX6_lacks yX6_lacks, Cond.code yX6_lacks cX6_lacks 10 (some .int), Cond.methodLink RX6 46 yX6_wallOf, Cond.static yX6_wallOf, Cond.code yX6_wallOf cX6_wallOf 1 (some .int), Cond.methodLink RX6 49 yX6_groundOf, Cond.static yX6_groundOf, Cond.code yX6_groundOf cX6_groundOf 1 (some .int)]
def wsX6_held : List Cond := .code yX6_held cX6_held 3 (some .int) :: ((wsX6_held_r1 ++ wsX6_held_r2) ++ wsX60)
def wsX6_sumOf_r1 : List Cond := [Cond.methodLink RX6 145 yX6_ofLadder, Cond.instanceMethod yX6_ofLadder, Cond.selects RX6 yX6_ofLadder yX6_ofLadder, Cond.initialized RX6, Cond.code yX6_ofLadder cX6_ofLadder 3 (some .int), Cond.fieldLink RX6 7 "LadderClimbModel" "s" "[I", Cond.methodLink RX6 52 yX6_loadOf, Cond.instanceMethod yX6_loadOf, Cond.selects RX6 yX6_loadOf yX6_loadOf, Cond.code yX6_loadOf cX6_loadOf 4 (some .int), Cond.methodLink RX6 19 yX6_of, Cond.static yX6_of, Cond.code yX6_of cX6_of 2 (some .int), Cond.methodLink RX6 38 yX6_ofPerson, Cond.static yX6_ofPerson, Cond.code yX6_ofPerson cX6_ofPerson 3 (some .int), Cond.methodLink RX6 42 yX6_momentOf, Cond.instanceMethod yX6_momentOf, Cond.selects RX6 yX6_momentOf yX6_momentOf, Cond.code yX6_momentOf cX6_momentOf 4 (some .int), Cond.methodLink RX6 74 yX6_stands, Cond.instanceMethod yX6_stands, Cond.selects RX6 yX6_stands yX6_stands, Cond.code yX6_stands cX6_stands 2 (some .boolean)]
def wsX6_sumOf_r2 : List Cond := [Cond.methodLink RX6 71 yX6_forces, Cond.instanceMethod yX6_forces, Cond.selects RX6 yX6_forces yX6_forces, Cond.code yX6_forces cX6_forces 7 (some .int), Cond.fieldLink RX6 55 "LadderClimbModel" "heldMany" "I", Cond.fieldLink RX6 58 "LadderClimbModel" "least" "I", Cond.fieldLink RX6 61 "LadderClimbModel" "greatest" "I", Cond.fieldLink RX6 64 "LadderClimbModel" "nearest" "I", Cond.methodLink RX6 67 yX6_lacks, Cond.instanceMethod yX6_lacks, Cond.selects RX6 yX6_lacks yX6_lacks, Cond.code yX6_lacks cX6_lacks 10 (some .int), Cond.methodLink RX6 46 yX6_wallOf, Cond.static yX6_wallOf, Cond.code yX6_wallOf cX6_wallOf 1 (some .int), Cond.methodLink RX6 49 yX6_groundOf, Cond.static yX6_groundOf, Cond.code yX6_groundOf cX6_groundOf 1 (some .int)]
def wsX6_sumOf : List Cond := .code yX6_sumOf cX6_sumOf 4 (some .int) :: ((wsX6_sumOf_r1 ++ wsX6_sumOf_r2) ++ wsX60)
def wsX6_counted_r1 : List Cond := [Cond.fieldLink RX6 7 "LadderClimbModel" "s" "[I", Cond.fieldLink RX6 35 "LadderClimbModel" "savedMany" "I", Cond.methodLink RX6 157 yX6_sumOf, Cond.instanceMethod yX6_sumOf, Cond.selects RX6 yX6_sumOf yX6_sumOf, Cond.initialized RX6, Cond.code yX6_sumOf cX6_sumOf 4 (some .int), Cond.methodLink RX6 145 yX6_ofLadder, Cond.instanceMethod yX6_ofLadder, Cond.selects RX6 yX6_ofLadder yX6_ofLadder, Cond.code yX6_ofLadder cX6_ofLadder 3 (some .int), Cond.methodLink RX6 52 yX6_loadOf, Cond.instanceMethod yX6_loadOf, Cond.selects RX6 yX6_loadOf yX6_loadOf, Cond.code yX6_loadOf cX6_loadOf 4 (some .int), Cond.methodLink RX6 19 yX6_of, Cond.static yX6_of, Cond.code yX6_of cX6_of 2 (some .int), Cond.methodLink RX6 38 yX6_ofPerson, Cond.static yX6_ofPerson, Cond.code yX6_ofPerson cX6_ofPerson 3 (some .int), Cond.methodLink RX6 42 yX6_momentOf, Cond.instanceMethod yX6_momentOf, Cond.selects RX6 yX6_momentOf yX6_momentOf]
def wsX6_counted_r2 : List Cond := [Cond.code yX6_momentOf cX6_momentOf 4 (some .int), Cond.methodLink RX6 74 yX6_stands, Cond.instanceMethod yX6_stands, Cond.selects RX6 yX6_stands yX6_stands, Cond.code yX6_stands cX6_stands 2 (some .boolean), Cond.methodLink RX6 71 yX6_forces, Cond.instanceMethod yX6_forces, Cond.selects RX6 yX6_forces yX6_forces, Cond.code yX6_forces cX6_forces 7 (some .int), Cond.fieldLink RX6 55 "LadderClimbModel" "heldMany" "I", Cond.fieldLink RX6 58 "LadderClimbModel" "least" "I", Cond.fieldLink RX6 61 "LadderClimbModel" "greatest" "I", Cond.fieldLink RX6 64 "LadderClimbModel" "nearest" "I", Cond.methodLink RX6 67 yX6_lacks, Cond.instanceMethod yX6_lacks, Cond.selects RX6 yX6_lacks yX6_lacks, Cond.code yX6_lacks cX6_lacks 10 (some .int), Cond.methodLink RX6 46 yX6_wallOf, Cond.static yX6_wallOf, Cond.code yX6_wallOf cX6_wallOf 1 (some .int), Cond.methodLink RX6 49 yX6_groundOf, Cond.static yX6_groundOf, Cond.code yX6_groundOf cX6_groundOf 1 (some .int)]
def wsX6_counted : List Cond := .code yX6_counted cX6_counted 2 (some .int) :: ((wsX6_counted_r1 ++ wsX6_counted_r2) ++ wsX60)
def wsX6_count_r1 : List Cond := [Cond.methodLink RX6 27 yX6_in, Cond.static yX6_in, Cond.initialized RX6, Cond.code yX6_in cX6_in 3 (some .boolean), Cond.methodLink RX6 77 yX6_holds, Cond.instanceMethod yX6_holds, Cond.selects RX6 yX6_holds yX6_holds, Cond.code yX6_holds cX6_holds 2 (some .boolean), Cond.fieldLink RX6 23 "LadderClimbModel" "thrown" "I", Cond.methodLink RX6 160 yX6_counted, Cond.instanceMethod yX6_counted, Cond.selects RX6 yX6_counted yX6_counted, Cond.code yX6_counted cX6_counted 2 (some .int), Cond.fieldLink RX6 7 "LadderClimbModel" "s" "[I", Cond.fieldLink RX6 35 "LadderClimbModel" "savedMany" "I", Cond.methodLink RX6 157 yX6_sumOf, Cond.instanceMethod yX6_sumOf, Cond.selects RX6 yX6_sumOf yX6_sumOf, Cond.code yX6_sumOf cX6_sumOf 4 (some .int), Cond.methodLink RX6 145 yX6_ofLadder, Cond.instanceMethod yX6_ofLadder, Cond.selects RX6 yX6_ofLadder yX6_ofLadder, Cond.code yX6_ofLadder cX6_ofLadder 3 (some .int), Cond.methodLink RX6 52 yX6_loadOf]
def wsX6_count_r2 : List Cond := [Cond.instanceMethod yX6_loadOf, Cond.selects RX6 yX6_loadOf yX6_loadOf, Cond.code yX6_loadOf cX6_loadOf 4 (some .int), Cond.methodLink RX6 19 yX6_of, Cond.static yX6_of, Cond.code yX6_of cX6_of 2 (some .int), Cond.methodLink RX6 38 yX6_ofPerson, Cond.static yX6_ofPerson, Cond.code yX6_ofPerson cX6_ofPerson 3 (some .int), Cond.methodLink RX6 42 yX6_momentOf, Cond.instanceMethod yX6_momentOf, Cond.selects RX6 yX6_momentOf yX6_momentOf, Cond.code yX6_momentOf cX6_momentOf 4 (some .int), Cond.methodLink RX6 74 yX6_stands, Cond.instanceMethod yX6_stands, Cond.selects RX6 yX6_stands yX6_stands, Cond.code yX6_stands cX6_stands 2 (some .boolean), Cond.methodLink RX6 71 yX6_forces, Cond.instanceMethod yX6_forces, Cond.selects RX6 yX6_forces yX6_forces, Cond.code yX6_forces cX6_forces 7 (some .int), Cond.fieldLink RX6 55 "LadderClimbModel" "heldMany" "I", Cond.fieldLink RX6 58 "LadderClimbModel" "least" "I", Cond.fieldLink RX6 61 "LadderClimbModel" "greatest" "I"]
def wsX6_count_r3 : List Cond := [Cond.fieldLink RX6 64 "LadderClimbModel" "nearest" "I", Cond.methodLink RX6 67 yX6_lacks, Cond.instanceMethod yX6_lacks, Cond.selects RX6 yX6_lacks yX6_lacks, Cond.code yX6_lacks cX6_lacks 10 (some .int), Cond.methodLink RX6 46 yX6_wallOf, Cond.static yX6_wallOf, Cond.code yX6_wallOf cX6_wallOf 1 (some .int), Cond.methodLink RX6 49 yX6_groundOf, Cond.static yX6_groundOf, Cond.code yX6_groundOf cX6_groundOf 1 (some .int)]
def wsX6_count : List Cond := .code yX6_count cX6_count 2 (some .int) :: ((wsX6_count_r1 ++ (wsX6_count_r2 ++ wsX6_count_r3)) ++ wsX60)
def wsX6_highestOf_r1 : List Cond := [Cond.fieldLink RX6 7 "LadderClimbModel" "s" "[I", Cond.methodLink RX6 38 yX6_ofPerson, Cond.static yX6_ofPerson, Cond.initialized RX6, Cond.code yX6_ofPerson cX6_ofPerson 3 (some .int), Cond.methodLink RX6 74 yX6_stands, Cond.instanceMethod yX6_stands, Cond.selects RX6 yX6_stands yX6_stands, Cond.code yX6_stands cX6_stands 2 (some .boolean), Cond.methodLink RX6 71 yX6_forces, Cond.instanceMethod yX6_forces, Cond.selects RX6 yX6_forces yX6_forces, Cond.code yX6_forces cX6_forces 7 (some .int), Cond.fieldLink RX6 55 "LadderClimbModel" "heldMany" "I", Cond.fieldLink RX6 58 "LadderClimbModel" "least" "I", Cond.fieldLink RX6 61 "LadderClimbModel" "greatest" "I", Cond.fieldLink RX6 64 "LadderClimbModel" "nearest" "I", Cond.methodLink RX6 52 yX6_loadOf, Cond.instanceMethod yX6_loadOf, Cond.selects RX6 yX6_loadOf yX6_loadOf, Cond.code yX6_loadOf cX6_loadOf 4 (some .int), Cond.methodLink RX6 19 yX6_of, Cond.static yX6_of, Cond.code yX6_of cX6_of 2 (some .int)]
def wsX6_highestOf_r2 : List Cond := [Cond.methodLink RX6 42 yX6_momentOf, Cond.instanceMethod yX6_momentOf, Cond.selects RX6 yX6_momentOf yX6_momentOf, Cond.code yX6_momentOf cX6_momentOf 4 (some .int), Cond.methodLink RX6 67 yX6_lacks, Cond.instanceMethod yX6_lacks, Cond.selects RX6 yX6_lacks yX6_lacks, Cond.code yX6_lacks cX6_lacks 10 (some .int), Cond.methodLink RX6 46 yX6_wallOf, Cond.static yX6_wallOf, Cond.code yX6_wallOf cX6_wallOf 1 (some .int), Cond.methodLink RX6 49 yX6_groundOf, Cond.static yX6_groundOf, Cond.code yX6_groundOf cX6_groundOf 1 (some .int)]
def wsX6_highestOf : List Cond := .code yX6_highestOf cX6_highestOf 7 (some .int) :: ((wsX6_highestOf_r1 ++ wsX6_highestOf_r2) ++ wsX60)
def wsX6_highest_r1 : List Cond := [Cond.methodLink RX6 93 yX6_isPerson, Cond.instanceMethod yX6_isPerson, Cond.selects RX6 yX6_isPerson yX6_isPerson, Cond.initialized RX6, Cond.code yX6_isPerson cX6_isPerson 3 (some .boolean), Cond.fieldLink RX6 7 "LadderClimbModel" "s" "[I", Cond.methodLink RX6 31 yX6_isLadder, Cond.static yX6_isLadder, Cond.code yX6_isLadder cX6_isLadder 1 (some .boolean), Cond.methodLink RX6 27 yX6_in, Cond.static yX6_in, Cond.code yX6_in cX6_in 3 (some .boolean), Cond.methodLink RX6 19 yX6_of, Cond.static yX6_of, Cond.code yX6_of cX6_of 2 (some .int), Cond.methodLink RX6 77 yX6_holds, Cond.instanceMethod yX6_holds, Cond.selects RX6 yX6_holds yX6_holds, Cond.code yX6_holds cX6_holds 2 (some .boolean), Cond.fieldLink RX6 23 "LadderClimbModel" "thrown" "I", Cond.methodLink RX6 163 yX6_highestOf, Cond.instanceMethod yX6_highestOf, Cond.selects RX6 yX6_highestOf yX6_highestOf, Cond.code yX6_highestOf cX6_highestOf 7 (some .int)]
def wsX6_highest_r2 : List Cond := [Cond.methodLink RX6 38 yX6_ofPerson, Cond.static yX6_ofPerson, Cond.code yX6_ofPerson cX6_ofPerson 3 (some .int), Cond.methodLink RX6 74 yX6_stands, Cond.instanceMethod yX6_stands, Cond.selects RX6 yX6_stands yX6_stands, Cond.code yX6_stands cX6_stands 2 (some .boolean), Cond.methodLink RX6 71 yX6_forces, Cond.instanceMethod yX6_forces, Cond.selects RX6 yX6_forces yX6_forces, Cond.code yX6_forces cX6_forces 7 (some .int), Cond.fieldLink RX6 55 "LadderClimbModel" "heldMany" "I", Cond.fieldLink RX6 58 "LadderClimbModel" "least" "I", Cond.fieldLink RX6 61 "LadderClimbModel" "greatest" "I", Cond.fieldLink RX6 64 "LadderClimbModel" "nearest" "I", Cond.methodLink RX6 52 yX6_loadOf, Cond.instanceMethod yX6_loadOf, Cond.selects RX6 yX6_loadOf yX6_loadOf, Cond.code yX6_loadOf cX6_loadOf 4 (some .int), Cond.methodLink RX6 42 yX6_momentOf, Cond.instanceMethod yX6_momentOf, Cond.selects RX6 yX6_momentOf yX6_momentOf, Cond.code yX6_momentOf cX6_momentOf 4 (some .int), Cond.methodLink RX6 67 yX6_lacks]
def wsX6_highest_r3 : List Cond := [Cond.instanceMethod yX6_lacks, Cond.selects RX6 yX6_lacks yX6_lacks, Cond.code yX6_lacks cX6_lacks 10 (some .int), Cond.methodLink RX6 46 yX6_wallOf, Cond.static yX6_wallOf, Cond.code yX6_wallOf cX6_wallOf 1 (some .int), Cond.methodLink RX6 49 yX6_groundOf, Cond.static yX6_groundOf, Cond.code yX6_groundOf cX6_groundOf 1 (some .int)]
def wsX6_highest : List Cond := .code yX6_highest cX6_highest 3 (some .int) :: ((wsX6_highest_r1 ++ (wsX6_highest_r2 ++ wsX6_highest_r3)) ++ wsX60)
def wsX6_ropeFor_r1 : List Cond := [Cond.fieldLink RX6 7 "LadderClimbModel" "s" "[I", Cond.methodLink RX6 19 yX6_of, Cond.static yX6_of, Cond.initialized RX6, Cond.code yX6_of cX6_of 2 (some .int), Cond.methodLink RX6 74 yX6_stands, Cond.instanceMethod yX6_stands, Cond.selects RX6 yX6_stands yX6_stands, Cond.code yX6_stands cX6_stands 2 (some .boolean), Cond.methodLink RX6 71 yX6_forces, Cond.instanceMethod yX6_forces, Cond.selects RX6 yX6_forces yX6_forces, Cond.code yX6_forces cX6_forces 7 (some .int), Cond.fieldLink RX6 55 "LadderClimbModel" "heldMany" "I", Cond.fieldLink RX6 58 "LadderClimbModel" "least" "I", Cond.fieldLink RX6 61 "LadderClimbModel" "greatest" "I", Cond.fieldLink RX6 64 "LadderClimbModel" "nearest" "I", Cond.methodLink RX6 52 yX6_loadOf, Cond.instanceMethod yX6_loadOf, Cond.selects RX6 yX6_loadOf yX6_loadOf, Cond.code yX6_loadOf cX6_loadOf 4 (some .int), Cond.methodLink RX6 38 yX6_ofPerson, Cond.static yX6_ofPerson, Cond.code yX6_ofPerson cX6_ofPerson 3 (some .int)]
def wsX6_ropeFor_r2 : List Cond := [Cond.methodLink RX6 42 yX6_momentOf, Cond.instanceMethod yX6_momentOf, Cond.selects RX6 yX6_momentOf yX6_momentOf, Cond.code yX6_momentOf cX6_momentOf 4 (some .int), Cond.methodLink RX6 67 yX6_lacks, Cond.instanceMethod yX6_lacks, Cond.selects RX6 yX6_lacks yX6_lacks, Cond.code yX6_lacks cX6_lacks 10 (some .int), Cond.methodLink RX6 46 yX6_wallOf, Cond.static yX6_wallOf, Cond.code yX6_wallOf cX6_wallOf 1 (some .int), Cond.methodLink RX6 49 yX6_groundOf, Cond.static yX6_groundOf, Cond.code yX6_groundOf cX6_groundOf 1 (some .int)]
def wsX6_ropeFor : List Cond := .code yX6_ropeFor cX6_ropeFor 4 (some .int) :: ((wsX6_ropeFor_r1 ++ wsX6_ropeFor_r2) ++ wsX60)
def wsX6_neededRope_r1 : List Cond := [Cond.methodLink RX6 31 yX6_isLadder, Cond.static yX6_isLadder, Cond.initialized RX6, Cond.code yX6_isLadder cX6_isLadder 1 (some .boolean), Cond.methodLink RX6 27 yX6_in, Cond.static yX6_in, Cond.code yX6_in cX6_in 3 (some .boolean), Cond.methodLink RX6 77 yX6_holds, Cond.instanceMethod yX6_holds, Cond.selects RX6 yX6_holds yX6_holds, Cond.code yX6_holds cX6_holds 2 (some .boolean), Cond.fieldLink RX6 23 "LadderClimbModel" "thrown" "I", Cond.methodLink RX6 166 yX6_ropeFor, Cond.instanceMethod yX6_ropeFor, Cond.selects RX6 yX6_ropeFor yX6_ropeFor, Cond.code yX6_ropeFor cX6_ropeFor 4 (some .int), Cond.fieldLink RX6 7 "LadderClimbModel" "s" "[I", Cond.methodLink RX6 19 yX6_of, Cond.static yX6_of, Cond.code yX6_of cX6_of 2 (some .int), Cond.methodLink RX6 74 yX6_stands, Cond.instanceMethod yX6_stands, Cond.selects RX6 yX6_stands yX6_stands, Cond.code yX6_stands cX6_stands 2 (some .boolean)]
def wsX6_neededRope_r2 : List Cond := [Cond.methodLink RX6 71 yX6_forces, Cond.instanceMethod yX6_forces, Cond.selects RX6 yX6_forces yX6_forces, Cond.code yX6_forces cX6_forces 7 (some .int), Cond.fieldLink RX6 55 "LadderClimbModel" "heldMany" "I", Cond.fieldLink RX6 58 "LadderClimbModel" "least" "I", Cond.fieldLink RX6 61 "LadderClimbModel" "greatest" "I", Cond.fieldLink RX6 64 "LadderClimbModel" "nearest" "I", Cond.methodLink RX6 52 yX6_loadOf, Cond.instanceMethod yX6_loadOf, Cond.selects RX6 yX6_loadOf yX6_loadOf, Cond.code yX6_loadOf cX6_loadOf 4 (some .int), Cond.methodLink RX6 38 yX6_ofPerson, Cond.static yX6_ofPerson, Cond.code yX6_ofPerson cX6_ofPerson 3 (some .int), Cond.methodLink RX6 42 yX6_momentOf, Cond.instanceMethod yX6_momentOf, Cond.selects RX6 yX6_momentOf yX6_momentOf, Cond.code yX6_momentOf cX6_momentOf 4 (some .int), Cond.methodLink RX6 67 yX6_lacks, Cond.instanceMethod yX6_lacks, Cond.selects RX6 yX6_lacks yX6_lacks, Cond.code yX6_lacks cX6_lacks 10 (some .int), Cond.methodLink RX6 46 yX6_wallOf]
def wsX6_neededRope_r3 : List Cond := [Cond.static yX6_wallOf, Cond.code yX6_wallOf cX6_wallOf 1 (some .int), Cond.methodLink RX6 49 yX6_groundOf, Cond.static yX6_groundOf, Cond.code yX6_groundOf cX6_groundOf 1 (some .int)]
def wsX6_neededRope : List Cond := .code yX6_neededRope cX6_neededRope 2 (some .int) :: ((wsX6_neededRope_r1 ++ (wsX6_neededRope_r2 ++ wsX6_neededRope_r3)) ++ wsX60)
def wsX6_baseFor_r1 : List Cond := [Cond.fieldLink RX6 7 "LadderClimbModel" "s" "[I", Cond.methodLink RX6 19 yX6_of, Cond.static yX6_of, Cond.initialized RX6, Cond.code yX6_of cX6_of 2 (some .int), Cond.methodLink RX6 71 yX6_forces, Cond.instanceMethod yX6_forces, Cond.selects RX6 yX6_forces yX6_forces, Cond.code yX6_forces cX6_forces 7 (some .int), Cond.fieldLink RX6 55 "LadderClimbModel" "heldMany" "I", Cond.fieldLink RX6 58 "LadderClimbModel" "least" "I", Cond.fieldLink RX6 61 "LadderClimbModel" "greatest" "I", Cond.fieldLink RX6 64 "LadderClimbModel" "nearest" "I", Cond.methodLink RX6 52 yX6_loadOf, Cond.instanceMethod yX6_loadOf, Cond.selects RX6 yX6_loadOf yX6_loadOf, Cond.code yX6_loadOf cX6_loadOf 4 (some .int), Cond.methodLink RX6 38 yX6_ofPerson, Cond.static yX6_ofPerson, Cond.code yX6_ofPerson cX6_ofPerson 3 (some .int), Cond.methodLink RX6 42 yX6_momentOf, Cond.instanceMethod yX6_momentOf, Cond.selects RX6 yX6_momentOf yX6_momentOf, Cond.code yX6_momentOf cX6_momentOf 4 (some .int)]
def wsX6_baseFor_r2 : List Cond := [Cond.methodLink RX6 67 yX6_lacks, Cond.instanceMethod yX6_lacks, Cond.selects RX6 yX6_lacks yX6_lacks, Cond.code yX6_lacks cX6_lacks 10 (some .int), Cond.methodLink RX6 46 yX6_wallOf, Cond.static yX6_wallOf, Cond.code yX6_wallOf cX6_wallOf 1 (some .int), Cond.methodLink RX6 49 yX6_groundOf, Cond.static yX6_groundOf, Cond.code yX6_groundOf cX6_groundOf 1 (some .int)]
def wsX6_baseFor : List Cond := .code yX6_baseFor cX6_baseFor 7 (some .int) :: ((wsX6_baseFor_r1 ++ wsX6_baseFor_r2) ++ wsX60)
def wsX6_bestBase_r1 : List Cond := [Cond.methodLink RX6 31 yX6_isLadder, Cond.static yX6_isLadder, Cond.initialized RX6, Cond.code yX6_isLadder cX6_isLadder 1 (some .boolean), Cond.methodLink RX6 27 yX6_in, Cond.static yX6_in, Cond.code yX6_in cX6_in 3 (some .boolean), Cond.methodLink RX6 77 yX6_holds, Cond.instanceMethod yX6_holds, Cond.selects RX6 yX6_holds yX6_holds, Cond.code yX6_holds cX6_holds 2 (some .boolean), Cond.fieldLink RX6 23 "LadderClimbModel" "thrown" "I", Cond.methodLink RX6 169 yX6_baseFor, Cond.instanceMethod yX6_baseFor, Cond.selects RX6 yX6_baseFor yX6_baseFor, Cond.code yX6_baseFor cX6_baseFor 7 (some .int), Cond.fieldLink RX6 7 "LadderClimbModel" "s" "[I", Cond.methodLink RX6 19 yX6_of, Cond.static yX6_of, Cond.code yX6_of cX6_of 2 (some .int), Cond.methodLink RX6 71 yX6_forces, Cond.instanceMethod yX6_forces, Cond.selects RX6 yX6_forces yX6_forces, Cond.code yX6_forces cX6_forces 7 (some .int)]
def wsX6_bestBase_r2 : List Cond := [Cond.fieldLink RX6 55 "LadderClimbModel" "heldMany" "I", Cond.fieldLink RX6 58 "LadderClimbModel" "least" "I", Cond.fieldLink RX6 61 "LadderClimbModel" "greatest" "I", Cond.fieldLink RX6 64 "LadderClimbModel" "nearest" "I", Cond.methodLink RX6 52 yX6_loadOf, Cond.instanceMethod yX6_loadOf, Cond.selects RX6 yX6_loadOf yX6_loadOf, Cond.code yX6_loadOf cX6_loadOf 4 (some .int), Cond.methodLink RX6 38 yX6_ofPerson, Cond.static yX6_ofPerson, Cond.code yX6_ofPerson cX6_ofPerson 3 (some .int), Cond.methodLink RX6 42 yX6_momentOf, Cond.instanceMethod yX6_momentOf, Cond.selects RX6 yX6_momentOf yX6_momentOf, Cond.code yX6_momentOf cX6_momentOf 4 (some .int), Cond.methodLink RX6 67 yX6_lacks, Cond.instanceMethod yX6_lacks, Cond.selects RX6 yX6_lacks yX6_lacks, Cond.code yX6_lacks cX6_lacks 10 (some .int), Cond.methodLink RX6 46 yX6_wallOf, Cond.static yX6_wallOf, Cond.code yX6_wallOf cX6_wallOf 1 (some .int), Cond.methodLink RX6 49 yX6_groundOf, Cond.static yX6_groundOf]
def wsX6_bestBase_r3 : List Cond := [Cond.code yX6_groundOf cX6_groundOf 1 (some .int)]
def wsX6_bestBase : List Cond := .code yX6_bestBase cX6_bestBase 2 (some .int) :: ((wsX6_bestBase_r1 ++ (wsX6_bestBase_r2 ++ wsX6_bestBase_r3)) ++ wsX60)
def wsX6_riskiestOf_r1 : List Cond := [Cond.fieldLink RX6 7 "LadderClimbModel" "s" "[I", Cond.methodLink RX6 19 yX6_of, Cond.static yX6_of, Cond.initialized RX6, Cond.code yX6_of cX6_of 2 (some .int), Cond.methodLink RX6 38 yX6_ofPerson, Cond.static yX6_ofPerson, Cond.code yX6_ofPerson cX6_ofPerson 3 (some .int), Cond.methodLink RX6 71 yX6_forces, Cond.instanceMethod yX6_forces, Cond.selects RX6 yX6_forces yX6_forces, Cond.code yX6_forces cX6_forces 7 (some .int), Cond.fieldLink RX6 55 "LadderClimbModel" "heldMany" "I", Cond.fieldLink RX6 58 "LadderClimbModel" "least" "I", Cond.fieldLink RX6 61 "LadderClimbModel" "greatest" "I", Cond.fieldLink RX6 64 "LadderClimbModel" "nearest" "I", Cond.methodLink RX6 52 yX6_loadOf, Cond.instanceMethod yX6_loadOf, Cond.selects RX6 yX6_loadOf yX6_loadOf, Cond.code yX6_loadOf cX6_loadOf 4 (some .int), Cond.methodLink RX6 42 yX6_momentOf, Cond.instanceMethod yX6_momentOf, Cond.selects RX6 yX6_momentOf yX6_momentOf, Cond.code yX6_momentOf cX6_momentOf 4 (some .int)]
def wsX6_riskiestOf_r2 : List Cond := [Cond.methodLink RX6 67 yX6_lacks, Cond.instanceMethod yX6_lacks, Cond.selects RX6 yX6_lacks yX6_lacks, Cond.code yX6_lacks cX6_lacks 10 (some .int), Cond.methodLink RX6 46 yX6_wallOf, Cond.static yX6_wallOf, Cond.code yX6_wallOf cX6_wallOf 1 (some .int), Cond.methodLink RX6 49 yX6_groundOf, Cond.static yX6_groundOf, Cond.code yX6_groundOf cX6_groundOf 1 (some .int)]
def wsX6_riskiestOf : List Cond := .code yX6_riskiestOf cX6_riskiestOf 7 (some .int) :: ((wsX6_riskiestOf_r1 ++ wsX6_riskiestOf_r2) ++ wsX60)
def wsX6_riskiest_r1 : List Cond := [Cond.methodLink RX6 31 yX6_isLadder, Cond.static yX6_isLadder, Cond.initialized RX6, Cond.code yX6_isLadder cX6_isLadder 1 (some .boolean), Cond.methodLink RX6 27 yX6_in, Cond.static yX6_in, Cond.code yX6_in cX6_in 3 (some .boolean), Cond.methodLink RX6 77 yX6_holds, Cond.instanceMethod yX6_holds, Cond.selects RX6 yX6_holds yX6_holds, Cond.code yX6_holds cX6_holds 2 (some .boolean), Cond.fieldLink RX6 23 "LadderClimbModel" "thrown" "I", Cond.methodLink RX6 172 yX6_riskiestOf, Cond.instanceMethod yX6_riskiestOf, Cond.selects RX6 yX6_riskiestOf yX6_riskiestOf, Cond.code yX6_riskiestOf cX6_riskiestOf 7 (some .int), Cond.fieldLink RX6 7 "LadderClimbModel" "s" "[I", Cond.methodLink RX6 19 yX6_of, Cond.static yX6_of, Cond.code yX6_of cX6_of 2 (some .int), Cond.methodLink RX6 38 yX6_ofPerson, Cond.static yX6_ofPerson, Cond.code yX6_ofPerson cX6_ofPerson 3 (some .int), Cond.methodLink RX6 71 yX6_forces]
def wsX6_riskiest_r2 : List Cond := [Cond.instanceMethod yX6_forces, Cond.selects RX6 yX6_forces yX6_forces, Cond.code yX6_forces cX6_forces 7 (some .int), Cond.fieldLink RX6 55 "LadderClimbModel" "heldMany" "I", Cond.fieldLink RX6 58 "LadderClimbModel" "least" "I", Cond.fieldLink RX6 61 "LadderClimbModel" "greatest" "I", Cond.fieldLink RX6 64 "LadderClimbModel" "nearest" "I", Cond.methodLink RX6 52 yX6_loadOf, Cond.instanceMethod yX6_loadOf, Cond.selects RX6 yX6_loadOf yX6_loadOf, Cond.code yX6_loadOf cX6_loadOf 4 (some .int), Cond.methodLink RX6 42 yX6_momentOf, Cond.instanceMethod yX6_momentOf, Cond.selects RX6 yX6_momentOf yX6_momentOf, Cond.code yX6_momentOf cX6_momentOf 4 (some .int), Cond.methodLink RX6 67 yX6_lacks, Cond.instanceMethod yX6_lacks, Cond.selects RX6 yX6_lacks yX6_lacks, Cond.code yX6_lacks cX6_lacks 10 (some .int), Cond.methodLink RX6 46 yX6_wallOf, Cond.static yX6_wallOf, Cond.code yX6_wallOf cX6_wallOf 1 (some .int), Cond.methodLink RX6 49 yX6_groundOf, Cond.static yX6_groundOf]
def wsX6_riskiest_r3 : List Cond := [Cond.code yX6_groundOf cX6_groundOf 1 (some .int)]
def wsX6_riskiest : List Cond := .code yX6_riskiest cX6_riskiest 2 (some .int) :: ((wsX6_riskiest_r1 ++ (wsX6_riskiest_r2 ++ wsX6_riskiest_r3)) ++ wsX60)
def wsX6_wallsFor_r1 : List Cond := [Cond.fieldLink RX6 7 "LadderClimbModel" "s" "[I", Cond.methodLink RX6 19 yX6_of, Cond.static yX6_of, Cond.initialized RX6, Cond.code yX6_of cX6_of 2 (some .int), Cond.methodLink RX6 74 yX6_stands, Cond.instanceMethod yX6_stands, Cond.selects RX6 yX6_stands yX6_stands, Cond.code yX6_stands cX6_stands 2 (some .boolean), Cond.methodLink RX6 71 yX6_forces, Cond.instanceMethod yX6_forces, Cond.selects RX6 yX6_forces yX6_forces, Cond.code yX6_forces cX6_forces 7 (some .int), Cond.fieldLink RX6 55 "LadderClimbModel" "heldMany" "I", Cond.fieldLink RX6 58 "LadderClimbModel" "least" "I", Cond.fieldLink RX6 61 "LadderClimbModel" "greatest" "I", Cond.fieldLink RX6 64 "LadderClimbModel" "nearest" "I", Cond.methodLink RX6 52 yX6_loadOf, Cond.instanceMethod yX6_loadOf, Cond.selects RX6 yX6_loadOf yX6_loadOf, Cond.code yX6_loadOf cX6_loadOf 4 (some .int), Cond.methodLink RX6 38 yX6_ofPerson, Cond.static yX6_ofPerson, Cond.code yX6_ofPerson cX6_ofPerson 3 (some .int)]
def wsX6_wallsFor_r2 : List Cond := [Cond.methodLink RX6 42 yX6_momentOf, Cond.instanceMethod yX6_momentOf, Cond.selects RX6 yX6_momentOf yX6_momentOf, Cond.code yX6_momentOf cX6_momentOf 4 (some .int), Cond.methodLink RX6 67 yX6_lacks, Cond.instanceMethod yX6_lacks, Cond.selects RX6 yX6_lacks yX6_lacks, Cond.code yX6_lacks cX6_lacks 10 (some .int), Cond.methodLink RX6 46 yX6_wallOf, Cond.static yX6_wallOf, Cond.code yX6_wallOf cX6_wallOf 1 (some .int), Cond.methodLink RX6 49 yX6_groundOf, Cond.static yX6_groundOf, Cond.code yX6_groundOf cX6_groundOf 1 (some .int)]
def wsX6_wallsFor : List Cond := .code yX6_wallsFor cX6_wallsFor 5 (some .int) :: ((wsX6_wallsFor_r1 ++ wsX6_wallsFor_r2) ++ wsX60)
def wsX6_walls_r1 : List Cond := [Cond.methodLink RX6 31 yX6_isLadder, Cond.static yX6_isLadder, Cond.initialized RX6, Cond.code yX6_isLadder cX6_isLadder 1 (some .boolean), Cond.methodLink RX6 27 yX6_in, Cond.static yX6_in, Cond.code yX6_in cX6_in 3 (some .boolean), Cond.methodLink RX6 77 yX6_holds, Cond.instanceMethod yX6_holds, Cond.selects RX6 yX6_holds yX6_holds, Cond.code yX6_holds cX6_holds 2 (some .boolean), Cond.fieldLink RX6 23 "LadderClimbModel" "thrown" "I", Cond.methodLink RX6 175 yX6_wallsFor, Cond.instanceMethod yX6_wallsFor, Cond.selects RX6 yX6_wallsFor yX6_wallsFor, Cond.code yX6_wallsFor cX6_wallsFor 5 (some .int), Cond.fieldLink RX6 7 "LadderClimbModel" "s" "[I", Cond.methodLink RX6 19 yX6_of, Cond.static yX6_of, Cond.code yX6_of cX6_of 2 (some .int), Cond.methodLink RX6 74 yX6_stands, Cond.instanceMethod yX6_stands, Cond.selects RX6 yX6_stands yX6_stands, Cond.code yX6_stands cX6_stands 2 (some .boolean)]
def wsX6_walls_r2 : List Cond := [Cond.methodLink RX6 71 yX6_forces, Cond.instanceMethod yX6_forces, Cond.selects RX6 yX6_forces yX6_forces, Cond.code yX6_forces cX6_forces 7 (some .int), Cond.fieldLink RX6 55 "LadderClimbModel" "heldMany" "I", Cond.fieldLink RX6 58 "LadderClimbModel" "least" "I", Cond.fieldLink RX6 61 "LadderClimbModel" "greatest" "I", Cond.fieldLink RX6 64 "LadderClimbModel" "nearest" "I", Cond.methodLink RX6 52 yX6_loadOf, Cond.instanceMethod yX6_loadOf, Cond.selects RX6 yX6_loadOf yX6_loadOf, Cond.code yX6_loadOf cX6_loadOf 4 (some .int), Cond.methodLink RX6 38 yX6_ofPerson, Cond.static yX6_ofPerson, Cond.code yX6_ofPerson cX6_ofPerson 3 (some .int), Cond.methodLink RX6 42 yX6_momentOf, Cond.instanceMethod yX6_momentOf, Cond.selects RX6 yX6_momentOf yX6_momentOf, Cond.code yX6_momentOf cX6_momentOf 4 (some .int), Cond.methodLink RX6 67 yX6_lacks, Cond.instanceMethod yX6_lacks, Cond.selects RX6 yX6_lacks yX6_lacks, Cond.code yX6_lacks cX6_lacks 10 (some .int), Cond.methodLink RX6 46 yX6_wallOf]
def wsX6_walls_r3 : List Cond := [Cond.static yX6_wallOf, Cond.code yX6_wallOf cX6_wallOf 1 (some .int), Cond.methodLink RX6 49 yX6_groundOf, Cond.static yX6_groundOf, Cond.code yX6_groundOf cX6_groundOf 1 (some .int)]
def wsX6_walls : List Cond := .code yX6_walls cX6_walls 2 (some .int) :: ((wsX6_walls_r1 ++ (wsX6_walls_r2 ++ wsX6_walls_r3)) ++ wsX60)
def wsX6_share_r1 : List Cond := [Cond.fieldLink RX6 7 "LadderClimbModel" "s" "[I", Cond.methodLink RX6 157 yX6_sumOf, Cond.instanceMethod yX6_sumOf, Cond.selects RX6 yX6_sumOf yX6_sumOf, Cond.initialized RX6, Cond.code yX6_sumOf cX6_sumOf 4 (some .int), Cond.methodLink RX6 145 yX6_ofLadder, Cond.instanceMethod yX6_ofLadder, Cond.selects RX6 yX6_ofLadder yX6_ofLadder, Cond.code yX6_ofLadder cX6_ofLadder 3 (some .int), Cond.methodLink RX6 52 yX6_loadOf, Cond.instanceMethod yX6_loadOf, Cond.selects RX6 yX6_loadOf yX6_loadOf, Cond.code yX6_loadOf cX6_loadOf 4 (some .int), Cond.methodLink RX6 19 yX6_of, Cond.static yX6_of, Cond.code yX6_of cX6_of 2 (some .int), Cond.methodLink RX6 38 yX6_ofPerson, Cond.static yX6_ofPerson, Cond.code yX6_ofPerson cX6_ofPerson 3 (some .int), Cond.methodLink RX6 42 yX6_momentOf, Cond.instanceMethod yX6_momentOf, Cond.selects RX6 yX6_momentOf yX6_momentOf, Cond.code yX6_momentOf cX6_momentOf 4 (some .int)]
def wsX6_share_r2 : List Cond := [Cond.methodLink RX6 74 yX6_stands, Cond.instanceMethod yX6_stands, Cond.selects RX6 yX6_stands yX6_stands, Cond.code yX6_stands cX6_stands 2 (some .boolean), Cond.methodLink RX6 71 yX6_forces, Cond.instanceMethod yX6_forces, Cond.selects RX6 yX6_forces yX6_forces, Cond.code yX6_forces cX6_forces 7 (some .int), Cond.fieldLink RX6 55 "LadderClimbModel" "heldMany" "I", Cond.fieldLink RX6 58 "LadderClimbModel" "least" "I", Cond.fieldLink RX6 61 "LadderClimbModel" "greatest" "I", Cond.fieldLink RX6 64 "LadderClimbModel" "nearest" "I", Cond.methodLink RX6 67 yX6_lacks, Cond.instanceMethod yX6_lacks, Cond.selects RX6 yX6_lacks yX6_lacks, Cond.code yX6_lacks cX6_lacks 10 (some .int), Cond.methodLink RX6 46 yX6_wallOf, Cond.static yX6_wallOf, Cond.code yX6_wallOf cX6_wallOf 1 (some .int), Cond.methodLink RX6 49 yX6_groundOf, Cond.static yX6_groundOf, Cond.code yX6_groundOf cX6_groundOf 1 (some .int)]
def wsX6_share : List Cond := .code yX6_share cX6_share 2 (some .double) :: ((wsX6_share_r1 ++ wsX6_share_r2) ++ wsX60)
def wsX6_safety_r1 : List Cond := [Cond.fieldLink RX6 23 "LadderClimbModel" "thrown" "I", Cond.methodLink RX6 178 yX6_share, Cond.instanceMethod yX6_share, Cond.selects RX6 yX6_share yX6_share, Cond.initialized RX6, Cond.code yX6_share cX6_share 2 (some .double), Cond.fieldLink RX6 7 "LadderClimbModel" "s" "[I", Cond.methodLink RX6 157 yX6_sumOf, Cond.instanceMethod yX6_sumOf, Cond.selects RX6 yX6_sumOf yX6_sumOf, Cond.code yX6_sumOf cX6_sumOf 4 (some .int), Cond.methodLink RX6 145 yX6_ofLadder, Cond.instanceMethod yX6_ofLadder, Cond.selects RX6 yX6_ofLadder yX6_ofLadder, Cond.code yX6_ofLadder cX6_ofLadder 3 (some .int), Cond.methodLink RX6 52 yX6_loadOf, Cond.instanceMethod yX6_loadOf, Cond.selects RX6 yX6_loadOf yX6_loadOf, Cond.code yX6_loadOf cX6_loadOf 4 (some .int), Cond.methodLink RX6 19 yX6_of, Cond.static yX6_of, Cond.code yX6_of cX6_of 2 (some .int), Cond.methodLink RX6 38 yX6_ofPerson, Cond.static yX6_ofPerson]
def wsX6_safety_r2 : List Cond := [Cond.code yX6_ofPerson cX6_ofPerson 3 (some .int), Cond.methodLink RX6 42 yX6_momentOf, Cond.instanceMethod yX6_momentOf, Cond.selects RX6 yX6_momentOf yX6_momentOf, Cond.code yX6_momentOf cX6_momentOf 4 (some .int), Cond.methodLink RX6 74 yX6_stands, Cond.instanceMethod yX6_stands, Cond.selects RX6 yX6_stands yX6_stands, Cond.code yX6_stands cX6_stands 2 (some .boolean), Cond.methodLink RX6 71 yX6_forces, Cond.instanceMethod yX6_forces, Cond.selects RX6 yX6_forces yX6_forces, Cond.code yX6_forces cX6_forces 7 (some .int), Cond.fieldLink RX6 55 "LadderClimbModel" "heldMany" "I", Cond.fieldLink RX6 58 "LadderClimbModel" "least" "I", Cond.fieldLink RX6 61 "LadderClimbModel" "greatest" "I", Cond.fieldLink RX6 64 "LadderClimbModel" "nearest" "I", Cond.methodLink RX6 67 yX6_lacks, Cond.instanceMethod yX6_lacks, Cond.selects RX6 yX6_lacks yX6_lacks, Cond.code yX6_lacks cX6_lacks 10 (some .int), Cond.methodLink RX6 46 yX6_wallOf, Cond.static yX6_wallOf, Cond.code yX6_wallOf cX6_wallOf 1 (some .int)]
def wsX6_safety_r3 : List Cond := [Cond.methodLink RX6 49 yX6_groundOf, Cond.static yX6_groundOf, Cond.code yX6_groundOf cX6_groundOf 1 (some .int)]
def wsX6_safety : List Cond := .code yX6_safety cX6_safety 1 (some .double) :: ((wsX6_safety_r1 ++ (wsX6_safety_r2 ++ wsX6_safety_r3)) ++ wsX60)
def wsX6_bitsOf : List Cond := .code yX6_bitsOf cX6_bitsOf 6 (some .long) :: ([.constantLong RX6 182 (1023), .constantDouble RX6 184 (4611686018427387904), .constantLong RX6 186 (4503599627370496), .constantDouble RX6 188 (4841369599423283200)])
def wsX6_digestOne : List Cond := .code yX6_digestOne cX6_digestOne 3 none :: ([.constantLong RX6 190 (31), .fieldLink RX6 192 "LadderClimbModel" "digested" "J"] ++ wsX60)
def wsX6_digestLadder_r1 : List Cond := [Cond.fieldLink RX6 7 "LadderClimbModel" "s" "[I", Cond.methodLink RX6 145 yX6_ofLadder, Cond.instanceMethod yX6_ofLadder, Cond.selects RX6 yX6_ofLadder yX6_ofLadder, Cond.initialized RX6, Cond.code yX6_ofLadder cX6_ofLadder 3 (some .int), Cond.methodLink RX6 52 yX6_loadOf, Cond.instanceMethod yX6_loadOf, Cond.selects RX6 yX6_loadOf yX6_loadOf, Cond.code yX6_loadOf cX6_loadOf 4 (some .int), Cond.methodLink RX6 19 yX6_of, Cond.static yX6_of, Cond.code yX6_of cX6_of 2 (some .int), Cond.methodLink RX6 38 yX6_ofPerson, Cond.static yX6_ofPerson, Cond.code yX6_ofPerson cX6_ofPerson 3 (some .int), Cond.methodLink RX6 42 yX6_momentOf, Cond.instanceMethod yX6_momentOf, Cond.selects RX6 yX6_momentOf yX6_momentOf, Cond.code yX6_momentOf cX6_momentOf 4 (some .int), Cond.methodLink RX6 74 yX6_stands, Cond.instanceMethod yX6_stands, Cond.selects RX6 yX6_stands yX6_stands, Cond.code yX6_stands cX6_stands 2 (some .boolean)]
def wsX6_digestLadder_r2 : List Cond := [Cond.methodLink RX6 71 yX6_forces, Cond.instanceMethod yX6_forces, Cond.selects RX6 yX6_forces yX6_forces, Cond.code yX6_forces cX6_forces 7 (some .int), Cond.fieldLink RX6 55 "LadderClimbModel" "heldMany" "I", Cond.fieldLink RX6 58 "LadderClimbModel" "least" "I", Cond.fieldLink RX6 61 "LadderClimbModel" "greatest" "I", Cond.fieldLink RX6 64 "LadderClimbModel" "nearest" "I", Cond.methodLink RX6 67 yX6_lacks, Cond.instanceMethod yX6_lacks, Cond.selects RX6 yX6_lacks yX6_lacks, Cond.code yX6_lacks cX6_lacks 10 (some .int), Cond.methodLink RX6 46 yX6_wallOf, Cond.static yX6_wallOf, Cond.code yX6_wallOf cX6_wallOf 1 (some .int), Cond.methodLink RX6 49 yX6_groundOf, Cond.static yX6_groundOf, Cond.code yX6_groundOf cX6_groundOf 1 (some .int), Cond.methodLink RX6 196 yX6_digestOne, Cond.instanceMethod yX6_digestOne, Cond.selects RX6 yX6_digestOne yX6_digestOne, Cond.code yX6_digestOne cX6_digestOne 3 none, Cond.constantLong RX6 190 (31), Cond.fieldLink RX6 192 "LadderClimbModel" "digested" "J"]
def wsX6_digestLadder_r3 : List Cond := [Cond.methodLink RX6 151 yX6_ofForce, Cond.instanceMethod yX6_ofForce, Cond.selects RX6 yX6_ofForce yX6_ofForce, Cond.code yX6_ofForce cX6_ofForce 4 (some .int), Cond.methodLink RX6 148 yX6_pushOf, Cond.instanceMethod yX6_pushOf, Cond.selects RX6 yX6_pushOf yX6_pushOf, Cond.code yX6_pushOf cX6_pushOf 3 (some .int), Cond.methodLink RX6 163 yX6_highestOf, Cond.instanceMethod yX6_highestOf, Cond.selects RX6 yX6_highestOf yX6_highestOf, Cond.code yX6_highestOf cX6_highestOf 7 (some .int), Cond.methodLink RX6 166 yX6_ropeFor, Cond.instanceMethod yX6_ropeFor, Cond.selects RX6 yX6_ropeFor yX6_ropeFor, Cond.code yX6_ropeFor cX6_ropeFor 4 (some .int), Cond.methodLink RX6 169 yX6_baseFor, Cond.instanceMethod yX6_baseFor, Cond.selects RX6 yX6_baseFor yX6_baseFor, Cond.code yX6_baseFor cX6_baseFor 7 (some .int), Cond.methodLink RX6 172 yX6_riskiestOf, Cond.instanceMethod yX6_riskiestOf, Cond.selects RX6 yX6_riskiestOf yX6_riskiestOf, Cond.code yX6_riskiestOf cX6_riskiestOf 7 (some .int)]
def wsX6_digestLadder_r4 : List Cond := [Cond.methodLink RX6 175 yX6_wallsFor, Cond.instanceMethod yX6_wallsFor, Cond.selects RX6 yX6_wallsFor yX6_wallsFor, Cond.code yX6_wallsFor cX6_wallsFor 5 (some .int)]
def wsX6_digestLadder : List Cond := .code yX6_digestLadder cX6_digestLadder 3 none :: ((wsX6_digestLadder_r1 ++ (wsX6_digestLadder_r2 ++ (wsX6_digestLadder_r3 ++ wsX6_digestLadder_r4))) ++ wsX60)
def wsX6_digest_r1 : List Cond := [Cond.fieldLink RX6 23 "LadderClimbModel" "thrown" "I", Cond.constantLong RX6 200 (3617), Cond.fieldLink RX6 192 "LadderClimbModel" "digested" "J", Cond.fieldLink RX6 103 "LadderClimbModel" "length" "I", Cond.fieldLink RX6 16 "LadderClimbModel" "text" "[I", Cond.methodLink RX6 160 yX6_counted, Cond.instanceMethod yX6_counted, Cond.selects RX6 yX6_counted yX6_counted, Cond.initialized RX6, Cond.code yX6_counted cX6_counted 2 (some .int), Cond.fieldLink RX6 7 "LadderClimbModel" "s" "[I", Cond.fieldLink RX6 35 "LadderClimbModel" "savedMany" "I", Cond.methodLink RX6 157 yX6_sumOf, Cond.instanceMethod yX6_sumOf, Cond.selects RX6 yX6_sumOf yX6_sumOf, Cond.code yX6_sumOf cX6_sumOf 4 (some .int), Cond.methodLink RX6 145 yX6_ofLadder, Cond.instanceMethod yX6_ofLadder, Cond.selects RX6 yX6_ofLadder yX6_ofLadder, Cond.code yX6_ofLadder cX6_ofLadder 3 (some .int), Cond.methodLink RX6 52 yX6_loadOf, Cond.instanceMethod yX6_loadOf, Cond.selects RX6 yX6_loadOf yX6_loadOf, Cond.code yX6_loadOf cX6_loadOf 4 (some .int)]
def wsX6_digest_r2 : List Cond := [Cond.methodLink RX6 19 yX6_of, Cond.static yX6_of, Cond.code yX6_of cX6_of 2 (some .int), Cond.methodLink RX6 38 yX6_ofPerson, Cond.static yX6_ofPerson, Cond.code yX6_ofPerson cX6_ofPerson 3 (some .int), Cond.methodLink RX6 42 yX6_momentOf, Cond.instanceMethod yX6_momentOf, Cond.selects RX6 yX6_momentOf yX6_momentOf, Cond.code yX6_momentOf cX6_momentOf 4 (some .int), Cond.methodLink RX6 74 yX6_stands, Cond.instanceMethod yX6_stands, Cond.selects RX6 yX6_stands yX6_stands, Cond.code yX6_stands cX6_stands 2 (some .boolean), Cond.methodLink RX6 71 yX6_forces, Cond.instanceMethod yX6_forces, Cond.selects RX6 yX6_forces yX6_forces, Cond.code yX6_forces cX6_forces 7 (some .int), Cond.fieldLink RX6 55 "LadderClimbModel" "heldMany" "I", Cond.fieldLink RX6 58 "LadderClimbModel" "least" "I", Cond.fieldLink RX6 61 "LadderClimbModel" "greatest" "I", Cond.fieldLink RX6 64 "LadderClimbModel" "nearest" "I", Cond.methodLink RX6 67 yX6_lacks, Cond.instanceMethod yX6_lacks]
def wsX6_digest_r3 : List Cond := [Cond.selects RX6 yX6_lacks yX6_lacks, Cond.code yX6_lacks cX6_lacks 10 (some .int), Cond.methodLink RX6 46 yX6_wallOf, Cond.static yX6_wallOf, Cond.code yX6_wallOf cX6_wallOf 1 (some .int), Cond.methodLink RX6 49 yX6_groundOf, Cond.static yX6_groundOf, Cond.code yX6_groundOf cX6_groundOf 1 (some .int), Cond.methodLink RX6 196 yX6_digestOne, Cond.instanceMethod yX6_digestOne, Cond.selects RX6 yX6_digestOne yX6_digestOne, Cond.code yX6_digestOne cX6_digestOne 3 none, Cond.constantLong RX6 190 (31), Cond.methodLink RX6 202 yX6_digestLadder, Cond.instanceMethod yX6_digestLadder, Cond.selects RX6 yX6_digestLadder yX6_digestLadder, Cond.code yX6_digestLadder cX6_digestLadder 3 none, Cond.methodLink RX6 151 yX6_ofForce, Cond.instanceMethod yX6_ofForce, Cond.selects RX6 yX6_ofForce yX6_ofForce, Cond.code yX6_ofForce cX6_ofForce 4 (some .int), Cond.methodLink RX6 148 yX6_pushOf, Cond.instanceMethod yX6_pushOf, Cond.selects RX6 yX6_pushOf yX6_pushOf]
def wsX6_digest_r4 : List Cond := [Cond.code yX6_pushOf cX6_pushOf 3 (some .int), Cond.methodLink RX6 163 yX6_highestOf, Cond.instanceMethod yX6_highestOf, Cond.selects RX6 yX6_highestOf yX6_highestOf, Cond.code yX6_highestOf cX6_highestOf 7 (some .int), Cond.methodLink RX6 166 yX6_ropeFor, Cond.instanceMethod yX6_ropeFor, Cond.selects RX6 yX6_ropeFor yX6_ropeFor, Cond.code yX6_ropeFor cX6_ropeFor 4 (some .int), Cond.methodLink RX6 169 yX6_baseFor, Cond.instanceMethod yX6_baseFor, Cond.selects RX6 yX6_baseFor yX6_baseFor, Cond.code yX6_baseFor cX6_baseFor 7 (some .int), Cond.methodLink RX6 172 yX6_riskiestOf, Cond.instanceMethod yX6_riskiestOf, Cond.selects RX6 yX6_riskiestOf yX6_riskiestOf, Cond.code yX6_riskiestOf cX6_riskiestOf 7 (some .int), Cond.methodLink RX6 175 yX6_wallsFor, Cond.instanceMethod yX6_wallsFor, Cond.selects RX6 yX6_wallsFor yX6_wallsFor, Cond.code yX6_wallsFor cX6_wallsFor 5 (some .int), Cond.methodLink RX6 154 yX6_lacking, Cond.instanceMethod yX6_lacking, Cond.selects RX6 yX6_lacking yX6_lacking]
def wsX6_digest_r5 : List Cond := [Cond.code yX6_lacking cX6_lacking 3 (some .int), Cond.methodLink RX6 178 yX6_share, Cond.instanceMethod yX6_share, Cond.selects RX6 yX6_share yX6_share, Cond.code yX6_share cX6_share 2 (some .double), Cond.methodLink RX6 206 yX6_bitsOf, Cond.static yX6_bitsOf, Cond.code yX6_bitsOf cX6_bitsOf 6 (some .long), Cond.constantLong RX6 182 (1023), Cond.constantDouble RX6 184 (4611686018427387904), Cond.constantLong RX6 186 (4503599627370496), Cond.constantDouble RX6 188 (4841369599423283200)]
def wsX6_digest : List Cond := .code yX6_digest cX6_digest 2 (some .long) :: ((wsX6_digest_r1 ++ (wsX6_digest_r2 ++ (wsX6_digest_r3 ++ (wsX6_digest_r4 ++ wsX6_digest_r5)))) ++ wsX60)
def wsJ9_abs_0f7a4 : List Cond := .code yJ9_abs_0f7a4 cJ9_abs_0f7a4 1 (some .int) :: ([])
def wsJ9_max_7cf53 : List Cond := .code yJ9_max_7cf53 cJ9_max_7cf53 2 (some .int) :: ([])
def wsJ9_min_7cf53 : List Cond := .code yJ9_min_7cf53 cJ9_min_7cf53 2 (some .int) :: ([])
def wsL_put_r1 : List Cond := [Cond.classLink RL 13 "java/lang/IndexOutOfBoundsException", Cond.classLink RL 15 "java/lang/IllegalArgumentException", Cond.methodLink RL 7 yX5_put, Cond.instanceMethod yX5_put, Cond.selects RX5 yX5_put yX5_put, Cond.initialized RX5, Cond.code yX5_put cX5_put 6 (some .int), Cond.fieldLink RX5 19 "LadderClimb" "history" "LLadderClimb$History;", Cond.fieldLink RX5 10 "LadderClimb" "site" "LLadderClimb$Site;", Cond.fieldLink RX5 49 "LadderClimb$Rig" "base" "I", Cond.fieldLink RX5 53 "LadderClimb$Rig" "height" "I", Cond.fieldLink RX5 56 "LadderClimb$Rig" "weight" "I", Cond.methodLink RX5 37 yX5_rigOf, Cond.instanceMethod yX5_rigOf, Cond.selects RX5 yX5_rigOf yX5_rigOf, Cond.code yX5_rigOf cX5_rigOf 2 (some (.object "LadderClimb$Rig")), Cond.classLink RX5 280 "java/lang/IndexOutOfBoundsException", Cond.initialized "java/lang/IndexOutOfBoundsException", Cond.fieldLink RX5 285 "LadderClimb$Site" "rigs" "[LLadderClimb$Rig;", Cond.methodLink RX5 41 yX5_demandRange, Cond.static yX5_demandRange, Cond.code yX5_demandRange cX5_demandRange 3 none, Cond.classLink RX5 118 "java/lang/IllegalArgumentException", Cond.initialized "java/lang/IllegalArgumentException"]
def wsL_put_r2 : List Cond := [Cond.methodLink RX5 45 yX0_save, Cond.instanceMethod yX0_save, Cond.selects RX0 yX0_save yX0_save, Cond.initialized RX0, Cond.code yX0_save cX0_save 2 none, Cond.fieldLink RX0 17 "LadderClimb$History" "next" "I", Cond.fieldLink RX0 11 "LadderClimb$History" "saved" "[LLadderClimb$Site;", Cond.fieldLink RX0 21 "LadderClimb$History" "size" "I", Cond.methodLink RX0 29 Lib.Math.min.name, Cond.static Lib.Math.min.name, Cond.initialized "java/lang/Math", Cond.code Lib.Math.min.name Lib.Math.min.code 2 (some .int), Cond.methodLink RX0 25 yX3_copyFrom, Cond.instanceMethod yX3_copyFrom, Cond.selects RX3 yX3_copyFrom yX3_copyFrom, Cond.initialized RX3, Cond.code yX3_copyFrom cX3_copyFrom 3 none, Cond.fieldLink RX3 11 "LadderClimb$Site" "rigs" "[LLadderClimb$Rig;", Cond.fieldLink RX3 17 "LadderClimb$Site" "fallen" "I", Cond.fieldLink RX3 21 "LadderClimb$Site" "climbed" "I", Cond.methodLink RX3 25 yX2_copyFrom, Cond.instanceMethod yX2_copyFrom, Cond.selects RX2 yX2_copyFrom yX2_copyFrom, Cond.initialized RX2]
def wsL_put_r3 : List Cond := [Cond.code yX2_copyFrom cX2_copyFrom 3 none, Cond.fieldLink RX2 9 "LadderClimb$Rig" "base" "I", Cond.fieldLink RX2 15 "LadderClimb$Rig" "height" "I", Cond.fieldLink RX2 18 "LadderClimb$Rig" "weight" "I", Cond.fieldLink RX2 21 "LadderClimb$Rig" "ground" "I", Cond.fieldLink RX2 24 "LadderClimb$Rig" "wall" "I", Cond.fieldLink RX2 27 "LadderClimb$Rig" "rope" "I", Cond.fieldLink RX2 30 "LadderClimb$Rig" "falls" "I", Cond.fieldLink RX2 33 "LadderClimb$Rig" "people" "I", Cond.fieldLink RX2 36 "LadderClimb$Rig" "weights" "[I", Cond.fieldLink RX2 40 "LadderClimb$Rig" "steps" "[I", Cond.methodLink RX5 59 yX3_fallsNow, Cond.instanceMethod yX3_fallsNow, Cond.selects RX3 yX3_fallsNow yX3_fallsNow, Cond.code yX3_fallsNow cX3_fallsNow 2 (some .boolean), Cond.fieldLink RX3 33 "LadderClimb$Rig" "people" "I", Cond.methodLink RX3 29 yX2_stands, Cond.instanceMethod yX2_stands, Cond.selects RX2 yX2_stands yX2_stands, Cond.code yX2_stands cX2_stands 1 (some .boolean), Cond.methodLink RX2 69 yX2_leastForce, Cond.instanceMethod yX2_leastForce, Cond.selects RX2 yX2_leastForce yX2_leastForce, Cond.code yX2_leastForce cX2_leastForce 1 (some .int)]
def wsL_put_r4 : List Cond := [Cond.methodLink RX2 75 Lib.Math.max.name, Cond.static Lib.Math.max.name, Cond.code Lib.Math.max.name Lib.Math.max.code 2 (some .int), Cond.methodLink RX2 82 yX2_leastByWall, Cond.instanceMethod yX2_leastByWall, Cond.selects RX2 yX2_leastByWall yX2_leastByWall, Cond.code yX2_leastByWall cX2_leastByWall 3 (some .int), Cond.methodLink RX2 63 yX2_wallPercents, Cond.instanceMethod yX2_wallPercents, Cond.selects RX2 yX2_wallPercents yX2_wallPercents, Cond.code yX2_wallPercents cX2_wallPercents 1 (some .int), Cond.methodLink RX2 47 yX2_moment, Cond.instanceMethod yX2_moment, Cond.selects RX2 yX2_moment yX2_moment, Cond.code yX2_moment cX2_moment 3 (some .int), Cond.methodLink RX2 88 yJ9_floorDiv_7cf53, Cond.static yJ9_floorDiv_7cf53, Cond.initialized RJ9, Cond.code yJ9_floorDiv_7cf53 cJ9_floorDiv_7cf53 3 (some .int), Cond.methodLink RX2 85 yX2_leastByGround, Cond.instanceMethod yX2_leastByGround, Cond.selects RX2 yX2_leastByGround yX2_leastByGround, Cond.code yX2_leastByGround cX2_leastByGround 3 (some .int), Cond.methodLink RX2 66 yX2_groundPercents]
def wsL_put_r5 : List Cond := [Cond.instanceMethod yX2_groundPercents, Cond.selects RX2 yX2_groundPercents yX2_groundPercents, Cond.code yX2_groundPercents cX2_groundPercents 1 (some .int), Cond.methodLink RX2 55 yX2_load, Cond.instanceMethod yX2_load, Cond.selects RX2 yX2_load yX2_load, Cond.code yX2_load cX2_load 3 (some .int), Cond.methodLink RX2 72 yX2_greatestForce, Cond.instanceMethod yX2_greatestForce, Cond.selects RX2 yX2_greatestForce yX2_greatestForce, Cond.code yX2_greatestForce cX2_greatestForce 3 (some .int), Cond.methodLink RX3 39 yX3_fall, Cond.instanceMethod yX3_fall, Cond.selects RX3 yX3_fall yX3_fall, Cond.code yX3_fall cX3_fall 2 none, Cond.fieldLink RX3 36 "LadderClimb$Rig" "falls" "I", Cond.methodLink RX3 42 yX2_removeAll, Cond.instanceMethod yX2_removeAll, Cond.selects RX2 yX2_removeAll yX2_removeAll, Cond.code yX2_removeAll cX2_removeAll 2 none]
def wsL_put : List Cond := .codeWith yL_put cL_put 7 (some .int) [(0, 14, 17, 13), (0, 14, 21, 15)] :: ((wsL_put_r1 ++ (wsL_put_r2 ++ (wsL_put_r3 ++ (wsL_put_r4 ++ wsL_put_r5)))) ++ wsX50 ++ wsX20 ++ wsX30 ++ wsX00 ++ (vx_atS RX5 284 "java/lang/IndexOutOfBoundsException" ["java/lang/RuntimeException", "java/lang/Exception"]).filter goodWord ++ (vx_atS RX5 122 "java/lang/IllegalArgumentException" ["java/lang/RuntimeException", "java/lang/Exception"]).filter goodWord)
def wsL_kinds_r1 : List Cond := [Cond.classLink RL 13 "java/lang/IndexOutOfBoundsException", Cond.classLink RL 15 "java/lang/IllegalArgumentException", Cond.methodLink RL 17 yX5_kinds, Cond.instanceMethod yX5_kinds, Cond.selects RX5 yX5_kinds yX5_kinds, Cond.initialized RX5, Cond.code yX5_kinds cX5_kinds 5 (some .int), Cond.fieldLink RX5 19 "LadderClimb" "history" "LLadderClimb$History;", Cond.fieldLink RX5 10 "LadderClimb" "site" "LLadderClimb$Site;", Cond.fieldLink RX5 63 "LadderClimb$Rig" "ground" "I", Cond.fieldLink RX5 66 "LadderClimb$Rig" "wall" "I", Cond.methodLink RX5 37 yX5_rigOf, Cond.instanceMethod yX5_rigOf, Cond.selects RX5 yX5_rigOf yX5_rigOf, Cond.code yX5_rigOf cX5_rigOf 2 (some (.object "LadderClimb$Rig")), Cond.classLink RX5 280 "java/lang/IndexOutOfBoundsException", Cond.initialized "java/lang/IndexOutOfBoundsException", Cond.fieldLink RX5 285 "LadderClimb$Site" "rigs" "[LLadderClimb$Rig;", Cond.methodLink RX5 41 yX5_demandRange, Cond.static yX5_demandRange, Cond.code yX5_demandRange cX5_demandRange 3 none, Cond.classLink RX5 118 "java/lang/IllegalArgumentException", Cond.initialized "java/lang/IllegalArgumentException", Cond.methodLink RX5 45 yX0_save]
def wsL_kinds_r2 : List Cond := [Cond.instanceMethod yX0_save, Cond.selects RX0 yX0_save yX0_save, Cond.initialized RX0, Cond.code yX0_save cX0_save 2 none, Cond.fieldLink RX0 17 "LadderClimb$History" "next" "I", Cond.fieldLink RX0 11 "LadderClimb$History" "saved" "[LLadderClimb$Site;", Cond.fieldLink RX0 21 "LadderClimb$History" "size" "I", Cond.methodLink RX0 29 Lib.Math.min.name, Cond.static Lib.Math.min.name, Cond.initialized "java/lang/Math", Cond.code Lib.Math.min.name Lib.Math.min.code 2 (some .int), Cond.methodLink RX0 25 yX3_copyFrom, Cond.instanceMethod yX3_copyFrom, Cond.selects RX3 yX3_copyFrom yX3_copyFrom, Cond.initialized RX3, Cond.code yX3_copyFrom cX3_copyFrom 3 none, Cond.fieldLink RX3 11 "LadderClimb$Site" "rigs" "[LLadderClimb$Rig;", Cond.fieldLink RX3 17 "LadderClimb$Site" "fallen" "I", Cond.fieldLink RX3 21 "LadderClimb$Site" "climbed" "I", Cond.methodLink RX3 25 yX2_copyFrom, Cond.instanceMethod yX2_copyFrom, Cond.selects RX2 yX2_copyFrom yX2_copyFrom, Cond.initialized RX2, Cond.code yX2_copyFrom cX2_copyFrom 3 none]
def wsL_kinds_r3 : List Cond := [Cond.fieldLink RX2 9 "LadderClimb$Rig" "base" "I", Cond.fieldLink RX2 15 "LadderClimb$Rig" "height" "I", Cond.fieldLink RX2 18 "LadderClimb$Rig" "weight" "I", Cond.fieldLink RX2 21 "LadderClimb$Rig" "ground" "I", Cond.fieldLink RX2 24 "LadderClimb$Rig" "wall" "I", Cond.fieldLink RX2 27 "LadderClimb$Rig" "rope" "I", Cond.fieldLink RX2 30 "LadderClimb$Rig" "falls" "I", Cond.fieldLink RX2 33 "LadderClimb$Rig" "people" "I", Cond.fieldLink RX2 36 "LadderClimb$Rig" "weights" "[I", Cond.fieldLink RX2 40 "LadderClimb$Rig" "steps" "[I", Cond.methodLink RX5 59 yX3_fallsNow, Cond.instanceMethod yX3_fallsNow, Cond.selects RX3 yX3_fallsNow yX3_fallsNow, Cond.code yX3_fallsNow cX3_fallsNow 2 (some .boolean), Cond.fieldLink RX3 33 "LadderClimb$Rig" "people" "I", Cond.methodLink RX3 29 yX2_stands, Cond.instanceMethod yX2_stands, Cond.selects RX2 yX2_stands yX2_stands, Cond.code yX2_stands cX2_stands 1 (some .boolean), Cond.methodLink RX2 69 yX2_leastForce, Cond.instanceMethod yX2_leastForce, Cond.selects RX2 yX2_leastForce yX2_leastForce, Cond.code yX2_leastForce cX2_leastForce 1 (some .int), Cond.methodLink RX2 75 Lib.Math.max.name]
def wsL_kinds_r4 : List Cond := [Cond.static Lib.Math.max.name, Cond.code Lib.Math.max.name Lib.Math.max.code 2 (some .int), Cond.methodLink RX2 82 yX2_leastByWall, Cond.instanceMethod yX2_leastByWall, Cond.selects RX2 yX2_leastByWall yX2_leastByWall, Cond.code yX2_leastByWall cX2_leastByWall 3 (some .int), Cond.methodLink RX2 63 yX2_wallPercents, Cond.instanceMethod yX2_wallPercents, Cond.selects RX2 yX2_wallPercents yX2_wallPercents, Cond.code yX2_wallPercents cX2_wallPercents 1 (some .int), Cond.methodLink RX2 47 yX2_moment, Cond.instanceMethod yX2_moment, Cond.selects RX2 yX2_moment yX2_moment, Cond.code yX2_moment cX2_moment 3 (some .int), Cond.methodLink RX2 88 yJ9_floorDiv_7cf53, Cond.static yJ9_floorDiv_7cf53, Cond.initialized RJ9, Cond.code yJ9_floorDiv_7cf53 cJ9_floorDiv_7cf53 3 (some .int), Cond.methodLink RX2 85 yX2_leastByGround, Cond.instanceMethod yX2_leastByGround, Cond.selects RX2 yX2_leastByGround yX2_leastByGround, Cond.code yX2_leastByGround cX2_leastByGround 3 (some .int), Cond.methodLink RX2 66 yX2_groundPercents, Cond.instanceMethod yX2_groundPercents]
def wsL_kinds_r5 : List Cond := [Cond.selects RX2 yX2_groundPercents yX2_groundPercents, Cond.code yX2_groundPercents cX2_groundPercents 1 (some .int), Cond.methodLink RX2 55 yX2_load, Cond.instanceMethod yX2_load, Cond.selects RX2 yX2_load yX2_load, Cond.code yX2_load cX2_load 3 (some .int), Cond.methodLink RX2 72 yX2_greatestForce, Cond.instanceMethod yX2_greatestForce, Cond.selects RX2 yX2_greatestForce yX2_greatestForce, Cond.code yX2_greatestForce cX2_greatestForce 3 (some .int), Cond.methodLink RX3 39 yX3_fall, Cond.instanceMethod yX3_fall, Cond.selects RX3 yX3_fall yX3_fall, Cond.code yX3_fall cX3_fall 2 none, Cond.fieldLink RX3 36 "LadderClimb$Rig" "falls" "I", Cond.methodLink RX3 42 yX2_removeAll, Cond.instanceMethod yX2_removeAll, Cond.selects RX2 yX2_removeAll yX2_removeAll, Cond.code yX2_removeAll cX2_removeAll 2 none]
def wsL_kinds : List Cond := .codeWith yL_kinds cL_kinds 6 (some .int) [(0, 12, 15, 13), (0, 12, 19, 15)] :: ((wsL_kinds_r1 ++ (wsL_kinds_r2 ++ (wsL_kinds_r3 ++ (wsL_kinds_r4 ++ wsL_kinds_r5)))) ++ wsX50 ++ wsX20 ++ wsX30 ++ wsX00 ++ (vx_atS RX5 284 "java/lang/IndexOutOfBoundsException" ["java/lang/RuntimeException", "java/lang/Exception"]).filter goodWord ++ (vx_atS RX5 122 "java/lang/IllegalArgumentException" ["java/lang/RuntimeException", "java/lang/Exception"]).filter goodWord)
def wsL_rope_r1 : List Cond := [Cond.classLink RL 13 "java/lang/IndexOutOfBoundsException", Cond.classLink RL 15 "java/lang/IllegalArgumentException", Cond.methodLink RL 21 yX5_rope, Cond.instanceMethod yX5_rope, Cond.selects RX5 yX5_rope yX5_rope, Cond.initialized RX5, Cond.code yX5_rope cX5_rope 4 (some .int), Cond.fieldLink RX5 19 "LadderClimb" "history" "LLadderClimb$History;", Cond.fieldLink RX5 10 "LadderClimb" "site" "LLadderClimb$Site;", Cond.fieldLink RX5 69 "LadderClimb$Rig" "rope" "I", Cond.methodLink RX5 37 yX5_rigOf, Cond.instanceMethod yX5_rigOf, Cond.selects RX5 yX5_rigOf yX5_rigOf, Cond.code yX5_rigOf cX5_rigOf 2 (some (.object "LadderClimb$Rig")), Cond.classLink RX5 280 "java/lang/IndexOutOfBoundsException", Cond.initialized "java/lang/IndexOutOfBoundsException", Cond.fieldLink RX5 285 "LadderClimb$Site" "rigs" "[LLadderClimb$Rig;", Cond.methodLink RX5 41 yX5_demandRange, Cond.static yX5_demandRange, Cond.code yX5_demandRange cX5_demandRange 3 none, Cond.classLink RX5 118 "java/lang/IllegalArgumentException", Cond.initialized "java/lang/IllegalArgumentException", Cond.methodLink RX5 45 yX0_save, Cond.instanceMethod yX0_save]
def wsL_rope_r2 : List Cond := [Cond.selects RX0 yX0_save yX0_save, Cond.initialized RX0, Cond.code yX0_save cX0_save 2 none, Cond.fieldLink RX0 17 "LadderClimb$History" "next" "I", Cond.fieldLink RX0 11 "LadderClimb$History" "saved" "[LLadderClimb$Site;", Cond.fieldLink RX0 21 "LadderClimb$History" "size" "I", Cond.methodLink RX0 29 Lib.Math.min.name, Cond.static Lib.Math.min.name, Cond.initialized "java/lang/Math", Cond.code Lib.Math.min.name Lib.Math.min.code 2 (some .int), Cond.methodLink RX0 25 yX3_copyFrom, Cond.instanceMethod yX3_copyFrom, Cond.selects RX3 yX3_copyFrom yX3_copyFrom, Cond.initialized RX3, Cond.code yX3_copyFrom cX3_copyFrom 3 none, Cond.fieldLink RX3 11 "LadderClimb$Site" "rigs" "[LLadderClimb$Rig;", Cond.fieldLink RX3 17 "LadderClimb$Site" "fallen" "I", Cond.fieldLink RX3 21 "LadderClimb$Site" "climbed" "I", Cond.methodLink RX3 25 yX2_copyFrom, Cond.instanceMethod yX2_copyFrom, Cond.selects RX2 yX2_copyFrom yX2_copyFrom, Cond.initialized RX2, Cond.code yX2_copyFrom cX2_copyFrom 3 none, Cond.fieldLink RX2 9 "LadderClimb$Rig" "base" "I"]
def wsL_rope_r3 : List Cond := [Cond.fieldLink RX2 15 "LadderClimb$Rig" "height" "I", Cond.fieldLink RX2 18 "LadderClimb$Rig" "weight" "I", Cond.fieldLink RX2 21 "LadderClimb$Rig" "ground" "I", Cond.fieldLink RX2 24 "LadderClimb$Rig" "wall" "I", Cond.fieldLink RX2 27 "LadderClimb$Rig" "rope" "I", Cond.fieldLink RX2 30 "LadderClimb$Rig" "falls" "I", Cond.fieldLink RX2 33 "LadderClimb$Rig" "people" "I", Cond.fieldLink RX2 36 "LadderClimb$Rig" "weights" "[I", Cond.fieldLink RX2 40 "LadderClimb$Rig" "steps" "[I", Cond.methodLink RX5 59 yX3_fallsNow, Cond.instanceMethod yX3_fallsNow, Cond.selects RX3 yX3_fallsNow yX3_fallsNow, Cond.code yX3_fallsNow cX3_fallsNow 2 (some .boolean), Cond.fieldLink RX3 33 "LadderClimb$Rig" "people" "I", Cond.methodLink RX3 29 yX2_stands, Cond.instanceMethod yX2_stands, Cond.selects RX2 yX2_stands yX2_stands, Cond.code yX2_stands cX2_stands 1 (some .boolean), Cond.methodLink RX2 69 yX2_leastForce, Cond.instanceMethod yX2_leastForce, Cond.selects RX2 yX2_leastForce yX2_leastForce, Cond.code yX2_leastForce cX2_leastForce 1 (some .int), Cond.methodLink RX2 75 Lib.Math.max.name, Cond.static Lib.Math.max.name]
def wsL_rope_r4 : List Cond := [Cond.code Lib.Math.max.name Lib.Math.max.code 2 (some .int), Cond.methodLink RX2 82 yX2_leastByWall, Cond.instanceMethod yX2_leastByWall, Cond.selects RX2 yX2_leastByWall yX2_leastByWall, Cond.code yX2_leastByWall cX2_leastByWall 3 (some .int), Cond.methodLink RX2 63 yX2_wallPercents, Cond.instanceMethod yX2_wallPercents, Cond.selects RX2 yX2_wallPercents yX2_wallPercents, Cond.code yX2_wallPercents cX2_wallPercents 1 (some .int), Cond.methodLink RX2 47 yX2_moment, Cond.instanceMethod yX2_moment, Cond.selects RX2 yX2_moment yX2_moment, Cond.code yX2_moment cX2_moment 3 (some .int), Cond.methodLink RX2 88 yJ9_floorDiv_7cf53, Cond.static yJ9_floorDiv_7cf53, Cond.initialized RJ9, Cond.code yJ9_floorDiv_7cf53 cJ9_floorDiv_7cf53 3 (some .int), Cond.methodLink RX2 85 yX2_leastByGround, Cond.instanceMethod yX2_leastByGround, Cond.selects RX2 yX2_leastByGround yX2_leastByGround, Cond.code yX2_leastByGround cX2_leastByGround 3 (some .int), Cond.methodLink RX2 66 yX2_groundPercents, Cond.instanceMethod yX2_groundPercents, Cond.selects RX2 yX2_groundPercents yX2_groundPercents]
def wsL_rope_r5 : List Cond := [Cond.code yX2_groundPercents cX2_groundPercents 1 (some .int), Cond.methodLink RX2 55 yX2_load, Cond.instanceMethod yX2_load, Cond.selects RX2 yX2_load yX2_load, Cond.code yX2_load cX2_load 3 (some .int), Cond.methodLink RX2 72 yX2_greatestForce, Cond.instanceMethod yX2_greatestForce, Cond.selects RX2 yX2_greatestForce yX2_greatestForce, Cond.code yX2_greatestForce cX2_greatestForce 3 (some .int), Cond.methodLink RX3 39 yX3_fall, Cond.instanceMethod yX3_fall, Cond.selects RX3 yX3_fall yX3_fall, Cond.code yX3_fall cX3_fall 2 none, Cond.fieldLink RX3 36 "LadderClimb$Rig" "falls" "I", Cond.methodLink RX3 42 yX2_removeAll, Cond.instanceMethod yX2_removeAll, Cond.selects RX2 yX2_removeAll yX2_removeAll, Cond.code yX2_removeAll cX2_removeAll 2 none]
def wsL_rope : List Cond := .codeWith yL_rope cL_rope 5 (some .int) [(0, 10, 13, 13), (0, 10, 17, 15)] :: ((wsL_rope_r1 ++ (wsL_rope_r2 ++ (wsL_rope_r3 ++ (wsL_rope_r4 ++ wsL_rope_r5)))) ++ wsX50 ++ wsX20 ++ wsX30 ++ wsX00 ++ (vx_atS RX5 284 "java/lang/IndexOutOfBoundsException" ["java/lang/RuntimeException", "java/lang/Exception"]).filter goodWord ++ (vx_atS RX5 122 "java/lang/IllegalArgumentException" ["java/lang/RuntimeException", "java/lang/Exception"]).filter goodWord)
def wsL_on_r1 : List Cond := [Cond.classLink RL 13 "java/lang/IndexOutOfBoundsException", Cond.classLink RL 15 "java/lang/IllegalArgumentException", Cond.classLink RL 28 "java/lang/IllegalStateException", Cond.methodLink RL 25 yX5_on, Cond.instanceMethod yX5_on, Cond.selects RX5 yX5_on yX5_on, Cond.initialized RX5, Cond.code yX5_on cX5_on 4 (some .int), Cond.classLink RX5 76 "java/lang/IllegalStateException", Cond.initialized "java/lang/IllegalStateException", Cond.fieldLink RX5 19 "LadderClimb" "history" "LLadderClimb$History;", Cond.fieldLink RX5 10 "LadderClimb" "site" "LLadderClimb$Site;", Cond.fieldLink RX5 87 "LadderClimb$Rig" "people" "I", Cond.methodLink RX5 37 yX5_rigOf, Cond.instanceMethod yX5_rigOf, Cond.selects RX5 yX5_rigOf yX5_rigOf, Cond.code yX5_rigOf cX5_rigOf 2 (some (.object "LadderClimb$Rig")), Cond.classLink RX5 280 "java/lang/IndexOutOfBoundsException", Cond.initialized "java/lang/IndexOutOfBoundsException", Cond.fieldLink RX5 285 "LadderClimb$Site" "rigs" "[LLadderClimb$Rig;", Cond.methodLink RX5 41 yX5_demandRange, Cond.static yX5_demandRange, Cond.code yX5_demandRange cX5_demandRange 3 none, Cond.classLink RX5 118 "java/lang/IllegalArgumentException"]
def wsL_on_r2 : List Cond := [Cond.initialized "java/lang/IllegalArgumentException", Cond.methodLink RX5 72 yX2_isFull, Cond.instanceMethod yX2_isFull, Cond.selects RX2 yX2_isFull yX2_isFull, Cond.initialized RX2, Cond.code yX2_isFull cX2_isFull 1 (some .boolean), Cond.fieldLink RX2 33 "LadderClimb$Rig" "people" "I", Cond.methodLink RX5 45 yX0_save, Cond.instanceMethod yX0_save, Cond.selects RX0 yX0_save yX0_save, Cond.initialized RX0, Cond.code yX0_save cX0_save 2 none, Cond.fieldLink RX0 17 "LadderClimb$History" "next" "I", Cond.fieldLink RX0 11 "LadderClimb$History" "saved" "[LLadderClimb$Site;", Cond.fieldLink RX0 21 "LadderClimb$History" "size" "I", Cond.methodLink RX0 29 Lib.Math.min.name, Cond.static Lib.Math.min.name, Cond.initialized "java/lang/Math", Cond.code Lib.Math.min.name Lib.Math.min.code 2 (some .int), Cond.methodLink RX0 25 yX3_copyFrom, Cond.instanceMethod yX3_copyFrom, Cond.selects RX3 yX3_copyFrom yX3_copyFrom, Cond.initialized RX3, Cond.code yX3_copyFrom cX3_copyFrom 3 none]
def wsL_on_r3 : List Cond := [Cond.fieldLink RX3 11 "LadderClimb$Site" "rigs" "[LLadderClimb$Rig;", Cond.fieldLink RX3 17 "LadderClimb$Site" "fallen" "I", Cond.fieldLink RX3 21 "LadderClimb$Site" "climbed" "I", Cond.methodLink RX3 25 yX2_copyFrom, Cond.instanceMethod yX2_copyFrom, Cond.selects RX2 yX2_copyFrom yX2_copyFrom, Cond.code yX2_copyFrom cX2_copyFrom 3 none, Cond.fieldLink RX2 9 "LadderClimb$Rig" "base" "I", Cond.fieldLink RX2 15 "LadderClimb$Rig" "height" "I", Cond.fieldLink RX2 18 "LadderClimb$Rig" "weight" "I", Cond.fieldLink RX2 21 "LadderClimb$Rig" "ground" "I", Cond.fieldLink RX2 24 "LadderClimb$Rig" "wall" "I", Cond.fieldLink RX2 27 "LadderClimb$Rig" "rope" "I", Cond.fieldLink RX2 30 "LadderClimb$Rig" "falls" "I", Cond.fieldLink RX2 36 "LadderClimb$Rig" "weights" "[I", Cond.fieldLink RX2 40 "LadderClimb$Rig" "steps" "[I", Cond.methodLink RX5 83 yX2_add, Cond.instanceMethod yX2_add, Cond.selects RX2 yX2_add yX2_add, Cond.code yX2_add cX2_add 2 none, Cond.methodLink RX5 59 yX3_fallsNow, Cond.instanceMethod yX3_fallsNow, Cond.selects RX3 yX3_fallsNow yX3_fallsNow, Cond.code yX3_fallsNow cX3_fallsNow 2 (some .boolean)]
def wsL_on_r4 : List Cond := [Cond.fieldLink RX3 33 "LadderClimb$Rig" "people" "I", Cond.methodLink RX3 29 yX2_stands, Cond.instanceMethod yX2_stands, Cond.selects RX2 yX2_stands yX2_stands, Cond.code yX2_stands cX2_stands 1 (some .boolean), Cond.methodLink RX2 69 yX2_leastForce, Cond.instanceMethod yX2_leastForce, Cond.selects RX2 yX2_leastForce yX2_leastForce, Cond.code yX2_leastForce cX2_leastForce 1 (some .int), Cond.methodLink RX2 75 Lib.Math.max.name, Cond.static Lib.Math.max.name, Cond.code Lib.Math.max.name Lib.Math.max.code 2 (some .int), Cond.methodLink RX2 82 yX2_leastByWall, Cond.instanceMethod yX2_leastByWall, Cond.selects RX2 yX2_leastByWall yX2_leastByWall, Cond.code yX2_leastByWall cX2_leastByWall 3 (some .int), Cond.methodLink RX2 63 yX2_wallPercents, Cond.instanceMethod yX2_wallPercents, Cond.selects RX2 yX2_wallPercents yX2_wallPercents, Cond.code yX2_wallPercents cX2_wallPercents 1 (some .int), Cond.methodLink RX2 47 yX2_moment, Cond.instanceMethod yX2_moment, Cond.selects RX2 yX2_moment yX2_moment, Cond.code yX2_moment cX2_moment 3 (some .int)]
def wsL_on_r5 : List Cond := [Cond.methodLink RX2 88 yJ9_floorDiv_7cf53, Cond.static yJ9_floorDiv_7cf53, Cond.initialized RJ9, Cond.code yJ9_floorDiv_7cf53 cJ9_floorDiv_7cf53 3 (some .int), Cond.methodLink RX2 85 yX2_leastByGround, Cond.instanceMethod yX2_leastByGround, Cond.selects RX2 yX2_leastByGround yX2_leastByGround, Cond.code yX2_leastByGround cX2_leastByGround 3 (some .int), Cond.methodLink RX2 66 yX2_groundPercents, Cond.instanceMethod yX2_groundPercents, Cond.selects RX2 yX2_groundPercents yX2_groundPercents, Cond.code yX2_groundPercents cX2_groundPercents 1 (some .int), Cond.methodLink RX2 55 yX2_load, Cond.instanceMethod yX2_load, Cond.selects RX2 yX2_load yX2_load, Cond.code yX2_load cX2_load 3 (some .int), Cond.methodLink RX2 72 yX2_greatestForce, Cond.instanceMethod yX2_greatestForce, Cond.selects RX2 yX2_greatestForce yX2_greatestForce, Cond.code yX2_greatestForce cX2_greatestForce 3 (some .int), Cond.methodLink RX3 39 yX3_fall, Cond.instanceMethod yX3_fall, Cond.selects RX3 yX3_fall yX3_fall, Cond.code yX3_fall cX3_fall 2 none]
def wsL_on_r6 : List Cond := [Cond.fieldLink RX3 36 "LadderClimb$Rig" "falls" "I", Cond.methodLink RX3 42 yX2_removeAll, Cond.instanceMethod yX2_removeAll, Cond.selects RX2 yX2_removeAll yX2_removeAll, Cond.code yX2_removeAll cX2_removeAll 2 none]
def wsL_on : List Cond := .codeWith yL_on cL_on 5 (some .int) [(0, 10, 13, 13), (0, 10, 17, 15), (0, 10, 21, 28)] :: ((wsL_on_r1 ++ (wsL_on_r2 ++ (wsL_on_r3 ++ (wsL_on_r4 ++ (wsL_on_r5 ++ wsL_on_r6))))) ++ wsX50 ++ wsX20 ++ wsX30 ++ wsX00 ++ (vx_atS RX5 80 "java/lang/IllegalStateException" ["java/lang/RuntimeException", "java/lang/Exception"]).filter goodWord ++ (vx_atS RX5 284 "java/lang/IndexOutOfBoundsException" ["java/lang/RuntimeException", "java/lang/Exception"]).filter goodWord ++ (vx_atS RX5 122 "java/lang/IllegalArgumentException" ["java/lang/RuntimeException", "java/lang/Exception"]).filter goodWord)
def wsL_off_r1 : List Cond := [Cond.classLink RL 13 "java/lang/IndexOutOfBoundsException", Cond.methodLink RL 30 yX5_off, Cond.instanceMethod yX5_off, Cond.selects RX5 yX5_off yX5_off, Cond.initialized RX5, Cond.code yX5_off cX5_off 4 (some .int), Cond.fieldLink RX5 19 "LadderClimb" "history" "LLadderClimb$History;", Cond.fieldLink RX5 10 "LadderClimb" "site" "LLadderClimb$Site;", Cond.fieldLink RX5 87 "LadderClimb$Rig" "people" "I", Cond.methodLink RX5 37 yX5_rigOf, Cond.instanceMethod yX5_rigOf, Cond.selects RX5 yX5_rigOf yX5_rigOf, Cond.code yX5_rigOf cX5_rigOf 2 (some (.object "LadderClimb$Rig")), Cond.classLink RX5 280 "java/lang/IndexOutOfBoundsException", Cond.initialized "java/lang/IndexOutOfBoundsException", Cond.fieldLink RX5 285 "LadderClimb$Site" "rigs" "[LLadderClimb$Rig;", Cond.methodLink RX5 90 yX5_demandPerson, Cond.static yX5_demandPerson, Cond.code yX5_demandPerson cX5_demandPerson 2 none, Cond.methodLink RX5 289 yX2_bears, Cond.instanceMethod yX2_bears, Cond.selects RX2 yX2_bears yX2_bears, Cond.initialized RX2, Cond.code yX2_bears cX2_bears 2 (some .boolean)]
def wsL_off_r2 : List Cond := [Cond.fieldLink RX2 33 "LadderClimb$Rig" "people" "I", Cond.methodLink RX5 45 yX0_save, Cond.instanceMethod yX0_save, Cond.selects RX0 yX0_save yX0_save, Cond.initialized RX0, Cond.code yX0_save cX0_save 2 none, Cond.fieldLink RX0 17 "LadderClimb$History" "next" "I", Cond.fieldLink RX0 11 "LadderClimb$History" "saved" "[LLadderClimb$Site;", Cond.fieldLink RX0 21 "LadderClimb$History" "size" "I", Cond.methodLink RX0 29 Lib.Math.min.name, Cond.static Lib.Math.min.name, Cond.initialized "java/lang/Math", Cond.code Lib.Math.min.name Lib.Math.min.code 2 (some .int), Cond.methodLink RX0 25 yX3_copyFrom, Cond.instanceMethod yX3_copyFrom, Cond.selects RX3 yX3_copyFrom yX3_copyFrom, Cond.initialized RX3, Cond.code yX3_copyFrom cX3_copyFrom 3 none, Cond.fieldLink RX3 11 "LadderClimb$Site" "rigs" "[LLadderClimb$Rig;", Cond.fieldLink RX3 17 "LadderClimb$Site" "fallen" "I", Cond.fieldLink RX3 21 "LadderClimb$Site" "climbed" "I", Cond.methodLink RX3 25 yX2_copyFrom, Cond.instanceMethod yX2_copyFrom, Cond.selects RX2 yX2_copyFrom yX2_copyFrom]
def wsL_off_r3 : List Cond := [Cond.code yX2_copyFrom cX2_copyFrom 3 none, Cond.fieldLink RX2 9 "LadderClimb$Rig" "base" "I", Cond.fieldLink RX2 15 "LadderClimb$Rig" "height" "I", Cond.fieldLink RX2 18 "LadderClimb$Rig" "weight" "I", Cond.fieldLink RX2 21 "LadderClimb$Rig" "ground" "I", Cond.fieldLink RX2 24 "LadderClimb$Rig" "wall" "I", Cond.fieldLink RX2 27 "LadderClimb$Rig" "rope" "I", Cond.fieldLink RX2 30 "LadderClimb$Rig" "falls" "I", Cond.fieldLink RX2 36 "LadderClimb$Rig" "weights" "[I", Cond.fieldLink RX2 40 "LadderClimb$Rig" "steps" "[I", Cond.methodLink RX5 94 yX2_remove, Cond.instanceMethod yX2_remove, Cond.selects RX2 yX2_remove yX2_remove, Cond.code yX2_remove cX2_remove 3 none, Cond.methodLink RX2 43 yX2_bears, Cond.methodLink RX5 59 yX3_fallsNow, Cond.instanceMethod yX3_fallsNow, Cond.selects RX3 yX3_fallsNow yX3_fallsNow, Cond.code yX3_fallsNow cX3_fallsNow 2 (some .boolean), Cond.fieldLink RX3 33 "LadderClimb$Rig" "people" "I", Cond.methodLink RX3 29 yX2_stands, Cond.instanceMethod yX2_stands, Cond.selects RX2 yX2_stands yX2_stands, Cond.code yX2_stands cX2_stands 1 (some .boolean)]
def wsL_off_r4 : List Cond := [Cond.methodLink RX2 69 yX2_leastForce, Cond.instanceMethod yX2_leastForce, Cond.selects RX2 yX2_leastForce yX2_leastForce, Cond.code yX2_leastForce cX2_leastForce 1 (some .int), Cond.methodLink RX2 75 Lib.Math.max.name, Cond.static Lib.Math.max.name, Cond.code Lib.Math.max.name Lib.Math.max.code 2 (some .int), Cond.methodLink RX2 82 yX2_leastByWall, Cond.instanceMethod yX2_leastByWall, Cond.selects RX2 yX2_leastByWall yX2_leastByWall, Cond.code yX2_leastByWall cX2_leastByWall 3 (some .int), Cond.methodLink RX2 63 yX2_wallPercents, Cond.instanceMethod yX2_wallPercents, Cond.selects RX2 yX2_wallPercents yX2_wallPercents, Cond.code yX2_wallPercents cX2_wallPercents 1 (some .int), Cond.methodLink RX2 47 yX2_moment, Cond.instanceMethod yX2_moment, Cond.selects RX2 yX2_moment yX2_moment, Cond.code yX2_moment cX2_moment 3 (some .int), Cond.methodLink RX2 88 yJ9_floorDiv_7cf53, Cond.static yJ9_floorDiv_7cf53, Cond.initialized RJ9, Cond.code yJ9_floorDiv_7cf53 cJ9_floorDiv_7cf53 3 (some .int), Cond.methodLink RX2 85 yX2_leastByGround]
def wsL_off_r5 : List Cond := [Cond.instanceMethod yX2_leastByGround, Cond.selects RX2 yX2_leastByGround yX2_leastByGround, Cond.code yX2_leastByGround cX2_leastByGround 3 (some .int), Cond.methodLink RX2 66 yX2_groundPercents, Cond.instanceMethod yX2_groundPercents, Cond.selects RX2 yX2_groundPercents yX2_groundPercents, Cond.code yX2_groundPercents cX2_groundPercents 1 (some .int), Cond.methodLink RX2 55 yX2_load, Cond.instanceMethod yX2_load, Cond.selects RX2 yX2_load yX2_load, Cond.code yX2_load cX2_load 3 (some .int), Cond.methodLink RX2 72 yX2_greatestForce, Cond.instanceMethod yX2_greatestForce, Cond.selects RX2 yX2_greatestForce yX2_greatestForce, Cond.code yX2_greatestForce cX2_greatestForce 3 (some .int), Cond.methodLink RX3 39 yX3_fall, Cond.instanceMethod yX3_fall, Cond.selects RX3 yX3_fall yX3_fall, Cond.code yX3_fall cX3_fall 2 none, Cond.fieldLink RX3 36 "LadderClimb$Rig" "falls" "I", Cond.methodLink RX3 42 yX2_removeAll, Cond.instanceMethod yX2_removeAll, Cond.selects RX2 yX2_removeAll yX2_removeAll, Cond.code yX2_removeAll cX2_removeAll 2 none]
def wsL_off : List Cond := .codeWith yL_off cL_off 5 (some .int) [(0, 10, 13, 13)] :: ((wsL_off_r1 ++ (wsL_off_r2 ++ (wsL_off_r3 ++ (wsL_off_r4 ++ wsL_off_r5)))) ++ wsX50 ++ wsX20 ++ wsX30 ++ wsX00 ++ (vx_atS RX5 284 "java/lang/IndexOutOfBoundsException" ["java/lang/RuntimeException", "java/lang/Exception"]).filter goodWord)
def wsL_climb_r1 : List Cond := [Cond.classLink RL 13 "java/lang/IndexOutOfBoundsException", Cond.classLink RL 15 "java/lang/IllegalArgumentException", Cond.methodLink RL 33 yX5_climb, Cond.instanceMethod yX5_climb, Cond.selects RX5 yX5_climb yX5_climb, Cond.initialized RX5, Cond.code yX5_climb cX5_climb 5 (some .int), Cond.fieldLink RX5 19 "LadderClimb" "history" "LLadderClimb$History;", Cond.fieldLink RX5 10 "LadderClimb" "site" "LLadderClimb$Site;", Cond.methodLink RX5 37 yX5_rigOf, Cond.instanceMethod yX5_rigOf, Cond.selects RX5 yX5_rigOf yX5_rigOf, Cond.code yX5_rigOf cX5_rigOf 2 (some (.object "LadderClimb$Rig")), Cond.classLink RX5 280 "java/lang/IndexOutOfBoundsException", Cond.initialized "java/lang/IndexOutOfBoundsException", Cond.fieldLink RX5 285 "LadderClimb$Site" "rigs" "[LLadderClimb$Rig;", Cond.methodLink RX5 90 yX5_demandPerson, Cond.static yX5_demandPerson, Cond.code yX5_demandPerson cX5_demandPerson 2 none, Cond.methodLink RX5 289 yX2_bears, Cond.instanceMethod yX2_bears, Cond.selects RX2 yX2_bears yX2_bears, Cond.initialized RX2, Cond.code yX2_bears cX2_bears 2 (some .boolean)]
def wsL_climb_r2 : List Cond := [Cond.fieldLink RX2 33 "LadderClimb$Rig" "people" "I", Cond.methodLink RX5 41 yX5_demandRange, Cond.static yX5_demandRange, Cond.code yX5_demandRange cX5_demandRange 3 none, Cond.classLink RX5 118 "java/lang/IllegalArgumentException", Cond.initialized "java/lang/IllegalArgumentException", Cond.methodLink RX5 45 yX0_save, Cond.instanceMethod yX0_save, Cond.selects RX0 yX0_save yX0_save, Cond.initialized RX0, Cond.code yX0_save cX0_save 2 none, Cond.fieldLink RX0 17 "LadderClimb$History" "next" "I", Cond.fieldLink RX0 11 "LadderClimb$History" "saved" "[LLadderClimb$Site;", Cond.fieldLink RX0 21 "LadderClimb$History" "size" "I", Cond.methodLink RX0 29 Lib.Math.min.name, Cond.static Lib.Math.min.name, Cond.initialized "java/lang/Math", Cond.code Lib.Math.min.name Lib.Math.min.code 2 (some .int), Cond.methodLink RX0 25 yX3_copyFrom, Cond.instanceMethod yX3_copyFrom, Cond.selects RX3 yX3_copyFrom yX3_copyFrom, Cond.initialized RX3, Cond.code yX3_copyFrom cX3_copyFrom 3 none, Cond.fieldLink RX3 11 "LadderClimb$Site" "rigs" "[LLadderClimb$Rig;"]
def wsL_climb_r3 : List Cond := [Cond.fieldLink RX3 17 "LadderClimb$Site" "fallen" "I", Cond.fieldLink RX3 21 "LadderClimb$Site" "climbed" "I", Cond.methodLink RX3 25 yX2_copyFrom, Cond.instanceMethod yX2_copyFrom, Cond.selects RX2 yX2_copyFrom yX2_copyFrom, Cond.code yX2_copyFrom cX2_copyFrom 3 none, Cond.fieldLink RX2 9 "LadderClimb$Rig" "base" "I", Cond.fieldLink RX2 15 "LadderClimb$Rig" "height" "I", Cond.fieldLink RX2 18 "LadderClimb$Rig" "weight" "I", Cond.fieldLink RX2 21 "LadderClimb$Rig" "ground" "I", Cond.fieldLink RX2 24 "LadderClimb$Rig" "wall" "I", Cond.fieldLink RX2 27 "LadderClimb$Rig" "rope" "I", Cond.fieldLink RX2 30 "LadderClimb$Rig" "falls" "I", Cond.fieldLink RX2 36 "LadderClimb$Rig" "weights" "[I", Cond.fieldLink RX2 40 "LadderClimb$Rig" "steps" "[I", Cond.methodLink RX5 97 yX3_walk, Cond.instanceMethod yX3_walk, Cond.selects RX3 yX3_walk yX3_walk, Cond.code yX3_walk cX3_walk 8 (some .int), Cond.methodLink RX3 49 Lib.Math.abs.name, Cond.static Lib.Math.abs.name, Cond.code Lib.Math.abs.name Lib.Math.abs.code 1 (some .int), Cond.methodLink RX3 45 yX2_stepOf, Cond.instanceMethod yX2_stepOf]
def wsL_climb_r4 : List Cond := [Cond.selects RX2 yX2_stepOf yX2_stepOf, Cond.code yX2_stepOf cX2_stepOf 2 (some .int), Cond.methodLink RX2 43 yX2_bears, Cond.methodLink RX3 54 yX2_setStep, Cond.instanceMethod yX2_setStep, Cond.selects RX2 yX2_setStep yX2_setStep, Cond.code yX2_setStep cX2_setStep 3 none, Cond.methodLink RX3 29 yX2_stands, Cond.instanceMethod yX2_stands, Cond.selects RX2 yX2_stands yX2_stands, Cond.code yX2_stands cX2_stands 1 (some .boolean), Cond.methodLink RX2 69 yX2_leastForce, Cond.instanceMethod yX2_leastForce, Cond.selects RX2 yX2_leastForce yX2_leastForce, Cond.code yX2_leastForce cX2_leastForce 1 (some .int), Cond.methodLink RX2 75 Lib.Math.max.name, Cond.static Lib.Math.max.name, Cond.code Lib.Math.max.name Lib.Math.max.code 2 (some .int), Cond.methodLink RX2 82 yX2_leastByWall, Cond.instanceMethod yX2_leastByWall, Cond.selects RX2 yX2_leastByWall yX2_leastByWall, Cond.code yX2_leastByWall cX2_leastByWall 3 (some .int), Cond.methodLink RX2 63 yX2_wallPercents, Cond.instanceMethod yX2_wallPercents]
def wsL_climb_r5 : List Cond := [Cond.selects RX2 yX2_wallPercents yX2_wallPercents, Cond.code yX2_wallPercents cX2_wallPercents 1 (some .int), Cond.methodLink RX2 47 yX2_moment, Cond.instanceMethod yX2_moment, Cond.selects RX2 yX2_moment yX2_moment, Cond.code yX2_moment cX2_moment 3 (some .int), Cond.methodLink RX2 88 yJ9_floorDiv_7cf53, Cond.static yJ9_floorDiv_7cf53, Cond.initialized RJ9, Cond.code yJ9_floorDiv_7cf53 cJ9_floorDiv_7cf53 3 (some .int), Cond.methodLink RX2 85 yX2_leastByGround, Cond.instanceMethod yX2_leastByGround, Cond.selects RX2 yX2_leastByGround yX2_leastByGround, Cond.code yX2_leastByGround cX2_leastByGround 3 (some .int), Cond.methodLink RX2 66 yX2_groundPercents, Cond.instanceMethod yX2_groundPercents, Cond.selects RX2 yX2_groundPercents yX2_groundPercents, Cond.code yX2_groundPercents cX2_groundPercents 1 (some .int), Cond.methodLink RX2 55 yX2_load, Cond.instanceMethod yX2_load, Cond.selects RX2 yX2_load yX2_load, Cond.code yX2_load cX2_load 3 (some .int), Cond.methodLink RX2 72 yX2_greatestForce, Cond.instanceMethod yX2_greatestForce]
def wsL_climb_r6 : List Cond := [Cond.selects RX2 yX2_greatestForce yX2_greatestForce, Cond.code yX2_greatestForce cX2_greatestForce 3 (some .int), Cond.methodLink RX3 39 yX3_fall, Cond.instanceMethod yX3_fall, Cond.selects RX3 yX3_fall yX3_fall, Cond.code yX3_fall cX3_fall 2 none, Cond.fieldLink RX3 33 "LadderClimb$Rig" "people" "I", Cond.fieldLink RX3 36 "LadderClimb$Rig" "falls" "I", Cond.methodLink RX3 42 yX2_removeAll, Cond.instanceMethod yX2_removeAll, Cond.selects RX2 yX2_removeAll yX2_removeAll, Cond.code yX2_removeAll cX2_removeAll 2 none]
def wsL_climb : List Cond := .codeWith yL_climb cL_climb 6 (some .int) [(0, 12, 15, 13), (0, 12, 19, 15)] :: ((wsL_climb_r1 ++ (wsL_climb_r2 ++ (wsL_climb_r3 ++ (wsL_climb_r4 ++ (wsL_climb_r5 ++ wsL_climb_r6))))) ++ wsX50 ++ wsX30 ++ wsX20 ++ wsX00 ++ (vx_atS RX5 284 "java/lang/IndexOutOfBoundsException" ["java/lang/RuntimeException", "java/lang/Exception"]).filter goodWord ++ (vx_atS RX5 122 "java/lang/IllegalArgumentException" ["java/lang/RuntimeException", "java/lang/Exception"]).filter goodWord)
def wsL_append_r1 : List Cond := [Cond.classLink RL 15 "java/lang/IllegalArgumentException", Cond.classLink RL 28 "java/lang/IllegalStateException", Cond.methodLink RL 36 yX5_append, Cond.instanceMethod yX5_append, Cond.selects RX5 yX5_append yX5_append, Cond.initialized RX5, Cond.code yX5_append cX5_append 2 (some .int), Cond.classLink RX5 76 "java/lang/IllegalStateException", Cond.initialized "java/lang/IllegalStateException", Cond.fieldLink RX5 26 "LadderClimb" "works" "LLadderClimb$Works;", Cond.fieldLink RX5 105 "LadderClimb$Works" "length" "I", Cond.methodLink RX5 41 yX5_demandRange, Cond.static yX5_demandRange, Cond.code yX5_demandRange cX5_demandRange 3 none, Cond.classLink RX5 118 "java/lang/IllegalArgumentException", Cond.initialized "java/lang/IllegalArgumentException", Cond.methodLink RX5 101 yX4_isFull, Cond.instanceMethod yX4_isFull, Cond.selects RX4 yX4_isFull yX4_isFull, Cond.initialized RX4, Cond.code yX4_isFull cX4_isFull 1 (some .boolean), Cond.fieldLink RX4 15 "LadderClimb$Works" "length" "I", Cond.methodLink RX5 104 yX4_add, Cond.instanceMethod yX4_add]
def wsL_append_r2 : List Cond := [Cond.selects RX4 yX4_add yX4_add, Cond.code yX4_add cX4_add 2 none, Cond.fieldLink RX4 9 "LadderClimb$Works" "codes" "[I"]
def wsL_append : List Cond := .codeWith yL_append cL_append 4 (some .int) [(0, 9, 12, 15), (0, 9, 15, 28)] :: ((wsL_append_r1 ++ wsL_append_r2) ++ wsX50 ++ wsX40 ++ (vx_atS RX5 80 "java/lang/IllegalStateException" ["java/lang/RuntimeException", "java/lang/Exception"]).filter goodWord ++ (vx_atS RX5 122 "java/lang/IllegalArgumentException" ["java/lang/RuntimeException", "java/lang/Exception"]).filter goodWord)
def wsL_play_r1 : List Cond := [Cond.classLink RL 15 "java/lang/IllegalArgumentException", Cond.methodLink RL 40 yX5_play, Cond.instanceMethod yX5_play, Cond.selects RX5 yX5_play yX5_play, Cond.initialized RX5, Cond.code yX5_play cX5_play 3 (some .int), Cond.classLink RX5 118 "java/lang/IllegalArgumentException", Cond.initialized "java/lang/IllegalArgumentException", Cond.fieldLink RX5 26 "LadderClimb" "works" "LLadderClimb$Works;", Cond.fieldLink RX5 19 "LadderClimb" "history" "LLadderClimb$History;", Cond.fieldLink RX5 10 "LadderClimb" "site" "LLadderClimb$Site;", Cond.fieldLink RX5 129 "LadderClimb$Works" "reader" "LLadderClimb$Reader;", Cond.methodLink RX5 115 yX4_isWhole, Cond.instanceMethod yX4_isWhole, Cond.selects RX4 yX4_isWhole yX4_isWhole, Cond.initialized RX4, Cond.code yX4_isWhole cX4_isWhole 1 (some .boolean), Cond.fieldLink RX4 15 "LadderClimb$Works" "length" "I", Cond.fieldLink RX4 25 "LadderClimb$Works" "reader" "LLadderClimb$Reader;", Cond.methodLink RX4 40 yX4_firstFault, Cond.instanceMethod yX4_firstFault, Cond.selects RX4 yX4_firstFault yX4_firstFault, Cond.code yX4_firstFault cX4_firstFault 2 (some .int), Cond.methodLink RX4 29 yX1_startPart]
def wsL_play_r2 : List Cond := [Cond.instanceMethod yX1_startPart, Cond.selects RX1 yX1_startPart yX1_startPart, Cond.initialized RX1, Cond.code yX1_startPart cX1_startPart 1 none, Cond.fieldLink RX1 11 "LadderClimb$Reader" "place" "I", Cond.fieldLink RX1 27 "LadderClimb$Reader" "number" "I", Cond.methodLink RX4 32 yX4_codeAt, Cond.instanceMethod yX4_codeAt, Cond.selects RX4 yX4_codeAt yX4_codeAt, Cond.code yX4_codeAt cX4_codeAt 2 (some .int), Cond.fieldLink RX4 9 "LadderClimb$Works" "codes" "[I", Cond.methodLink RX4 36 yX1_takes, Cond.instanceMethod yX1_takes, Cond.selects RX1 yX1_takes yX1_takes, Cond.code yX1_takes cX1_takes 2 (some .boolean), Cond.methodLink RX1 30 yX1_takesLadder, Cond.instanceMethod yX1_takesLadder, Cond.selects RX1 yX1_takesLadder yX1_takesLadder, Cond.code yX1_takesLadder cX1_takesLadder 2 (some .boolean), Cond.fieldLink RX1 21 "LadderClimb$Reader" "ladder" "I", Cond.methodLink RX1 34 yX1_takesWork, Cond.instanceMethod yX1_takesWork, Cond.selects RX1 yX1_takesWork yX1_takesWork, Cond.code yX1_takesWork cX1_takesWork 2 (some .boolean)]
def wsL_play_r3 : List Cond := [Cond.fieldLink RX1 24 "LadderClimb$Reader" "work" "I", Cond.methodLink RX1 44 yX1_startNumber, Cond.instanceMethod yX1_startNumber, Cond.selects RX1 yX1_startNumber yX1_startNumber, Cond.code yX1_startNumber cX1_startNumber 4 (some .boolean), Cond.fieldLink RX1 15 "LadderClimb$Reader" "least" "I", Cond.fieldLink RX1 18 "LadderClimb$Reader" "most" "I", Cond.methodLink RX1 37 yX1_takesDigit, Cond.instanceMethod yX1_takesDigit, Cond.selects RX1 yX1_takesDigit yX1_takesDigit, Cond.code yX1_takesDigit cX1_takesDigit 3 (some .boolean), Cond.methodLink RX1 48 yX1_canBecomeNumber, Cond.instanceMethod yX1_canBecomeNumber, Cond.selects RX1 yX1_canBecomeNumber yX1_canBecomeNumber, Cond.code yX1_canBecomeNumber cX1_canBecomeNumber 5 (some .boolean), Cond.methodLink RX1 40 yX1_takesSemicolon, Cond.instanceMethod yX1_takesSemicolon, Cond.selects RX1 yX1_takesSemicolon yX1_takesSemicolon, Cond.code yX1_takesSemicolon cX1_takesSemicolon 1 (some .boolean), Cond.methodLink RX1 51 yX1_isPartWhole, Cond.instanceMethod yX1_isPartWhole, Cond.selects RX1 yX1_isPartWhole yX1_isPartWhole, Cond.code yX1_isPartWhole cX1_isPartWhole 1 (some .boolean), Cond.methodLink RX1 54 yX1_startPart]
def wsL_play_r4 : List Cond := [Cond.methodLink RX4 44 yX1_isPartWhole, Cond.methodLink RX5 45 yX0_save, Cond.instanceMethod yX0_save, Cond.selects RX0 yX0_save yX0_save, Cond.initialized RX0, Cond.code yX0_save cX0_save 2 none, Cond.fieldLink RX0 17 "LadderClimb$History" "next" "I", Cond.fieldLink RX0 11 "LadderClimb$History" "saved" "[LLadderClimb$Site;", Cond.fieldLink RX0 21 "LadderClimb$History" "size" "I", Cond.methodLink RX0 29 Lib.Math.min.name, Cond.static Lib.Math.min.name, Cond.initialized "java/lang/Math", Cond.code Lib.Math.min.name Lib.Math.min.code 2 (some .int), Cond.methodLink RX0 25 yX3_copyFrom, Cond.instanceMethod yX3_copyFrom, Cond.selects RX3 yX3_copyFrom yX3_copyFrom, Cond.initialized RX3, Cond.code yX3_copyFrom cX3_copyFrom 3 none, Cond.fieldLink RX3 11 "LadderClimb$Site" "rigs" "[LLadderClimb$Rig;", Cond.fieldLink RX3 17 "LadderClimb$Site" "fallen" "I", Cond.fieldLink RX3 21 "LadderClimb$Site" "climbed" "I", Cond.methodLink RX3 25 yX2_copyFrom, Cond.instanceMethod yX2_copyFrom, Cond.selects RX2 yX2_copyFrom yX2_copyFrom]
def wsL_play_r5 : List Cond := [Cond.initialized RX2, Cond.code yX2_copyFrom cX2_copyFrom 3 none, Cond.fieldLink RX2 9 "LadderClimb$Rig" "base" "I", Cond.fieldLink RX2 15 "LadderClimb$Rig" "height" "I", Cond.fieldLink RX2 18 "LadderClimb$Rig" "weight" "I", Cond.fieldLink RX2 21 "LadderClimb$Rig" "ground" "I", Cond.fieldLink RX2 24 "LadderClimb$Rig" "wall" "I", Cond.fieldLink RX2 27 "LadderClimb$Rig" "rope" "I", Cond.fieldLink RX2 30 "LadderClimb$Rig" "falls" "I", Cond.fieldLink RX2 33 "LadderClimb$Rig" "people" "I", Cond.fieldLink RX2 36 "LadderClimb$Rig" "weights" "[I", Cond.fieldLink RX2 40 "LadderClimb$Rig" "steps" "[I", Cond.methodLink RX5 123 yX4_rewind, Cond.instanceMethod yX4_rewind, Cond.selects RX4 yX4_rewind yX4_rewind, Cond.code yX4_rewind cX4_rewind 1 none, Cond.fieldLink RX4 19 "LadderClimb$Works" "cursor" "I", Cond.methodLink RX5 126 yX4_nextPart, Cond.instanceMethod yX4_nextPart, Cond.selects RX4 yX4_nextPart yX4_nextPart, Cond.code yX4_nextPart cX4_nextPart 2 (some .boolean), Cond.methodLink RX5 133 yX5_playPart, Cond.instanceMethod yX5_playPart, Cond.selects RX5 yX5_playPart yX5_playPart]
def wsL_play_r6 : List Cond := [Cond.code yX5_playPart cX5_playPart 3 (some .boolean), Cond.fieldLink RX5 270 "LadderClimb$Reader" "ladder" "I", Cond.fieldLink RX5 274 "LadderClimb$Reader" "work" "I", Cond.fieldLink RX5 87 "LadderClimb$Rig" "people" "I", Cond.fieldLink RX5 277 "LadderClimb$Reader" "number" "I", Cond.fieldLink RX5 69 "LadderClimb$Rig" "rope" "I", Cond.methodLink RX5 37 yX5_rigOf, Cond.instanceMethod yX5_rigOf, Cond.selects RX5 yX5_rigOf yX5_rigOf, Cond.code yX5_rigOf cX5_rigOf 2 (some (.object "LadderClimb$Rig")), Cond.classLink RX5 280 "java/lang/IndexOutOfBoundsException", Cond.initialized "java/lang/IndexOutOfBoundsException", Cond.fieldLink RX5 285 "LadderClimb$Site" "rigs" "[LLadderClimb$Rig;", Cond.methodLink RX5 97 yX3_walk, Cond.instanceMethod yX3_walk, Cond.selects RX3 yX3_walk yX3_walk, Cond.code yX3_walk cX3_walk 8 (some .int), Cond.methodLink RX3 49 Lib.Math.abs.name, Cond.static Lib.Math.abs.name, Cond.code Lib.Math.abs.name Lib.Math.abs.code 1 (some .int), Cond.methodLink RX3 45 yX2_stepOf, Cond.instanceMethod yX2_stepOf, Cond.selects RX2 yX2_stepOf yX2_stepOf, Cond.code yX2_stepOf cX2_stepOf 2 (some .int)]
def wsL_play_r7 : List Cond := [Cond.methodLink RX2 43 yX2_bears, Cond.instanceMethod yX2_bears, Cond.selects RX2 yX2_bears yX2_bears, Cond.code yX2_bears cX2_bears 2 (some .boolean), Cond.methodLink RX3 54 yX2_setStep, Cond.instanceMethod yX2_setStep, Cond.selects RX2 yX2_setStep yX2_setStep, Cond.code yX2_setStep cX2_setStep 3 none, Cond.methodLink RX3 29 yX2_stands, Cond.instanceMethod yX2_stands, Cond.selects RX2 yX2_stands yX2_stands, Cond.code yX2_stands cX2_stands 1 (some .boolean), Cond.methodLink RX2 69 yX2_leastForce, Cond.instanceMethod yX2_leastForce, Cond.selects RX2 yX2_leastForce yX2_leastForce, Cond.code yX2_leastForce cX2_leastForce 1 (some .int), Cond.methodLink RX2 75 Lib.Math.max.name, Cond.static Lib.Math.max.name, Cond.code Lib.Math.max.name Lib.Math.max.code 2 (some .int), Cond.methodLink RX2 82 yX2_leastByWall, Cond.instanceMethod yX2_leastByWall, Cond.selects RX2 yX2_leastByWall yX2_leastByWall, Cond.code yX2_leastByWall cX2_leastByWall 3 (some .int), Cond.methodLink RX2 63 yX2_wallPercents]
def wsL_play_r8 : List Cond := [Cond.instanceMethod yX2_wallPercents, Cond.selects RX2 yX2_wallPercents yX2_wallPercents, Cond.code yX2_wallPercents cX2_wallPercents 1 (some .int), Cond.methodLink RX2 47 yX2_moment, Cond.instanceMethod yX2_moment, Cond.selects RX2 yX2_moment yX2_moment, Cond.code yX2_moment cX2_moment 3 (some .int), Cond.methodLink RX2 88 yJ9_floorDiv_7cf53, Cond.static yJ9_floorDiv_7cf53, Cond.initialized RJ9, Cond.code yJ9_floorDiv_7cf53 cJ9_floorDiv_7cf53 3 (some .int), Cond.methodLink RX2 85 yX2_leastByGround, Cond.instanceMethod yX2_leastByGround, Cond.selects RX2 yX2_leastByGround yX2_leastByGround, Cond.code yX2_leastByGround cX2_leastByGround 3 (some .int), Cond.methodLink RX2 66 yX2_groundPercents, Cond.instanceMethod yX2_groundPercents, Cond.selects RX2 yX2_groundPercents yX2_groundPercents, Cond.code yX2_groundPercents cX2_groundPercents 1 (some .int), Cond.methodLink RX2 55 yX2_load, Cond.instanceMethod yX2_load, Cond.selects RX2 yX2_load yX2_load, Cond.code yX2_load cX2_load 3 (some .int), Cond.methodLink RX2 72 yX2_greatestForce]
def wsL_play_r9 : List Cond := [Cond.instanceMethod yX2_greatestForce, Cond.selects RX2 yX2_greatestForce yX2_greatestForce, Cond.code yX2_greatestForce cX2_greatestForce 3 (some .int), Cond.methodLink RX3 39 yX3_fall, Cond.instanceMethod yX3_fall, Cond.selects RX3 yX3_fall yX3_fall, Cond.code yX3_fall cX3_fall 2 none, Cond.fieldLink RX3 33 "LadderClimb$Rig" "people" "I", Cond.fieldLink RX3 36 "LadderClimb$Rig" "falls" "I", Cond.methodLink RX3 42 yX2_removeAll, Cond.instanceMethod yX2_removeAll, Cond.selects RX2 yX2_removeAll yX2_removeAll, Cond.code yX2_removeAll cX2_removeAll 2 none, Cond.methodLink RX5 72 yX2_isFull, Cond.instanceMethod yX2_isFull, Cond.selects RX2 yX2_isFull yX2_isFull, Cond.code yX2_isFull cX2_isFull 1 (some .boolean), Cond.methodLink RX5 83 yX2_add, Cond.instanceMethod yX2_add, Cond.selects RX2 yX2_add yX2_add, Cond.code yX2_add cX2_add 2 none, Cond.methodLink RX5 94 yX2_remove, Cond.instanceMethod yX2_remove, Cond.selects RX2 yX2_remove yX2_remove]
def wsL_play_r10 : List Cond := [Cond.code yX2_remove cX2_remove 3 none, Cond.methodLink RX5 59 yX3_fallsNow, Cond.instanceMethod yX3_fallsNow, Cond.selects RX3 yX3_fallsNow yX3_fallsNow, Cond.code yX3_fallsNow cX3_fallsNow 2 (some .boolean), Cond.methodLink RX5 108 yX4_clear, Cond.instanceMethod yX4_clear, Cond.selects RX4 yX4_clear yX4_clear, Cond.code yX4_clear cX4_clear 1 none]
def wsL_play : List Cond := .codeWith yL_play cL_play 3 (some .int) [(0, 8, 11, 15)] :: ((wsL_play_r1 ++ (wsL_play_r2 ++ (wsL_play_r3 ++ (wsL_play_r4 ++ (wsL_play_r5 ++ (wsL_play_r6 ++ (wsL_play_r7 ++ (wsL_play_r8 ++ (wsL_play_r9 ++ wsL_play_r10))))))))) ++ wsX50 ++ wsX40 ++ wsX10 ++ wsX00 ++ wsX30 ++ wsX20 ++ (vx_atS RX5 122 "java/lang/IllegalArgumentException" ["java/lang/RuntimeException", "java/lang/Exception"]).filter goodWord ++ (vx_atS RX5 284 "java/lang/IndexOutOfBoundsException" ["java/lang/RuntimeException", "java/lang/Exception"]).filter goodWord)
def wsL_undo_r1 : List Cond := [Cond.classLink RL 28 "java/lang/IllegalStateException", Cond.methodLink RL 44 yX5_undo, Cond.instanceMethod yX5_undo, Cond.selects RX5 yX5_undo yX5_undo, Cond.initialized RX5, Cond.code yX5_undo cX5_undo 1 (some .int), Cond.classLink RX5 76 "java/lang/IllegalStateException", Cond.initialized "java/lang/IllegalStateException", Cond.fieldLink RX5 19 "LadderClimb" "history" "LLadderClimb$History;", Cond.fieldLink RX5 137 "LadderClimb$History" "size" "I", Cond.fieldLink RX5 10 "LadderClimb" "site" "LLadderClimb$Site;", Cond.methodLink RX5 142 yX0_restoreTo, Cond.instanceMethod yX0_restoreTo, Cond.selects RX0 yX0_restoreTo yX0_restoreTo, Cond.initialized RX0, Cond.code yX0_restoreTo cX0_restoreTo 3 none, Cond.fieldLink RX0 17 "LadderClimb$History" "next" "I", Cond.fieldLink RX0 21 "LadderClimb$History" "size" "I", Cond.fieldLink RX0 11 "LadderClimb$History" "saved" "[LLadderClimb$Site;", Cond.methodLink RX0 25 yX3_copyFrom, Cond.instanceMethod yX3_copyFrom, Cond.selects RX3 yX3_copyFrom yX3_copyFrom, Cond.initialized RX3, Cond.code yX3_copyFrom cX3_copyFrom 3 none]
def wsL_undo_r2 : List Cond := [Cond.fieldLink RX3 11 "LadderClimb$Site" "rigs" "[LLadderClimb$Rig;", Cond.fieldLink RX3 17 "LadderClimb$Site" "fallen" "I", Cond.fieldLink RX3 21 "LadderClimb$Site" "climbed" "I", Cond.methodLink RX3 25 yX2_copyFrom, Cond.instanceMethod yX2_copyFrom, Cond.selects RX2 yX2_copyFrom yX2_copyFrom, Cond.initialized RX2, Cond.code yX2_copyFrom cX2_copyFrom 3 none, Cond.fieldLink RX2 9 "LadderClimb$Rig" "base" "I", Cond.fieldLink RX2 15 "LadderClimb$Rig" "height" "I", Cond.fieldLink RX2 18 "LadderClimb$Rig" "weight" "I", Cond.fieldLink RX2 21 "LadderClimb$Rig" "ground" "I", Cond.fieldLink RX2 24 "LadderClimb$Rig" "wall" "I", Cond.fieldLink RX2 27 "LadderClimb$Rig" "rope" "I", Cond.fieldLink RX2 30 "LadderClimb$Rig" "falls" "I", Cond.fieldLink RX2 33 "LadderClimb$Rig" "people" "I", Cond.fieldLink RX2 36 "LadderClimb$Rig" "weights" "[I", Cond.fieldLink RX2 40 "LadderClimb$Rig" "steps" "[I"]
def wsL_undo : List Cond := .codeWith yL_undo cL_undo 3 (some .int) [(0, 8, 11, 28)] :: ((wsL_undo_r1 ++ wsL_undo_r2) ++ wsX50 ++ wsX00 ++ wsX30 ++ wsX20 ++ (vx_atS RX5 80 "java/lang/IllegalStateException" ["java/lang/RuntimeException", "java/lang/Exception"]).filter goodWord)
def wsL_ladder_r1 : List Cond := [Cond.classLink RL 13 "java/lang/IndexOutOfBoundsException", Cond.classLink RL 15 "java/lang/IllegalArgumentException", Cond.methodLink RL 47 yX5_ladder, Cond.instanceMethod yX5_ladder, Cond.selects RX5 yX5_ladder yX5_ladder, Cond.initialized RX5, Cond.code yX5_ladder cX5_ladder 4 (some .int), Cond.classLink RX5 118 "java/lang/IllegalArgumentException", Cond.initialized "java/lang/IllegalArgumentException", Cond.fieldLink RX5 49 "LadderClimb$Rig" "base" "I", Cond.fieldLink RX5 53 "LadderClimb$Rig" "height" "I", Cond.fieldLink RX5 56 "LadderClimb$Rig" "weight" "I", Cond.fieldLink RX5 63 "LadderClimb$Rig" "ground" "I", Cond.fieldLink RX5 66 "LadderClimb$Rig" "wall" "I", Cond.fieldLink RX5 69 "LadderClimb$Rig" "rope" "I", Cond.fieldLink RX5 87 "LadderClimb$Rig" "people" "I", Cond.fieldLink RX5 151 "LadderClimb$Rig" "falls" "I", Cond.methodLink RX5 37 yX5_rigOf, Cond.instanceMethod yX5_rigOf, Cond.selects RX5 yX5_rigOf yX5_rigOf, Cond.code yX5_rigOf cX5_rigOf 2 (some (.object "LadderClimb$Rig")), Cond.classLink RX5 280 "java/lang/IndexOutOfBoundsException", Cond.initialized "java/lang/IndexOutOfBoundsException", Cond.fieldLink RX5 10 "LadderClimb" "site" "LLadderClimb$Site;"]
def wsL_ladder_r2 : List Cond := [Cond.fieldLink RX5 285 "LadderClimb$Site" "rigs" "[LLadderClimb$Rig;", Cond.methodLink RX5 145 yX2_load, Cond.instanceMethod yX2_load, Cond.selects RX2 yX2_load yX2_load, Cond.initialized RX2, Cond.code yX2_load cX2_load 3 (some .int), Cond.fieldLink RX2 18 "LadderClimb$Rig" "weight" "I", Cond.fieldLink RX2 36 "LadderClimb$Rig" "weights" "[I", Cond.methodLink RX5 148 yX2_moment, Cond.instanceMethod yX2_moment, Cond.selects RX2 yX2_moment yX2_moment, Cond.code yX2_moment cX2_moment 3 (some .int), Cond.fieldLink RX2 40 "LadderClimb$Rig" "steps" "[I", Cond.fieldLink RX2 9 "LadderClimb$Rig" "base" "I", Cond.methodLink RX5 154 yX2_stands, Cond.instanceMethod yX2_stands, Cond.selects RX2 yX2_stands yX2_stands, Cond.code yX2_stands cX2_stands 1 (some .boolean), Cond.methodLink RX2 69 yX2_leastForce, Cond.instanceMethod yX2_leastForce, Cond.selects RX2 yX2_leastForce yX2_leastForce, Cond.code yX2_leastForce cX2_leastForce 1 (some .int), Cond.methodLink RX2 75 Lib.Math.max.name, Cond.static Lib.Math.max.name]
def wsL_ladder_r3 : List Cond := [Cond.initialized "java/lang/Math", Cond.code Lib.Math.max.name Lib.Math.max.code 2 (some .int), Cond.methodLink RX2 82 yX2_leastByWall, Cond.instanceMethod yX2_leastByWall, Cond.selects RX2 yX2_leastByWall yX2_leastByWall, Cond.code yX2_leastByWall cX2_leastByWall 3 (some .int), Cond.fieldLink RX2 24 "LadderClimb$Rig" "wall" "I", Cond.fieldLink RX2 15 "LadderClimb$Rig" "height" "I", Cond.methodLink RX2 63 yX2_wallPercents, Cond.instanceMethod yX2_wallPercents, Cond.selects RX2 yX2_wallPercents yX2_wallPercents, Cond.code yX2_wallPercents cX2_wallPercents 1 (some .int), Cond.methodLink RX2 47 yX2_moment, Cond.methodLink RX2 88 yJ9_floorDiv_7cf53, Cond.static yJ9_floorDiv_7cf53, Cond.initialized RJ9, Cond.code yJ9_floorDiv_7cf53 cJ9_floorDiv_7cf53 3 (some .int), Cond.methodLink RX2 85 yX2_leastByGround, Cond.instanceMethod yX2_leastByGround, Cond.selects RX2 yX2_leastByGround yX2_leastByGround, Cond.code yX2_leastByGround cX2_leastByGround 3 (some .int), Cond.fieldLink RX2 27 "LadderClimb$Rig" "rope" "I", Cond.methodLink RX2 66 yX2_groundPercents, Cond.instanceMethod yX2_groundPercents]
def wsL_ladder_r4 : List Cond := [Cond.selects RX2 yX2_groundPercents yX2_groundPercents, Cond.code yX2_groundPercents cX2_groundPercents 1 (some .int), Cond.fieldLink RX2 21 "LadderClimb$Rig" "ground" "I", Cond.methodLink RX2 55 yX2_load, Cond.methodLink RX2 72 yX2_greatestForce, Cond.instanceMethod yX2_greatestForce, Cond.selects RX2 yX2_greatestForce yX2_greatestForce, Cond.code yX2_greatestForce cX2_greatestForce 3 (some .int)]
def wsL_ladder : List Cond := .codeWith yL_ladder cL_ladder 5 (some .int) [(0, 10, 13, 13), (0, 10, 17, 15)] :: ((wsL_ladder_r1 ++ (wsL_ladder_r2 ++ (wsL_ladder_r3 ++ wsL_ladder_r4))) ++ wsX20 ++ wsX50 ++ wsX30 ++ (vx_atS RX5 122 "java/lang/IllegalArgumentException" ["java/lang/RuntimeException", "java/lang/Exception"]).filter goodWord ++ (vx_atS RX5 284 "java/lang/IndexOutOfBoundsException" ["java/lang/RuntimeException", "java/lang/Exception"]).filter goodWord)
def wsL_person_r1 : List Cond := [Cond.classLink RL 13 "java/lang/IndexOutOfBoundsException", Cond.classLink RL 15 "java/lang/IllegalArgumentException", Cond.methodLink RL 50 yX5_person, Cond.instanceMethod yX5_person, Cond.selects RX5 yX5_person yX5_person, Cond.initialized RX5, Cond.code yX5_person cX5_person 5 (some .int), Cond.classLink RX5 118 "java/lang/IllegalArgumentException", Cond.initialized "java/lang/IllegalArgumentException", Cond.methodLink RX5 37 yX5_rigOf, Cond.instanceMethod yX5_rigOf, Cond.selects RX5 yX5_rigOf yX5_rigOf, Cond.code yX5_rigOf cX5_rigOf 2 (some (.object "LadderClimb$Rig")), Cond.classLink RX5 280 "java/lang/IndexOutOfBoundsException", Cond.initialized "java/lang/IndexOutOfBoundsException", Cond.fieldLink RX5 10 "LadderClimb" "site" "LLadderClimb$Site;", Cond.fieldLink RX5 285 "LadderClimb$Site" "rigs" "[LLadderClimb$Rig;", Cond.methodLink RX5 90 yX5_demandPerson, Cond.static yX5_demandPerson, Cond.code yX5_demandPerson cX5_demandPerson 2 none, Cond.methodLink RX5 289 yX2_bears, Cond.instanceMethod yX2_bears, Cond.selects RX2 yX2_bears yX2_bears, Cond.initialized RX2]
def wsL_person_r2 : List Cond := [Cond.code yX2_bears cX2_bears 2 (some .boolean), Cond.fieldLink RX2 33 "LadderClimb$Rig" "people" "I", Cond.methodLink RX5 159 yX2_weightOf, Cond.instanceMethod yX2_weightOf, Cond.selects RX2 yX2_weightOf yX2_weightOf, Cond.code yX2_weightOf cX2_weightOf 2 (some .int), Cond.fieldLink RX2 36 "LadderClimb$Rig" "weights" "[I", Cond.methodLink RX2 43 yX2_bears, Cond.methodLink RX5 163 yX2_stepOf, Cond.instanceMethod yX2_stepOf, Cond.selects RX2 yX2_stepOf yX2_stepOf, Cond.code yX2_stepOf cX2_stepOf 2 (some .int), Cond.fieldLink RX2 40 "LadderClimb$Rig" "steps" "[I"]
def wsL_person : List Cond := .codeWith yL_person cL_person 6 (some .int) [(0, 12, 15, 13), (0, 12, 19, 15)] :: ((wsL_person_r1 ++ wsL_person_r2) ++ wsX50 ++ wsX30 ++ wsX20 ++ (vx_atS RX5 122 "java/lang/IllegalArgumentException" ["java/lang/RuntimeException", "java/lang/Exception"]).filter goodWord ++ (vx_atS RX5 284 "java/lang/IndexOutOfBoundsException" ["java/lang/RuntimeException", "java/lang/Exception"]).filter goodWord)
def wsL_force_r1 : List Cond := [Cond.classLink RL 13 "java/lang/IndexOutOfBoundsException", Cond.classLink RL 15 "java/lang/IllegalArgumentException", Cond.methodLink RL 53 yX5_force, Cond.instanceMethod yX5_force, Cond.selects RX5 yX5_force yX5_force, Cond.initialized RX5, Cond.code yX5_force cX5_force 4 (some .int), Cond.methodLink RX5 37 yX5_rigOf, Cond.instanceMethod yX5_rigOf, Cond.selects RX5 yX5_rigOf yX5_rigOf, Cond.code yX5_rigOf cX5_rigOf 2 (some (.object "LadderClimb$Rig")), Cond.classLink RX5 280 "java/lang/IndexOutOfBoundsException", Cond.initialized "java/lang/IndexOutOfBoundsException", Cond.fieldLink RX5 10 "LadderClimb" "site" "LLadderClimb$Site;", Cond.fieldLink RX5 285 "LadderClimb$Site" "rigs" "[LLadderClimb$Rig;", Cond.methodLink RX5 41 yX5_demandRange, Cond.static yX5_demandRange, Cond.code yX5_demandRange cX5_demandRange 3 none, Cond.classLink RX5 118 "java/lang/IllegalArgumentException", Cond.initialized "java/lang/IllegalArgumentException", Cond.methodLink RX5 168 yX2_forces, Cond.instanceMethod yX2_forces, Cond.selects RX2 yX2_forces yX2_forces, Cond.initialized RX2]
def wsL_force_r2 : List Cond := [Cond.code yX2_forces cX2_forces 1 (some .int), Cond.methodLink RX2 75 Lib.Math.max.name, Cond.static Lib.Math.max.name, Cond.initialized "java/lang/Math", Cond.code Lib.Math.max.name Lib.Math.max.code 2 (some .int), Cond.methodLink RX2 72 yX2_greatestForce, Cond.instanceMethod yX2_greatestForce, Cond.selects RX2 yX2_greatestForce yX2_greatestForce, Cond.code yX2_greatestForce cX2_greatestForce 3 (some .int), Cond.fieldLink RX2 15 "LadderClimb$Rig" "height" "I", Cond.fieldLink RX2 9 "LadderClimb$Rig" "base" "I", Cond.methodLink RX2 63 yX2_wallPercents, Cond.instanceMethod yX2_wallPercents, Cond.selects RX2 yX2_wallPercents yX2_wallPercents, Cond.code yX2_wallPercents cX2_wallPercents 1 (some .int), Cond.fieldLink RX2 24 "LadderClimb$Rig" "wall" "I", Cond.methodLink RX2 47 yX2_moment, Cond.instanceMethod yX2_moment, Cond.selects RX2 yX2_moment yX2_moment, Cond.code yX2_moment cX2_moment 3 (some .int), Cond.fieldLink RX2 18 "LadderClimb$Rig" "weight" "I", Cond.fieldLink RX2 40 "LadderClimb$Rig" "steps" "[I", Cond.fieldLink RX2 36 "LadderClimb$Rig" "weights" "[I", Cond.methodLink RX2 88 yJ9_floorDiv_7cf53]
def wsL_force_r3 : List Cond := [Cond.static yJ9_floorDiv_7cf53, Cond.initialized RJ9, Cond.code yJ9_floorDiv_7cf53 cJ9_floorDiv_7cf53 3 (some .int), Cond.methodLink RX2 69 yX2_leastForce, Cond.instanceMethod yX2_leastForce, Cond.selects RX2 yX2_leastForce yX2_leastForce, Cond.code yX2_leastForce cX2_leastForce 1 (some .int), Cond.methodLink RX2 82 yX2_leastByWall, Cond.instanceMethod yX2_leastByWall, Cond.selects RX2 yX2_leastByWall yX2_leastByWall, Cond.code yX2_leastByWall cX2_leastByWall 3 (some .int), Cond.methodLink RX2 85 yX2_leastByGround, Cond.instanceMethod yX2_leastByGround, Cond.selects RX2 yX2_leastByGround yX2_leastByGround, Cond.code yX2_leastByGround cX2_leastByGround 3 (some .int), Cond.fieldLink RX2 27 "LadderClimb$Rig" "rope" "I", Cond.methodLink RX2 66 yX2_groundPercents, Cond.instanceMethod yX2_groundPercents, Cond.selects RX2 yX2_groundPercents yX2_groundPercents, Cond.code yX2_groundPercents cX2_groundPercents 1 (some .int), Cond.fieldLink RX2 21 "LadderClimb$Rig" "ground" "I", Cond.methodLink RX2 55 yX2_load, Cond.instanceMethod yX2_load, Cond.selects RX2 yX2_load yX2_load]
def wsL_force_r4 : List Cond := [Cond.code yX2_load cX2_load 3 (some .int), Cond.methodLink RX5 154 yX2_stands, Cond.instanceMethod yX2_stands, Cond.selects RX2 yX2_stands yX2_stands, Cond.code yX2_stands cX2_stands 1 (some .boolean), Cond.methodLink RX5 171 yX2_leastForce, Cond.methodLink RX5 174 yX2_greatestForce, Cond.methodLink RX5 177 yX2_nearestForce, Cond.instanceMethod yX2_nearestForce, Cond.selects RX2 yX2_nearestForce yX2_nearestForce, Cond.code yX2_nearestForce cX2_nearestForce 1 (some .int), Cond.methodLink RX2 79 Lib.Math.min.name, Cond.static Lib.Math.min.name, Cond.code Lib.Math.min.name Lib.Math.min.code 2 (some .int), Cond.methodLink RX5 180 yX2_push, Cond.instanceMethod yX2_push, Cond.selects RX2 yX2_push yX2_push, Cond.code yX2_push cX2_push 2 (some .int), Cond.methodLink RX5 145 yX2_load]
def wsL_force : List Cond := .codeWith yL_force cL_force 5 (some .int) [(0, 10, 13, 13), (0, 10, 17, 15)] :: ((wsL_force_r1 ++ (wsL_force_r2 ++ (wsL_force_r3 ++ wsL_force_r4))) ++ wsX50 ++ wsX30 ++ wsX20 ++ (vx_atS RX5 284 "java/lang/IndexOutOfBoundsException" ["java/lang/RuntimeException", "java/lang/Exception"]).filter goodWord ++ (vx_atS RX5 122 "java/lang/IllegalArgumentException" ["java/lang/RuntimeException", "java/lang/Exception"]).filter goodWord)
def wsL_held_r1 : List Cond := [Cond.classLink RL 13 "java/lang/IndexOutOfBoundsException", Cond.classLink RL 15 "java/lang/IllegalArgumentException", Cond.methodLink RL 56 yX5_held, Cond.instanceMethod yX5_held, Cond.selects RX5 yX5_held yX5_held, Cond.initialized RX5, Cond.code yX5_held cX5_held 4 (some .int), Cond.methodLink RX5 37 yX5_rigOf, Cond.instanceMethod yX5_rigOf, Cond.selects RX5 yX5_rigOf yX5_rigOf, Cond.code yX5_rigOf cX5_rigOf 2 (some (.object "LadderClimb$Rig")), Cond.classLink RX5 280 "java/lang/IndexOutOfBoundsException", Cond.initialized "java/lang/IndexOutOfBoundsException", Cond.fieldLink RX5 10 "LadderClimb" "site" "LLadderClimb$Site;", Cond.fieldLink RX5 285 "LadderClimb$Site" "rigs" "[LLadderClimb$Rig;", Cond.methodLink RX5 41 yX5_demandRange, Cond.static yX5_demandRange, Cond.code yX5_demandRange cX5_demandRange 3 none, Cond.classLink RX5 118 "java/lang/IllegalArgumentException", Cond.initialized "java/lang/IllegalArgumentException", Cond.methodLink RX5 183 yX2_whatGivesWay, Cond.instanceMethod yX2_whatGivesWay, Cond.selects RX2 yX2_whatGivesWay yX2_whatGivesWay, Cond.initialized RX2]
def wsL_held_r2 : List Cond := [Cond.code yX2_whatGivesWay cX2_whatGivesWay 5 (some .int), Cond.fieldLink RX2 15 "LadderClimb$Rig" "height" "I", Cond.methodLink RX2 58 Lib.Math.abs.name, Cond.static Lib.Math.abs.name, Cond.initialized "java/lang/Math", Cond.code Lib.Math.abs.name Lib.Math.abs.code 1 (some .int), Cond.fieldLink RX2 24 "LadderClimb$Rig" "wall" "I", Cond.fieldLink RX2 27 "LadderClimb$Rig" "rope" "I", Cond.methodLink RX2 51 yX2_push, Cond.instanceMethod yX2_push, Cond.selects RX2 yX2_push yX2_push, Cond.code yX2_push cX2_push 2 (some .int), Cond.fieldLink RX2 9 "LadderClimb$Rig" "base" "I", Cond.methodLink RX2 47 yX2_moment, Cond.instanceMethod yX2_moment, Cond.selects RX2 yX2_moment yX2_moment, Cond.code yX2_moment cX2_moment 3 (some .int), Cond.fieldLink RX2 18 "LadderClimb$Rig" "weight" "I", Cond.fieldLink RX2 40 "LadderClimb$Rig" "steps" "[I", Cond.fieldLink RX2 36 "LadderClimb$Rig" "weights" "[I", Cond.methodLink RX2 55 yX2_load, Cond.instanceMethod yX2_load, Cond.selects RX2 yX2_load yX2_load, Cond.code yX2_load cX2_load 3 (some .int)]
def wsL_held_r3 : List Cond := [Cond.methodLink RX2 63 yX2_wallPercents, Cond.instanceMethod yX2_wallPercents, Cond.selects RX2 yX2_wallPercents yX2_wallPercents, Cond.code yX2_wallPercents cX2_wallPercents 1 (some .int), Cond.methodLink RX2 66 yX2_groundPercents, Cond.instanceMethod yX2_groundPercents, Cond.selects RX2 yX2_groundPercents yX2_groundPercents, Cond.code yX2_groundPercents cX2_groundPercents 1 (some .int), Cond.fieldLink RX2 21 "LadderClimb$Rig" "ground" "I"]
def wsL_held : List Cond := .codeWith yL_held cL_held 5 (some .int) [(0, 10, 13, 13), (0, 10, 17, 15)] :: ((wsL_held_r1 ++ (wsL_held_r2 ++ wsL_held_r3)) ++ wsX50 ++ wsX30 ++ wsX20 ++ (vx_atS RX5 284 "java/lang/IndexOutOfBoundsException" ["java/lang/RuntimeException", "java/lang/Exception"]).filter goodWord ++ (vx_atS RX5 122 "java/lang/IllegalArgumentException" ["java/lang/RuntimeException", "java/lang/Exception"]).filter goodWord)
def wsL_count_r1 : List Cond := [Cond.classLink RL 15 "java/lang/IllegalArgumentException", Cond.methodLink RL 59 yX5_count, Cond.instanceMethod yX5_count, Cond.selects RX5 yX5_count yX5_count, Cond.initialized RX5, Cond.code yX5_count cX5_count 2 (some .int), Cond.classLink RX5 118 "java/lang/IllegalArgumentException", Cond.initialized "java/lang/IllegalArgumentException", Cond.fieldLink RX5 10 "LadderClimb" "site" "LLadderClimb$Site;", Cond.fieldLink RX5 193 "LadderClimb$Site" "fallen" "I", Cond.fieldLink RX5 196 "LadderClimb$Site" "climbed" "I", Cond.fieldLink RX5 19 "LadderClimb" "history" "LLadderClimb$History;", Cond.fieldLink RX5 137 "LadderClimb$History" "size" "I", Cond.methodLink RX5 186 yX3_standing, Cond.instanceMethod yX3_standing, Cond.selects RX3 yX3_standing yX3_standing, Cond.initialized RX3, Cond.code yX3_standing cX3_standing 3 (some .int), Cond.fieldLink RX3 11 "LadderClimb$Site" "rigs" "[LLadderClimb$Rig;", Cond.methodLink RX3 29 yX2_stands, Cond.instanceMethod yX2_stands, Cond.selects RX2 yX2_stands yX2_stands, Cond.initialized RX2, Cond.code yX2_stands cX2_stands 1 (some .boolean)]
def wsL_count_r2 : List Cond := [Cond.methodLink RX2 69 yX2_leastForce, Cond.instanceMethod yX2_leastForce, Cond.selects RX2 yX2_leastForce yX2_leastForce, Cond.code yX2_leastForce cX2_leastForce 1 (some .int), Cond.methodLink RX2 75 Lib.Math.max.name, Cond.static Lib.Math.max.name, Cond.initialized "java/lang/Math", Cond.code Lib.Math.max.name Lib.Math.max.code 2 (some .int), Cond.methodLink RX2 82 yX2_leastByWall, Cond.instanceMethod yX2_leastByWall, Cond.selects RX2 yX2_leastByWall yX2_leastByWall, Cond.code yX2_leastByWall cX2_leastByWall 3 (some .int), Cond.fieldLink RX2 24 "LadderClimb$Rig" "wall" "I", Cond.fieldLink RX2 15 "LadderClimb$Rig" "height" "I", Cond.fieldLink RX2 9 "LadderClimb$Rig" "base" "I", Cond.methodLink RX2 63 yX2_wallPercents, Cond.instanceMethod yX2_wallPercents, Cond.selects RX2 yX2_wallPercents yX2_wallPercents, Cond.code yX2_wallPercents cX2_wallPercents 1 (some .int), Cond.methodLink RX2 47 yX2_moment, Cond.instanceMethod yX2_moment, Cond.selects RX2 yX2_moment yX2_moment, Cond.code yX2_moment cX2_moment 3 (some .int), Cond.fieldLink RX2 18 "LadderClimb$Rig" "weight" "I"]
def wsL_count_r3 : List Cond := [Cond.fieldLink RX2 40 "LadderClimb$Rig" "steps" "[I", Cond.fieldLink RX2 36 "LadderClimb$Rig" "weights" "[I", Cond.methodLink RX2 88 yJ9_floorDiv_7cf53, Cond.static yJ9_floorDiv_7cf53, Cond.initialized RJ9, Cond.code yJ9_floorDiv_7cf53 cJ9_floorDiv_7cf53 3 (some .int), Cond.methodLink RX2 85 yX2_leastByGround, Cond.instanceMethod yX2_leastByGround, Cond.selects RX2 yX2_leastByGround yX2_leastByGround, Cond.code yX2_leastByGround cX2_leastByGround 3 (some .int), Cond.fieldLink RX2 27 "LadderClimb$Rig" "rope" "I", Cond.methodLink RX2 66 yX2_groundPercents, Cond.instanceMethod yX2_groundPercents, Cond.selects RX2 yX2_groundPercents yX2_groundPercents, Cond.code yX2_groundPercents cX2_groundPercents 1 (some .int), Cond.fieldLink RX2 21 "LadderClimb$Rig" "ground" "I", Cond.methodLink RX2 55 yX2_load, Cond.instanceMethod yX2_load, Cond.selects RX2 yX2_load yX2_load, Cond.code yX2_load cX2_load 3 (some .int), Cond.methodLink RX2 72 yX2_greatestForce, Cond.instanceMethod yX2_greatestForce, Cond.selects RX2 yX2_greatestForce yX2_greatestForce, Cond.code yX2_greatestForce cX2_greatestForce 3 (some .int)]
def wsL_count_r4 : List Cond := [Cond.methodLink RX5 189 yX3_people, Cond.instanceMethod yX3_people, Cond.selects RX3 yX3_people yX3_people, Cond.code yX3_people cX3_people 3 (some .int), Cond.fieldLink RX3 33 "LadderClimb$Rig" "people" "I", Cond.methodLink RX5 191 yX3_falls, Cond.instanceMethod yX3_falls, Cond.selects RX3 yX3_falls yX3_falls, Cond.code yX3_falls cX3_falls 3 (some .int), Cond.fieldLink RX3 36 "LadderClimb$Rig" "falls" "I"]
def wsL_count : List Cond := .codeWith yL_count cL_count 4 (some .int) [(0, 9, 12, 15)] :: ((wsL_count_r1 ++ (wsL_count_r2 ++ (wsL_count_r3 ++ wsL_count_r4))) ++ wsX50 ++ wsX30 ++ wsX00 ++ wsX20 ++ (vx_atS RX5 122 "java/lang/IllegalArgumentException" ["java/lang/RuntimeException", "java/lang/Exception"]).filter goodWord)
def wsL_highest_r1 : List Cond := [Cond.classLink RL 13 "java/lang/IndexOutOfBoundsException", Cond.methodLink RL 62 yX5_highest, Cond.instanceMethod yX5_highest, Cond.selects RX5 yX5_highest yX5_highest, Cond.initialized RX5, Cond.code yX5_highest cX5_highest 6 (some .int), Cond.fieldLink RX5 33 "LadderClimb" "trial" "LLadderClimb$Rig;", Cond.methodLink RX5 37 yX5_rigOf, Cond.instanceMethod yX5_rigOf, Cond.selects RX5 yX5_rigOf yX5_rigOf, Cond.code yX5_rigOf cX5_rigOf 2 (some (.object "LadderClimb$Rig")), Cond.classLink RX5 280 "java/lang/IndexOutOfBoundsException", Cond.initialized "java/lang/IndexOutOfBoundsException", Cond.fieldLink RX5 10 "LadderClimb" "site" "LLadderClimb$Site;", Cond.fieldLink RX5 285 "LadderClimb$Site" "rigs" "[LLadderClimb$Rig;", Cond.methodLink RX5 90 yX5_demandPerson, Cond.static yX5_demandPerson, Cond.code yX5_demandPerson cX5_demandPerson 2 none, Cond.methodLink RX5 289 yX2_bears, Cond.instanceMethod yX2_bears, Cond.selects RX2 yX2_bears yX2_bears, Cond.initialized RX2, Cond.code yX2_bears cX2_bears 2 (some .boolean), Cond.fieldLink RX2 33 "LadderClimb$Rig" "people" "I"]
def wsL_highest_r2 : List Cond := [Cond.methodLink RX5 201 yX2_copyFrom, Cond.instanceMethod yX2_copyFrom, Cond.selects RX2 yX2_copyFrom yX2_copyFrom, Cond.code yX2_copyFrom cX2_copyFrom 3 none, Cond.fieldLink RX2 9 "LadderClimb$Rig" "base" "I", Cond.fieldLink RX2 15 "LadderClimb$Rig" "height" "I", Cond.fieldLink RX2 18 "LadderClimb$Rig" "weight" "I", Cond.fieldLink RX2 21 "LadderClimb$Rig" "ground" "I", Cond.fieldLink RX2 24 "LadderClimb$Rig" "wall" "I", Cond.fieldLink RX2 27 "LadderClimb$Rig" "rope" "I", Cond.fieldLink RX2 30 "LadderClimb$Rig" "falls" "I", Cond.fieldLink RX2 36 "LadderClimb$Rig" "weights" "[I", Cond.fieldLink RX2 40 "LadderClimb$Rig" "steps" "[I", Cond.methodLink RX5 163 yX2_stepOf, Cond.instanceMethod yX2_stepOf, Cond.selects RX2 yX2_stepOf yX2_stepOf, Cond.code yX2_stepOf cX2_stepOf 2 (some .int), Cond.methodLink RX2 43 yX2_bears, Cond.methodLink RX5 205 yX2_setStep, Cond.instanceMethod yX2_setStep, Cond.selects RX2 yX2_setStep yX2_setStep, Cond.code yX2_setStep cX2_setStep 3 none, Cond.methodLink RX5 154 yX2_stands, Cond.instanceMethod yX2_stands]
def wsL_highest_r3 : List Cond := [Cond.selects RX2 yX2_stands yX2_stands, Cond.code yX2_stands cX2_stands 1 (some .boolean), Cond.methodLink RX2 69 yX2_leastForce, Cond.instanceMethod yX2_leastForce, Cond.selects RX2 yX2_leastForce yX2_leastForce, Cond.code yX2_leastForce cX2_leastForce 1 (some .int), Cond.methodLink RX2 75 Lib.Math.max.name, Cond.static Lib.Math.max.name, Cond.initialized "java/lang/Math", Cond.code Lib.Math.max.name Lib.Math.max.code 2 (some .int), Cond.methodLink RX2 82 yX2_leastByWall, Cond.instanceMethod yX2_leastByWall, Cond.selects RX2 yX2_leastByWall yX2_leastByWall, Cond.code yX2_leastByWall cX2_leastByWall 3 (some .int), Cond.methodLink RX2 63 yX2_wallPercents, Cond.instanceMethod yX2_wallPercents, Cond.selects RX2 yX2_wallPercents yX2_wallPercents, Cond.code yX2_wallPercents cX2_wallPercents 1 (some .int), Cond.methodLink RX2 47 yX2_moment, Cond.instanceMethod yX2_moment, Cond.selects RX2 yX2_moment yX2_moment, Cond.code yX2_moment cX2_moment 3 (some .int), Cond.methodLink RX2 88 yJ9_floorDiv_7cf53, Cond.static yJ9_floorDiv_7cf53]
def wsL_highest_r4 : List Cond := [Cond.initialized RJ9, Cond.code yJ9_floorDiv_7cf53 cJ9_floorDiv_7cf53 3 (some .int), Cond.methodLink RX2 85 yX2_leastByGround, Cond.instanceMethod yX2_leastByGround, Cond.selects RX2 yX2_leastByGround yX2_leastByGround, Cond.code yX2_leastByGround cX2_leastByGround 3 (some .int), Cond.methodLink RX2 66 yX2_groundPercents, Cond.instanceMethod yX2_groundPercents, Cond.selects RX2 yX2_groundPercents yX2_groundPercents, Cond.code yX2_groundPercents cX2_groundPercents 1 (some .int), Cond.methodLink RX2 55 yX2_load, Cond.instanceMethod yX2_load, Cond.selects RX2 yX2_load yX2_load, Cond.code yX2_load cX2_load 3 (some .int), Cond.methodLink RX2 72 yX2_greatestForce, Cond.instanceMethod yX2_greatestForce, Cond.selects RX2 yX2_greatestForce yX2_greatestForce, Cond.code yX2_greatestForce cX2_greatestForce 3 (some .int)]
def wsL_highest : List Cond := .codeWith yL_highest cL_highest 5 (some .int) [(0, 10, 13, 13)] :: ((wsL_highest_r1 ++ (wsL_highest_r2 ++ (wsL_highest_r3 ++ wsL_highest_r4))) ++ wsX50 ++ wsX30 ++ wsX20 ++ (vx_atS RX5 284 "java/lang/IndexOutOfBoundsException" ["java/lang/RuntimeException", "java/lang/Exception"]).filter goodWord)
def wsL_neededRope_r1 : List Cond := [Cond.classLink RL 13 "java/lang/IndexOutOfBoundsException", Cond.methodLink RL 65 yX5_neededRope, Cond.instanceMethod yX5_neededRope, Cond.selects RX5 yX5_neededRope yX5_neededRope, Cond.initialized RX5, Cond.code yX5_neededRope cX5_neededRope 3 (some .int), Cond.fieldLink RX5 33 "LadderClimb" "trial" "LLadderClimb$Rig;", Cond.fieldLink RX5 69 "LadderClimb$Rig" "rope" "I", Cond.methodLink RX5 37 yX5_rigOf, Cond.instanceMethod yX5_rigOf, Cond.selects RX5 yX5_rigOf yX5_rigOf, Cond.code yX5_rigOf cX5_rigOf 2 (some (.object "LadderClimb$Rig")), Cond.classLink RX5 280 "java/lang/IndexOutOfBoundsException", Cond.initialized "java/lang/IndexOutOfBoundsException", Cond.fieldLink RX5 10 "LadderClimb" "site" "LLadderClimb$Site;", Cond.fieldLink RX5 285 "LadderClimb$Site" "rigs" "[LLadderClimb$Rig;", Cond.methodLink RX5 201 yX2_copyFrom, Cond.instanceMethod yX2_copyFrom, Cond.selects RX2 yX2_copyFrom yX2_copyFrom, Cond.initialized RX2, Cond.code yX2_copyFrom cX2_copyFrom 3 none, Cond.fieldLink RX2 9 "LadderClimb$Rig" "base" "I", Cond.fieldLink RX2 15 "LadderClimb$Rig" "height" "I", Cond.fieldLink RX2 18 "LadderClimb$Rig" "weight" "I"]
def wsL_neededRope_r2 : List Cond := [Cond.fieldLink RX2 21 "LadderClimb$Rig" "ground" "I", Cond.fieldLink RX2 24 "LadderClimb$Rig" "wall" "I", Cond.fieldLink RX2 27 "LadderClimb$Rig" "rope" "I", Cond.fieldLink RX2 30 "LadderClimb$Rig" "falls" "I", Cond.fieldLink RX2 33 "LadderClimb$Rig" "people" "I", Cond.fieldLink RX2 36 "LadderClimb$Rig" "weights" "[I", Cond.fieldLink RX2 40 "LadderClimb$Rig" "steps" "[I", Cond.methodLink RX5 154 yX2_stands, Cond.instanceMethod yX2_stands, Cond.selects RX2 yX2_stands yX2_stands, Cond.code yX2_stands cX2_stands 1 (some .boolean), Cond.methodLink RX2 69 yX2_leastForce, Cond.instanceMethod yX2_leastForce, Cond.selects RX2 yX2_leastForce yX2_leastForce, Cond.code yX2_leastForce cX2_leastForce 1 (some .int), Cond.methodLink RX2 75 Lib.Math.max.name, Cond.static Lib.Math.max.name, Cond.initialized "java/lang/Math", Cond.code Lib.Math.max.name Lib.Math.max.code 2 (some .int), Cond.methodLink RX2 82 yX2_leastByWall, Cond.instanceMethod yX2_leastByWall, Cond.selects RX2 yX2_leastByWall yX2_leastByWall, Cond.code yX2_leastByWall cX2_leastByWall 3 (some .int), Cond.methodLink RX2 63 yX2_wallPercents]
def wsL_neededRope_r3 : List Cond := [Cond.instanceMethod yX2_wallPercents, Cond.selects RX2 yX2_wallPercents yX2_wallPercents, Cond.code yX2_wallPercents cX2_wallPercents 1 (some .int), Cond.methodLink RX2 47 yX2_moment, Cond.instanceMethod yX2_moment, Cond.selects RX2 yX2_moment yX2_moment, Cond.code yX2_moment cX2_moment 3 (some .int), Cond.methodLink RX2 88 yJ9_floorDiv_7cf53, Cond.static yJ9_floorDiv_7cf53, Cond.initialized RJ9, Cond.code yJ9_floorDiv_7cf53 cJ9_floorDiv_7cf53 3 (some .int), Cond.methodLink RX2 85 yX2_leastByGround, Cond.instanceMethod yX2_leastByGround, Cond.selects RX2 yX2_leastByGround yX2_leastByGround, Cond.code yX2_leastByGround cX2_leastByGround 3 (some .int), Cond.methodLink RX2 66 yX2_groundPercents, Cond.instanceMethod yX2_groundPercents, Cond.selects RX2 yX2_groundPercents yX2_groundPercents, Cond.code yX2_groundPercents cX2_groundPercents 1 (some .int), Cond.methodLink RX2 55 yX2_load, Cond.instanceMethod yX2_load, Cond.selects RX2 yX2_load yX2_load, Cond.code yX2_load cX2_load 3 (some .int), Cond.methodLink RX2 72 yX2_greatestForce]
def wsL_neededRope_r4 : List Cond := [Cond.instanceMethod yX2_greatestForce, Cond.selects RX2 yX2_greatestForce yX2_greatestForce, Cond.code yX2_greatestForce cX2_greatestForce 3 (some .int)]
def wsL_neededRope : List Cond := .codeWith yL_neededRope cL_neededRope 4 (some .int) [(0, 9, 12, 13)] :: ((wsL_neededRope_r1 ++ (wsL_neededRope_r2 ++ (wsL_neededRope_r3 ++ wsL_neededRope_r4))) ++ wsX50 ++ wsX20 ++ wsX30 ++ (vx_atS RX5 284 "java/lang/IndexOutOfBoundsException" ["java/lang/RuntimeException", "java/lang/Exception"]).filter goodWord)
def wsL_bestBase_r1 : List Cond := [Cond.classLink RL 13 "java/lang/IndexOutOfBoundsException", Cond.methodLink RL 68 yX5_bestBase, Cond.instanceMethod yX5_bestBase, Cond.selects RX5 yX5_bestBase yX5_bestBase, Cond.initialized RX5, Cond.code yX5_bestBase cX5_bestBase 6 (some .int), Cond.fieldLink RX5 33 "LadderClimb" "trial" "LLadderClimb$Rig;", Cond.fieldLink RX5 49 "LadderClimb$Rig" "base" "I", Cond.methodLink RX5 37 yX5_rigOf, Cond.instanceMethod yX5_rigOf, Cond.selects RX5 yX5_rigOf yX5_rigOf, Cond.code yX5_rigOf cX5_rigOf 2 (some (.object "LadderClimb$Rig")), Cond.classLink RX5 280 "java/lang/IndexOutOfBoundsException", Cond.initialized "java/lang/IndexOutOfBoundsException", Cond.fieldLink RX5 10 "LadderClimb" "site" "LLadderClimb$Site;", Cond.fieldLink RX5 285 "LadderClimb$Site" "rigs" "[LLadderClimb$Rig;", Cond.methodLink RX5 201 yX2_copyFrom, Cond.instanceMethod yX2_copyFrom, Cond.selects RX2 yX2_copyFrom yX2_copyFrom, Cond.initialized RX2, Cond.code yX2_copyFrom cX2_copyFrom 3 none, Cond.fieldLink RX2 9 "LadderClimb$Rig" "base" "I", Cond.fieldLink RX2 15 "LadderClimb$Rig" "height" "I", Cond.fieldLink RX2 18 "LadderClimb$Rig" "weight" "I"]
def wsL_bestBase_r2 : List Cond := [Cond.fieldLink RX2 21 "LadderClimb$Rig" "ground" "I", Cond.fieldLink RX2 24 "LadderClimb$Rig" "wall" "I", Cond.fieldLink RX2 27 "LadderClimb$Rig" "rope" "I", Cond.fieldLink RX2 30 "LadderClimb$Rig" "falls" "I", Cond.fieldLink RX2 33 "LadderClimb$Rig" "people" "I", Cond.fieldLink RX2 36 "LadderClimb$Rig" "weights" "[I", Cond.fieldLink RX2 40 "LadderClimb$Rig" "steps" "[I", Cond.methodLink RX5 168 yX2_forces, Cond.instanceMethod yX2_forces, Cond.selects RX2 yX2_forces yX2_forces, Cond.code yX2_forces cX2_forces 1 (some .int), Cond.methodLink RX2 75 Lib.Math.max.name, Cond.static Lib.Math.max.name, Cond.initialized "java/lang/Math", Cond.code Lib.Math.max.name Lib.Math.max.code 2 (some .int), Cond.methodLink RX2 72 yX2_greatestForce, Cond.instanceMethod yX2_greatestForce, Cond.selects RX2 yX2_greatestForce yX2_greatestForce, Cond.code yX2_greatestForce cX2_greatestForce 3 (some .int), Cond.methodLink RX2 63 yX2_wallPercents, Cond.instanceMethod yX2_wallPercents, Cond.selects RX2 yX2_wallPercents yX2_wallPercents, Cond.code yX2_wallPercents cX2_wallPercents 1 (some .int), Cond.methodLink RX2 47 yX2_moment]
def wsL_bestBase_r3 : List Cond := [Cond.instanceMethod yX2_moment, Cond.selects RX2 yX2_moment yX2_moment, Cond.code yX2_moment cX2_moment 3 (some .int), Cond.methodLink RX2 88 yJ9_floorDiv_7cf53, Cond.static yJ9_floorDiv_7cf53, Cond.initialized RJ9, Cond.code yJ9_floorDiv_7cf53 cJ9_floorDiv_7cf53 3 (some .int), Cond.methodLink RX2 69 yX2_leastForce, Cond.instanceMethod yX2_leastForce, Cond.selects RX2 yX2_leastForce yX2_leastForce, Cond.code yX2_leastForce cX2_leastForce 1 (some .int), Cond.methodLink RX2 82 yX2_leastByWall, Cond.instanceMethod yX2_leastByWall, Cond.selects RX2 yX2_leastByWall yX2_leastByWall, Cond.code yX2_leastByWall cX2_leastByWall 3 (some .int), Cond.methodLink RX2 85 yX2_leastByGround, Cond.instanceMethod yX2_leastByGround, Cond.selects RX2 yX2_leastByGround yX2_leastByGround, Cond.code yX2_leastByGround cX2_leastByGround 3 (some .int), Cond.methodLink RX2 66 yX2_groundPercents, Cond.instanceMethod yX2_groundPercents, Cond.selects RX2 yX2_groundPercents yX2_groundPercents, Cond.code yX2_groundPercents cX2_groundPercents 1 (some .int), Cond.methodLink RX2 55 yX2_load]
def wsL_bestBase_r4 : List Cond := [Cond.instanceMethod yX2_load, Cond.selects RX2 yX2_load yX2_load, Cond.code yX2_load cX2_load 3 (some .int)]
def wsL_bestBase : List Cond := .codeWith yL_bestBase cL_bestBase 4 (some .int) [(0, 9, 12, 13)] :: ((wsL_bestBase_r1 ++ (wsL_bestBase_r2 ++ (wsL_bestBase_r3 ++ wsL_bestBase_r4))) ++ wsX50 ++ wsX20 ++ wsX30 ++ (vx_atS RX5 284 "java/lang/IndexOutOfBoundsException" ["java/lang/RuntimeException", "java/lang/Exception"]).filter goodWord)
def wsL_riskiest_r1 : List Cond := [Cond.classLink RL 13 "java/lang/IndexOutOfBoundsException", Cond.methodLink RL 71 yX5_riskiest, Cond.instanceMethod yX5_riskiest, Cond.selects RX5 yX5_riskiest yX5_riskiest, Cond.initialized RX5, Cond.code yX5_riskiest cX5_riskiest 7 (some .int), Cond.fieldLink RX5 87 "LadderClimb$Rig" "people" "I", Cond.fieldLink RX5 33 "LadderClimb" "trial" "LLadderClimb$Rig;", Cond.methodLink RX5 37 yX5_rigOf, Cond.instanceMethod yX5_rigOf, Cond.selects RX5 yX5_rigOf yX5_rigOf, Cond.code yX5_rigOf cX5_rigOf 2 (some (.object "LadderClimb$Rig")), Cond.classLink RX5 280 "java/lang/IndexOutOfBoundsException", Cond.initialized "java/lang/IndexOutOfBoundsException", Cond.fieldLink RX5 10 "LadderClimb" "site" "LLadderClimb$Site;", Cond.fieldLink RX5 285 "LadderClimb$Site" "rigs" "[LLadderClimb$Rig;", Cond.methodLink RX5 201 yX2_copyFrom, Cond.instanceMethod yX2_copyFrom, Cond.selects RX2 yX2_copyFrom yX2_copyFrom, Cond.initialized RX2, Cond.code yX2_copyFrom cX2_copyFrom 3 none, Cond.fieldLink RX2 9 "LadderClimb$Rig" "base" "I", Cond.fieldLink RX2 15 "LadderClimb$Rig" "height" "I", Cond.fieldLink RX2 18 "LadderClimb$Rig" "weight" "I"]
def wsL_riskiest_r2 : List Cond := [Cond.fieldLink RX2 21 "LadderClimb$Rig" "ground" "I", Cond.fieldLink RX2 24 "LadderClimb$Rig" "wall" "I", Cond.fieldLink RX2 27 "LadderClimb$Rig" "rope" "I", Cond.fieldLink RX2 30 "LadderClimb$Rig" "falls" "I", Cond.fieldLink RX2 33 "LadderClimb$Rig" "people" "I", Cond.fieldLink RX2 36 "LadderClimb$Rig" "weights" "[I", Cond.fieldLink RX2 40 "LadderClimb$Rig" "steps" "[I", Cond.methodLink RX5 94 yX2_remove, Cond.instanceMethod yX2_remove, Cond.selects RX2 yX2_remove yX2_remove, Cond.code yX2_remove cX2_remove 3 none, Cond.methodLink RX2 43 yX2_bears, Cond.instanceMethod yX2_bears, Cond.selects RX2 yX2_bears yX2_bears, Cond.code yX2_bears cX2_bears 2 (some .boolean), Cond.methodLink RX5 168 yX2_forces, Cond.instanceMethod yX2_forces, Cond.selects RX2 yX2_forces yX2_forces, Cond.code yX2_forces cX2_forces 1 (some .int), Cond.methodLink RX2 75 Lib.Math.max.name, Cond.static Lib.Math.max.name, Cond.initialized "java/lang/Math", Cond.code Lib.Math.max.name Lib.Math.max.code 2 (some .int), Cond.methodLink RX2 72 yX2_greatestForce]
def wsL_riskiest_r3 : List Cond := [Cond.instanceMethod yX2_greatestForce, Cond.selects RX2 yX2_greatestForce yX2_greatestForce, Cond.code yX2_greatestForce cX2_greatestForce 3 (some .int), Cond.methodLink RX2 63 yX2_wallPercents, Cond.instanceMethod yX2_wallPercents, Cond.selects RX2 yX2_wallPercents yX2_wallPercents, Cond.code yX2_wallPercents cX2_wallPercents 1 (some .int), Cond.methodLink RX2 47 yX2_moment, Cond.instanceMethod yX2_moment, Cond.selects RX2 yX2_moment yX2_moment, Cond.code yX2_moment cX2_moment 3 (some .int), Cond.methodLink RX2 88 yJ9_floorDiv_7cf53, Cond.static yJ9_floorDiv_7cf53, Cond.initialized RJ9, Cond.code yJ9_floorDiv_7cf53 cJ9_floorDiv_7cf53 3 (some .int), Cond.methodLink RX2 69 yX2_leastForce, Cond.instanceMethod yX2_leastForce, Cond.selects RX2 yX2_leastForce yX2_leastForce, Cond.code yX2_leastForce cX2_leastForce 1 (some .int), Cond.methodLink RX2 82 yX2_leastByWall, Cond.instanceMethod yX2_leastByWall, Cond.selects RX2 yX2_leastByWall yX2_leastByWall, Cond.code yX2_leastByWall cX2_leastByWall 3 (some .int), Cond.methodLink RX2 85 yX2_leastByGround]
def wsL_riskiest_r4 : List Cond := [Cond.instanceMethod yX2_leastByGround, Cond.selects RX2 yX2_leastByGround yX2_leastByGround, Cond.code yX2_leastByGround cX2_leastByGround 3 (some .int), Cond.methodLink RX2 66 yX2_groundPercents, Cond.instanceMethod yX2_groundPercents, Cond.selects RX2 yX2_groundPercents yX2_groundPercents, Cond.code yX2_groundPercents cX2_groundPercents 1 (some .int), Cond.methodLink RX2 55 yX2_load, Cond.instanceMethod yX2_load, Cond.selects RX2 yX2_load yX2_load, Cond.code yX2_load cX2_load 3 (some .int)]
def wsL_riskiest : List Cond := .codeWith yL_riskiest cL_riskiest 4 (some .int) [(0, 9, 12, 13)] :: ((wsL_riskiest_r1 ++ (wsL_riskiest_r2 ++ (wsL_riskiest_r3 ++ wsL_riskiest_r4))) ++ wsX20 ++ wsX50 ++ wsX30 ++ (vx_atS RX5 284 "java/lang/IndexOutOfBoundsException" ["java/lang/RuntimeException", "java/lang/Exception"]).filter goodWord)
def wsL_walls_r1 : List Cond := [Cond.classLink RL 13 "java/lang/IndexOutOfBoundsException", Cond.methodLink RL 74 yX5_walls, Cond.instanceMethod yX5_walls, Cond.selects RX5 yX5_walls yX5_walls, Cond.initialized RX5, Cond.code yX5_walls cX5_walls 4 (some .int), Cond.fieldLink RX5 33 "LadderClimb" "trial" "LLadderClimb$Rig;", Cond.fieldLink RX5 66 "LadderClimb$Rig" "wall" "I", Cond.methodLink RX5 37 yX5_rigOf, Cond.instanceMethod yX5_rigOf, Cond.selects RX5 yX5_rigOf yX5_rigOf, Cond.code yX5_rigOf cX5_rigOf 2 (some (.object "LadderClimb$Rig")), Cond.classLink RX5 280 "java/lang/IndexOutOfBoundsException", Cond.initialized "java/lang/IndexOutOfBoundsException", Cond.fieldLink RX5 10 "LadderClimb" "site" "LLadderClimb$Site;", Cond.fieldLink RX5 285 "LadderClimb$Site" "rigs" "[LLadderClimb$Rig;", Cond.methodLink RX5 201 yX2_copyFrom, Cond.instanceMethod yX2_copyFrom, Cond.selects RX2 yX2_copyFrom yX2_copyFrom, Cond.initialized RX2, Cond.code yX2_copyFrom cX2_copyFrom 3 none, Cond.fieldLink RX2 9 "LadderClimb$Rig" "base" "I", Cond.fieldLink RX2 15 "LadderClimb$Rig" "height" "I", Cond.fieldLink RX2 18 "LadderClimb$Rig" "weight" "I"]
def wsL_walls_r2 : List Cond := [Cond.fieldLink RX2 21 "LadderClimb$Rig" "ground" "I", Cond.fieldLink RX2 24 "LadderClimb$Rig" "wall" "I", Cond.fieldLink RX2 27 "LadderClimb$Rig" "rope" "I", Cond.fieldLink RX2 30 "LadderClimb$Rig" "falls" "I", Cond.fieldLink RX2 33 "LadderClimb$Rig" "people" "I", Cond.fieldLink RX2 36 "LadderClimb$Rig" "weights" "[I", Cond.fieldLink RX2 40 "LadderClimb$Rig" "steps" "[I", Cond.methodLink RX5 154 yX2_stands, Cond.instanceMethod yX2_stands, Cond.selects RX2 yX2_stands yX2_stands, Cond.code yX2_stands cX2_stands 1 (some .boolean), Cond.methodLink RX2 69 yX2_leastForce, Cond.instanceMethod yX2_leastForce, Cond.selects RX2 yX2_leastForce yX2_leastForce, Cond.code yX2_leastForce cX2_leastForce 1 (some .int), Cond.methodLink RX2 75 Lib.Math.max.name, Cond.static Lib.Math.max.name, Cond.initialized "java/lang/Math", Cond.code Lib.Math.max.name Lib.Math.max.code 2 (some .int), Cond.methodLink RX2 82 yX2_leastByWall, Cond.instanceMethod yX2_leastByWall, Cond.selects RX2 yX2_leastByWall yX2_leastByWall, Cond.code yX2_leastByWall cX2_leastByWall 3 (some .int), Cond.methodLink RX2 63 yX2_wallPercents]
def wsL_walls_r3 : List Cond := [Cond.instanceMethod yX2_wallPercents, Cond.selects RX2 yX2_wallPercents yX2_wallPercents, Cond.code yX2_wallPercents cX2_wallPercents 1 (some .int), Cond.methodLink RX2 47 yX2_moment, Cond.instanceMethod yX2_moment, Cond.selects RX2 yX2_moment yX2_moment, Cond.code yX2_moment cX2_moment 3 (some .int), Cond.methodLink RX2 88 yJ9_floorDiv_7cf53, Cond.static yJ9_floorDiv_7cf53, Cond.initialized RJ9, Cond.code yJ9_floorDiv_7cf53 cJ9_floorDiv_7cf53 3 (some .int), Cond.methodLink RX2 85 yX2_leastByGround, Cond.instanceMethod yX2_leastByGround, Cond.selects RX2 yX2_leastByGround yX2_leastByGround, Cond.code yX2_leastByGround cX2_leastByGround 3 (some .int), Cond.methodLink RX2 66 yX2_groundPercents, Cond.instanceMethod yX2_groundPercents, Cond.selects RX2 yX2_groundPercents yX2_groundPercents, Cond.code yX2_groundPercents cX2_groundPercents 1 (some .int), Cond.methodLink RX2 55 yX2_load, Cond.instanceMethod yX2_load, Cond.selects RX2 yX2_load yX2_load, Cond.code yX2_load cX2_load 3 (some .int), Cond.methodLink RX2 72 yX2_greatestForce]
def wsL_walls_r4 : List Cond := [Cond.instanceMethod yX2_greatestForce, Cond.selects RX2 yX2_greatestForce yX2_greatestForce, Cond.code yX2_greatestForce cX2_greatestForce 3 (some .int)]
def wsL_walls : List Cond := .codeWith yL_walls cL_walls 4 (some .int) [(0, 9, 12, 13)] :: ((wsL_walls_r1 ++ (wsL_walls_r2 ++ (wsL_walls_r3 ++ wsL_walls_r4))) ++ wsX50 ++ wsX20 ++ wsX30 ++ (vx_atS RX5 284 "java/lang/IndexOutOfBoundsException" ["java/lang/RuntimeException", "java/lang/Exception"]).filter goodWord)
def wsL_law0_r1 : List Cond := [Cond.classLink RL 8 RX5, Cond.instantiable RX5 4, Cond.initialized RX5, Cond.classLink RL 78 RX6, Cond.instantiable RX6 16, Cond.initialized RX6, Cond.arrayClass .long, Cond.methodLink RL 77 yX5_init, Cond.instanceMethod yX5_init, Cond.code yX5_init cX5_init 1 none, Cond.methodLink RX5 1 objectInit, Cond.instanceMethod objectInit, Cond.code objectInit ⟨#[0xb1]⟩ 1 none, Cond.classLink RX5 7 RX3, Cond.instantiable RX3 3, Cond.initialized RX3, Cond.fieldLink RX5 10 "LadderClimb" "site" "LLadderClimb$Site;", Cond.classLink RX5 16 RX0, Cond.instantiable RX0 3, Cond.initialized RX0, Cond.fieldLink RX5 19 "LadderClimb" "history" "LLadderClimb$History;", Cond.classLink RX5 23 RX4, Cond.instantiable RX4 4, Cond.initialized RX4]
def wsL_law0_r2 : List Cond := [Cond.fieldLink RX5 26 "LadderClimb" "works" "LLadderClimb$Works;", Cond.classLink RX5 30 RX2, Cond.instantiable RX2 10, Cond.initialized RX2, Cond.fieldLink RX5 33 "LadderClimb" "trial" "LLadderClimb$Rig;", Cond.methodLink RX5 9 yX3_init, Cond.instanceMethod yX3_init, Cond.code yX3_init cX3_init 2 none, Cond.methodLink RX3 3 objectInit, Cond.classLink RX3 9 RX2, Cond.fieldLink RX3 11 "LadderClimb$Site" "rigs" "[LLadderClimb$Rig;", Cond.fieldLink RX3 17 "LadderClimb$Site" "fallen" "I", Cond.fieldLink RX3 21 "LadderClimb$Site" "climbed" "I", Cond.instanceMethod yX2_init, Cond.code yX2_init cX2_init 1 none, Cond.methodLink RX2 3 objectInit, Cond.fieldLink RX2 9 "LadderClimb$Rig" "base" "I", Cond.fieldLink RX2 15 "LadderClimb$Rig" "height" "I", Cond.fieldLink RX2 18 "LadderClimb$Rig" "weight" "I", Cond.fieldLink RX2 21 "LadderClimb$Rig" "ground" "I", Cond.fieldLink RX2 24 "LadderClimb$Rig" "wall" "I", Cond.fieldLink RX2 27 "LadderClimb$Rig" "rope" "I", Cond.fieldLink RX2 30 "LadderClimb$Rig" "falls" "I", Cond.fieldLink RX2 33 "LadderClimb$Rig" "people" "I"]
def wsL_law0_r3 : List Cond := [Cond.arrayClass .int, Cond.fieldLink RX2 36 "LadderClimb$Rig" "weights" "[I", Cond.fieldLink RX2 40 "LadderClimb$Rig" "steps" "[I", Cond.methodLink RX5 18 yX0_init, Cond.instanceMethod yX0_init, Cond.code yX0_init cX0_init 2 none, Cond.methodLink RX0 3 objectInit, Cond.classLink RX0 9 RX3, Cond.fieldLink RX0 11 "LadderClimb$History" "saved" "[LLadderClimb$Site;", Cond.fieldLink RX0 17 "LadderClimb$History" "next" "I", Cond.fieldLink RX0 21 "LadderClimb$History" "size" "I", Cond.methodLink RX0 24 yX3_init, Cond.instanceMethod yX4_init, Cond.code yX4_init cX4_init 1 none, Cond.methodLink RX4 3 objectInit, Cond.fieldLink RX4 9 "LadderClimb$Works" "codes" "[I", Cond.fieldLink RX4 15 "LadderClimb$Works" "length" "I", Cond.fieldLink RX4 19 "LadderClimb$Works" "cursor" "I", Cond.classLink RX4 22 RX1, Cond.instantiable RX1 6, Cond.initialized RX1, Cond.fieldLink RX4 25 "LadderClimb$Works" "reader" "LLadderClimb$Reader;", Cond.instanceMethod yX1_init, Cond.code yX1_init cX1_init 1 none]
def wsL_law0_r4 : List Cond := [Cond.methodLink RX1 3 objectInit, Cond.fieldLink RX1 11 "LadderClimb$Reader" "place" "I", Cond.fieldLink RX1 15 "LadderClimb$Reader" "least" "I", Cond.fieldLink RX1 18 "LadderClimb$Reader" "most" "I", Cond.fieldLink RX1 21 "LadderClimb$Reader" "ladder" "I", Cond.fieldLink RX1 24 "LadderClimb$Reader" "work" "I", Cond.fieldLink RX1 27 "LadderClimb$Reader" "number" "I", Cond.methodLink RL 80 yX6_init, Cond.instanceMethod yX6_init, Cond.code yX6_init cX6_init 2 none, Cond.methodLink RX6 1 objectInit, Cond.fieldLink RX6 7 "LadderClimbModel" "s" "[I", Cond.fieldLink RX6 13 "LadderClimbModel" "saved" "[I", Cond.fieldLink RX6 16 "LadderClimbModel" "text" "[I", Cond.methodLink RX6 19 yX6_of, Cond.static yX6_of, Cond.code yX6_of cX6_of 2 (some .int), Cond.methodLink RL 81 yL_put, Cond.static yL_put, Cond.initialized RL, Cond.codeWith yL_put cL_put 7 (some .int) [(0, 14, 17, 13), (0, 14, 21, 15)], Cond.classLink RL 13 "java/lang/IndexOutOfBoundsException", Cond.classLink RL 15 "java/lang/IllegalArgumentException", Cond.methodLink RL 7 yX5_put]
def wsL_law0_r5 : List Cond := [Cond.instanceMethod yX5_put, Cond.selects RX5 yX5_put yX5_put, Cond.code yX5_put cX5_put 6 (some .int), Cond.fieldLink RX5 49 "LadderClimb$Rig" "base" "I", Cond.fieldLink RX5 53 "LadderClimb$Rig" "height" "I", Cond.fieldLink RX5 56 "LadderClimb$Rig" "weight" "I", Cond.methodLink RX5 37 yX5_rigOf, Cond.instanceMethod yX5_rigOf, Cond.selects RX5 yX5_rigOf yX5_rigOf, Cond.code yX5_rigOf cX5_rigOf 2 (some (.object "LadderClimb$Rig")), Cond.classLink RX5 280 "java/lang/IndexOutOfBoundsException", Cond.initialized "java/lang/IndexOutOfBoundsException", Cond.fieldLink RX5 285 "LadderClimb$Site" "rigs" "[LLadderClimb$Rig;", Cond.methodLink RX5 41 yX5_demandRange, Cond.static yX5_demandRange, Cond.code yX5_demandRange cX5_demandRange 3 none, Cond.classLink RX5 118 "java/lang/IllegalArgumentException", Cond.initialized "java/lang/IllegalArgumentException", Cond.methodLink RX5 45 yX0_save, Cond.instanceMethod yX0_save, Cond.selects RX0 yX0_save yX0_save, Cond.code yX0_save cX0_save 2 none, Cond.methodLink RX0 29 Lib.Math.min.name, Cond.static Lib.Math.min.name]
def wsL_law0_r6 : List Cond := [Cond.initialized "java/lang/Math", Cond.code Lib.Math.min.name Lib.Math.min.code 2 (some .int), Cond.methodLink RX0 25 yX3_copyFrom, Cond.instanceMethod yX3_copyFrom, Cond.selects RX3 yX3_copyFrom yX3_copyFrom, Cond.code yX3_copyFrom cX3_copyFrom 3 none, Cond.methodLink RX3 25 yX2_copyFrom, Cond.instanceMethod yX2_copyFrom, Cond.selects RX2 yX2_copyFrom yX2_copyFrom, Cond.code yX2_copyFrom cX2_copyFrom 3 none, Cond.methodLink RX5 59 yX3_fallsNow, Cond.instanceMethod yX3_fallsNow, Cond.selects RX3 yX3_fallsNow yX3_fallsNow, Cond.code yX3_fallsNow cX3_fallsNow 2 (some .boolean), Cond.fieldLink RX3 33 "LadderClimb$Rig" "people" "I", Cond.methodLink RX3 29 yX2_stands, Cond.instanceMethod yX2_stands, Cond.selects RX2 yX2_stands yX2_stands, Cond.code yX2_stands cX2_stands 1 (some .boolean), Cond.methodLink RX2 69 yX2_leastForce, Cond.instanceMethod yX2_leastForce, Cond.selects RX2 yX2_leastForce yX2_leastForce, Cond.code yX2_leastForce cX2_leastForce 1 (some .int), Cond.methodLink RX2 75 Lib.Math.max.name]
def wsL_law0_r7 : List Cond := [Cond.static Lib.Math.max.name, Cond.code Lib.Math.max.name Lib.Math.max.code 2 (some .int), Cond.methodLink RX2 82 yX2_leastByWall, Cond.instanceMethod yX2_leastByWall, Cond.selects RX2 yX2_leastByWall yX2_leastByWall, Cond.code yX2_leastByWall cX2_leastByWall 3 (some .int), Cond.methodLink RX2 63 yX2_wallPercents, Cond.instanceMethod yX2_wallPercents, Cond.selects RX2 yX2_wallPercents yX2_wallPercents, Cond.code yX2_wallPercents cX2_wallPercents 1 (some .int), Cond.methodLink RX2 47 yX2_moment, Cond.instanceMethod yX2_moment, Cond.selects RX2 yX2_moment yX2_moment, Cond.code yX2_moment cX2_moment 3 (some .int), Cond.methodLink RX2 88 yJ9_floorDiv_7cf53, Cond.static yJ9_floorDiv_7cf53, Cond.initialized RJ9, Cond.code yJ9_floorDiv_7cf53 cJ9_floorDiv_7cf53 3 (some .int), Cond.methodLink RX2 85 yX2_leastByGround, Cond.instanceMethod yX2_leastByGround, Cond.selects RX2 yX2_leastByGround yX2_leastByGround, Cond.code yX2_leastByGround cX2_leastByGround 3 (some .int), Cond.methodLink RX2 66 yX2_groundPercents, Cond.instanceMethod yX2_groundPercents]
def wsL_law0_r8 : List Cond := [Cond.selects RX2 yX2_groundPercents yX2_groundPercents, Cond.code yX2_groundPercents cX2_groundPercents 1 (some .int), Cond.methodLink RX2 55 yX2_load, Cond.instanceMethod yX2_load, Cond.selects RX2 yX2_load yX2_load, Cond.code yX2_load cX2_load 3 (some .int), Cond.methodLink RX2 72 yX2_greatestForce, Cond.instanceMethod yX2_greatestForce, Cond.selects RX2 yX2_greatestForce yX2_greatestForce, Cond.code yX2_greatestForce cX2_greatestForce 3 (some .int), Cond.methodLink RX3 39 yX3_fall, Cond.instanceMethod yX3_fall, Cond.selects RX3 yX3_fall yX3_fall, Cond.code yX3_fall cX3_fall 2 none, Cond.fieldLink RX3 36 "LadderClimb$Rig" "falls" "I", Cond.methodLink RX3 42 yX2_removeAll, Cond.instanceMethod yX2_removeAll, Cond.selects RX2 yX2_removeAll yX2_removeAll, Cond.code yX2_removeAll cX2_removeAll 2 none, Cond.methodLink RL 86 yX6_put, Cond.instanceMethod yX6_put, Cond.selects RX6 yX6_put yX6_put, Cond.code yX6_put cX6_put 6 (some .int), Cond.methodLink RX6 27 yX6_in]
def wsL_law0_r9 : List Cond := [Cond.static yX6_in, Cond.code yX6_in cX6_in 3 (some .boolean), Cond.methodLink RX6 31 yX6_isLadder, Cond.static yX6_isLadder, Cond.code yX6_isLadder cX6_isLadder 1 (some .boolean), Cond.methodLink RX6 77 yX6_holds, Cond.instanceMethod yX6_holds, Cond.selects RX6 yX6_holds yX6_holds, Cond.code yX6_holds cX6_holds 2 (some .boolean), Cond.fieldLink RX6 23 "LadderClimbModel" "thrown" "I", Cond.methodLink RX6 80 yX6_save, Cond.instanceMethod yX6_save, Cond.selects RX6 yX6_save yX6_save, Cond.code yX6_save cX6_save 2 none, Cond.fieldLink RX6 35 "LadderClimbModel" "savedMany" "I", Cond.methodLink RX6 83 yX6_falls, Cond.instanceMethod yX6_falls, Cond.selects RX6 yX6_falls yX6_falls, Cond.code yX6_falls cX6_falls 3 (some .boolean), Cond.methodLink RX6 74 yX6_stands, Cond.instanceMethod yX6_stands, Cond.selects RX6 yX6_stands yX6_stands, Cond.code yX6_stands cX6_stands 2 (some .boolean), Cond.methodLink RX6 71 yX6_forces]
def wsL_law0_r10 : List Cond := [Cond.instanceMethod yX6_forces, Cond.selects RX6 yX6_forces yX6_forces, Cond.code yX6_forces cX6_forces 7 (some .int), Cond.fieldLink RX6 55 "LadderClimbModel" "heldMany" "I", Cond.fieldLink RX6 58 "LadderClimbModel" "least" "I", Cond.fieldLink RX6 61 "LadderClimbModel" "greatest" "I", Cond.fieldLink RX6 64 "LadderClimbModel" "nearest" "I", Cond.methodLink RX6 52 yX6_loadOf, Cond.instanceMethod yX6_loadOf, Cond.selects RX6 yX6_loadOf yX6_loadOf, Cond.code yX6_loadOf cX6_loadOf 4 (some .int), Cond.methodLink RX6 38 yX6_ofPerson, Cond.static yX6_ofPerson, Cond.code yX6_ofPerson cX6_ofPerson 3 (some .int), Cond.methodLink RX6 42 yX6_momentOf, Cond.instanceMethod yX6_momentOf, Cond.selects RX6 yX6_momentOf yX6_momentOf, Cond.code yX6_momentOf cX6_momentOf 4 (some .int), Cond.methodLink RX6 67 yX6_lacks, Cond.instanceMethod yX6_lacks, Cond.selects RX6 yX6_lacks yX6_lacks, Cond.code yX6_lacks cX6_lacks 10 (some .int), Cond.methodLink RX6 46 yX6_wallOf, Cond.static yX6_wallOf]
def wsL_law0_r11 : List Cond := [Cond.code yX6_wallOf cX6_wallOf 1 (some .int), Cond.methodLink RX6 49 yX6_groundOf, Cond.static yX6_groundOf, Cond.code yX6_groundOf cX6_groundOf 1 (some .int), Cond.methodLink RL 87 yX6_thrown, Cond.instanceMethod yX6_thrown, Cond.selects RX6 yX6_thrown yX6_thrown, Cond.code yX6_thrown cX6_thrown 1 (some .int), Cond.methodLink RL 90 yL_kinds, Cond.static yL_kinds, Cond.codeWith yL_kinds cL_kinds 6 (some .int) [(0, 12, 15, 13), (0, 12, 19, 15)], Cond.methodLink RL 17 yX5_kinds, Cond.instanceMethod yX5_kinds, Cond.selects RX5 yX5_kinds yX5_kinds, Cond.code yX5_kinds cX5_kinds 5 (some .int), Cond.fieldLink RX5 63 "LadderClimb$Rig" "ground" "I", Cond.fieldLink RX5 66 "LadderClimb$Rig" "wall" "I", Cond.methodLink RL 93 yX6_kinds, Cond.instanceMethod yX6_kinds, Cond.selects RX6 yX6_kinds yX6_kinds, Cond.code yX6_kinds cX6_kinds 4 (some .int), Cond.methodLink RL 94 yL_rope, Cond.static yL_rope, Cond.codeWith yL_rope cL_rope 5 (some .int) [(0, 10, 13, 13), (0, 10, 17, 15)]]
def wsL_law0_r12 : List Cond := [Cond.methodLink RL 21 yX5_rope, Cond.instanceMethod yX5_rope, Cond.selects RX5 yX5_rope yX5_rope, Cond.code yX5_rope cX5_rope 4 (some .int), Cond.fieldLink RX5 69 "LadderClimb$Rig" "rope" "I", Cond.methodLink RL 97 yX6_rope, Cond.instanceMethod yX6_rope, Cond.selects RX6 yX6_rope yX6_rope, Cond.code yX6_rope cX6_rope 3 (some .int), Cond.methodLink RL 98 yL_on, Cond.static yL_on, Cond.codeWith yL_on cL_on 5 (some .int) [(0, 10, 13, 13), (0, 10, 17, 15), (0, 10, 21, 28)], Cond.classLink RL 28 "java/lang/IllegalStateException", Cond.methodLink RL 25 yX5_on, Cond.instanceMethod yX5_on, Cond.selects RX5 yX5_on yX5_on, Cond.code yX5_on cX5_on 4 (some .int), Cond.classLink RX5 76 "java/lang/IllegalStateException", Cond.initialized "java/lang/IllegalStateException", Cond.fieldLink RX5 87 "LadderClimb$Rig" "people" "I", Cond.methodLink RX5 72 yX2_isFull, Cond.instanceMethod yX2_isFull, Cond.selects RX2 yX2_isFull yX2_isFull, Cond.code yX2_isFull cX2_isFull 1 (some .boolean)]
def wsL_law0_r13 : List Cond := [Cond.methodLink RX5 83 yX2_add, Cond.instanceMethod yX2_add, Cond.selects RX2 yX2_add yX2_add, Cond.code yX2_add cX2_add 2 none, Cond.methodLink RL 100 yX6_on, Cond.instanceMethod yX6_on, Cond.selects RX6 yX6_on yX6_on, Cond.code yX6_on cX6_on 3 (some .int), Cond.methodLink RX6 86 yX6_comes, Cond.instanceMethod yX6_comes, Cond.selects RX6 yX6_comes yX6_comes, Cond.code yX6_comes cX6_comes 4 (some .int), Cond.methodLink RL 101 yL_off, Cond.static yL_off, Cond.codeWith yL_off cL_off 5 (some .int) [(0, 10, 13, 13)], Cond.methodLink RL 30 yX5_off, Cond.instanceMethod yX5_off, Cond.selects RX5 yX5_off yX5_off, Cond.code yX5_off cX5_off 4 (some .int), Cond.methodLink RX5 90 yX5_demandPerson, Cond.static yX5_demandPerson, Cond.code yX5_demandPerson cX5_demandPerson 2 none, Cond.methodLink RX5 289 yX2_bears, Cond.instanceMethod yX2_bears]
def wsL_law0_r14 : List Cond := [Cond.selects RX2 yX2_bears yX2_bears, Cond.code yX2_bears cX2_bears 2 (some .boolean), Cond.methodLink RX5 94 yX2_remove, Cond.instanceMethod yX2_remove, Cond.selects RX2 yX2_remove yX2_remove, Cond.code yX2_remove cX2_remove 3 none, Cond.methodLink RX2 43 yX2_bears, Cond.methodLink RL 103 yX6_off, Cond.instanceMethod yX6_off, Cond.selects RX6 yX6_off yX6_off, Cond.code yX6_off cX6_off 3 (some .int), Cond.methodLink RX6 93 yX6_isPerson, Cond.instanceMethod yX6_isPerson, Cond.selects RX6 yX6_isPerson yX6_isPerson, Cond.code yX6_isPerson cX6_isPerson 3 (some .boolean), Cond.methodLink RX6 97 yX6_goes, Cond.instanceMethod yX6_goes, Cond.selects RX6 yX6_goes yX6_goes, Cond.code yX6_goes cX6_goes 3 (some .int), Cond.methodLink RX6 89 yX6_takesOff, Cond.instanceMethod yX6_takesOff, Cond.selects RX6 yX6_takesOff yX6_takesOff, Cond.code yX6_takesOff cX6_takesOff 4 none, Cond.methodLink RL 104 yL_climb]
def wsL_law0_r15 : List Cond := [Cond.static yL_climb, Cond.codeWith yL_climb cL_climb 6 (some .int) [(0, 12, 15, 13), (0, 12, 19, 15)], Cond.methodLink RL 33 yX5_climb, Cond.instanceMethod yX5_climb, Cond.selects RX5 yX5_climb yX5_climb, Cond.code yX5_climb cX5_climb 5 (some .int), Cond.methodLink RX5 97 yX3_walk, Cond.instanceMethod yX3_walk, Cond.selects RX3 yX3_walk yX3_walk, Cond.code yX3_walk cX3_walk 8 (some .int), Cond.methodLink RX3 49 Lib.Math.abs.name, Cond.static Lib.Math.abs.name, Cond.code Lib.Math.abs.name Lib.Math.abs.code 1 (some .int), Cond.methodLink RX3 45 yX2_stepOf, Cond.instanceMethod yX2_stepOf, Cond.selects RX2 yX2_stepOf yX2_stepOf, Cond.code yX2_stepOf cX2_stepOf 2 (some .int), Cond.methodLink RX3 54 yX2_setStep, Cond.instanceMethod yX2_setStep, Cond.selects RX2 yX2_setStep yX2_setStep, Cond.code yX2_setStep cX2_setStep 3 none, Cond.methodLink RL 106 yX6_climb, Cond.instanceMethod yX6_climb, Cond.selects RX6 yX6_climb yX6_climb]
def wsL_law0_r16 : List Cond := [Cond.code yX6_climb cX6_climb 4 (some .int), Cond.methodLink RX6 100 yX6_climbs, Cond.instanceMethod yX6_climbs, Cond.selects RX6 yX6_climbs yX6_climbs, Cond.code yX6_climbs cX6_climbs 6 (some .int), Cond.methodLink RL 107 yL_append, Cond.static yL_append, Cond.codeWith yL_append cL_append 4 (some .int) [(0, 9, 12, 15), (0, 9, 15, 28)], Cond.methodLink RL 36 yX5_append, Cond.instanceMethod yX5_append, Cond.selects RX5 yX5_append yX5_append, Cond.code yX5_append cX5_append 2 (some .int), Cond.fieldLink RX5 105 "LadderClimb$Works" "length" "I", Cond.methodLink RX5 101 yX4_isFull, Cond.instanceMethod yX4_isFull, Cond.selects RX4 yX4_isFull yX4_isFull, Cond.code yX4_isFull cX4_isFull 1 (some .boolean), Cond.methodLink RX5 104 yX4_add, Cond.instanceMethod yX4_add, Cond.selects RX4 yX4_add yX4_add, Cond.code yX4_add cX4_add 2 none, Cond.methodLink RL 110 yX6_append, Cond.instanceMethod yX6_append, Cond.selects RX6 yX6_append yX6_append]
def wsL_law0_r17 : List Cond := [Cond.code yX6_append cX6_append 2 (some .int), Cond.fieldLink RX6 103 "LadderClimbModel" "length" "I", Cond.methodLink RL 111 yX5_clearBuffer, Cond.instanceMethod yX5_clearBuffer, Cond.selects RX5 yX5_clearBuffer yX5_clearBuffer, Cond.code yX5_clearBuffer cX5_clearBuffer 2 (some .int), Cond.methodLink RX5 108 yX4_clear, Cond.instanceMethod yX4_clear, Cond.selects RX4 yX4_clear yX4_clear, Cond.code yX4_clear cX4_clear 1 none, Cond.methodLink RL 114 yX6_clearBuffer, Cond.instanceMethod yX6_clearBuffer, Cond.selects RX6 yX6_clearBuffer yX6_clearBuffer, Cond.code yX6_clearBuffer cX6_clearBuffer 2 (some .int), Cond.methodLink RL 115 yX5_firstError, Cond.instanceMethod yX5_firstError, Cond.selects RX5 yX5_firstError yX5_firstError, Cond.code yX5_firstError cX5_firstError 1 (some .int), Cond.methodLink RX5 111 yX4_firstFault, Cond.instanceMethod yX4_firstFault, Cond.selects RX4 yX4_firstFault yX4_firstFault, Cond.code yX4_firstFault cX4_firstFault 2 (some .int), Cond.methodLink RX4 29 yX1_startPart, Cond.instanceMethod yX1_startPart]
def wsL_law0_r18 : List Cond := [Cond.selects RX1 yX1_startPart yX1_startPart, Cond.code yX1_startPart cX1_startPart 1 none, Cond.methodLink RX4 32 yX4_codeAt, Cond.instanceMethod yX4_codeAt, Cond.selects RX4 yX4_codeAt yX4_codeAt, Cond.code yX4_codeAt cX4_codeAt 2 (some .int), Cond.methodLink RX4 36 yX1_takes, Cond.instanceMethod yX1_takes, Cond.selects RX1 yX1_takes yX1_takes, Cond.code yX1_takes cX1_takes 2 (some .boolean), Cond.methodLink RX1 30 yX1_takesLadder, Cond.instanceMethod yX1_takesLadder, Cond.selects RX1 yX1_takesLadder yX1_takesLadder, Cond.code yX1_takesLadder cX1_takesLadder 2 (some .boolean), Cond.methodLink RX1 34 yX1_takesWork, Cond.instanceMethod yX1_takesWork, Cond.selects RX1 yX1_takesWork yX1_takesWork, Cond.code yX1_takesWork cX1_takesWork 2 (some .boolean), Cond.methodLink RX1 44 yX1_startNumber, Cond.instanceMethod yX1_startNumber, Cond.selects RX1 yX1_startNumber yX1_startNumber, Cond.code yX1_startNumber cX1_startNumber 4 (some .boolean), Cond.methodLink RX1 37 yX1_takesDigit, Cond.instanceMethod yX1_takesDigit]
def wsL_law0_r19 : List Cond := [Cond.selects RX1 yX1_takesDigit yX1_takesDigit, Cond.code yX1_takesDigit cX1_takesDigit 3 (some .boolean), Cond.methodLink RX1 48 yX1_canBecomeNumber, Cond.instanceMethod yX1_canBecomeNumber, Cond.selects RX1 yX1_canBecomeNumber yX1_canBecomeNumber, Cond.code yX1_canBecomeNumber cX1_canBecomeNumber 5 (some .boolean), Cond.methodLink RX1 40 yX1_takesSemicolon, Cond.instanceMethod yX1_takesSemicolon, Cond.selects RX1 yX1_takesSemicolon yX1_takesSemicolon, Cond.code yX1_takesSemicolon cX1_takesSemicolon 1 (some .boolean), Cond.methodLink RX1 51 yX1_isPartWhole, Cond.instanceMethod yX1_isPartWhole, Cond.selects RX1 yX1_isPartWhole yX1_isPartWhole, Cond.code yX1_isPartWhole cX1_isPartWhole 1 (some .boolean), Cond.methodLink RX1 54 yX1_startPart, Cond.methodLink RL 118 yX6_firstError, Cond.instanceMethod yX6_firstError, Cond.selects RX6 yX6_firstError yX6_firstError, Cond.code yX6_firstError cX6_firstError 2 (some .int), Cond.fieldLink RX6 109 "LadderClimbModel" "isWrong" "Z", Cond.fieldLink RX6 106 "LadderClimbModel" "place" "I", Cond.methodLink RX6 141 yX6_goesThrough, Cond.instanceMethod yX6_goesThrough, Cond.selects RX6 yX6_goesThrough yX6_goesThrough]
def wsL_law0_r20 : List Cond := [Cond.code yX6_goesThrough cX6_goesThrough 5 (some .int), Cond.methodLink RX6 134 yX6_readPart, Cond.instanceMethod yX6_readPart, Cond.selects RX6 yX6_readPart yX6_readPart, Cond.code yX6_readPart cX6_readPart 1 none, Cond.fieldLink RX6 125 "LadderClimbModel" "which" "I", Cond.fieldLink RX6 128 "LadderClimbModel" "work" "I", Cond.methodLink RX6 119 yX6_sign, Cond.instanceMethod yX6_sign, Cond.selects RX6 yX6_sign yX6_sign, Cond.code yX6_sign cX6_sign 4 (some .int), Cond.methodLink RX6 131 yX6_readNumber, Cond.instanceMethod yX6_readNumber, Cond.selects RX6 yX6_readNumber yX6_readNumber, Cond.code yX6_readNumber cX6_readNumber 3 none, Cond.fieldLink RX6 113 "LadderClimbModel" "number" "I", Cond.methodLink RX6 122 yX6_goesOn, Cond.instanceMethod yX6_goesOn, Cond.selects RX6 yX6_goesOn yX6_goesOn, Cond.code yX6_goesOn cX6_goesOn 4 (some .boolean), Cond.methodLink RX6 116 yX6_begins, Cond.static yX6_begins, Cond.code yX6_begins cX6_begins 3 (some .boolean), Cond.methodLink RX6 137 yX6_doesPart]
def wsL_law0_r21 : List Cond := [Cond.instanceMethod yX6_doesPart, Cond.selects RX6 yX6_doesPart yX6_doesPart, Cond.code yX6_doesPart cX6_doesPart 4 (some .boolean), Cond.methodLink RL 119 yL_play, Cond.static yL_play, Cond.codeWith yL_play cL_play 3 (some .int) [(0, 8, 11, 15)], Cond.methodLink RL 40 yX5_play, Cond.instanceMethod yX5_play, Cond.selects RX5 yX5_play yX5_play, Cond.code yX5_play cX5_play 3 (some .int), Cond.fieldLink RX5 129 "LadderClimb$Works" "reader" "LLadderClimb$Reader;", Cond.methodLink RX5 115 yX4_isWhole, Cond.instanceMethod yX4_isWhole, Cond.selects RX4 yX4_isWhole yX4_isWhole, Cond.code yX4_isWhole cX4_isWhole 1 (some .boolean), Cond.methodLink RX4 40 yX4_firstFault, Cond.methodLink RX4 44 yX1_isPartWhole, Cond.methodLink RX5 123 yX4_rewind, Cond.instanceMethod yX4_rewind, Cond.selects RX4 yX4_rewind yX4_rewind, Cond.code yX4_rewind cX4_rewind 1 none, Cond.methodLink RX5 126 yX4_nextPart, Cond.instanceMethod yX4_nextPart, Cond.selects RX4 yX4_nextPart yX4_nextPart]
def wsL_law0_r22 : List Cond := [Cond.code yX4_nextPart cX4_nextPart 2 (some .boolean), Cond.methodLink RX5 133 yX5_playPart, Cond.instanceMethod yX5_playPart, Cond.selects RX5 yX5_playPart yX5_playPart, Cond.code yX5_playPart cX5_playPart 3 (some .boolean), Cond.fieldLink RX5 270 "LadderClimb$Reader" "ladder" "I", Cond.fieldLink RX5 274 "LadderClimb$Reader" "work" "I", Cond.fieldLink RX5 277 "LadderClimb$Reader" "number" "I", Cond.methodLink RL 122 yX6_play, Cond.instanceMethod yX6_play, Cond.selects RX6 yX6_play yX6_play, Cond.code yX6_play cX6_play 2 (some .int), Cond.methodLink RL 123 yL_undo, Cond.static yL_undo, Cond.codeWith yL_undo cL_undo 3 (some .int) [(0, 8, 11, 28)], Cond.methodLink RL 44 yX5_undo, Cond.instanceMethod yX5_undo, Cond.selects RX5 yX5_undo yX5_undo, Cond.code yX5_undo cX5_undo 1 (some .int), Cond.fieldLink RX5 137 "LadderClimb$History" "size" "I", Cond.methodLink RX5 142 yX0_restoreTo, Cond.instanceMethod yX0_restoreTo, Cond.selects RX0 yX0_restoreTo yX0_restoreTo, Cond.code yX0_restoreTo cX0_restoreTo 3 none]
def wsL_law0_r23 : List Cond := [Cond.methodLink RL 125 yX6_undo, Cond.instanceMethod yX6_undo, Cond.selects RX6 yX6_undo yX6_undo, Cond.code yX6_undo cX6_undo 2 (some .int), Cond.methodLink RL 126 yL_ladder, Cond.static yL_ladder, Cond.codeWith yL_ladder cL_ladder 5 (some .int) [(0, 10, 13, 13), (0, 10, 17, 15)], Cond.methodLink RL 47 yX5_ladder, Cond.instanceMethod yX5_ladder, Cond.selects RX5 yX5_ladder yX5_ladder, Cond.code yX5_ladder cX5_ladder 4 (some .int), Cond.fieldLink RX5 151 "LadderClimb$Rig" "falls" "I", Cond.methodLink RX5 145 yX2_load, Cond.methodLink RX5 148 yX2_moment, Cond.methodLink RX5 154 yX2_stands, Cond.methodLink RL 128 yX6_ladder, Cond.instanceMethod yX6_ladder, Cond.selects RX6 yX6_ladder yX6_ladder, Cond.code yX6_ladder cX6_ladder 3 (some .int), Cond.methodLink RX6 145 yX6_ofLadder, Cond.instanceMethod yX6_ofLadder, Cond.selects RX6 yX6_ofLadder yX6_ofLadder, Cond.code yX6_ofLadder cX6_ofLadder 3 (some .int), Cond.methodLink RL 129 yL_person]
def wsL_law0_r24 : List Cond := [Cond.static yL_person, Cond.codeWith yL_person cL_person 6 (some .int) [(0, 12, 15, 13), (0, 12, 19, 15)], Cond.methodLink RL 50 yX5_person, Cond.instanceMethod yX5_person, Cond.selects RX5 yX5_person yX5_person, Cond.code yX5_person cX5_person 5 (some .int), Cond.methodLink RX5 159 yX2_weightOf, Cond.instanceMethod yX2_weightOf, Cond.selects RX2 yX2_weightOf yX2_weightOf, Cond.code yX2_weightOf cX2_weightOf 2 (some .int), Cond.methodLink RX5 163 yX2_stepOf, Cond.methodLink RL 131 yX6_person, Cond.instanceMethod yX6_person, Cond.selects RX6 yX6_person yX6_person, Cond.code yX6_person cX6_person 4 (some .int), Cond.methodLink RL 132 yL_force, Cond.static yL_force, Cond.codeWith yL_force cL_force 5 (some .int) [(0, 10, 13, 13), (0, 10, 17, 15)], Cond.methodLink RL 53 yX5_force, Cond.instanceMethod yX5_force, Cond.selects RX5 yX5_force yX5_force, Cond.code yX5_force cX5_force 4 (some .int), Cond.methodLink RX5 168 yX2_forces, Cond.instanceMethod yX2_forces]
def wsL_law0_r25 : List Cond := [Cond.selects RX2 yX2_forces yX2_forces, Cond.code yX2_forces cX2_forces 1 (some .int), Cond.methodLink RX5 171 yX2_leastForce, Cond.methodLink RX5 174 yX2_greatestForce, Cond.methodLink RX5 177 yX2_nearestForce, Cond.instanceMethod yX2_nearestForce, Cond.selects RX2 yX2_nearestForce yX2_nearestForce, Cond.code yX2_nearestForce cX2_nearestForce 1 (some .int), Cond.methodLink RX2 79 Lib.Math.min.name, Cond.methodLink RX5 180 yX2_push, Cond.instanceMethod yX2_push, Cond.selects RX2 yX2_push yX2_push, Cond.code yX2_push cX2_push 2 (some .int), Cond.methodLink RL 134 yX6_force, Cond.instanceMethod yX6_force, Cond.selects RX6 yX6_force yX6_force, Cond.code yX6_force cX6_force 3 (some .int), Cond.methodLink RX6 151 yX6_ofForce, Cond.instanceMethod yX6_ofForce, Cond.selects RX6 yX6_ofForce yX6_ofForce, Cond.code yX6_ofForce cX6_ofForce 4 (some .int), Cond.methodLink RX6 148 yX6_pushOf, Cond.instanceMethod yX6_pushOf, Cond.selects RX6 yX6_pushOf yX6_pushOf]
def wsL_law0_r26 : List Cond := [Cond.code yX6_pushOf cX6_pushOf 3 (some .int), Cond.methodLink RL 135 yL_held, Cond.static yL_held, Cond.codeWith yL_held cL_held 5 (some .int) [(0, 10, 13, 13), (0, 10, 17, 15)], Cond.methodLink RL 56 yX5_held, Cond.instanceMethod yX5_held, Cond.selects RX5 yX5_held yX5_held, Cond.code yX5_held cX5_held 4 (some .int), Cond.methodLink RX5 183 yX2_whatGivesWay, Cond.instanceMethod yX2_whatGivesWay, Cond.selects RX2 yX2_whatGivesWay yX2_whatGivesWay, Cond.code yX2_whatGivesWay cX2_whatGivesWay 5 (some .int), Cond.methodLink RX2 58 Lib.Math.abs.name, Cond.methodLink RX2 51 yX2_push, Cond.methodLink RL 137 yX6_held, Cond.instanceMethod yX6_held, Cond.selects RX6 yX6_held yX6_held, Cond.code yX6_held cX6_held 3 (some .int), Cond.methodLink RX6 154 yX6_lacking, Cond.instanceMethod yX6_lacking, Cond.selects RX6 yX6_lacking yX6_lacking, Cond.code yX6_lacking cX6_lacking 3 (some .int), Cond.methodLink RL 138 yL_count, Cond.static yL_count]
def wsL_law0_r27 : List Cond := [Cond.codeWith yL_count cL_count 4 (some .int) [(0, 9, 12, 15)], Cond.methodLink RL 59 yX5_count, Cond.instanceMethod yX5_count, Cond.selects RX5 yX5_count yX5_count, Cond.code yX5_count cX5_count 2 (some .int), Cond.fieldLink RX5 193 "LadderClimb$Site" "fallen" "I", Cond.fieldLink RX5 196 "LadderClimb$Site" "climbed" "I", Cond.methodLink RX5 186 yX3_standing, Cond.instanceMethod yX3_standing, Cond.selects RX3 yX3_standing yX3_standing, Cond.code yX3_standing cX3_standing 3 (some .int), Cond.methodLink RX5 189 yX3_people, Cond.instanceMethod yX3_people, Cond.selects RX3 yX3_people yX3_people, Cond.code yX3_people cX3_people 3 (some .int), Cond.methodLink RX5 191 yX3_falls, Cond.instanceMethod yX3_falls, Cond.selects RX3 yX3_falls yX3_falls, Cond.code yX3_falls cX3_falls 3 (some .int), Cond.methodLink RL 140 yX6_count, Cond.instanceMethod yX6_count, Cond.selects RX6 yX6_count yX6_count, Cond.code yX6_count cX6_count 2 (some .int), Cond.methodLink RX6 160 yX6_counted]
def wsL_law0_r28 : List Cond := [Cond.instanceMethod yX6_counted, Cond.selects RX6 yX6_counted yX6_counted, Cond.code yX6_counted cX6_counted 2 (some .int), Cond.methodLink RX6 157 yX6_sumOf, Cond.instanceMethod yX6_sumOf, Cond.selects RX6 yX6_sumOf yX6_sumOf, Cond.code yX6_sumOf cX6_sumOf 4 (some .int), Cond.methodLink RL 141 yL_highest, Cond.static yL_highest, Cond.codeWith yL_highest cL_highest 5 (some .int) [(0, 10, 13, 13)], Cond.methodLink RL 62 yX5_highest, Cond.instanceMethod yX5_highest, Cond.selects RX5 yX5_highest yX5_highest, Cond.code yX5_highest cX5_highest 6 (some .int), Cond.methodLink RX5 201 yX2_copyFrom, Cond.methodLink RX5 205 yX2_setStep, Cond.methodLink RL 143 yX6_highest, Cond.instanceMethod yX6_highest, Cond.selects RX6 yX6_highest yX6_highest, Cond.code yX6_highest cX6_highest 3 (some .int), Cond.methodLink RX6 163 yX6_highestOf, Cond.instanceMethod yX6_highestOf, Cond.selects RX6 yX6_highestOf yX6_highestOf, Cond.code yX6_highestOf cX6_highestOf 7 (some .int)]
def wsL_law0_r29 : List Cond := [Cond.methodLink RL 144 yL_neededRope, Cond.static yL_neededRope, Cond.codeWith yL_neededRope cL_neededRope 4 (some .int) [(0, 9, 12, 13)], Cond.methodLink RL 65 yX5_neededRope, Cond.instanceMethod yX5_neededRope, Cond.selects RX5 yX5_neededRope yX5_neededRope, Cond.code yX5_neededRope cX5_neededRope 3 (some .int), Cond.methodLink RL 146 yX6_neededRope, Cond.instanceMethod yX6_neededRope, Cond.selects RX6 yX6_neededRope yX6_neededRope, Cond.code yX6_neededRope cX6_neededRope 2 (some .int), Cond.methodLink RX6 166 yX6_ropeFor, Cond.instanceMethod yX6_ropeFor, Cond.selects RX6 yX6_ropeFor yX6_ropeFor, Cond.code yX6_ropeFor cX6_ropeFor 4 (some .int), Cond.methodLink RL 147 yL_bestBase, Cond.static yL_bestBase, Cond.codeWith yL_bestBase cL_bestBase 4 (some .int) [(0, 9, 12, 13)], Cond.methodLink RL 68 yX5_bestBase, Cond.instanceMethod yX5_bestBase, Cond.selects RX5 yX5_bestBase yX5_bestBase, Cond.code yX5_bestBase cX5_bestBase 6 (some .int), Cond.methodLink RL 149 yX6_bestBase, Cond.instanceMethod yX6_bestBase]
def wsL_law0_r30 : List Cond := [Cond.selects RX6 yX6_bestBase yX6_bestBase, Cond.code yX6_bestBase cX6_bestBase 2 (some .int), Cond.methodLink RX6 169 yX6_baseFor, Cond.instanceMethod yX6_baseFor, Cond.selects RX6 yX6_baseFor yX6_baseFor, Cond.code yX6_baseFor cX6_baseFor 7 (some .int), Cond.methodLink RL 150 yL_riskiest, Cond.static yL_riskiest, Cond.codeWith yL_riskiest cL_riskiest 4 (some .int) [(0, 9, 12, 13)], Cond.methodLink RL 71 yX5_riskiest, Cond.instanceMethod yX5_riskiest, Cond.selects RX5 yX5_riskiest yX5_riskiest, Cond.code yX5_riskiest cX5_riskiest 7 (some .int), Cond.methodLink RL 152 yX6_riskiest, Cond.instanceMethod yX6_riskiest, Cond.selects RX6 yX6_riskiest yX6_riskiest, Cond.code yX6_riskiest cX6_riskiest 2 (some .int), Cond.methodLink RX6 172 yX6_riskiestOf, Cond.instanceMethod yX6_riskiestOf, Cond.selects RX6 yX6_riskiestOf yX6_riskiestOf, Cond.code yX6_riskiestOf cX6_riskiestOf 7 (some .int), Cond.methodLink RL 153 yL_walls, Cond.static yL_walls, Cond.codeWith yL_walls cL_walls 4 (some .int) [(0, 9, 12, 13)]]
def wsL_law0_r31 : List Cond := [Cond.methodLink RL 74 yX5_walls, Cond.instanceMethod yX5_walls, Cond.selects RX5 yX5_walls yX5_walls, Cond.code yX5_walls cX5_walls 4 (some .int), Cond.methodLink RL 155 yX6_walls, Cond.instanceMethod yX6_walls, Cond.selects RX6 yX6_walls yX6_walls, Cond.code yX6_walls cX6_walls 2 (some .int), Cond.methodLink RX6 175 yX6_wallsFor, Cond.instanceMethod yX6_wallsFor, Cond.selects RX6 yX6_wallsFor yX6_wallsFor, Cond.code yX6_wallsFor cX6_wallsFor 5 (some .int), Cond.methodLink RL 156 yX5_safety, Cond.instanceMethod yX5_safety, Cond.selects RX5 yX5_safety yX5_safety, Cond.code yX5_safety cX5_safety 3 (some .double), Cond.methodLink RL 160 yX6_safety, Cond.instanceMethod yX6_safety, Cond.selects RX6 yX6_safety yX6_safety, Cond.code yX6_safety cX6_safety 1 (some .double), Cond.methodLink RX6 178 yX6_share, Cond.instanceMethod yX6_share, Cond.selects RX6 yX6_share yX6_share, Cond.code yX6_share cX6_share 2 (some .double)]
def wsL_law0_r32 : List Cond := [Cond.methodLink RL 161 yX5_digest, Cond.instanceMethod yX5_digest, Cond.selects RX5 yX5_digest yX5_digest, Cond.code yX5_digest cX5_digest 4 (some .long), Cond.constantLong RX5 209 (3617), Cond.methodLink RX5 211 yX5_count, Cond.methodLink RX5 214 yX5_mix, Cond.static yX5_mix, Cond.code yX5_mix cX5_mix 4 (some .long), Cond.constantLong RX5 262 (31), Cond.methodLink RX5 218 yX5_mixLadder, Cond.instanceMethod yX5_mixLadder, Cond.selects RX5 yX5_mixLadder yX5_mixLadder, Cond.code yX5_mixLadder cX5_mixLadder 8 (some .long), Cond.methodLink RX5 237 yX5_ladder, Cond.methodLink RX5 240 yX5_force, Cond.methodLink RX5 243 yX5_person, Cond.methodLink RX5 247 yX5_highest, Cond.methodLink RX5 250 yX5_neededRope, Cond.methodLink RX5 253 yX5_bestBase, Cond.methodLink RX5 256 yX5_riskiest, Cond.methodLink RX5 259 yX5_walls, Cond.methodLink RX5 222 yX5_held, Cond.methodLink RX5 226 yX5_safety]
def wsL_law0_r33 : List Cond := [Cond.methodLink RX5 230 yX5_bitsOf, Cond.static yX5_bitsOf, Cond.code yX5_bitsOf cX5_bitsOf 8 (some .long), Cond.constantLong RX5 264 (1023), Cond.constantDouble RX5 266 (4611686018427387904), Cond.constantDouble RX5 268 (4841369599423283200), Cond.methodLink RX5 234 yX4_codeAt, Cond.methodLink RL 165 yX6_digest, Cond.instanceMethod yX6_digest, Cond.selects RX6 yX6_digest yX6_digest, Cond.code yX6_digest cX6_digest 2 (some .long), Cond.constantLong RX6 200 (3617), Cond.fieldLink RX6 192 "LadderClimbModel" "digested" "J", Cond.methodLink RX6 196 yX6_digestOne, Cond.instanceMethod yX6_digestOne, Cond.selects RX6 yX6_digestOne yX6_digestOne, Cond.code yX6_digestOne cX6_digestOne 3 none, Cond.constantLong RX6 190 (31), Cond.methodLink RX6 202 yX6_digestLadder, Cond.instanceMethod yX6_digestLadder, Cond.selects RX6 yX6_digestLadder yX6_digestLadder, Cond.code yX6_digestLadder cX6_digestLadder 3 none, Cond.methodLink RX6 206 yX6_bitsOf, Cond.static yX6_bitsOf]
def wsL_law0_r34 : List Cond := [Cond.code yX6_bitsOf cX6_bitsOf 6 (some .long), Cond.constantLong RX6 182 (1023), Cond.constantDouble RX6 184 (4611686018427387904), Cond.constantLong RX6 186 (4503599627370496), Cond.constantDouble RX6 188 (4841369599423283200)]
def wsL_law0 : List Cond := (wsL_law0_r1 ++ (wsL_law0_r2 ++ (wsL_law0_r3 ++ (wsL_law0_r4 ++ (wsL_law0_r5 ++ (wsL_law0_r6 ++ (wsL_law0_r7 ++ (wsL_law0_r8 ++ (wsL_law0_r9 ++ (wsL_law0_r10 ++ (wsL_law0_r11 ++ (wsL_law0_r12 ++ (wsL_law0_r13 ++ (wsL_law0_r14 ++ (wsL_law0_r15 ++ (wsL_law0_r16 ++ (wsL_law0_r17 ++ (wsL_law0_r18 ++ (wsL_law0_r19 ++ (wsL_law0_r20 ++ (wsL_law0_r21 ++ (wsL_law0_r22 ++ (wsL_law0_r23 ++ (wsL_law0_r24 ++ (wsL_law0_r25 ++ (wsL_law0_r26 ++ (wsL_law0_r27 ++ (wsL_law0_r28 ++ (wsL_law0_r29 ++ (wsL_law0_r30 ++ (wsL_law0_r31 ++ (wsL_law0_r32 ++ (wsL_law0_r33 ++ wsL_law0_r34))))))))))))))))))))))))))))))))) ++ wsX50 ++ wsX60 ++ wsX30 ++ wsX00 ++ wsX40 ++ wsX20 ++ wsX10 ++ ([] : List Cond)
def wsL_law : List Cond := wsL_law0 ++ (vx_atS RX5 284 "java/lang/IndexOutOfBoundsException" ["java/lang/RuntimeException", "java/lang/Exception"]).filter goodWord ++ (vx_atS RX5 122 "java/lang/IllegalArgumentException" ["java/lang/RuntimeException", "java/lang/Exception"]).filter goodWord ++ (vx_atS RX5 80 "java/lang/IllegalStateException" ["java/lang/RuntimeException", "java/lang/Exception"]).filter goodWord
abbrev vwCl : List vw_C := [(RX0, TX0, 3), (RX1, TX1, 6), (RX2, TX2, 10), (RX3, TX3, 3), (RX4, TX4, 4), (RX5, TX5, 4), (RX6, TX6, 16)]
end
section
theorem inJ9 : ∀ w ∈ wsJ90, w ∈ lw_tbl := by decide +kernel
theorem inJ0 : ∀ w ∈ wsJ00, w ∈ lw_tbl := by decide +kernel
theorem dJ9_floorDiv_7cf53_0 : decode cJ9_floorDiv_7cf53 0 = .ok (.iload_n 0, 1) := by decide +kernel
theorem dJ9_floorDiv_7cf53_1 : decode cJ9_floorDiv_7cf53 1 = .ok (.iload_n 1, 1) := by decide +kernel
theorem dJ9_floorDiv_7cf53_2 : decode cJ9_floorDiv_7cf53 2 = .ok (.idiv, 1) := by decide +kernel
theorem dJ9_floorDiv_7cf53_3 : decode cJ9_floorDiv_7cf53 3 = .ok (.istore_n 2, 1) := by decide +kernel
theorem dJ9_floorDiv_7cf53_4 : decode cJ9_floorDiv_7cf53 4 = .ok (.iload_n 0, 1) := by decide +kernel
theorem dJ9_floorDiv_7cf53_5 : decode cJ9_floorDiv_7cf53 5 = .ok (.iload_n 1, 1) := by decide +kernel
theorem dJ9_floorDiv_7cf53_6 : decode cJ9_floorDiv_7cf53 6 = .ok (.ixor, 1) := by decide +kernel
theorem dJ9_floorDiv_7cf53_7 : decode cJ9_floorDiv_7cf53 7 = .ok (.ifCond .ge 14, 3) := by decide +kernel
theorem dJ9_floorDiv_7cf53_10 : decode cJ9_floorDiv_7cf53 10 = .ok (.iload_n 2, 1) := by decide +kernel
theorem dJ9_floorDiv_7cf53_11 : decode cJ9_floorDiv_7cf53 11 = .ok (.iload_n 1, 1) := by decide +kernel
theorem dJ9_floorDiv_7cf53_12 : decode cJ9_floorDiv_7cf53 12 = .ok (.imul, 1) := by decide +kernel
theorem dJ9_floorDiv_7cf53_13 : decode cJ9_floorDiv_7cf53 13 = .ok (.iload_n 0, 1) := by decide +kernel
theorem dJ9_floorDiv_7cf53_14 : decode cJ9_floorDiv_7cf53 14 = .ok (.if_icmp .eq 7, 3) := by decide +kernel
theorem dJ9_floorDiv_7cf53_17 : decode cJ9_floorDiv_7cf53 17 = .ok (.iload_n 2, 1) := by decide +kernel
theorem dJ9_floorDiv_7cf53_18 : decode cJ9_floorDiv_7cf53 18 = .ok (.iconst 1, 1) := by decide +kernel
theorem dJ9_floorDiv_7cf53_19 : decode cJ9_floorDiv_7cf53 19 = .ok (.isub, 1) := by decide +kernel
theorem dJ9_floorDiv_7cf53_20 : decode cJ9_floorDiv_7cf53 20 = .ok (.ireturn, 1) := by decide +kernel
theorem dJ9_floorDiv_7cf53_21 : decode cJ9_floorDiv_7cf53 21 = .ok (.iload_n 2, 1) := by decide +kernel
theorem dJ9_floorDiv_7cf53_22 : decode cJ9_floorDiv_7cf53 22 = .ok (.ireturn, 1) := by decide +kernel
theorem dJ9_abs_0f7a4_0 : decode cJ9_abs_0f7a4 0 = .ok (.iload_n 0, 1) := by decide +kernel
theorem dJ9_abs_0f7a4_1 : decode cJ9_abs_0f7a4 1 = .ok (.ifCond .ge 8, 3) := by decide +kernel
theorem dJ9_abs_0f7a4_4 : decode cJ9_abs_0f7a4 4 = .ok (.iload_n 0, 1) := by decide +kernel
theorem dJ9_abs_0f7a4_5 : decode cJ9_abs_0f7a4 5 = .ok (.ineg, 1) := by decide +kernel
theorem dJ9_abs_0f7a4_6 : decode cJ9_abs_0f7a4 6 = .ok (.goto 4, 3) := by decide +kernel
theorem dJ9_abs_0f7a4_9 : decode cJ9_abs_0f7a4 9 = .ok (.iload_n 0, 1) := by decide +kernel
theorem dJ9_abs_0f7a4_10 : decode cJ9_abs_0f7a4 10 = .ok (.ireturn, 1) := by decide +kernel
theorem dJ9_max_7cf53_0 : decode cJ9_max_7cf53 0 = .ok (.iload_n 0, 1) := by decide +kernel
theorem dJ9_max_7cf53_1 : decode cJ9_max_7cf53 1 = .ok (.iload_n 1, 1) := by decide +kernel
theorem dJ9_max_7cf53_2 : decode cJ9_max_7cf53 2 = .ok (.if_icmp .lt 7, 3) := by decide +kernel
theorem dJ9_max_7cf53_5 : decode cJ9_max_7cf53 5 = .ok (.iload_n 0, 1) := by decide +kernel
theorem dJ9_max_7cf53_6 : decode cJ9_max_7cf53 6 = .ok (.goto 4, 3) := by decide +kernel
theorem dJ9_max_7cf53_9 : decode cJ9_max_7cf53 9 = .ok (.iload_n 1, 1) := by decide +kernel
theorem dJ9_max_7cf53_10 : decode cJ9_max_7cf53 10 = .ok (.ireturn, 1) := by decide +kernel
theorem dJ9_min_7cf53_0 : decode cJ9_min_7cf53 0 = .ok (.iload_n 0, 1) := by decide +kernel
theorem dJ9_min_7cf53_1 : decode cJ9_min_7cf53 1 = .ok (.iload_n 1, 1) := by decide +kernel
theorem dJ9_min_7cf53_2 : decode cJ9_min_7cf53 2 = .ok (.if_icmp .gt 7, 3) := by decide +kernel
theorem dJ9_min_7cf53_5 : decode cJ9_min_7cf53 5 = .ok (.iload_n 0, 1) := by decide +kernel
theorem dJ9_min_7cf53_6 : decode cJ9_min_7cf53 6 = .ok (.goto 4, 3) := by decide +kernel
theorem dJ9_min_7cf53_9 : decode cJ9_min_7cf53 9 = .ok (.iload_n 1, 1) := by decide +kernel
theorem dJ9_min_7cf53_10 : decode cJ9_min_7cf53 10 = .ok (.ireturn, 1) := by decide +kernel
set_option maxRecDepth 20000 in
theorem ggX0_init_X3_init : GoodIn wsX0_init wsX3_init := goodIn_r _ [12, 13, 2, 3, 14, 15, 16, 17, 18, 19, 20, 21, 22, 23, 24, 25, 26, 27, 28, 29, 30, 31, 32, 33, 37, 38, 39, 40, 41, 42, 43, 44, 45, 46, 47, 48, 49] (by decide +kernel) (by decide +kernel)
set_option maxRecDepth 20000 in
theorem gX0_init_X3_init : GoodIn wsX0_init (wsX3_init) := ggX0_init_X3_init
theorem dX0_init_0 : decode cX0_init 0 = .ok (.aload_n 0, 1) := by decide +kernel
theorem dX0_init_1 : decode cX0_init 1 = .ok (.invokespecial 3, 3) := by decide +kernel
theorem dX0_init_4 : decode cX0_init 4 = .ok (.aload_n 0, 1) := by decide +kernel
theorem dX0_init_5 : decode cX0_init 5 = .ok (.bipush 6, 2) := by decide +kernel
theorem dX0_init_7 : decode cX0_init 7 = .ok (.anewarray 9, 3) := by decide +kernel
theorem dX0_init_10 : decode cX0_init 10 = .ok (.putfield 11, 3) := by decide +kernel
theorem dX0_init_13 : decode cX0_init 13 = .ok (.aload_n 0, 1) := by decide +kernel
theorem dX0_init_14 : decode cX0_init 14 = .ok (.iconst 0, 1) := by decide +kernel
theorem dX0_init_15 : decode cX0_init 15 = .ok (.putfield 17, 3) := by decide +kernel
theorem dX0_init_18 : decode cX0_init 18 = .ok (.aload_n 0, 1) := by decide +kernel
theorem dX0_init_19 : decode cX0_init 19 = .ok (.iconst 0, 1) := by decide +kernel
theorem dX0_init_20 : decode cX0_init 20 = .ok (.putfield 21, 3) := by decide +kernel
theorem dX0_init_23 : decode cX0_init 23 = .ok (.iconst 0, 1) := by decide +kernel
theorem dX0_init_24 : decode cX0_init 24 = .ok (.istore_n 1, 1) := by decide +kernel
theorem dX0_init_25 : decode cX0_init 25 = .ok (.iload_n 1, 1) := by decide +kernel
theorem dX0_init_26 : decode cX0_init 26 = .ok (.bipush 6, 2) := by decide +kernel
theorem dX0_init_28 : decode cX0_init 28 = .ok (.if_icmp .ge 22, 3) := by decide +kernel
theorem dX0_init_31 : decode cX0_init 31 = .ok (.aload_n 0, 1) := by decide +kernel
theorem dX0_init_32 : decode cX0_init 32 = .ok (.getfield 11, 3) := by decide +kernel
theorem dX0_init_35 : decode cX0_init 35 = .ok (.iload_n 1, 1) := by decide +kernel
theorem dX0_init_36 : decode cX0_init 36 = .ok (.new 9, 3) := by decide +kernel
theorem dX0_init_39 : decode cX0_init 39 = .ok (.dup, 1) := by decide +kernel
theorem dX0_init_40 : decode cX0_init 40 = .ok (.invokespecial 24, 3) := by decide +kernel
theorem dX0_init_43 : decode cX0_init 43 = .ok (.aastore, 1) := by decide +kernel
theorem dX0_init_44 : decode cX0_init 44 = .ok (.iinc 1 1, 3) := by decide +kernel
theorem dX0_init_47 : decode cX0_init 47 = .ok (.goto (-22), 3) := by decide +kernel
theorem dX0_init_50 : decode cX0_init 50 = .ok (.return_, 1) := by decide +kernel
set_option maxRecDepth 20000 in
theorem ggX0_save_X3_copyFrom : GoodIn wsX0_save wsX3_copyFrom := goodIn_r _ [12, 13, 14, 15, 16, 17, 18, 19, 20, 21, 22, 23, 24, 25, 26, 27, 28, 29, 30, 34, 35, 36, 37, 38, 39, 40, 41, 42, 43, 44, 45, 46] (by decide +kernel) (by decide +kernel)
set_option maxRecDepth 20000 in
theorem gX0_save_X3_copyFrom : GoodIn wsX0_save (wsV RX0 25 RX3 yX3_copyFrom wsX3_copyFrom) := goodIn_app (goodIn_of _ (by decide +kernel)) ggX0_save_X3_copyFrom
theorem dX0_save_0 : decode cX0_save 0 = .ok (.aload_n 0, 1) := by decide +kernel
theorem dX0_save_1 : decode cX0_save 1 = .ok (.getfield 17, 3) := by decide +kernel
theorem dX0_save_4 : decode cX0_save 4 = .ok (.ifCond .lt 12, 3) := by decide +kernel
theorem dX0_save_7 : decode cX0_save 7 = .ok (.aload_n 0, 1) := by decide +kernel
theorem dX0_save_8 : decode cX0_save 8 = .ok (.getfield 17, 3) := by decide +kernel
theorem dX0_save_11 : decode cX0_save 11 = .ok (.bipush 6, 2) := by decide +kernel
theorem dX0_save_13 : decode cX0_save 13 = .ok (.if_icmp .lt 4, 3) := by decide +kernel
theorem dX0_save_16 : decode cX0_save 16 = .ok (.return_, 1) := by decide +kernel
theorem dX0_save_17 : decode cX0_save 17 = .ok (.aload_n 0, 1) := by decide +kernel
theorem dX0_save_18 : decode cX0_save 18 = .ok (.getfield 11, 3) := by decide +kernel
theorem dX0_save_21 : decode cX0_save 21 = .ok (.aload_n 0, 1) := by decide +kernel
theorem dX0_save_22 : decode cX0_save 22 = .ok (.getfield 17, 3) := by decide +kernel
theorem dX0_save_25 : decode cX0_save 25 = .ok (.aaload, 1) := by decide +kernel
theorem dX0_save_26 : decode cX0_save 26 = .ok (.aload_n 1, 1) := by decide +kernel
theorem dX0_save_27 : decode cX0_save 27 = .ok (.invokevirtual 25, 3) := by decide +kernel
theorem dX0_save_30 : decode cX0_save 30 = .ok (.aload_n 0, 1) := by decide +kernel
theorem dX0_save_31 : decode cX0_save 31 = .ok (.aload_n 0, 1) := by decide +kernel
theorem dX0_save_32 : decode cX0_save 32 = .ok (.getfield 17, 3) := by decide +kernel
theorem dX0_save_35 : decode cX0_save 35 = .ok (.iconst 1, 1) := by decide +kernel
theorem dX0_save_36 : decode cX0_save 36 = .ok (.iadd, 1) := by decide +kernel
theorem dX0_save_37 : decode cX0_save 37 = .ok (.bipush 6, 2) := by decide +kernel
theorem dX0_save_39 : decode cX0_save 39 = .ok (.if_icmp .ge 12, 3) := by decide +kernel
theorem dX0_save_42 : decode cX0_save 42 = .ok (.aload_n 0, 1) := by decide +kernel
theorem dX0_save_43 : decode cX0_save 43 = .ok (.getfield 17, 3) := by decide +kernel
theorem dX0_save_46 : decode cX0_save 46 = .ok (.iconst 1, 1) := by decide +kernel
theorem dX0_save_47 : decode cX0_save 47 = .ok (.iadd, 1) := by decide +kernel
theorem dX0_save_48 : decode cX0_save 48 = .ok (.goto 4, 3) := by decide +kernel
theorem dX0_save_51 : decode cX0_save 51 = .ok (.iconst 0, 1) := by decide +kernel
theorem dX0_save_52 : decode cX0_save 52 = .ok (.putfield 17, 3) := by decide +kernel
theorem dX0_save_55 : decode cX0_save 55 = .ok (.aload_n 0, 1) := by decide +kernel
theorem dX0_save_56 : decode cX0_save 56 = .ok (.aload_n 0, 1) := by decide +kernel
theorem dX0_save_57 : decode cX0_save 57 = .ok (.getfield 21, 3) := by decide +kernel
theorem dX0_save_60 : decode cX0_save 60 = .ok (.iconst 1, 1) := by decide +kernel
theorem dX0_save_61 : decode cX0_save 61 = .ok (.iadd, 1) := by decide +kernel
theorem dX0_save_62 : decode cX0_save 62 = .ok (.bipush 6, 2) := by decide +kernel
theorem dX0_save_64 : decode cX0_save 64 = .ok (.invokestatic 29, 3) := by decide +kernel
theorem dX0_save_67 : decode cX0_save 67 = .ok (.putfield 21, 3) := by decide +kernel
theorem dX0_save_70 : decode cX0_save 70 = .ok (.return_, 1) := by decide +kernel
set_option maxRecDepth 20000 in
theorem ggX0_restoreTo_X3_copyFrom : GoodIn wsX0_restoreTo wsX3_copyFrom := goodIn_r _ [8, 9, 10, 11, 12, 13, 14, 15, 16, 17, 18, 19, 20, 21, 22, 23, 24, 25, 26, 30, 31, 32, 33, 34, 35, 36, 37, 38, 39, 40, 41, 42] (by decide +kernel) (by decide +kernel)
set_option maxRecDepth 20000 in
theorem gX0_restoreTo_X3_copyFrom : GoodIn wsX0_restoreTo (wsV RX0 25 RX3 yX3_copyFrom wsX3_copyFrom) := goodIn_app (goodIn_of _ (by decide +kernel)) ggX0_restoreTo_X3_copyFrom
theorem dX0_restoreTo_0 : decode cX0_restoreTo 0 = .ok (.aload_n 0, 1) := by decide +kernel
theorem dX0_restoreTo_1 : decode cX0_restoreTo 1 = .ok (.getfield 17, 3) := by decide +kernel
theorem dX0_restoreTo_4 : decode cX0_restoreTo 4 = .ok (.ifCond .le 12, 3) := by decide +kernel
theorem dX0_restoreTo_7 : decode cX0_restoreTo 7 = .ok (.aload_n 0, 1) := by decide +kernel
theorem dX0_restoreTo_8 : decode cX0_restoreTo 8 = .ok (.getfield 17, 3) := by decide +kernel
theorem dX0_restoreTo_11 : decode cX0_restoreTo 11 = .ok (.iconst 1, 1) := by decide +kernel
theorem dX0_restoreTo_12 : decode cX0_restoreTo 12 = .ok (.isub, 1) := by decide +kernel
theorem dX0_restoreTo_13 : decode cX0_restoreTo 13 = .ok (.goto 4, 3) := by decide +kernel
theorem dX0_restoreTo_16 : decode cX0_restoreTo 16 = .ok (.iconst 5, 1) := by decide +kernel
theorem dX0_restoreTo_17 : decode cX0_restoreTo 17 = .ok (.istore_n 2, 1) := by decide +kernel
theorem dX0_restoreTo_18 : decode cX0_restoreTo 18 = .ok (.aload_n 0, 1) := by decide +kernel
theorem dX0_restoreTo_19 : decode cX0_restoreTo 19 = .ok (.getfield 21, 3) := by decide +kernel
theorem dX0_restoreTo_22 : decode cX0_restoreTo 22 = .ok (.ifCond .le 9, 3) := by decide +kernel
theorem dX0_restoreTo_25 : decode cX0_restoreTo 25 = .ok (.iload_n 2, 1) := by decide +kernel
theorem dX0_restoreTo_26 : decode cX0_restoreTo 26 = .ok (.bipush 6, 2) := by decide +kernel
theorem dX0_restoreTo_28 : decode cX0_restoreTo 28 = .ok (.if_icmp .lt 4, 3) := by decide +kernel
theorem dX0_restoreTo_31 : decode cX0_restoreTo 31 = .ok (.return_, 1) := by decide +kernel
theorem dX0_restoreTo_32 : decode cX0_restoreTo 32 = .ok (.aload_n 1, 1) := by decide +kernel
theorem dX0_restoreTo_33 : decode cX0_restoreTo 33 = .ok (.aload_n 0, 1) := by decide +kernel
theorem dX0_restoreTo_34 : decode cX0_restoreTo 34 = .ok (.getfield 11, 3) := by decide +kernel
theorem dX0_restoreTo_37 : decode cX0_restoreTo 37 = .ok (.iload_n 2, 1) := by decide +kernel
theorem dX0_restoreTo_38 : decode cX0_restoreTo 38 = .ok (.aaload, 1) := by decide +kernel
theorem dX0_restoreTo_39 : decode cX0_restoreTo 39 = .ok (.invokevirtual 25, 3) := by decide +kernel
theorem dX0_restoreTo_42 : decode cX0_restoreTo 42 = .ok (.aload_n 0, 1) := by decide +kernel
theorem dX0_restoreTo_43 : decode cX0_restoreTo 43 = .ok (.iload_n 2, 1) := by decide +kernel
theorem dX0_restoreTo_44 : decode cX0_restoreTo 44 = .ok (.putfield 17, 3) := by decide +kernel
theorem dX0_restoreTo_47 : decode cX0_restoreTo 47 = .ok (.aload_n 0, 1) := by decide +kernel
theorem dX0_restoreTo_48 : decode cX0_restoreTo 48 = .ok (.dup, 1) := by decide +kernel
theorem dX0_restoreTo_49 : decode cX0_restoreTo 49 = .ok (.getfield 21, 3) := by decide +kernel
theorem dX0_restoreTo_52 : decode cX0_restoreTo 52 = .ok (.iconst 1, 1) := by decide +kernel
theorem dX0_restoreTo_53 : decode cX0_restoreTo 53 = .ok (.isub, 1) := by decide +kernel
theorem dX0_restoreTo_54 : decode cX0_restoreTo 54 = .ok (.putfield 21, 3) := by decide +kernel
theorem dX0_restoreTo_57 : decode cX0_restoreTo 57 = .ok (.return_, 1) := by decide +kernel
theorem dX1_init_0 : decode cX1_init 0 = .ok (.aload_n 0, 1) := by decide +kernel
theorem dX1_init_1 : decode cX1_init 1 = .ok (.invokespecial 3, 3) := by decide +kernel
theorem dX1_init_4 : decode cX1_init 4 = .ok (.aload_n 0, 1) := by decide +kernel
theorem dX1_init_5 : decode cX1_init 5 = .ok (.iconst 0, 1) := by decide +kernel
theorem dX1_init_6 : decode cX1_init 6 = .ok (.putfield 11, 3) := by decide +kernel
theorem dX1_init_9 : decode cX1_init 9 = .ok (.aload_n 0, 1) := by decide +kernel
theorem dX1_init_10 : decode cX1_init 10 = .ok (.iconst 0, 1) := by decide +kernel
theorem dX1_init_11 : decode cX1_init 11 = .ok (.putfield 15, 3) := by decide +kernel
theorem dX1_init_14 : decode cX1_init 14 = .ok (.aload_n 0, 1) := by decide +kernel
theorem dX1_init_15 : decode cX1_init 15 = .ok (.iconst 0, 1) := by decide +kernel
theorem dX1_init_16 : decode cX1_init 16 = .ok (.putfield 18, 3) := by decide +kernel
theorem dX1_init_19 : decode cX1_init 19 = .ok (.aload_n 0, 1) := by decide +kernel
theorem dX1_init_20 : decode cX1_init 20 = .ok (.iconst 0, 1) := by decide +kernel
theorem dX1_init_21 : decode cX1_init 21 = .ok (.putfield 21, 3) := by decide +kernel
theorem dX1_init_24 : decode cX1_init 24 = .ok (.aload_n 0, 1) := by decide +kernel
theorem dX1_init_25 : decode cX1_init 25 = .ok (.iconst 0, 1) := by decide +kernel
theorem dX1_init_26 : decode cX1_init 26 = .ok (.putfield 24, 3) := by decide +kernel
theorem dX1_init_29 : decode cX1_init 29 = .ok (.aload_n 0, 1) := by decide +kernel
theorem dX1_init_30 : decode cX1_init 30 = .ok (.iconst 0, 1) := by decide +kernel
theorem dX1_init_31 : decode cX1_init 31 = .ok (.putfield 27, 3) := by decide +kernel
theorem dX1_init_34 : decode cX1_init 34 = .ok (.return_, 1) := by decide +kernel
theorem dX1_startPart_0 : decode cX1_startPart 0 = .ok (.aload_n 0, 1) := by decide +kernel
theorem dX1_startPart_1 : decode cX1_startPart 1 = .ok (.iconst 0, 1) := by decide +kernel
theorem dX1_startPart_2 : decode cX1_startPart 2 = .ok (.putfield 11, 3) := by decide +kernel
theorem dX1_startPart_5 : decode cX1_startPart 5 = .ok (.aload_n 0, 1) := by decide +kernel
theorem dX1_startPart_6 : decode cX1_startPart 6 = .ok (.iconst 0, 1) := by decide +kernel
theorem dX1_startPart_7 : decode cX1_startPart 7 = .ok (.putfield 27, 3) := by decide +kernel
theorem dX1_startPart_10 : decode cX1_startPart 10 = .ok (.return_, 1) := by decide +kernel
theorem dX1_isPartWhole_0 : decode cX1_isPartWhole 0 = .ok (.aload_n 0, 1) := by decide +kernel
theorem dX1_isPartWhole_1 : decode cX1_isPartWhole 1 = .ok (.getfield 11, 3) := by decide +kernel
theorem dX1_isPartWhole_4 : decode cX1_isPartWhole 4 = .ok (.iconst 4, 1) := by decide +kernel
theorem dX1_isPartWhole_5 : decode cX1_isPartWhole 5 = .ok (.if_icmp .eq 33, 3) := by decide +kernel
theorem dX1_isPartWhole_8 : decode cX1_isPartWhole 8 = .ok (.aload_n 0, 1) := by decide +kernel
theorem dX1_isPartWhole_9 : decode cX1_isPartWhole 9 = .ok (.getfield 11, 3) := by decide +kernel
theorem dX1_isPartWhole_12 : decode cX1_isPartWhole 12 = .ok (.iconst 3, 1) := by decide +kernel
theorem dX1_isPartWhole_13 : decode cX1_isPartWhole 13 = .ok (.if_icmp .ne 29, 3) := by decide +kernel
theorem dX1_isPartWhole_16 : decode cX1_isPartWhole 16 = .ok (.aload_n 0, 1) := by decide +kernel
theorem dX1_isPartWhole_17 : decode cX1_isPartWhole 17 = .ok (.getfield 27, 3) := by decide +kernel
theorem dX1_isPartWhole_20 : decode cX1_isPartWhole 20 = .ok (.aload_n 0, 1) := by decide +kernel
theorem dX1_isPartWhole_21 : decode cX1_isPartWhole 21 = .ok (.getfield 15, 3) := by decide +kernel
theorem dX1_isPartWhole_24 : decode cX1_isPartWhole 24 = .ok (.if_icmp .lt 18, 3) := by decide +kernel
theorem dX1_isPartWhole_27 : decode cX1_isPartWhole 27 = .ok (.aload_n 0, 1) := by decide +kernel
theorem dX1_isPartWhole_28 : decode cX1_isPartWhole 28 = .ok (.getfield 27, 3) := by decide +kernel
theorem dX1_isPartWhole_31 : decode cX1_isPartWhole 31 = .ok (.aload_n 0, 1) := by decide +kernel
theorem dX1_isPartWhole_32 : decode cX1_isPartWhole 32 = .ok (.getfield 18, 3) := by decide +kernel
theorem dX1_isPartWhole_35 : decode cX1_isPartWhole 35 = .ok (.if_icmp .gt 7, 3) := by decide +kernel
theorem dX1_isPartWhole_38 : decode cX1_isPartWhole 38 = .ok (.iconst 1, 1) := by decide +kernel
theorem dX1_isPartWhole_39 : decode cX1_isPartWhole 39 = .ok (.goto 4, 3) := by decide +kernel
theorem dX1_isPartWhole_42 : decode cX1_isPartWhole 42 = .ok (.iconst 0, 1) := by decide +kernel
theorem dX1_isPartWhole_43 : decode cX1_isPartWhole 43 = .ok (.ireturn, 1) := by decide +kernel
set_option maxRecDepth 20000 in
theorem ggX1_takes_X1_takesLadder : GoodIn wsX1_takes wsX1_takesLadder := goodIn_r _ [7, 8, 1, 40, 41, 42, 43, 44, 45] (by decide +kernel) (by decide +kernel)
set_option maxRecDepth 20000 in
theorem gX1_takes_X1_takesLadder : GoodIn wsX1_takes (wsV RX1 30 RX1 yX1_takesLadder wsX1_takesLadder) := goodIn_app (goodIn_of _ (by decide +kernel)) ggX1_takes_X1_takesLadder
set_option maxRecDepth 20000 in
theorem ggX1_takes_X1_takesWork : GoodIn wsX1_takes wsX1_takesWork := goodIn_r _ [12, 13, 1, 14, 15, 16, 6, 17, 18, 19, 40, 41, 42, 43, 44, 45] (by decide +kernel) (by decide +kernel)
set_option maxRecDepth 20000 in
theorem gX1_takes_X1_takesWork : GoodIn wsX1_takes (wsV RX1 34 RX1 yX1_takesWork wsX1_takesWork) := goodIn_app (goodIn_of _ (by decide +kernel)) ggX1_takes_X1_takesWork
set_option maxRecDepth 20000 in
theorem ggX1_takes_X1_takesDigit : GoodIn wsX1_takes wsX1_takesDigit := goodIn_r _ [23, 2, 1, 24, 25, 26, 6, 27, 19, 18, 40, 41, 42, 43, 44, 45] (by decide +kernel) (by decide +kernel)
set_option maxRecDepth 20000 in
theorem gX1_takes_X1_takesDigit : GoodIn wsX1_takes (wsV RX1 37 RX1 yX1_takesDigit wsX1_takesDigit) := goodIn_app (goodIn_of _ (by decide +kernel)) ggX1_takes_X1_takesDigit
set_option maxRecDepth 20000 in
theorem ggX1_takes_X1_takesSemicolon : GoodIn wsX1_takes wsX1_takesSemicolon := goodIn_r _ [31, 32, 33, 34, 6, 35, 1, 2, 18, 19, 36, 37, 38, 39, 40, 41, 42, 43, 44, 45] (by decide +kernel) (by decide +kernel)
set_option maxRecDepth 20000 in
theorem gX1_takes_X1_takesSemicolon : GoodIn wsX1_takes (wsV RX1 40 RX1 yX1_takesSemicolon wsX1_takesSemicolon) := goodIn_app (goodIn_of _ (by decide +kernel)) ggX1_takes_X1_takesSemicolon
theorem dX1_takes_0 : decode cX1_takes 0 = .ok (.aload_n 0, 1) := by decide +kernel
theorem dX1_takes_1 : decode cX1_takes 1 = .ok (.getfield 11, 3) := by decide +kernel
theorem dX1_takes_4 : decode cX1_takes 4 = .ok (.tableswitch 84 0 3 #[32, 38, 44, 50], 32) := by decide +kernel
theorem dX1_takes_36 : decode cX1_takes 36 = .ok (.aload_n 0, 1) := by decide +kernel
theorem dX1_takes_37 : decode cX1_takes 37 = .ok (.iload_n 1, 1) := by decide +kernel
theorem dX1_takes_38 : decode cX1_takes 38 = .ok (.invokevirtual 30, 3) := by decide +kernel
theorem dX1_takes_41 : decode cX1_takes 41 = .ok (.ireturn, 1) := by decide +kernel
theorem dX1_takes_42 : decode cX1_takes 42 = .ok (.aload_n 0, 1) := by decide +kernel
theorem dX1_takes_43 : decode cX1_takes 43 = .ok (.iload_n 1, 1) := by decide +kernel
theorem dX1_takes_44 : decode cX1_takes 44 = .ok (.invokevirtual 34, 3) := by decide +kernel
theorem dX1_takes_47 : decode cX1_takes 47 = .ok (.ireturn, 1) := by decide +kernel
theorem dX1_takes_48 : decode cX1_takes 48 = .ok (.aload_n 0, 1) := by decide +kernel
theorem dX1_takes_49 : decode cX1_takes 49 = .ok (.iload_n 1, 1) := by decide +kernel
theorem dX1_takes_50 : decode cX1_takes 50 = .ok (.invokevirtual 37, 3) := by decide +kernel
theorem dX1_takes_53 : decode cX1_takes 53 = .ok (.ireturn, 1) := by decide +kernel
theorem dX1_takes_54 : decode cX1_takes 54 = .ok (.iload_n 1, 1) := by decide +kernel
theorem dX1_takes_55 : decode cX1_takes 55 = .ok (.bipush 59, 2) := by decide +kernel
theorem dX1_takes_57 : decode cX1_takes 57 = .ok (.if_icmp .ne 10, 3) := by decide +kernel
theorem dX1_takes_60 : decode cX1_takes 60 = .ok (.aload_n 0, 1) := by decide +kernel
theorem dX1_takes_61 : decode cX1_takes 61 = .ok (.invokevirtual 40, 3) := by decide +kernel
theorem dX1_takes_64 : decode cX1_takes 64 = .ok (.goto 23, 3) := by decide +kernel
theorem dX1_takes_67 : decode cX1_takes 67 = .ok (.aload_n 0, 1) := by decide +kernel
theorem dX1_takes_68 : decode cX1_takes 68 = .ok (.getfield 27, 3) := by decide +kernel
theorem dX1_takes_71 : decode cX1_takes 71 = .ok (.ifCond .eq 15, 3) := by decide +kernel
theorem dX1_takes_74 : decode cX1_takes 74 = .ok (.aload_n 0, 1) := by decide +kernel
theorem dX1_takes_75 : decode cX1_takes 75 = .ok (.iload_n 1, 1) := by decide +kernel
theorem dX1_takes_76 : decode cX1_takes 76 = .ok (.invokevirtual 37, 3) := by decide +kernel
theorem dX1_takes_79 : decode cX1_takes 79 = .ok (.ifCond .eq 7, 3) := by decide +kernel
theorem dX1_takes_82 : decode cX1_takes 82 = .ok (.iconst 1, 1) := by decide +kernel
theorem dX1_takes_83 : decode cX1_takes 83 = .ok (.goto 4, 3) := by decide +kernel
theorem dX1_takes_86 : decode cX1_takes 86 = .ok (.iconst 0, 1) := by decide +kernel
theorem dX1_takes_87 : decode cX1_takes 87 = .ok (.ireturn, 1) := by decide +kernel
theorem dX1_takes_88 : decode cX1_takes 88 = .ok (.iload_n 1, 1) := by decide +kernel
theorem dX1_takes_89 : decode cX1_takes 89 = .ok (.bipush 59, 2) := by decide +kernel
theorem dX1_takes_91 : decode cX1_takes 91 = .ok (.if_icmp .ne 14, 3) := by decide +kernel
theorem dX1_takes_94 : decode cX1_takes 94 = .ok (.aload_n 0, 1) := by decide +kernel
theorem dX1_takes_95 : decode cX1_takes 95 = .ok (.invokevirtual 40, 3) := by decide +kernel
theorem dX1_takes_98 : decode cX1_takes 98 = .ok (.ifCond .eq 7, 3) := by decide +kernel
theorem dX1_takes_101 : decode cX1_takes 101 = .ok (.iconst 1, 1) := by decide +kernel
theorem dX1_takes_102 : decode cX1_takes 102 = .ok (.goto 4, 3) := by decide +kernel
theorem dX1_takes_105 : decode cX1_takes 105 = .ok (.iconst 0, 1) := by decide +kernel
theorem dX1_takes_106 : decode cX1_takes 106 = .ok (.ireturn, 1) := by decide +kernel
theorem dX1_takesLadder_0 : decode cX1_takesLadder 0 = .ok (.iload_n 1, 1) := by decide +kernel
theorem dX1_takesLadder_1 : decode cX1_takesLadder 1 = .ok (.bipush 48, 2) := by decide +kernel
theorem dX1_takesLadder_3 : decode cX1_takesLadder 3 = .ok (.if_icmp .lt 9, 3) := by decide +kernel
theorem dX1_takesLadder_6 : decode cX1_takesLadder 6 = .ok (.iload_n 1, 1) := by decide +kernel
theorem dX1_takesLadder_7 : decode cX1_takesLadder 7 = .ok (.bipush 52, 2) := by decide +kernel
theorem dX1_takesLadder_9 : decode cX1_takesLadder 9 = .ok (.if_icmp .lt 5, 3) := by decide +kernel
theorem dX1_takesLadder_12 : decode cX1_takesLadder 12 = .ok (.iconst 0, 1) := by decide +kernel
theorem dX1_takesLadder_13 : decode cX1_takesLadder 13 = .ok (.ireturn, 1) := by decide +kernel
theorem dX1_takesLadder_14 : decode cX1_takesLadder 14 = .ok (.aload_n 0, 1) := by decide +kernel
theorem dX1_takesLadder_15 : decode cX1_takesLadder 15 = .ok (.iload_n 1, 1) := by decide +kernel
theorem dX1_takesLadder_16 : decode cX1_takesLadder 16 = .ok (.bipush 48, 2) := by decide +kernel
theorem dX1_takesLadder_18 : decode cX1_takesLadder 18 = .ok (.isub, 1) := by decide +kernel
theorem dX1_takesLadder_19 : decode cX1_takesLadder 19 = .ok (.putfield 21, 3) := by decide +kernel
theorem dX1_takesLadder_22 : decode cX1_takesLadder 22 = .ok (.aload_n 0, 1) := by decide +kernel
theorem dX1_takesLadder_23 : decode cX1_takesLadder 23 = .ok (.iconst 1, 1) := by decide +kernel
theorem dX1_takesLadder_24 : decode cX1_takesLadder 24 = .ok (.putfield 11, 3) := by decide +kernel
theorem dX1_takesLadder_27 : decode cX1_takesLadder 27 = .ok (.iconst 1, 1) := by decide +kernel
theorem dX1_takesLadder_28 : decode cX1_takesLadder 28 = .ok (.ireturn, 1) := by decide +kernel
set_option maxRecDepth 20000 in
theorem ggX1_takesWork_X1_startNumber : GoodIn wsX1_takesWork wsX1_startNumber := goodIn_r _ [7, 1, 8, 9, 2, 10, 11, 12, 13, 14, 15] (by decide +kernel) (by decide +kernel)
set_option maxRecDepth 20000 in
theorem gX1_takesWork_X1_startNumber : GoodIn wsX1_takesWork (wsV RX1 44 RX1 yX1_startNumber wsX1_startNumber) := goodIn_app (goodIn_of _ (by decide +kernel)) ggX1_takesWork_X1_startNumber
theorem dX1_takesWork_0 : decode cX1_takesWork 0 = .ok (.iload_n 1, 1) := by decide +kernel
theorem dX1_takesWork_1 : decode cX1_takesWork 1 = .ok (.tableswitch 97 111 120 #[64, 97, 97, 75, 97, 97, 55, 97, 97, 85], 55) := by decide +kernel
theorem dX1_takesWork_56 : decode cX1_takesWork 56 = .ok (.aload_n 0, 1) := by decide +kernel
theorem dX1_takesWork_57 : decode cX1_takesWork 57 = .ok (.iload_n 1, 1) := by decide +kernel
theorem dX1_takesWork_58 : decode cX1_takesWork 58 = .ok (.iconst 0, 1) := by decide +kernel
theorem dX1_takesWork_59 : decode cX1_takesWork 59 = .ok (.bipush 10, 2) := by decide +kernel
theorem dX1_takesWork_61 : decode cX1_takesWork 61 = .ok (.invokevirtual 44, 3) := by decide +kernel
theorem dX1_takesWork_64 : decode cX1_takesWork 64 = .ok (.ireturn, 1) := by decide +kernel
theorem dX1_takesWork_65 : decode cX1_takesWork 65 = .ok (.aload_n 0, 1) := by decide +kernel
theorem dX1_takesWork_66 : decode cX1_takesWork 66 = .ok (.iload_n 1, 1) := by decide +kernel
theorem dX1_takesWork_67 : decode cX1_takesWork 67 = .ok (.bipush 20, 2) := by decide +kernel
theorem dX1_takesWork_69 : decode cX1_takesWork 69 = .ok (.sipush 150, 3) := by decide +kernel
theorem dX1_takesWork_72 : decode cX1_takesWork 72 = .ok (.invokevirtual 44, 3) := by decide +kernel
theorem dX1_takesWork_75 : decode cX1_takesWork 75 = .ok (.ireturn, 1) := by decide +kernel
theorem dX1_takesWork_76 : decode cX1_takesWork 76 = .ok (.aload_n 0, 1) := by decide +kernel
theorem dX1_takesWork_77 : decode cX1_takesWork 77 = .ok (.iload_n 1, 1) := by decide +kernel
theorem dX1_takesWork_78 : decode cX1_takesWork 78 = .ok (.iconst 0, 1) := by decide +kernel
theorem dX1_takesWork_79 : decode cX1_takesWork 79 = .ok (.sipush 200, 3) := by decide +kernel
theorem dX1_takesWork_82 : decode cX1_takesWork 82 = .ok (.invokevirtual 44, 3) := by decide +kernel
theorem dX1_takesWork_85 : decode cX1_takesWork 85 = .ok (.ireturn, 1) := by decide +kernel
theorem dX1_takesWork_86 : decode cX1_takesWork 86 = .ok (.aload_n 0, 1) := by decide +kernel
theorem dX1_takesWork_87 : decode cX1_takesWork 87 = .ok (.iload_n 1, 1) := by decide +kernel
theorem dX1_takesWork_88 : decode cX1_takesWork 88 = .ok (.putfield 24, 3) := by decide +kernel
theorem dX1_takesWork_91 : decode cX1_takesWork 91 = .ok (.aload_n 0, 1) := by decide +kernel
theorem dX1_takesWork_92 : decode cX1_takesWork 92 = .ok (.iconst 4, 1) := by decide +kernel
theorem dX1_takesWork_93 : decode cX1_takesWork 93 = .ok (.putfield 11, 3) := by decide +kernel
theorem dX1_takesWork_96 : decode cX1_takesWork 96 = .ok (.iconst 1, 1) := by decide +kernel
theorem dX1_takesWork_97 : decode cX1_takesWork 97 = .ok (.ireturn, 1) := by decide +kernel
theorem dX1_takesWork_98 : decode cX1_takesWork 98 = .ok (.iconst 0, 1) := by decide +kernel
theorem dX1_takesWork_99 : decode cX1_takesWork 99 = .ok (.ireturn, 1) := by decide +kernel
theorem dX1_startNumber_0 : decode cX1_startNumber 0 = .ok (.aload_n 0, 1) := by decide +kernel
theorem dX1_startNumber_1 : decode cX1_startNumber 1 = .ok (.iload_n 1, 1) := by decide +kernel
theorem dX1_startNumber_2 : decode cX1_startNumber 2 = .ok (.putfield 24, 3) := by decide +kernel
theorem dX1_startNumber_5 : decode cX1_startNumber 5 = .ok (.aload_n 0, 1) := by decide +kernel
theorem dX1_startNumber_6 : decode cX1_startNumber 6 = .ok (.iload_n 2, 1) := by decide +kernel
theorem dX1_startNumber_7 : decode cX1_startNumber 7 = .ok (.putfield 15, 3) := by decide +kernel
theorem dX1_startNumber_10 : decode cX1_startNumber 10 = .ok (.aload_n 0, 1) := by decide +kernel
theorem dX1_startNumber_11 : decode cX1_startNumber 11 = .ok (.iload_n 3, 1) := by decide +kernel
theorem dX1_startNumber_12 : decode cX1_startNumber 12 = .ok (.putfield 18, 3) := by decide +kernel
theorem dX1_startNumber_15 : decode cX1_startNumber 15 = .ok (.aload_n 0, 1) := by decide +kernel
theorem dX1_startNumber_16 : decode cX1_startNumber 16 = .ok (.iconst 2, 1) := by decide +kernel
theorem dX1_startNumber_17 : decode cX1_startNumber 17 = .ok (.putfield 11, 3) := by decide +kernel
theorem dX1_startNumber_20 : decode cX1_startNumber 20 = .ok (.iconst 1, 1) := by decide +kernel
theorem dX1_startNumber_21 : decode cX1_startNumber 21 = .ok (.ireturn, 1) := by decide +kernel
set_option maxRecDepth 20000 in
theorem ggX1_takesDigit_X1_canBecomeNumber : GoodIn wsX1_takesDigit wsX1_canBecomeNumber := goodIn_r _ [7, 8, 9, 10, 11, 12, 13, 14, 15] (by decide +kernel) (by decide +kernel)
set_option maxRecDepth 20000 in
theorem gX1_takesDigit_X1_canBecomeNumber : GoodIn wsX1_takesDigit (wsV RX1 48 RX1 yX1_canBecomeNumber wsX1_canBecomeNumber) := goodIn_app (goodIn_of _ (by decide +kernel)) ggX1_takesDigit_X1_canBecomeNumber
theorem dX1_takesDigit_0 : decode cX1_takesDigit 0 = .ok (.iload_n 1, 1) := by decide +kernel
theorem dX1_takesDigit_1 : decode cX1_takesDigit 1 = .ok (.bipush 48, 2) := by decide +kernel
theorem dX1_takesDigit_3 : decode cX1_takesDigit 3 = .ok (.if_icmp .lt 9, 3) := by decide +kernel
theorem dX1_takesDigit_6 : decode cX1_takesDigit 6 = .ok (.iload_n 1, 1) := by decide +kernel
theorem dX1_takesDigit_7 : decode cX1_takesDigit 7 = .ok (.bipush 57, 2) := by decide +kernel
theorem dX1_takesDigit_9 : decode cX1_takesDigit 9 = .ok (.if_icmp .le 5, 3) := by decide +kernel
theorem dX1_takesDigit_12 : decode cX1_takesDigit 12 = .ok (.iconst 0, 1) := by decide +kernel
theorem dX1_takesDigit_13 : decode cX1_takesDigit 13 = .ok (.ireturn, 1) := by decide +kernel
theorem dX1_takesDigit_14 : decode cX1_takesDigit 14 = .ok (.bipush 10, 2) := by decide +kernel
theorem dX1_takesDigit_16 : decode cX1_takesDigit 16 = .ok (.aload_n 0, 1) := by decide +kernel
theorem dX1_takesDigit_17 : decode cX1_takesDigit 17 = .ok (.getfield 27, 3) := by decide +kernel
theorem dX1_takesDigit_20 : decode cX1_takesDigit 20 = .ok (.imul, 1) := by decide +kernel
theorem dX1_takesDigit_21 : decode cX1_takesDigit 21 = .ok (.iload_n 1, 1) := by decide +kernel
theorem dX1_takesDigit_22 : decode cX1_takesDigit 22 = .ok (.iadd, 1) := by decide +kernel
theorem dX1_takesDigit_23 : decode cX1_takesDigit 23 = .ok (.bipush 48, 2) := by decide +kernel
theorem dX1_takesDigit_25 : decode cX1_takesDigit 25 = .ok (.isub, 1) := by decide +kernel
theorem dX1_takesDigit_26 : decode cX1_takesDigit 26 = .ok (.istore_n 2, 1) := by decide +kernel
theorem dX1_takesDigit_27 : decode cX1_takesDigit 27 = .ok (.aload_n 0, 1) := by decide +kernel
theorem dX1_takesDigit_28 : decode cX1_takesDigit 28 = .ok (.iload_n 2, 1) := by decide +kernel
theorem dX1_takesDigit_29 : decode cX1_takesDigit 29 = .ok (.invokevirtual 48, 3) := by decide +kernel
theorem dX1_takesDigit_32 : decode cX1_takesDigit 32 = .ok (.ifCond .ne 5, 3) := by decide +kernel
theorem dX1_takesDigit_35 : decode cX1_takesDigit 35 = .ok (.iconst 0, 1) := by decide +kernel
theorem dX1_takesDigit_36 : decode cX1_takesDigit 36 = .ok (.ireturn, 1) := by decide +kernel
theorem dX1_takesDigit_37 : decode cX1_takesDigit 37 = .ok (.aload_n 0, 1) := by decide +kernel
theorem dX1_takesDigit_38 : decode cX1_takesDigit 38 = .ok (.iload_n 2, 1) := by decide +kernel
theorem dX1_takesDigit_39 : decode cX1_takesDigit 39 = .ok (.putfield 27, 3) := by decide +kernel
theorem dX1_takesDigit_42 : decode cX1_takesDigit 42 = .ok (.aload_n 0, 1) := by decide +kernel
theorem dX1_takesDigit_43 : decode cX1_takesDigit 43 = .ok (.iconst 3, 1) := by decide +kernel
theorem dX1_takesDigit_44 : decode cX1_takesDigit 44 = .ok (.putfield 11, 3) := by decide +kernel
theorem dX1_takesDigit_47 : decode cX1_takesDigit 47 = .ok (.iconst 1, 1) := by decide +kernel
theorem dX1_takesDigit_48 : decode cX1_takesDigit 48 = .ok (.ireturn, 1) := by decide +kernel
theorem dX1_canBecomeNumber_0 : decode cX1_canBecomeNumber 0 = .ok (.iload_n 1, 1) := by decide +kernel
theorem dX1_canBecomeNumber_1 : decode cX1_canBecomeNumber 1 = .ok (.istore_n 2, 1) := by decide +kernel
theorem dX1_canBecomeNumber_2 : decode cX1_canBecomeNumber 2 = .ok (.iload_n 1, 1) := by decide +kernel
theorem dX1_canBecomeNumber_3 : decode cX1_canBecomeNumber 3 = .ok (.istore_n 3, 1) := by decide +kernel
theorem dX1_canBecomeNumber_4 : decode cX1_canBecomeNumber 4 = .ok (.iconst 0, 1) := by decide +kernel
theorem dX1_canBecomeNumber_5 : decode cX1_canBecomeNumber 5 = .ok (.istore 4, 2) := by decide +kernel
theorem dX1_canBecomeNumber_7 : decode cX1_canBecomeNumber 7 = .ok (.iload 4, 2) := by decide +kernel
theorem dX1_canBecomeNumber_9 : decode cX1_canBecomeNumber 9 = .ok (.iconst 3, 1) := by decide +kernel
theorem dX1_canBecomeNumber_10 : decode cX1_canBecomeNumber 10 = .ok (.if_icmp .ge 46, 3) := by decide +kernel
theorem dX1_canBecomeNumber_13 : decode cX1_canBecomeNumber 13 = .ok (.iload_n 2, 1) := by decide +kernel
theorem dX1_canBecomeNumber_14 : decode cX1_canBecomeNumber 14 = .ok (.aload_n 0, 1) := by decide +kernel
theorem dX1_canBecomeNumber_15 : decode cX1_canBecomeNumber 15 = .ok (.getfield 18, 3) := by decide +kernel
theorem dX1_canBecomeNumber_18 : decode cX1_canBecomeNumber 18 = .ok (.if_icmp .gt 13, 3) := by decide +kernel
theorem dX1_canBecomeNumber_21 : decode cX1_canBecomeNumber 21 = .ok (.iload_n 3, 1) := by decide +kernel
theorem dX1_canBecomeNumber_22 : decode cX1_canBecomeNumber 22 = .ok (.aload_n 0, 1) := by decide +kernel
theorem dX1_canBecomeNumber_23 : decode cX1_canBecomeNumber 23 = .ok (.getfield 15, 3) := by decide +kernel
theorem dX1_canBecomeNumber_26 : decode cX1_canBecomeNumber 26 = .ok (.if_icmp .lt 5, 3) := by decide +kernel
theorem dX1_canBecomeNumber_29 : decode cX1_canBecomeNumber 29 = .ok (.iconst 1, 1) := by decide +kernel
theorem dX1_canBecomeNumber_30 : decode cX1_canBecomeNumber 30 = .ok (.ireturn, 1) := by decide +kernel
theorem dX1_canBecomeNumber_31 : decode cX1_canBecomeNumber 31 = .ok (.iload_n 1, 1) := by decide +kernel
theorem dX1_canBecomeNumber_32 : decode cX1_canBecomeNumber 32 = .ok (.ifCond .ne 5, 3) := by decide +kernel
theorem dX1_canBecomeNumber_35 : decode cX1_canBecomeNumber 35 = .ok (.iconst 0, 1) := by decide +kernel
theorem dX1_canBecomeNumber_36 : decode cX1_canBecomeNumber 36 = .ok (.ireturn, 1) := by decide +kernel
theorem dX1_canBecomeNumber_37 : decode cX1_canBecomeNumber 37 = .ok (.bipush 10, 2) := by decide +kernel
theorem dX1_canBecomeNumber_39 : decode cX1_canBecomeNumber 39 = .ok (.iload_n 2, 1) := by decide +kernel
theorem dX1_canBecomeNumber_40 : decode cX1_canBecomeNumber 40 = .ok (.imul, 1) := by decide +kernel
theorem dX1_canBecomeNumber_41 : decode cX1_canBecomeNumber 41 = .ok (.istore_n 2, 1) := by decide +kernel
theorem dX1_canBecomeNumber_42 : decode cX1_canBecomeNumber 42 = .ok (.bipush 10, 2) := by decide +kernel
theorem dX1_canBecomeNumber_44 : decode cX1_canBecomeNumber 44 = .ok (.iload_n 3, 1) := by decide +kernel
theorem dX1_canBecomeNumber_45 : decode cX1_canBecomeNumber 45 = .ok (.imul, 1) := by decide +kernel
theorem dX1_canBecomeNumber_46 : decode cX1_canBecomeNumber 46 = .ok (.bipush 9, 2) := by decide +kernel
theorem dX1_canBecomeNumber_48 : decode cX1_canBecomeNumber 48 = .ok (.iadd, 1) := by decide +kernel
theorem dX1_canBecomeNumber_49 : decode cX1_canBecomeNumber 49 = .ok (.istore_n 3, 1) := by decide +kernel
theorem dX1_canBecomeNumber_50 : decode cX1_canBecomeNumber 50 = .ok (.iinc 4 1, 3) := by decide +kernel
theorem dX1_canBecomeNumber_53 : decode cX1_canBecomeNumber 53 = .ok (.goto (-46), 3) := by decide +kernel
theorem dX1_canBecomeNumber_56 : decode cX1_canBecomeNumber 56 = .ok (.iconst 0, 1) := by decide +kernel
theorem dX1_canBecomeNumber_57 : decode cX1_canBecomeNumber 57 = .ok (.ireturn, 1) := by decide +kernel
set_option maxRecDepth 20000 in
theorem ggX1_takesSemicolon_X1_isPartWhole : GoodIn wsX1_takesSemicolon wsX1_isPartWhole := goodIn_r _ [5, 6, 7, 8, 9, 14, 15, 16, 17, 18, 19] (by decide +kernel) (by decide +kernel)
set_option maxRecDepth 20000 in
theorem gX1_takesSemicolon_X1_isPartWhole : GoodIn wsX1_takesSemicolon (wsV RX1 51 RX1 yX1_isPartWhole wsX1_isPartWhole) := goodIn_app (goodIn_of _ (by decide +kernel)) ggX1_takesSemicolon_X1_isPartWhole
set_option maxRecDepth 20000 in
theorem ggX1_takesSemicolon_X1_startPart : GoodIn wsX1_takesSemicolon wsX1_startPart := goodIn_r _ [13, 6, 7, 14, 15, 16, 17, 18, 19] (by decide +kernel) (by decide +kernel)
set_option maxRecDepth 20000 in
theorem gX1_takesSemicolon_X1_startPart : GoodIn wsX1_takesSemicolon (wsV RX1 54 RX1 yX1_startPart wsX1_startPart) := goodIn_app (goodIn_of _ (by decide +kernel)) ggX1_takesSemicolon_X1_startPart
theorem dX1_takesSemicolon_0 : decode cX1_takesSemicolon 0 = .ok (.aload_n 0, 1) := by decide +kernel
theorem dX1_takesSemicolon_1 : decode cX1_takesSemicolon 1 = .ok (.invokevirtual 51, 3) := by decide +kernel
theorem dX1_takesSemicolon_4 : decode cX1_takesSemicolon 4 = .ok (.ifCond .ne 5, 3) := by decide +kernel
theorem dX1_takesSemicolon_7 : decode cX1_takesSemicolon 7 = .ok (.iconst 0, 1) := by decide +kernel
theorem dX1_takesSemicolon_8 : decode cX1_takesSemicolon 8 = .ok (.ireturn, 1) := by decide +kernel
theorem dX1_takesSemicolon_9 : decode cX1_takesSemicolon 9 = .ok (.aload_n 0, 1) := by decide +kernel
theorem dX1_takesSemicolon_10 : decode cX1_takesSemicolon 10 = .ok (.invokevirtual 54, 3) := by decide +kernel
theorem dX1_takesSemicolon_13 : decode cX1_takesSemicolon 13 = .ok (.iconst 1, 1) := by decide +kernel
theorem dX1_takesSemicolon_14 : decode cX1_takesSemicolon 14 = .ok (.ireturn, 1) := by decide +kernel
theorem dX2_init_0 : decode cX2_init 0 = .ok (.aload_n 0, 1) := by decide +kernel
theorem dX2_init_1 : decode cX2_init 1 = .ok (.invokespecial 3, 3) := by decide +kernel
theorem dX2_init_4 : decode cX2_init 4 = .ok (.aload_n 0, 1) := by decide +kernel
theorem dX2_init_5 : decode cX2_init 5 = .ok (.bipush 50, 2) := by decide +kernel
theorem dX2_init_7 : decode cX2_init 7 = .ok (.putfield 9, 3) := by decide +kernel
theorem dX2_init_10 : decode cX2_init 10 = .ok (.aload_n 0, 1) := by decide +kernel
theorem dX2_init_11 : decode cX2_init 11 = .ok (.sipush 150, 3) := by decide +kernel
theorem dX2_init_14 : decode cX2_init 14 = .ok (.putfield 15, 3) := by decide +kernel
theorem dX2_init_17 : decode cX2_init 17 = .ok (.aload_n 0, 1) := by decide +kernel
theorem dX2_init_18 : decode cX2_init 18 = .ok (.bipush 20, 2) := by decide +kernel
theorem dX2_init_20 : decode cX2_init 20 = .ok (.putfield 18, 3) := by decide +kernel
theorem dX2_init_23 : decode cX2_init 23 = .ok (.aload_n 0, 1) := by decide +kernel
theorem dX2_init_24 : decode cX2_init 24 = .ok (.iconst 2, 1) := by decide +kernel
theorem dX2_init_25 : decode cX2_init 25 = .ok (.putfield 21, 3) := by decide +kernel
theorem dX2_init_28 : decode cX2_init 28 = .ok (.aload_n 0, 1) := by decide +kernel
theorem dX2_init_29 : decode cX2_init 29 = .ok (.iconst 2, 1) := by decide +kernel
theorem dX2_init_30 : decode cX2_init 30 = .ok (.putfield 24, 3) := by decide +kernel
theorem dX2_init_33 : decode cX2_init 33 = .ok (.aload_n 0, 1) := by decide +kernel
theorem dX2_init_34 : decode cX2_init 34 = .ok (.iconst 0, 1) := by decide +kernel
theorem dX2_init_35 : decode cX2_init 35 = .ok (.putfield 27, 3) := by decide +kernel
theorem dX2_init_38 : decode cX2_init 38 = .ok (.aload_n 0, 1) := by decide +kernel
theorem dX2_init_39 : decode cX2_init 39 = .ok (.iconst 0, 1) := by decide +kernel
theorem dX2_init_40 : decode cX2_init 40 = .ok (.putfield 30, 3) := by decide +kernel
theorem dX2_init_43 : decode cX2_init 43 = .ok (.aload_n 0, 1) := by decide +kernel
theorem dX2_init_44 : decode cX2_init 44 = .ok (.iconst 0, 1) := by decide +kernel
theorem dX2_init_45 : decode cX2_init 45 = .ok (.putfield 33, 3) := by decide +kernel
theorem dX2_init_48 : decode cX2_init 48 = .ok (.aload_n 0, 1) := by decide +kernel
theorem dX2_init_49 : decode cX2_init 49 = .ok (.iconst 3, 1) := by decide +kernel
theorem dX2_init_50 : decode cX2_init 50 = .ok (.newarray .int, 2) := by decide +kernel
theorem dX2_init_52 : decode cX2_init 52 = .ok (.putfield 36, 3) := by decide +kernel
theorem dX2_init_55 : decode cX2_init 55 = .ok (.aload_n 0, 1) := by decide +kernel
theorem dX2_init_56 : decode cX2_init 56 = .ok (.iconst 3, 1) := by decide +kernel
theorem dX2_init_57 : decode cX2_init 57 = .ok (.newarray .int, 2) := by decide +kernel
theorem dX2_init_59 : decode cX2_init 59 = .ok (.putfield 40, 3) := by decide +kernel
theorem dX2_init_62 : decode cX2_init 62 = .ok (.return_, 1) := by decide +kernel
theorem dX2_copyFrom_0 : decode cX2_copyFrom 0 = .ok (.aload_n 0, 1) := by decide +kernel
theorem dX2_copyFrom_1 : decode cX2_copyFrom 1 = .ok (.aload_n 1, 1) := by decide +kernel
theorem dX2_copyFrom_2 : decode cX2_copyFrom 2 = .ok (.getfield 9, 3) := by decide +kernel
theorem dX2_copyFrom_5 : decode cX2_copyFrom 5 = .ok (.putfield 9, 3) := by decide +kernel
theorem dX2_copyFrom_8 : decode cX2_copyFrom 8 = .ok (.aload_n 0, 1) := by decide +kernel
theorem dX2_copyFrom_9 : decode cX2_copyFrom 9 = .ok (.aload_n 1, 1) := by decide +kernel
theorem dX2_copyFrom_10 : decode cX2_copyFrom 10 = .ok (.getfield 15, 3) := by decide +kernel
theorem dX2_copyFrom_13 : decode cX2_copyFrom 13 = .ok (.putfield 15, 3) := by decide +kernel
theorem dX2_copyFrom_16 : decode cX2_copyFrom 16 = .ok (.aload_n 0, 1) := by decide +kernel
theorem dX2_copyFrom_17 : decode cX2_copyFrom 17 = .ok (.aload_n 1, 1) := by decide +kernel
theorem dX2_copyFrom_18 : decode cX2_copyFrom 18 = .ok (.getfield 18, 3) := by decide +kernel
theorem dX2_copyFrom_21 : decode cX2_copyFrom 21 = .ok (.putfield 18, 3) := by decide +kernel
theorem dX2_copyFrom_24 : decode cX2_copyFrom 24 = .ok (.aload_n 0, 1) := by decide +kernel
theorem dX2_copyFrom_25 : decode cX2_copyFrom 25 = .ok (.aload_n 1, 1) := by decide +kernel
theorem dX2_copyFrom_26 : decode cX2_copyFrom 26 = .ok (.getfield 21, 3) := by decide +kernel
theorem dX2_copyFrom_29 : decode cX2_copyFrom 29 = .ok (.putfield 21, 3) := by decide +kernel
theorem dX2_copyFrom_32 : decode cX2_copyFrom 32 = .ok (.aload_n 0, 1) := by decide +kernel
theorem dX2_copyFrom_33 : decode cX2_copyFrom 33 = .ok (.aload_n 1, 1) := by decide +kernel
theorem dX2_copyFrom_34 : decode cX2_copyFrom 34 = .ok (.getfield 24, 3) := by decide +kernel
theorem dX2_copyFrom_37 : decode cX2_copyFrom 37 = .ok (.putfield 24, 3) := by decide +kernel
theorem dX2_copyFrom_40 : decode cX2_copyFrom 40 = .ok (.aload_n 0, 1) := by decide +kernel
theorem dX2_copyFrom_41 : decode cX2_copyFrom 41 = .ok (.aload_n 1, 1) := by decide +kernel
theorem dX2_copyFrom_42 : decode cX2_copyFrom 42 = .ok (.getfield 27, 3) := by decide +kernel
theorem dX2_copyFrom_45 : decode cX2_copyFrom 45 = .ok (.putfield 27, 3) := by decide +kernel
theorem dX2_copyFrom_48 : decode cX2_copyFrom 48 = .ok (.aload_n 0, 1) := by decide +kernel
theorem dX2_copyFrom_49 : decode cX2_copyFrom 49 = .ok (.aload_n 1, 1) := by decide +kernel
theorem dX2_copyFrom_50 : decode cX2_copyFrom 50 = .ok (.getfield 30, 3) := by decide +kernel
theorem dX2_copyFrom_53 : decode cX2_copyFrom 53 = .ok (.putfield 30, 3) := by decide +kernel
theorem dX2_copyFrom_56 : decode cX2_copyFrom 56 = .ok (.aload_n 0, 1) := by decide +kernel
theorem dX2_copyFrom_57 : decode cX2_copyFrom 57 = .ok (.aload_n 1, 1) := by decide +kernel
theorem dX2_copyFrom_58 : decode cX2_copyFrom 58 = .ok (.getfield 33, 3) := by decide +kernel
theorem dX2_copyFrom_61 : decode cX2_copyFrom 61 = .ok (.putfield 33, 3) := by decide +kernel
theorem dX2_copyFrom_64 : decode cX2_copyFrom 64 = .ok (.iconst 0, 1) := by decide +kernel
theorem dX2_copyFrom_65 : decode cX2_copyFrom 65 = .ok (.istore_n 2, 1) := by decide +kernel
theorem dX2_copyFrom_66 : decode cX2_copyFrom 66 = .ok (.iload_n 2, 1) := by decide +kernel
theorem dX2_copyFrom_67 : decode cX2_copyFrom 67 = .ok (.iconst 3, 1) := by decide +kernel
theorem dX2_copyFrom_68 : decode cX2_copyFrom 68 = .ok (.if_icmp .ge 33, 3) := by decide +kernel
theorem dX2_copyFrom_71 : decode cX2_copyFrom 71 = .ok (.aload_n 0, 1) := by decide +kernel
theorem dX2_copyFrom_72 : decode cX2_copyFrom 72 = .ok (.getfield 36, 3) := by decide +kernel
theorem dX2_copyFrom_75 : decode cX2_copyFrom 75 = .ok (.iload_n 2, 1) := by decide +kernel
theorem dX2_copyFrom_76 : decode cX2_copyFrom 76 = .ok (.aload_n 1, 1) := by decide +kernel
theorem dX2_copyFrom_77 : decode cX2_copyFrom 77 = .ok (.getfield 36, 3) := by decide +kernel
theorem dX2_copyFrom_80 : decode cX2_copyFrom 80 = .ok (.iload_n 2, 1) := by decide +kernel
theorem dX2_copyFrom_81 : decode cX2_copyFrom 81 = .ok (.iaload, 1) := by decide +kernel
theorem dX2_copyFrom_82 : decode cX2_copyFrom 82 = .ok (.iastore, 1) := by decide +kernel
theorem dX2_copyFrom_83 : decode cX2_copyFrom 83 = .ok (.aload_n 0, 1) := by decide +kernel
theorem dX2_copyFrom_84 : decode cX2_copyFrom 84 = .ok (.getfield 40, 3) := by decide +kernel
theorem dX2_copyFrom_87 : decode cX2_copyFrom 87 = .ok (.iload_n 2, 1) := by decide +kernel
theorem dX2_copyFrom_88 : decode cX2_copyFrom 88 = .ok (.aload_n 1, 1) := by decide +kernel
theorem dX2_copyFrom_89 : decode cX2_copyFrom 89 = .ok (.getfield 40, 3) := by decide +kernel
theorem dX2_copyFrom_92 : decode cX2_copyFrom 92 = .ok (.iload_n 2, 1) := by decide +kernel
theorem dX2_copyFrom_93 : decode cX2_copyFrom 93 = .ok (.iaload, 1) := by decide +kernel
theorem dX2_copyFrom_94 : decode cX2_copyFrom 94 = .ok (.iastore, 1) := by decide +kernel
theorem dX2_copyFrom_95 : decode cX2_copyFrom 95 = .ok (.iinc 2 1, 3) := by decide +kernel
theorem dX2_copyFrom_98 : decode cX2_copyFrom 98 = .ok (.goto (-32), 3) := by decide +kernel
theorem dX2_copyFrom_101 : decode cX2_copyFrom 101 = .ok (.return_, 1) := by decide +kernel
theorem dX2_isFull_0 : decode cX2_isFull 0 = .ok (.aload_n 0, 1) := by decide +kernel
theorem dX2_isFull_1 : decode cX2_isFull 1 = .ok (.getfield 33, 3) := by decide +kernel
theorem dX2_isFull_4 : decode cX2_isFull 4 = .ok (.iconst 3, 1) := by decide +kernel
theorem dX2_isFull_5 : decode cX2_isFull 5 = .ok (.if_icmp .lt 7, 3) := by decide +kernel
theorem dX2_isFull_8 : decode cX2_isFull 8 = .ok (.iconst 1, 1) := by decide +kernel
theorem dX2_isFull_9 : decode cX2_isFull 9 = .ok (.goto 4, 3) := by decide +kernel
theorem dX2_isFull_12 : decode cX2_isFull 12 = .ok (.iconst 0, 1) := by decide +kernel
theorem dX2_isFull_13 : decode cX2_isFull 13 = .ok (.ireturn, 1) := by decide +kernel
theorem dX2_bears_0 : decode cX2_bears 0 = .ok (.iload_n 1, 1) := by decide +kernel
theorem dX2_bears_1 : decode cX2_bears 1 = .ok (.ifCond .lt 20, 3) := by decide +kernel
theorem dX2_bears_4 : decode cX2_bears 4 = .ok (.iload_n 1, 1) := by decide +kernel
theorem dX2_bears_5 : decode cX2_bears 5 = .ok (.aload_n 0, 1) := by decide +kernel
theorem dX2_bears_6 : decode cX2_bears 6 = .ok (.getfield 33, 3) := by decide +kernel
theorem dX2_bears_9 : decode cX2_bears 9 = .ok (.if_icmp .ge 12, 3) := by decide +kernel
theorem dX2_bears_12 : decode cX2_bears 12 = .ok (.iload_n 1, 1) := by decide +kernel
theorem dX2_bears_13 : decode cX2_bears 13 = .ok (.iconst 3, 1) := by decide +kernel
theorem dX2_bears_14 : decode cX2_bears 14 = .ok (.if_icmp .ge 7, 3) := by decide +kernel
theorem dX2_bears_17 : decode cX2_bears 17 = .ok (.iconst 1, 1) := by decide +kernel
theorem dX2_bears_18 : decode cX2_bears 18 = .ok (.goto 4, 3) := by decide +kernel
theorem dX2_bears_21 : decode cX2_bears 21 = .ok (.iconst 0, 1) := by decide +kernel
theorem dX2_bears_22 : decode cX2_bears 22 = .ok (.ireturn, 1) := by decide +kernel
set_option maxRecDepth 20000 in
theorem ggX2_weightOf_X2_bears : GoodIn wsX2_weightOf wsX2_bears := goodIn_r _ [6, 7, 8, 9, 10, 11, 12, 13, 14, 15, 16, 17] (by decide +kernel) (by decide +kernel)
set_option maxRecDepth 20000 in
theorem gX2_weightOf_X2_bears : GoodIn wsX2_weightOf (wsV RX2 43 RX2 yX2_bears wsX2_bears) := goodIn_app (goodIn_of _ (by decide +kernel)) ggX2_weightOf_X2_bears
theorem dX2_weightOf_0 : decode cX2_weightOf 0 = .ok (.aload_n 0, 1) := by decide +kernel
theorem dX2_weightOf_1 : decode cX2_weightOf 1 = .ok (.iload_n 1, 1) := by decide +kernel
theorem dX2_weightOf_2 : decode cX2_weightOf 2 = .ok (.invokevirtual 43, 3) := by decide +kernel
theorem dX2_weightOf_5 : decode cX2_weightOf 5 = .ok (.ifCond .eq 12, 3) := by decide +kernel
theorem dX2_weightOf_8 : decode cX2_weightOf 8 = .ok (.aload_n 0, 1) := by decide +kernel
theorem dX2_weightOf_9 : decode cX2_weightOf 9 = .ok (.getfield 36, 3) := by decide +kernel
theorem dX2_weightOf_12 : decode cX2_weightOf 12 = .ok (.iload_n 1, 1) := by decide +kernel
theorem dX2_weightOf_13 : decode cX2_weightOf 13 = .ok (.iaload, 1) := by decide +kernel
theorem dX2_weightOf_14 : decode cX2_weightOf 14 = .ok (.goto 4, 3) := by decide +kernel
theorem dX2_weightOf_17 : decode cX2_weightOf 17 = .ok (.iconst 0, 1) := by decide +kernel
theorem dX2_weightOf_18 : decode cX2_weightOf 18 = .ok (.ireturn, 1) := by decide +kernel
set_option maxRecDepth 20000 in
theorem ggX2_stepOf_X2_bears : GoodIn wsX2_stepOf wsX2_bears := goodIn_r _ [6, 7, 8, 9, 10, 11, 12, 13, 14, 15, 16, 17] (by decide +kernel) (by decide +kernel)
set_option maxRecDepth 20000 in
theorem gX2_stepOf_X2_bears : GoodIn wsX2_stepOf (wsV RX2 43 RX2 yX2_bears wsX2_bears) := goodIn_app (goodIn_of _ (by decide +kernel)) ggX2_stepOf_X2_bears
theorem dX2_stepOf_0 : decode cX2_stepOf 0 = .ok (.aload_n 0, 1) := by decide +kernel
theorem dX2_stepOf_1 : decode cX2_stepOf 1 = .ok (.iload_n 1, 1) := by decide +kernel
theorem dX2_stepOf_2 : decode cX2_stepOf 2 = .ok (.invokevirtual 43, 3) := by decide +kernel
theorem dX2_stepOf_5 : decode cX2_stepOf 5 = .ok (.ifCond .eq 12, 3) := by decide +kernel
theorem dX2_stepOf_8 : decode cX2_stepOf 8 = .ok (.aload_n 0, 1) := by decide +kernel
theorem dX2_stepOf_9 : decode cX2_stepOf 9 = .ok (.getfield 40, 3) := by decide +kernel
theorem dX2_stepOf_12 : decode cX2_stepOf 12 = .ok (.iload_n 1, 1) := by decide +kernel
theorem dX2_stepOf_13 : decode cX2_stepOf 13 = .ok (.iaload, 1) := by decide +kernel
theorem dX2_stepOf_14 : decode cX2_stepOf 14 = .ok (.goto 4, 3) := by decide +kernel
theorem dX2_stepOf_17 : decode cX2_stepOf 17 = .ok (.iconst 0, 1) := by decide +kernel
theorem dX2_stepOf_18 : decode cX2_stepOf 18 = .ok (.ireturn, 1) := by decide +kernel
set_option maxRecDepth 20000 in
theorem ggX2_setStep_X2_bears : GoodIn wsX2_setStep wsX2_bears := goodIn_r _ [6, 7, 8, 9, 10, 11, 12, 13, 14, 15, 16, 17] (by decide +kernel) (by decide +kernel)
set_option maxRecDepth 20000 in
theorem gX2_setStep_X2_bears : GoodIn wsX2_setStep (wsV RX2 43 RX2 yX2_bears wsX2_bears) := goodIn_app (goodIn_of _ (by decide +kernel)) ggX2_setStep_X2_bears
theorem dX2_setStep_0 : decode cX2_setStep 0 = .ok (.aload_n 0, 1) := by decide +kernel
theorem dX2_setStep_1 : decode cX2_setStep 1 = .ok (.iload_n 1, 1) := by decide +kernel
theorem dX2_setStep_2 : decode cX2_setStep 2 = .ok (.invokevirtual 43, 3) := by decide +kernel
theorem dX2_setStep_5 : decode cX2_setStep 5 = .ok (.ifCond .eq 10, 3) := by decide +kernel
theorem dX2_setStep_8 : decode cX2_setStep 8 = .ok (.aload_n 0, 1) := by decide +kernel
theorem dX2_setStep_9 : decode cX2_setStep 9 = .ok (.getfield 40, 3) := by decide +kernel
theorem dX2_setStep_12 : decode cX2_setStep 12 = .ok (.iload_n 1, 1) := by decide +kernel
theorem dX2_setStep_13 : decode cX2_setStep 13 = .ok (.iload_n 2, 1) := by decide +kernel
theorem dX2_setStep_14 : decode cX2_setStep 14 = .ok (.iastore, 1) := by decide +kernel
theorem dX2_setStep_15 : decode cX2_setStep 15 = .ok (.return_, 1) := by decide +kernel
theorem dX2_add_0 : decode cX2_add 0 = .ok (.aload_n 0, 1) := by decide +kernel
theorem dX2_add_1 : decode cX2_add 1 = .ok (.getfield 33, 3) := by decide +kernel
theorem dX2_add_4 : decode cX2_add 4 = .ok (.ifCond .lt 41, 3) := by decide +kernel
theorem dX2_add_7 : decode cX2_add 7 = .ok (.aload_n 0, 1) := by decide +kernel
theorem dX2_add_8 : decode cX2_add 8 = .ok (.getfield 33, 3) := by decide +kernel
theorem dX2_add_11 : decode cX2_add 11 = .ok (.iconst 3, 1) := by decide +kernel
theorem dX2_add_12 : decode cX2_add 12 = .ok (.if_icmp .ge 33, 3) := by decide +kernel
theorem dX2_add_15 : decode cX2_add 15 = .ok (.aload_n 0, 1) := by decide +kernel
theorem dX2_add_16 : decode cX2_add 16 = .ok (.getfield 36, 3) := by decide +kernel
theorem dX2_add_19 : decode cX2_add 19 = .ok (.aload_n 0, 1) := by decide +kernel
theorem dX2_add_20 : decode cX2_add 20 = .ok (.getfield 33, 3) := by decide +kernel
theorem dX2_add_23 : decode cX2_add 23 = .ok (.iload_n 1, 1) := by decide +kernel
theorem dX2_add_24 : decode cX2_add 24 = .ok (.iastore, 1) := by decide +kernel
theorem dX2_add_25 : decode cX2_add 25 = .ok (.aload_n 0, 1) := by decide +kernel
theorem dX2_add_26 : decode cX2_add 26 = .ok (.getfield 40, 3) := by decide +kernel
theorem dX2_add_29 : decode cX2_add 29 = .ok (.aload_n 0, 1) := by decide +kernel
theorem dX2_add_30 : decode cX2_add 30 = .ok (.getfield 33, 3) := by decide +kernel
theorem dX2_add_33 : decode cX2_add 33 = .ok (.iconst 0, 1) := by decide +kernel
theorem dX2_add_34 : decode cX2_add 34 = .ok (.iastore, 1) := by decide +kernel
theorem dX2_add_35 : decode cX2_add 35 = .ok (.aload_n 0, 1) := by decide +kernel
theorem dX2_add_36 : decode cX2_add 36 = .ok (.dup, 1) := by decide +kernel
theorem dX2_add_37 : decode cX2_add 37 = .ok (.getfield 33, 3) := by decide +kernel
theorem dX2_add_40 : decode cX2_add 40 = .ok (.iconst 1, 1) := by decide +kernel
theorem dX2_add_41 : decode cX2_add 41 = .ok (.iadd, 1) := by decide +kernel
theorem dX2_add_42 : decode cX2_add 42 = .ok (.putfield 33, 3) := by decide +kernel
theorem dX2_add_45 : decode cX2_add 45 = .ok (.return_, 1) := by decide +kernel
set_option maxRecDepth 20000 in
theorem ggX2_remove_X2_bears : GoodIn wsX2_remove wsX2_bears := goodIn_r _ [8, 3, 9, 10, 11, 12, 13, 14, 15, 16, 17, 18] (by decide +kernel) (by decide +kernel)
set_option maxRecDepth 20000 in
theorem gX2_remove_X2_bears : GoodIn wsX2_remove (wsV RX2 43 RX2 yX2_bears wsX2_bears) := goodIn_app (goodIn_of _ (by decide +kernel)) ggX2_remove_X2_bears
theorem dX2_remove_0 : decode cX2_remove 0 = .ok (.aload_n 0, 1) := by decide +kernel
theorem dX2_remove_1 : decode cX2_remove 1 = .ok (.iload_n 1, 1) := by decide +kernel
theorem dX2_remove_2 : decode cX2_remove 2 = .ok (.invokevirtual 43, 3) := by decide +kernel
theorem dX2_remove_5 : decode cX2_remove 5 = .ok (.ifCond .ne 4, 3) := by decide +kernel
theorem dX2_remove_8 : decode cX2_remove 8 = .ok (.return_, 1) := by decide +kernel
theorem dX2_remove_9 : decode cX2_remove 9 = .ok (.iload_n 1, 1) := by decide +kernel
theorem dX2_remove_10 : decode cX2_remove 10 = .ok (.istore_n 2, 1) := by decide +kernel
theorem dX2_remove_11 : decode cX2_remove 11 = .ok (.iload_n 2, 1) := by decide +kernel
theorem dX2_remove_12 : decode cX2_remove 12 = .ok (.iconst 2, 1) := by decide +kernel
theorem dX2_remove_13 : decode cX2_remove 13 = .ok (.if_icmp .ge 37, 3) := by decide +kernel
theorem dX2_remove_16 : decode cX2_remove 16 = .ok (.aload_n 0, 1) := by decide +kernel
theorem dX2_remove_17 : decode cX2_remove 17 = .ok (.getfield 36, 3) := by decide +kernel
theorem dX2_remove_20 : decode cX2_remove 20 = .ok (.iload_n 2, 1) := by decide +kernel
theorem dX2_remove_21 : decode cX2_remove 21 = .ok (.aload_n 0, 1) := by decide +kernel
theorem dX2_remove_22 : decode cX2_remove 22 = .ok (.getfield 36, 3) := by decide +kernel
theorem dX2_remove_25 : decode cX2_remove 25 = .ok (.iload_n 2, 1) := by decide +kernel
theorem dX2_remove_26 : decode cX2_remove 26 = .ok (.iconst 1, 1) := by decide +kernel
theorem dX2_remove_27 : decode cX2_remove 27 = .ok (.iadd, 1) := by decide +kernel
theorem dX2_remove_28 : decode cX2_remove 28 = .ok (.iaload, 1) := by decide +kernel
theorem dX2_remove_29 : decode cX2_remove 29 = .ok (.iastore, 1) := by decide +kernel
theorem dX2_remove_30 : decode cX2_remove 30 = .ok (.aload_n 0, 1) := by decide +kernel
theorem dX2_remove_31 : decode cX2_remove 31 = .ok (.getfield 40, 3) := by decide +kernel
theorem dX2_remove_34 : decode cX2_remove 34 = .ok (.iload_n 2, 1) := by decide +kernel
theorem dX2_remove_35 : decode cX2_remove 35 = .ok (.aload_n 0, 1) := by decide +kernel
theorem dX2_remove_36 : decode cX2_remove 36 = .ok (.getfield 40, 3) := by decide +kernel
theorem dX2_remove_39 : decode cX2_remove 39 = .ok (.iload_n 2, 1) := by decide +kernel
theorem dX2_remove_40 : decode cX2_remove 40 = .ok (.iconst 1, 1) := by decide +kernel
theorem dX2_remove_41 : decode cX2_remove 41 = .ok (.iadd, 1) := by decide +kernel
theorem dX2_remove_42 : decode cX2_remove 42 = .ok (.iaload, 1) := by decide +kernel
theorem dX2_remove_43 : decode cX2_remove 43 = .ok (.iastore, 1) := by decide +kernel
theorem dX2_remove_44 : decode cX2_remove 44 = .ok (.iinc 2 1, 3) := by decide +kernel
theorem dX2_remove_47 : decode cX2_remove 47 = .ok (.goto (-36), 3) := by decide +kernel
theorem dX2_remove_50 : decode cX2_remove 50 = .ok (.aload_n 0, 1) := by decide +kernel
theorem dX2_remove_51 : decode cX2_remove 51 = .ok (.getfield 36, 3) := by decide +kernel
theorem dX2_remove_54 : decode cX2_remove 54 = .ok (.iconst 2, 1) := by decide +kernel
theorem dX2_remove_55 : decode cX2_remove 55 = .ok (.iconst 0, 1) := by decide +kernel
theorem dX2_remove_56 : decode cX2_remove 56 = .ok (.iastore, 1) := by decide +kernel
theorem dX2_remove_57 : decode cX2_remove 57 = .ok (.aload_n 0, 1) := by decide +kernel
theorem dX2_remove_58 : decode cX2_remove 58 = .ok (.getfield 40, 3) := by decide +kernel
theorem dX2_remove_61 : decode cX2_remove 61 = .ok (.iconst 2, 1) := by decide +kernel
theorem dX2_remove_62 : decode cX2_remove 62 = .ok (.iconst 0, 1) := by decide +kernel
theorem dX2_remove_63 : decode cX2_remove 63 = .ok (.iastore, 1) := by decide +kernel
theorem dX2_remove_64 : decode cX2_remove 64 = .ok (.aload_n 0, 1) := by decide +kernel
theorem dX2_remove_65 : decode cX2_remove 65 = .ok (.dup, 1) := by decide +kernel
theorem dX2_remove_66 : decode cX2_remove 66 = .ok (.getfield 33, 3) := by decide +kernel
theorem dX2_remove_69 : decode cX2_remove 69 = .ok (.iconst 1, 1) := by decide +kernel
theorem dX2_remove_70 : decode cX2_remove 70 = .ok (.isub, 1) := by decide +kernel
theorem dX2_remove_71 : decode cX2_remove 71 = .ok (.putfield 33, 3) := by decide +kernel
theorem dX2_remove_74 : decode cX2_remove 74 = .ok (.return_, 1) := by decide +kernel
theorem dX2_removeAll_0 : decode cX2_removeAll 0 = .ok (.iconst 0, 1) := by decide +kernel
theorem dX2_removeAll_1 : decode cX2_removeAll 1 = .ok (.istore_n 1, 1) := by decide +kernel
theorem dX2_removeAll_2 : decode cX2_removeAll 2 = .ok (.iload_n 1, 1) := by decide +kernel
theorem dX2_removeAll_3 : decode cX2_removeAll 3 = .ok (.iconst 3, 1) := by decide +kernel
theorem dX2_removeAll_4 : decode cX2_removeAll 4 = .ok (.if_icmp .ge 23, 3) := by decide +kernel
theorem dX2_removeAll_7 : decode cX2_removeAll 7 = .ok (.aload_n 0, 1) := by decide +kernel
theorem dX2_removeAll_8 : decode cX2_removeAll 8 = .ok (.getfield 36, 3) := by decide +kernel
theorem dX2_removeAll_11 : decode cX2_removeAll 11 = .ok (.iload_n 1, 1) := by decide +kernel
theorem dX2_removeAll_12 : decode cX2_removeAll 12 = .ok (.iconst 0, 1) := by decide +kernel
theorem dX2_removeAll_13 : decode cX2_removeAll 13 = .ok (.iastore, 1) := by decide +kernel
theorem dX2_removeAll_14 : decode cX2_removeAll 14 = .ok (.aload_n 0, 1) := by decide +kernel
theorem dX2_removeAll_15 : decode cX2_removeAll 15 = .ok (.getfield 40, 3) := by decide +kernel
theorem dX2_removeAll_18 : decode cX2_removeAll 18 = .ok (.iload_n 1, 1) := by decide +kernel
theorem dX2_removeAll_19 : decode cX2_removeAll 19 = .ok (.iconst 0, 1) := by decide +kernel
theorem dX2_removeAll_20 : decode cX2_removeAll 20 = .ok (.iastore, 1) := by decide +kernel
theorem dX2_removeAll_21 : decode cX2_removeAll 21 = .ok (.iinc 1 1, 3) := by decide +kernel
theorem dX2_removeAll_24 : decode cX2_removeAll 24 = .ok (.goto (-22), 3) := by decide +kernel
theorem dX2_removeAll_27 : decode cX2_removeAll 27 = .ok (.aload_n 0, 1) := by decide +kernel
theorem dX2_removeAll_28 : decode cX2_removeAll 28 = .ok (.iconst 0, 1) := by decide +kernel
theorem dX2_removeAll_29 : decode cX2_removeAll 29 = .ok (.putfield 33, 3) := by decide +kernel
theorem dX2_removeAll_32 : decode cX2_removeAll 32 = .ok (.return_, 1) := by decide +kernel
theorem dX2_load_0 : decode cX2_load 0 = .ok (.aload_n 0, 1) := by decide +kernel
theorem dX2_load_1 : decode cX2_load 1 = .ok (.getfield 18, 3) := by decide +kernel
theorem dX2_load_4 : decode cX2_load 4 = .ok (.istore_n 1, 1) := by decide +kernel
theorem dX2_load_5 : decode cX2_load 5 = .ok (.iconst 0, 1) := by decide +kernel
theorem dX2_load_6 : decode cX2_load 6 = .ok (.istore_n 2, 1) := by decide +kernel
theorem dX2_load_7 : decode cX2_load 7 = .ok (.iload_n 2, 1) := by decide +kernel
theorem dX2_load_8 : decode cX2_load 8 = .ok (.iconst 3, 1) := by decide +kernel
theorem dX2_load_9 : decode cX2_load 9 = .ok (.if_icmp .ge 18, 3) := by decide +kernel
theorem dX2_load_12 : decode cX2_load 12 = .ok (.iload_n 1, 1) := by decide +kernel
theorem dX2_load_13 : decode cX2_load 13 = .ok (.aload_n 0, 1) := by decide +kernel
theorem dX2_load_14 : decode cX2_load 14 = .ok (.getfield 36, 3) := by decide +kernel
theorem dX2_load_17 : decode cX2_load 17 = .ok (.iload_n 2, 1) := by decide +kernel
theorem dX2_load_18 : decode cX2_load 18 = .ok (.iaload, 1) := by decide +kernel
theorem dX2_load_19 : decode cX2_load 19 = .ok (.iadd, 1) := by decide +kernel
theorem dX2_load_20 : decode cX2_load 20 = .ok (.istore_n 1, 1) := by decide +kernel
theorem dX2_load_21 : decode cX2_load 21 = .ok (.iinc 2 1, 3) := by decide +kernel
theorem dX2_load_24 : decode cX2_load 24 = .ok (.goto (-17), 3) := by decide +kernel
theorem dX2_load_27 : decode cX2_load 27 = .ok (.iload_n 1, 1) := by decide +kernel
theorem dX2_load_28 : decode cX2_load 28 = .ok (.ireturn, 1) := by decide +kernel
theorem dX2_moment_0 : decode cX2_moment 0 = .ok (.iconst 5, 1) := by decide +kernel
theorem dX2_moment_1 : decode cX2_moment 1 = .ok (.aload_n 0, 1) := by decide +kernel
theorem dX2_moment_2 : decode cX2_moment 2 = .ok (.getfield 18, 3) := by decide +kernel
theorem dX2_moment_5 : decode cX2_moment 5 = .ok (.imul, 1) := by decide +kernel
theorem dX2_moment_6 : decode cX2_moment 6 = .ok (.istore_n 1, 1) := by decide +kernel
theorem dX2_moment_7 : decode cX2_moment 7 = .ok (.iconst 0, 1) := by decide +kernel
theorem dX2_moment_8 : decode cX2_moment 8 = .ok (.istore_n 2, 1) := by decide +kernel
theorem dX2_moment_9 : decode cX2_moment 9 = .ok (.iload_n 2, 1) := by decide +kernel
theorem dX2_moment_10 : decode cX2_moment 10 = .ok (.iconst 3, 1) := by decide +kernel
theorem dX2_moment_11 : decode cX2_moment 11 = .ok (.if_icmp .ge 25, 3) := by decide +kernel
theorem dX2_moment_14 : decode cX2_moment 14 = .ok (.iload_n 1, 1) := by decide +kernel
theorem dX2_moment_15 : decode cX2_moment 15 = .ok (.aload_n 0, 1) := by decide +kernel
theorem dX2_moment_16 : decode cX2_moment 16 = .ok (.getfield 40, 3) := by decide +kernel
theorem dX2_moment_19 : decode cX2_moment 19 = .ok (.iload_n 2, 1) := by decide +kernel
theorem dX2_moment_20 : decode cX2_moment 20 = .ok (.iaload, 1) := by decide +kernel
theorem dX2_moment_21 : decode cX2_moment 21 = .ok (.aload_n 0, 1) := by decide +kernel
theorem dX2_moment_22 : decode cX2_moment 22 = .ok (.getfield 36, 3) := by decide +kernel
theorem dX2_moment_25 : decode cX2_moment 25 = .ok (.iload_n 2, 1) := by decide +kernel
theorem dX2_moment_26 : decode cX2_moment 26 = .ok (.iaload, 1) := by decide +kernel
theorem dX2_moment_27 : decode cX2_moment 27 = .ok (.imul, 1) := by decide +kernel
theorem dX2_moment_28 : decode cX2_moment 28 = .ok (.iadd, 1) := by decide +kernel
theorem dX2_moment_29 : decode cX2_moment 29 = .ok (.istore_n 1, 1) := by decide +kernel
theorem dX2_moment_30 : decode cX2_moment 30 = .ok (.iinc 2 1, 3) := by decide +kernel
theorem dX2_moment_33 : decode cX2_moment 33 = .ok (.goto (-24), 3) := by decide +kernel
theorem dX2_moment_36 : decode cX2_moment 36 = .ok (.aload_n 0, 1) := by decide +kernel
theorem dX2_moment_37 : decode cX2_moment 37 = .ok (.getfield 9, 3) := by decide +kernel
theorem dX2_moment_40 : decode cX2_moment 40 = .ok (.iload_n 1, 1) := by decide +kernel
theorem dX2_moment_41 : decode cX2_moment 41 = .ok (.imul, 1) := by decide +kernel
theorem dX2_moment_42 : decode cX2_moment 42 = .ok (.ireturn, 1) := by decide +kernel
set_option maxRecDepth 20000 in
theorem ggX2_push_X2_moment : GoodIn wsX2_push wsX2_moment := goodIn_r _ [6, 7, 8, 9, 1, 10, 11, 12, 13, 14, 15, 16, 17, 18, 19] (by decide +kernel) (by decide +kernel)
set_option maxRecDepth 20000 in
theorem gX2_push_X2_moment : GoodIn wsX2_push (wsV RX2 47 RX2 yX2_moment wsX2_moment) := goodIn_app (goodIn_of _ (by decide +kernel)) ggX2_push_X2_moment
theorem dX2_push_0 : decode cX2_push 0 = .ok (.aload_n 0, 1) := by decide +kernel
theorem dX2_push_1 : decode cX2_push 1 = .ok (.invokevirtual 47, 3) := by decide +kernel
theorem dX2_push_4 : decode cX2_push 4 = .ok (.bipush 10, 2) := by decide +kernel
theorem dX2_push_6 : decode cX2_push 6 = .ok (.iload_n 1, 1) := by decide +kernel
theorem dX2_push_7 : decode cX2_push 7 = .ok (.imul, 1) := by decide +kernel
theorem dX2_push_8 : decode cX2_push 8 = .ok (.aload_n 0, 1) := by decide +kernel
theorem dX2_push_9 : decode cX2_push 9 = .ok (.getfield 9, 3) := by decide +kernel
theorem dX2_push_12 : decode cX2_push 12 = .ok (.imul, 1) := by decide +kernel
theorem dX2_push_13 : decode cX2_push 13 = .ok (.isub, 1) := by decide +kernel
theorem dX2_push_14 : decode cX2_push 14 = .ok (.ireturn, 1) := by decide +kernel
set_option maxRecDepth 20000 in
theorem ggX2_whatGivesWay_X2_push : GoodIn wsX2_whatGivesWay wsX2_push := goodIn_r _ [12, 13, 14, 15, 16, 11, 17, 18, 19, 20, 34, 35, 36, 37, 38, 39, 40, 41, 42, 43] (by decide +kernel) (by decide +kernel)
set_option maxRecDepth 20000 in
theorem gX2_whatGivesWay_X2_push : GoodIn wsX2_whatGivesWay (wsV RX2 51 RX2 yX2_push wsX2_push) := goodIn_app (goodIn_of _ (by decide +kernel)) ggX2_whatGivesWay_X2_push
set_option maxRecDepth 20000 in
theorem ggX2_whatGivesWay_X2_load : GoodIn wsX2_whatGivesWay wsX2_load := goodIn_r _ [24, 18, 20, 34, 35, 36, 37, 38, 39, 40, 41, 42, 43] (by decide +kernel) (by decide +kernel)
set_option maxRecDepth 20000 in
theorem gX2_whatGivesWay_X2_load : GoodIn wsX2_whatGivesWay (wsV RX2 55 RX2 yX2_load wsX2_load) := goodIn_app (goodIn_of _ (by decide +kernel)) ggX2_whatGivesWay_X2_load
set_option maxRecDepth 20000 in
theorem ggX2_whatGivesWay_X2_wallPercents : GoodIn wsX2_whatGivesWay wsX2_wallPercents := goodIn_r _ [28, 6, 34, 35, 36, 37, 38, 39, 40, 41, 42, 43] (by decide +kernel) (by decide +kernel)
set_option maxRecDepth 20000 in
theorem gX2_whatGivesWay_X2_wallPercents : GoodIn wsX2_whatGivesWay (wsV RX2 63 RX2 yX2_wallPercents wsX2_wallPercents) := goodIn_app (goodIn_of _ (by decide +kernel)) ggX2_whatGivesWay_X2_wallPercents
set_option maxRecDepth 20000 in
theorem ggX2_whatGivesWay_X2_groundPercents : GoodIn wsX2_whatGivesWay wsX2_groundPercents := goodIn_r _ [32, 33, 34, 35, 36, 37, 38, 39, 40, 41, 42, 43] (by decide +kernel) (by decide +kernel)
set_option maxRecDepth 20000 in
theorem gX2_whatGivesWay_X2_groundPercents : GoodIn wsX2_whatGivesWay (wsV RX2 66 RX2 yX2_groundPercents wsX2_groundPercents) := goodIn_app (goodIn_of _ (by decide +kernel)) ggX2_whatGivesWay_X2_groundPercents
theorem dX2_whatGivesWay_0 : decode cX2_whatGivesWay 0 = .ok (.aload_n 0, 1) := by decide +kernel
theorem dX2_whatGivesWay_1 : decode cX2_whatGivesWay 1 = .ok (.iload_n 1, 1) := by decide +kernel
theorem dX2_whatGivesWay_2 : decode cX2_whatGivesWay 2 = .ok (.invokevirtual 51, 3) := by decide +kernel
theorem dX2_whatGivesWay_5 : decode cX2_whatGivesWay 5 = .ok (.istore_n 2, 1) := by decide +kernel
theorem dX2_whatGivesWay_6 : decode cX2_whatGivesWay 6 = .ok (.aload_n 0, 1) := by decide +kernel
theorem dX2_whatGivesWay_7 : decode cX2_whatGivesWay 7 = .ok (.invokevirtual 55, 3) := by decide +kernel
theorem dX2_whatGivesWay_10 : decode cX2_whatGivesWay 10 = .ok (.istore_n 3, 1) := by decide +kernel
theorem dX2_whatGivesWay_11 : decode cX2_whatGivesWay 11 = .ok (.iload_n 2, 1) := by decide +kernel
theorem dX2_whatGivesWay_12 : decode cX2_whatGivesWay 12 = .ok (.ifCond .ge 7, 3) := by decide +kernel
theorem dX2_whatGivesWay_15 : decode cX2_whatGivesWay 15 = .ok (.iconst 1, 1) := by decide +kernel
theorem dX2_whatGivesWay_16 : decode cX2_whatGivesWay 16 = .ok (.goto 4, 3) := by decide +kernel
theorem dX2_whatGivesWay_19 : decode cX2_whatGivesWay 19 = .ok (.iconst 0, 1) := by decide +kernel
theorem dX2_whatGivesWay_20 : decode cX2_whatGivesWay 20 = .ok (.istore 4, 2) := by decide +kernel
theorem dX2_whatGivesWay_22 : decode cX2_whatGivesWay 22 = .ok (.sipush 1000, 3) := by decide +kernel
theorem dX2_whatGivesWay_25 : decode cX2_whatGivesWay 25 = .ok (.aload_n 0, 1) := by decide +kernel
theorem dX2_whatGivesWay_26 : decode cX2_whatGivesWay 26 = .ok (.getfield 15, 3) := by decide +kernel
theorem dX2_whatGivesWay_29 : decode cX2_whatGivesWay 29 = .ok (.imul, 1) := by decide +kernel
theorem dX2_whatGivesWay_30 : decode cX2_whatGivesWay 30 = .ok (.iload_n 1, 1) := by decide +kernel
theorem dX2_whatGivesWay_31 : decode cX2_whatGivesWay 31 = .ok (.invokestatic 58, 3) := by decide +kernel
theorem dX2_whatGivesWay_34 : decode cX2_whatGivesWay 34 = .ok (.imul, 1) := by decide +kernel
theorem dX2_whatGivesWay_35 : decode cX2_whatGivesWay 35 = .ok (.aload_n 0, 1) := by decide +kernel
theorem dX2_whatGivesWay_36 : decode cX2_whatGivesWay 36 = .ok (.invokevirtual 63, 3) := by decide +kernel
theorem dX2_whatGivesWay_39 : decode cX2_whatGivesWay 39 = .ok (.iload_n 2, 1) := by decide +kernel
theorem dX2_whatGivesWay_40 : decode cX2_whatGivesWay 40 = .ok (.imul, 1) := by decide +kernel
theorem dX2_whatGivesWay_41 : decode cX2_whatGivesWay 41 = .ok (.if_icmp .gt 15, 3) := by decide +kernel
theorem dX2_whatGivesWay_44 : decode cX2_whatGivesWay 44 = .ok (.aload_n 0, 1) := by decide +kernel
theorem dX2_whatGivesWay_45 : decode cX2_whatGivesWay 45 = .ok (.getfield 24, 3) := by decide +kernel
theorem dX2_whatGivesWay_48 : decode cX2_whatGivesWay 48 = .ok (.iconst 3, 1) := by decide +kernel
theorem dX2_whatGivesWay_49 : decode cX2_whatGivesWay 49 = .ok (.if_icmp .ne 13, 3) := by decide +kernel
theorem dX2_whatGivesWay_52 : decode cX2_whatGivesWay 52 = .ok (.iload_n 1, 1) := by decide +kernel
theorem dX2_whatGivesWay_53 : decode cX2_whatGivesWay 53 = .ok (.ifCond .ge 9, 3) := by decide +kernel
theorem dX2_whatGivesWay_56 : decode cX2_whatGivesWay 56 = .ok (.iload 4, 2) := by decide +kernel
theorem dX2_whatGivesWay_58 : decode cX2_whatGivesWay 58 = .ok (.iconst 2, 1) := by decide +kernel
theorem dX2_whatGivesWay_59 : decode cX2_whatGivesWay 59 = .ok (.ior, 1) := by decide +kernel
theorem dX2_whatGivesWay_60 : decode cX2_whatGivesWay 60 = .ok (.istore 4, 2) := by decide +kernel
theorem dX2_whatGivesWay_62 : decode cX2_whatGivesWay 62 = .ok (.iload_n 1, 1) := by decide +kernel
theorem dX2_whatGivesWay_63 : decode cX2_whatGivesWay 63 = .ok (.iload_n 3, 1) := by decide +kernel
theorem dX2_whatGivesWay_64 : decode cX2_whatGivesWay 64 = .ok (.if_icmp .le 9, 3) := by decide +kernel
theorem dX2_whatGivesWay_67 : decode cX2_whatGivesWay 67 = .ok (.iload 4, 2) := by decide +kernel
theorem dX2_whatGivesWay_69 : decode cX2_whatGivesWay 69 = .ok (.iconst 4, 1) := by decide +kernel
theorem dX2_whatGivesWay_70 : decode cX2_whatGivesWay 70 = .ok (.ior, 1) := by decide +kernel
theorem dX2_whatGivesWay_71 : decode cX2_whatGivesWay 71 = .ok (.istore 4, 2) := by decide +kernel
theorem dX2_whatGivesWay_73 : decode cX2_whatGivesWay 73 = .ok (.bipush 100, 2) := by decide +kernel
theorem dX2_whatGivesWay_75 : decode cX2_whatGivesWay 75 = .ok (.iload_n 2, 1) := by decide +kernel
theorem dX2_whatGivesWay_76 : decode cX2_whatGivesWay 76 = .ok (.imul, 1) := by decide +kernel
theorem dX2_whatGivesWay_77 : decode cX2_whatGivesWay 77 = .ok (.bipush 10, 2) := by decide +kernel
theorem dX2_whatGivesWay_79 : decode cX2_whatGivesWay 79 = .ok (.aload_n 0, 1) := by decide +kernel
theorem dX2_whatGivesWay_80 : decode cX2_whatGivesWay 80 = .ok (.getfield 15, 3) := by decide +kernel
theorem dX2_whatGivesWay_83 : decode cX2_whatGivesWay 83 = .ok (.imul, 1) := by decide +kernel
theorem dX2_whatGivesWay_84 : decode cX2_whatGivesWay 84 = .ok (.aload_n 0, 1) := by decide +kernel
theorem dX2_whatGivesWay_85 : decode cX2_whatGivesWay 85 = .ok (.invokevirtual 66, 3) := by decide +kernel
theorem dX2_whatGivesWay_88 : decode cX2_whatGivesWay 88 = .ok (.iload_n 3, 1) := by decide +kernel
theorem dX2_whatGivesWay_89 : decode cX2_whatGivesWay 89 = .ok (.iload_n 1, 1) := by decide +kernel
theorem dX2_whatGivesWay_90 : decode cX2_whatGivesWay 90 = .ok (.isub, 1) := by decide +kernel
theorem dX2_whatGivesWay_91 : decode cX2_whatGivesWay 91 = .ok (.imul, 1) := by decide +kernel
theorem dX2_whatGivesWay_92 : decode cX2_whatGivesWay 92 = .ok (.bipush 100, 2) := by decide +kernel
theorem dX2_whatGivesWay_94 : decode cX2_whatGivesWay 94 = .ok (.aload_n 0, 1) := by decide +kernel
theorem dX2_whatGivesWay_95 : decode cX2_whatGivesWay 95 = .ok (.getfield 27, 3) := by decide +kernel
theorem dX2_whatGivesWay_98 : decode cX2_whatGivesWay 98 = .ok (.imul, 1) := by decide +kernel
theorem dX2_whatGivesWay_99 : decode cX2_whatGivesWay 99 = .ok (.iadd, 1) := by decide +kernel
theorem dX2_whatGivesWay_100 : decode cX2_whatGivesWay 100 = .ok (.imul, 1) := by decide +kernel
theorem dX2_whatGivesWay_101 : decode cX2_whatGivesWay 101 = .ok (.if_icmp .le 10, 3) := by decide +kernel
theorem dX2_whatGivesWay_104 : decode cX2_whatGivesWay 104 = .ok (.iload 4, 2) := by decide +kernel
theorem dX2_whatGivesWay_106 : decode cX2_whatGivesWay 106 = .ok (.bipush 8, 2) := by decide +kernel
theorem dX2_whatGivesWay_108 : decode cX2_whatGivesWay 108 = .ok (.ior, 1) := by decide +kernel
theorem dX2_whatGivesWay_109 : decode cX2_whatGivesWay 109 = .ok (.istore 4, 2) := by decide +kernel
theorem dX2_whatGivesWay_111 : decode cX2_whatGivesWay 111 = .ok (.iload 4, 2) := by decide +kernel
theorem dX2_whatGivesWay_113 : decode cX2_whatGivesWay 113 = .ok (.ireturn, 1) := by decide +kernel
set_option maxRecDepth 20000 in
theorem ggX2_stands_X2_leastForce : GoodIn wsX2_stands wsX2_leastForce := goodIn_r _ [5, 6, 7, 8, 9, 10, 11, 12, 4, 13, 14, 15, 16, 17, 18, 19, 20, 21, 22, 23, 24, 25, 26, 27, 28, 29, 30, 31, 32, 33, 34, 35, 36, 37, 38, 39, 40, 41, 42, 43, 44, 45, 50, 51, 52, 53, 54, 55, 56, 57, 58, 59] (by decide +kernel) (by decide +kernel)
set_option maxRecDepth 20000 in
theorem gX2_stands_X2_leastForce : GoodIn wsX2_stands (wsV RX2 69 RX2 yX2_leastForce wsX2_leastForce) := goodIn_app (goodIn_of _ (by decide +kernel)) ggX2_stands_X2_leastForce
set_option maxRecDepth 20000 in
theorem ggX2_stands_X2_greatestForce : GoodIn wsX2_stands wsX2_greatestForce := goodIn_r _ [49, 15, 16, 17, 18, 19, 4, 20, 14, 21, 22, 23, 24, 25, 26, 27, 28, 29, 30, 31, 50, 51, 52, 53, 54, 55, 56, 57, 58, 59] (by decide +kernel) (by decide +kernel)
set_option maxRecDepth 20000 in
theorem gX2_stands_X2_greatestForce : GoodIn wsX2_stands (wsV RX2 72 RX2 yX2_greatestForce wsX2_greatestForce) := goodIn_app (goodIn_of _ (by decide +kernel)) ggX2_stands_X2_greatestForce
theorem dX2_stands_0 : decode cX2_stands 0 = .ok (.aload_n 0, 1) := by decide +kernel
theorem dX2_stands_1 : decode cX2_stands 1 = .ok (.invokevirtual 69, 3) := by decide +kernel
theorem dX2_stands_4 : decode cX2_stands 4 = .ok (.aload_n 0, 1) := by decide +kernel
theorem dX2_stands_5 : decode cX2_stands 5 = .ok (.invokevirtual 72, 3) := by decide +kernel
theorem dX2_stands_8 : decode cX2_stands 8 = .ok (.if_icmp .gt 7, 3) := by decide +kernel
theorem dX2_stands_11 : decode cX2_stands 11 = .ok (.iconst 1, 1) := by decide +kernel
theorem dX2_stands_12 : decode cX2_stands 12 = .ok (.goto 4, 3) := by decide +kernel
theorem dX2_stands_15 : decode cX2_stands 15 = .ok (.iconst 0, 1) := by decide +kernel
theorem dX2_stands_16 : decode cX2_stands 16 = .ok (.ireturn, 1) := by decide +kernel
set_option maxRecDepth 20000 in
theorem ggX2_forces_X2_greatestForce : GoodIn wsX2_forces wsX2_greatestForce := goodIn_r _ [9, 10, 11, 12, 13, 14, 8, 15, 16, 17, 18, 19, 20, 21, 22, 23, 24, 25, 26, 27, 50, 51, 52, 53, 54, 55, 56, 57, 58, 59] (by decide +kernel) (by decide +kernel)
set_option maxRecDepth 20000 in
theorem gX2_forces_X2_greatestForce : GoodIn wsX2_forces (wsV RX2 72 RX2 yX2_greatestForce wsX2_greatestForce) := goodIn_app (goodIn_of _ (by decide +kernel)) ggX2_forces_X2_greatestForce
set_option maxRecDepth 20000 in
theorem ggX2_forces_X2_leastForce : GoodIn wsX2_forces wsX2_leastForce := goodIn_r _ [31, 1, 2, 3, 4, 32, 33, 34, 8, 35, 16, 10, 11, 12, 13, 14, 15, 17, 18, 19, 20, 21, 22, 23, 24, 25, 26, 27, 36, 37, 38, 39, 40, 41, 42, 43, 44, 45, 46, 47, 48, 49, 50, 51, 52, 53, 54, 55, 56, 57, 58, 59] (by decide +kernel) (by decide +kernel)
set_option maxRecDepth 20000 in
theorem gX2_forces_X2_leastForce : GoodIn wsX2_forces (wsV RX2 69 RX2 yX2_leastForce wsX2_leastForce) := goodIn_app (goodIn_of _ (by decide +kernel)) ggX2_forces_X2_leastForce
theorem dX2_forces_0 : decode cX2_forces 0 = .ok (.iconst 0, 1) := by decide +kernel
theorem dX2_forces_1 : decode cX2_forces 1 = .ok (.aload_n 0, 1) := by decide +kernel
theorem dX2_forces_2 : decode cX2_forces 2 = .ok (.invokevirtual 72, 3) := by decide +kernel
theorem dX2_forces_5 : decode cX2_forces 5 = .ok (.aload_n 0, 1) := by decide +kernel
theorem dX2_forces_6 : decode cX2_forces 6 = .ok (.invokevirtual 69, 3) := by decide +kernel
theorem dX2_forces_9 : decode cX2_forces 9 = .ok (.isub, 1) := by decide +kernel
theorem dX2_forces_10 : decode cX2_forces 10 = .ok (.iconst 1, 1) := by decide +kernel
theorem dX2_forces_11 : decode cX2_forces 11 = .ok (.iadd, 1) := by decide +kernel
theorem dX2_forces_12 : decode cX2_forces 12 = .ok (.invokestatic 75, 3) := by decide +kernel
theorem dX2_forces_15 : decode cX2_forces 15 = .ok (.ireturn, 1) := by decide +kernel
set_option maxRecDepth 20000 in
theorem ggX2_nearestForce_X2_leastForce : GoodIn wsX2_nearestForce wsX2_leastForce := goodIn_r _ [12, 5, 6, 3, 7, 13, 14, 15, 11, 16, 17, 18, 19, 20, 21, 22, 23, 24, 25, 26, 27, 28, 29, 30, 31, 32, 33, 34, 35, 36, 37, 38, 39, 40, 41, 42, 43, 44, 45, 46, 47, 48, 53, 54, 55, 56, 57, 58, 59, 60, 61, 62] (by decide +kernel) (by decide +kernel)
set_option maxRecDepth 20000 in
theorem gX2_nearestForce_X2_leastForce : GoodIn wsX2_nearestForce (wsV RX2 69 RX2 yX2_leastForce wsX2_leastForce) := goodIn_app (goodIn_of _ (by decide +kernel)) ggX2_nearestForce_X2_leastForce
set_option maxRecDepth 20000 in
theorem ggX2_nearestForce_X2_greatestForce : GoodIn wsX2_nearestForce wsX2_greatestForce := goodIn_r _ [52, 18, 19, 20, 21, 22, 11, 23, 17, 24, 25, 26, 27, 28, 29, 30, 31, 32, 33, 34, 53, 54, 55, 56, 57, 58, 59, 60, 61, 62] (by decide +kernel) (by decide +kernel)
set_option maxRecDepth 20000 in
theorem gX2_nearestForce_X2_greatestForce : GoodIn wsX2_nearestForce (wsV RX2 72 RX2 yX2_greatestForce wsX2_greatestForce) := goodIn_app (goodIn_of _ (by decide +kernel)) ggX2_nearestForce_X2_greatestForce
theorem dX2_nearestForce_0 : decode cX2_nearestForce 0 = .ok (.aload_n 0, 1) := by decide +kernel
theorem dX2_nearestForce_1 : decode cX2_nearestForce 1 = .ok (.invokevirtual 69, 3) := by decide +kernel
theorem dX2_nearestForce_4 : decode cX2_nearestForce 4 = .ok (.iconst 0, 1) := by decide +kernel
theorem dX2_nearestForce_5 : decode cX2_nearestForce 5 = .ok (.aload_n 0, 1) := by decide +kernel
theorem dX2_nearestForce_6 : decode cX2_nearestForce 6 = .ok (.invokevirtual 72, 3) := by decide +kernel
theorem dX2_nearestForce_9 : decode cX2_nearestForce 9 = .ok (.invokestatic 79, 3) := by decide +kernel
theorem dX2_nearestForce_12 : decode cX2_nearestForce 12 = .ok (.invokestatic 75, 3) := by decide +kernel
theorem dX2_nearestForce_15 : decode cX2_nearestForce 15 = .ok (.ireturn, 1) := by decide +kernel
set_option maxRecDepth 20000 in
theorem ggX2_leastForce_X2_leastByWall : GoodIn wsX2_leastForce wsX2_leastByWall := goodIn_r _ [9, 10, 11, 12, 13, 14, 15, 8, 16, 17, 18, 19, 20, 21, 22, 23, 24, 25, 26, 27, 42, 43, 44, 45, 46, 47, 48, 49, 50, 51] (by decide +kernel) (by decide +kernel)
set_option maxRecDepth 20000 in
theorem gX2_leastForce_X2_leastByWall : GoodIn wsX2_leastForce (wsV RX2 82 RX2 yX2_leastByWall wsX2_leastByWall) := goodIn_app (goodIn_of _ (by decide +kernel)) ggX2_leastForce_X2_leastByWall
set_option maxRecDepth 20000 in
theorem ggX2_leastForce_X2_leastByGround : GoodIn wsX2_leastForce wsX2_leastByGround := goodIn_r _ [31, 11, 12, 32, 33, 34, 35, 8, 36, 37, 38, 39, 40, 41, 21, 23, 17, 18, 19, 20, 22, 24, 25, 26, 27, 42, 43, 44, 45, 46, 47, 48, 49, 50, 51] (by decide +kernel) (by decide +kernel)
set_option maxRecDepth 20000 in
theorem gX2_leastForce_X2_leastByGround : GoodIn wsX2_leastForce (wsV RX2 85 RX2 yX2_leastByGround wsX2_leastByGround) := goodIn_app (goodIn_of _ (by decide +kernel)) ggX2_leastForce_X2_leastByGround
theorem dX2_leastForce_0 : decode cX2_leastForce 0 = .ok (.sipush (-1000), 3) := by decide +kernel
theorem dX2_leastForce_3 : decode cX2_leastForce 3 = .ok (.aload_n 0, 1) := by decide +kernel
theorem dX2_leastForce_4 : decode cX2_leastForce 4 = .ok (.invokevirtual 82, 3) := by decide +kernel
theorem dX2_leastForce_7 : decode cX2_leastForce 7 = .ok (.aload_n 0, 1) := by decide +kernel
theorem dX2_leastForce_8 : decode cX2_leastForce 8 = .ok (.invokevirtual 85, 3) := by decide +kernel
theorem dX2_leastForce_11 : decode cX2_leastForce 11 = .ok (.invokestatic 75, 3) := by decide +kernel
theorem dX2_leastForce_14 : decode cX2_leastForce 14 = .ok (.invokestatic 75, 3) := by decide +kernel
theorem dX2_leastForce_17 : decode cX2_leastForce 17 = .ok (.ireturn, 1) := by decide +kernel
set_option maxRecDepth 20000 in
theorem ggX2_greatestForce_X2_wallPercents : GoodIn wsX2_greatestForce wsX2_wallPercents := goodIn_r _ [7, 8, 20, 21, 22, 23, 24, 25, 26, 27, 28, 29] (by decide +kernel) (by decide +kernel)
set_option maxRecDepth 20000 in
theorem gX2_greatestForce_X2_wallPercents : GoodIn wsX2_greatestForce (wsV RX2 63 RX2 yX2_wallPercents wsX2_wallPercents) := goodIn_app (goodIn_of _ (by decide +kernel)) ggX2_greatestForce_X2_wallPercents
set_option maxRecDepth 20000 in
theorem ggX2_greatestForce_X2_moment : GoodIn wsX2_greatestForce wsX2_moment := goodIn_r _ [12, 13, 14, 15, 2, 20, 21, 22, 23, 24, 25, 26, 27, 28, 29] (by decide +kernel) (by decide +kernel)
set_option maxRecDepth 20000 in
theorem gX2_greatestForce_X2_moment : GoodIn wsX2_greatestForce (wsV RX2 47 RX2 yX2_moment wsX2_moment) := goodIn_app (goodIn_of _ (by decide +kernel)) ggX2_greatestForce_X2_moment
set_option maxRecDepth 20000 in
theorem ggX2_greatestForce_J9_floorDiv_7cf53 : GoodIn wsX2_greatestForce wsJ9_floorDiv_7cf53 := goodIn_r _ [19] (by decide +kernel) (by decide +kernel)
set_option maxRecDepth 20000 in
theorem gX2_greatestForce_J9_floorDiv_7cf53 : GoodIn wsX2_greatestForce (va_wsS RX2 88 yJ9_floorDiv_7cf53 wsJ9_floorDiv_7cf53) := goodIn_app (goodIn_of _ (by decide +kernel)) ggX2_greatestForce_J9_floorDiv_7cf53
theorem dX2_greatestForce_0 : decode cX2_greatestForce 0 = .ok (.aload_n 0, 1) := by decide +kernel
theorem dX2_greatestForce_1 : decode cX2_greatestForce 1 = .ok (.invokevirtual 63, 3) := by decide +kernel
theorem dX2_greatestForce_4 : decode cX2_greatestForce 4 = .ok (.istore_n 1, 1) := by decide +kernel
theorem dX2_greatestForce_5 : decode cX2_greatestForce 5 = .ok (.sipush 1000, 3) := by decide +kernel
theorem dX2_greatestForce_8 : decode cX2_greatestForce 8 = .ok (.aload_n 0, 1) := by decide +kernel
theorem dX2_greatestForce_9 : decode cX2_greatestForce 9 = .ok (.getfield 15, 3) := by decide +kernel
theorem dX2_greatestForce_12 : decode cX2_greatestForce 12 = .ok (.imul, 1) := by decide +kernel
theorem dX2_greatestForce_13 : decode cX2_greatestForce 13 = .ok (.bipush 10, 2) := by decide +kernel
theorem dX2_greatestForce_15 : decode cX2_greatestForce 15 = .ok (.aload_n 0, 1) := by decide +kernel
theorem dX2_greatestForce_16 : decode cX2_greatestForce 16 = .ok (.getfield 9, 3) := by decide +kernel
theorem dX2_greatestForce_19 : decode cX2_greatestForce 19 = .ok (.imul, 1) := by decide +kernel
theorem dX2_greatestForce_20 : decode cX2_greatestForce 20 = .ok (.iload_n 1, 1) := by decide +kernel
theorem dX2_greatestForce_21 : decode cX2_greatestForce 21 = .ok (.imul, 1) := by decide +kernel
theorem dX2_greatestForce_22 : decode cX2_greatestForce 22 = .ok (.iadd, 1) := by decide +kernel
theorem dX2_greatestForce_23 : decode cX2_greatestForce 23 = .ok (.istore_n 2, 1) := by decide +kernel
theorem dX2_greatestForce_24 : decode cX2_greatestForce 24 = .ok (.iload_n 2, 1) := by decide +kernel
theorem dX2_greatestForce_25 : decode cX2_greatestForce 25 = .ok (.ifCond .le 16, 3) := by decide +kernel
theorem dX2_greatestForce_28 : decode cX2_greatestForce 28 = .ok (.iload_n 1, 1) := by decide +kernel
theorem dX2_greatestForce_29 : decode cX2_greatestForce 29 = .ok (.aload_n 0, 1) := by decide +kernel
theorem dX2_greatestForce_30 : decode cX2_greatestForce 30 = .ok (.invokevirtual 47, 3) := by decide +kernel
theorem dX2_greatestForce_33 : decode cX2_greatestForce 33 = .ok (.imul, 1) := by decide +kernel
theorem dX2_greatestForce_34 : decode cX2_greatestForce 34 = .ok (.iload_n 2, 1) := by decide +kernel
theorem dX2_greatestForce_35 : decode cX2_greatestForce 35 = .ok (.invokestatic 88, 3) := by decide +kernel
theorem dX2_greatestForce_38 : decode cX2_greatestForce 38 = .ok (.goto 4, 3) := by decide +kernel
theorem dX2_greatestForce_41 : decode cX2_greatestForce 41 = .ok (.iconst 0, 1) := by decide +kernel
theorem dX2_greatestForce_42 : decode cX2_greatestForce 42 = .ok (.ireturn, 1) := by decide +kernel
set_option maxRecDepth 20000 in
theorem ggX2_leastByWall_X2_wallPercents : GoodIn wsX2_leastByWall wsX2_wallPercents := goodIn_r _ [8, 1, 20, 21, 22, 23, 24, 25, 26, 27, 28, 29] (by decide +kernel) (by decide +kernel)
set_option maxRecDepth 20000 in
theorem gX2_leastByWall_X2_wallPercents : GoodIn wsX2_leastByWall (wsV RX2 63 RX2 yX2_wallPercents wsX2_wallPercents) := goodIn_app (goodIn_of _ (by decide +kernel)) ggX2_leastByWall_X2_wallPercents
set_option maxRecDepth 20000 in
theorem ggX2_leastByWall_X2_moment : GoodIn wsX2_leastByWall wsX2_moment := goodIn_r _ [12, 13, 14, 15, 3, 20, 21, 22, 23, 24, 25, 26, 27, 28, 29] (by decide +kernel) (by decide +kernel)
set_option maxRecDepth 20000 in
theorem gX2_leastByWall_X2_moment : GoodIn wsX2_leastByWall (wsV RX2 47 RX2 yX2_moment wsX2_moment) := goodIn_app (goodIn_of _ (by decide +kernel)) ggX2_leastByWall_X2_moment
set_option maxRecDepth 20000 in
theorem ggX2_leastByWall_J9_floorDiv_7cf53 : GoodIn wsX2_leastByWall wsJ9_floorDiv_7cf53 := goodIn_r _ [19] (by decide +kernel) (by decide +kernel)
set_option maxRecDepth 20000 in
theorem gX2_leastByWall_J9_floorDiv_7cf53 : GoodIn wsX2_leastByWall (va_wsS RX2 88 yJ9_floorDiv_7cf53 wsJ9_floorDiv_7cf53) := goodIn_app (goodIn_of _ (by decide +kernel)) ggX2_leastByWall_J9_floorDiv_7cf53
theorem dX2_leastByWall_0 : decode cX2_leastByWall 0 = .ok (.aload_n 0, 1) := by decide +kernel
theorem dX2_leastByWall_1 : decode cX2_leastByWall 1 = .ok (.getfield 24, 3) := by decide +kernel
theorem dX2_leastByWall_4 : decode cX2_leastByWall 4 = .ok (.iconst 3, 1) := by decide +kernel
theorem dX2_leastByWall_5 : decode cX2_leastByWall 5 = .ok (.if_icmp .ne 5, 3) := by decide +kernel
theorem dX2_leastByWall_8 : decode cX2_leastByWall 8 = .ok (.iconst 0, 1) := by decide +kernel
theorem dX2_leastByWall_9 : decode cX2_leastByWall 9 = .ok (.ireturn, 1) := by decide +kernel
theorem dX2_leastByWall_10 : decode cX2_leastByWall 10 = .ok (.aload_n 0, 1) := by decide +kernel
theorem dX2_leastByWall_11 : decode cX2_leastByWall 11 = .ok (.invokevirtual 63, 3) := by decide +kernel
theorem dX2_leastByWall_14 : decode cX2_leastByWall 14 = .ok (.istore_n 1, 1) := by decide +kernel
theorem dX2_leastByWall_15 : decode cX2_leastByWall 15 = .ok (.sipush 1000, 3) := by decide +kernel
theorem dX2_leastByWall_18 : decode cX2_leastByWall 18 = .ok (.aload_n 0, 1) := by decide +kernel
theorem dX2_leastByWall_19 : decode cX2_leastByWall 19 = .ok (.getfield 15, 3) := by decide +kernel
theorem dX2_leastByWall_22 : decode cX2_leastByWall 22 = .ok (.imul, 1) := by decide +kernel
theorem dX2_leastByWall_23 : decode cX2_leastByWall 23 = .ok (.bipush 10, 2) := by decide +kernel
theorem dX2_leastByWall_25 : decode cX2_leastByWall 25 = .ok (.aload_n 0, 1) := by decide +kernel
theorem dX2_leastByWall_26 : decode cX2_leastByWall 26 = .ok (.getfield 9, 3) := by decide +kernel
theorem dX2_leastByWall_29 : decode cX2_leastByWall 29 = .ok (.imul, 1) := by decide +kernel
theorem dX2_leastByWall_30 : decode cX2_leastByWall 30 = .ok (.iload_n 1, 1) := by decide +kernel
theorem dX2_leastByWall_31 : decode cX2_leastByWall 31 = .ok (.imul, 1) := by decide +kernel
theorem dX2_leastByWall_32 : decode cX2_leastByWall 32 = .ok (.isub, 1) := by decide +kernel
theorem dX2_leastByWall_33 : decode cX2_leastByWall 33 = .ok (.istore_n 2, 1) := by decide +kernel
theorem dX2_leastByWall_34 : decode cX2_leastByWall 34 = .ok (.iload_n 2, 1) := by decide +kernel
theorem dX2_leastByWall_35 : decode cX2_leastByWall 35 = .ok (.ifCond .le 17, 3) := by decide +kernel
theorem dX2_leastByWall_38 : decode cX2_leastByWall 38 = .ok (.iload_n 1, 1) := by decide +kernel
theorem dX2_leastByWall_39 : decode cX2_leastByWall 39 = .ok (.aload_n 0, 1) := by decide +kernel
theorem dX2_leastByWall_40 : decode cX2_leastByWall 40 = .ok (.invokevirtual 47, 3) := by decide +kernel
theorem dX2_leastByWall_43 : decode cX2_leastByWall 43 = .ok (.imul, 1) := by decide +kernel
theorem dX2_leastByWall_44 : decode cX2_leastByWall 44 = .ok (.iload_n 2, 1) := by decide +kernel
theorem dX2_leastByWall_45 : decode cX2_leastByWall 45 = .ok (.invokestatic 88, 3) := by decide +kernel
theorem dX2_leastByWall_48 : decode cX2_leastByWall 48 = .ok (.ineg, 1) := by decide +kernel
theorem dX2_leastByWall_49 : decode cX2_leastByWall 49 = .ok (.goto 6, 3) := by decide +kernel
theorem dX2_leastByWall_52 : decode cX2_leastByWall 52 = .ok (.sipush (-1000), 3) := by decide +kernel
theorem dX2_leastByWall_55 : decode cX2_leastByWall 55 = .ok (.ireturn, 1) := by decide +kernel
set_option maxRecDepth 20000 in
theorem ggX2_leastByGround_X2_groundPercents : GoodIn wsX2_leastByGround wsX2_groundPercents := goodIn_r _ [8, 9, 25, 26, 27, 28, 29, 30, 31, 32, 33, 34] (by decide +kernel) (by decide +kernel)
set_option maxRecDepth 20000 in
theorem gX2_leastByGround_X2_groundPercents : GoodIn wsX2_leastByGround (wsV RX2 66 RX2 yX2_groundPercents wsX2_groundPercents) := goodIn_app (goodIn_of _ (by decide +kernel)) ggX2_leastByGround_X2_groundPercents
set_option maxRecDepth 20000 in
theorem ggX2_leastByGround_X2_load : GoodIn wsX2_leastByGround wsX2_load := goodIn_r _ [13, 14, 15, 25, 26, 27, 28, 29, 30, 31, 32, 33, 34] (by decide +kernel) (by decide +kernel)
set_option maxRecDepth 20000 in
theorem gX2_leastByGround_X2_load : GoodIn wsX2_leastByGround (wsV RX2 55 RX2 yX2_load wsX2_load) := goodIn_app (goodIn_of _ (by decide +kernel)) ggX2_leastByGround_X2_load
set_option maxRecDepth 20000 in
theorem ggX2_leastByGround_X2_moment : GoodIn wsX2_leastByGround wsX2_moment := goodIn_r _ [19, 14, 20, 15, 2, 25, 26, 27, 28, 29, 30, 31, 32, 33, 34] (by decide +kernel) (by decide +kernel)
set_option maxRecDepth 20000 in
theorem gX2_leastByGround_X2_moment : GoodIn wsX2_leastByGround (wsV RX2 47 RX2 yX2_moment wsX2_moment) := goodIn_app (goodIn_of _ (by decide +kernel)) ggX2_leastByGround_X2_moment
set_option maxRecDepth 20000 in
theorem ggX2_leastByGround_J9_floorDiv_7cf53 : GoodIn wsX2_leastByGround wsJ9_floorDiv_7cf53 := goodIn_r _ [24] (by decide +kernel) (by decide +kernel)
set_option maxRecDepth 20000 in
theorem gX2_leastByGround_J9_floorDiv_7cf53 : GoodIn wsX2_leastByGround (va_wsS RX2 88 yJ9_floorDiv_7cf53 wsJ9_floorDiv_7cf53) := goodIn_app (goodIn_of _ (by decide +kernel)) ggX2_leastByGround_J9_floorDiv_7cf53
theorem dX2_leastByGround_0 : decode cX2_leastByGround 0 = .ok (.bipush 10, 2) := by decide +kernel
theorem dX2_leastByGround_2 : decode cX2_leastByGround 2 = .ok (.aload_n 0, 1) := by decide +kernel
theorem dX2_leastByGround_3 : decode cX2_leastByGround 3 = .ok (.getfield 15, 3) := by decide +kernel
theorem dX2_leastByGround_6 : decode cX2_leastByGround 6 = .ok (.imul, 1) := by decide +kernel
theorem dX2_leastByGround_7 : decode cX2_leastByGround 7 = .ok (.aload_n 0, 1) := by decide +kernel
theorem dX2_leastByGround_8 : decode cX2_leastByGround 8 = .ok (.invokevirtual 66, 3) := by decide +kernel
theorem dX2_leastByGround_11 : decode cX2_leastByGround 11 = .ok (.imul, 1) := by decide +kernel
theorem dX2_leastByGround_12 : decode cX2_leastByGround 12 = .ok (.sipush 1000, 3) := by decide +kernel
theorem dX2_leastByGround_15 : decode cX2_leastByGround 15 = .ok (.aload_n 0, 1) := by decide +kernel
theorem dX2_leastByGround_16 : decode cX2_leastByGround 16 = .ok (.getfield 9, 3) := by decide +kernel
theorem dX2_leastByGround_19 : decode cX2_leastByGround 19 = .ok (.imul, 1) := by decide +kernel
theorem dX2_leastByGround_20 : decode cX2_leastByGround 20 = .ok (.isub, 1) := by decide +kernel
theorem dX2_leastByGround_21 : decode cX2_leastByGround 21 = .ok (.istore_n 1, 1) := by decide +kernel
theorem dX2_leastByGround_22 : decode cX2_leastByGround 22 = .ok (.bipush 10, 2) := by decide +kernel
theorem dX2_leastByGround_24 : decode cX2_leastByGround 24 = .ok (.aload_n 0, 1) := by decide +kernel
theorem dX2_leastByGround_25 : decode cX2_leastByGround 25 = .ok (.getfield 15, 3) := by decide +kernel
theorem dX2_leastByGround_28 : decode cX2_leastByGround 28 = .ok (.imul, 1) := by decide +kernel
theorem dX2_leastByGround_29 : decode cX2_leastByGround 29 = .ok (.aload_n 0, 1) := by decide +kernel
theorem dX2_leastByGround_30 : decode cX2_leastByGround 30 = .ok (.invokevirtual 66, 3) := by decide +kernel
theorem dX2_leastByGround_33 : decode cX2_leastByGround 33 = .ok (.aload_n 0, 1) := by decide +kernel
theorem dX2_leastByGround_34 : decode cX2_leastByGround 34 = .ok (.invokevirtual 55, 3) := by decide +kernel
theorem dX2_leastByGround_37 : decode cX2_leastByGround 37 = .ok (.imul, 1) := by decide +kernel
theorem dX2_leastByGround_38 : decode cX2_leastByGround 38 = .ok (.bipush 100, 2) := by decide +kernel
theorem dX2_leastByGround_40 : decode cX2_leastByGround 40 = .ok (.aload_n 0, 1) := by decide +kernel
theorem dX2_leastByGround_41 : decode cX2_leastByGround 41 = .ok (.getfield 27, 3) := by decide +kernel
theorem dX2_leastByGround_44 : decode cX2_leastByGround 44 = .ok (.imul, 1) := by decide +kernel
theorem dX2_leastByGround_45 : decode cX2_leastByGround 45 = .ok (.iadd, 1) := by decide +kernel
theorem dX2_leastByGround_46 : decode cX2_leastByGround 46 = .ok (.imul, 1) := by decide +kernel
theorem dX2_leastByGround_47 : decode cX2_leastByGround 47 = .ok (.bipush 100, 2) := by decide +kernel
theorem dX2_leastByGround_49 : decode cX2_leastByGround 49 = .ok (.aload_n 0, 1) := by decide +kernel
theorem dX2_leastByGround_50 : decode cX2_leastByGround 50 = .ok (.invokevirtual 47, 3) := by decide +kernel
theorem dX2_leastByGround_53 : decode cX2_leastByGround 53 = .ok (.imul, 1) := by decide +kernel
theorem dX2_leastByGround_54 : decode cX2_leastByGround 54 = .ok (.isub, 1) := by decide +kernel
theorem dX2_leastByGround_55 : decode cX2_leastByGround 55 = .ok (.istore_n 2, 1) := by decide +kernel
theorem dX2_leastByGround_56 : decode cX2_leastByGround 56 = .ok (.iload_n 1, 1) := by decide +kernel
theorem dX2_leastByGround_57 : decode cX2_leastByGround 57 = .ok (.ifCond .ge 13, 3) := by decide +kernel
theorem dX2_leastByGround_60 : decode cX2_leastByGround 60 = .ok (.iload_n 2, 1) := by decide +kernel
theorem dX2_leastByGround_61 : decode cX2_leastByGround 61 = .ok (.iload_n 1, 1) := by decide +kernel
theorem dX2_leastByGround_62 : decode cX2_leastByGround 62 = .ok (.ineg, 1) := by decide +kernel
theorem dX2_leastByGround_63 : decode cX2_leastByGround 63 = .ok (.invokestatic 88, 3) := by decide +kernel
theorem dX2_leastByGround_66 : decode cX2_leastByGround 66 = .ok (.ineg, 1) := by decide +kernel
theorem dX2_leastByGround_67 : decode cX2_leastByGround 67 = .ok (.goto 6, 3) := by decide +kernel
theorem dX2_leastByGround_70 : decode cX2_leastByGround 70 = .ok (.sipush (-1000), 3) := by decide +kernel
theorem dX2_leastByGround_73 : decode cX2_leastByGround 73 = .ok (.ireturn, 1) := by decide +kernel
theorem dX2_groundPercents_0 : decode cX2_groundPercents 0 = .ok (.aload_n 0, 1) := by decide +kernel
theorem dX2_groundPercents_1 : decode cX2_groundPercents 1 = .ok (.getfield 21, 3) := by decide +kernel
theorem dX2_groundPercents_4 : decode cX2_groundPercents 4 = .ok (.ifCond .lt 25, 3) := by decide +kernel
theorem dX2_groundPercents_7 : decode cX2_groundPercents 7 = .ok (.aload_n 0, 1) := by decide +kernel
theorem dX2_groundPercents_8 : decode cX2_groundPercents 8 = .ok (.getfield 21, 3) := by decide +kernel
theorem dX2_groundPercents_11 : decode cX2_groundPercents 11 = .ok (.getstatic 91, 3) := by decide +kernel
theorem dX2_groundPercents_14 : decode cX2_groundPercents 14 = .ok (.arraylength, 1) := by decide +kernel
theorem dX2_groundPercents_15 : decode cX2_groundPercents 15 = .ok (.if_icmp .ge 14, 3) := by decide +kernel
theorem dX2_groundPercents_18 : decode cX2_groundPercents 18 = .ok (.getstatic 91, 3) := by decide +kernel
theorem dX2_groundPercents_21 : decode cX2_groundPercents 21 = .ok (.aload_n 0, 1) := by decide +kernel
theorem dX2_groundPercents_22 : decode cX2_groundPercents 22 = .ok (.getfield 21, 3) := by decide +kernel
theorem dX2_groundPercents_25 : decode cX2_groundPercents 25 = .ok (.iaload, 1) := by decide +kernel
theorem dX2_groundPercents_26 : decode cX2_groundPercents 26 = .ok (.goto 4, 3) := by decide +kernel
theorem dX2_groundPercents_29 : decode cX2_groundPercents 29 = .ok (.iconst 0, 1) := by decide +kernel
theorem dX2_groundPercents_30 : decode cX2_groundPercents 30 = .ok (.ireturn, 1) := by decide +kernel
theorem dX2_wallPercents_0 : decode cX2_wallPercents 0 = .ok (.aload_n 0, 1) := by decide +kernel
theorem dX2_wallPercents_1 : decode cX2_wallPercents 1 = .ok (.getfield 24, 3) := by decide +kernel
theorem dX2_wallPercents_4 : decode cX2_wallPercents 4 = .ok (.ifCond .lt 25, 3) := by decide +kernel
theorem dX2_wallPercents_7 : decode cX2_wallPercents 7 = .ok (.aload_n 0, 1) := by decide +kernel
theorem dX2_wallPercents_8 : decode cX2_wallPercents 8 = .ok (.getfield 24, 3) := by decide +kernel
theorem dX2_wallPercents_11 : decode cX2_wallPercents 11 = .ok (.getstatic 94, 3) := by decide +kernel
theorem dX2_wallPercents_14 : decode cX2_wallPercents 14 = .ok (.arraylength, 1) := by decide +kernel
theorem dX2_wallPercents_15 : decode cX2_wallPercents 15 = .ok (.if_icmp .ge 14, 3) := by decide +kernel
theorem dX2_wallPercents_18 : decode cX2_wallPercents 18 = .ok (.getstatic 94, 3) := by decide +kernel
theorem dX2_wallPercents_21 : decode cX2_wallPercents 21 = .ok (.aload_n 0, 1) := by decide +kernel
theorem dX2_wallPercents_22 : decode cX2_wallPercents 22 = .ok (.getfield 24, 3) := by decide +kernel
theorem dX2_wallPercents_25 : decode cX2_wallPercents 25 = .ok (.iaload, 1) := by decide +kernel
theorem dX2_wallPercents_26 : decode cX2_wallPercents 26 = .ok (.goto 4, 3) := by decide +kernel
theorem dX2_wallPercents_29 : decode cX2_wallPercents 29 = .ok (.iconst 0, 1) := by decide +kernel
theorem dX2_wallPercents_30 : decode cX2_wallPercents 30 = .ok (.ireturn, 1) := by decide +kernel
set_option maxRecDepth 20000 in
theorem ggX3_init_X2_init : GoodIn wsX3_init wsX2_init := goodIn_r _ [11, 12, 2, 3, 13, 14, 15, 16, 17, 18, 19, 20, 21, 22, 23, 27, 28, 29, 30, 31, 32, 33, 34, 35, 36] (by decide +kernel) (by decide +kernel)
set_option maxRecDepth 20000 in
theorem gX3_init_X2_init_n24 : GoodIn wsX3_init (wsX2_init) := ggX3_init_X2_init
theorem dX3_init_0 : decode cX3_init 0 = .ok (.aload_n 0, 1) := by decide +kernel
theorem dX3_init_1 : decode cX3_init 1 = .ok (.invokespecial 3, 3) := by decide +kernel
theorem dX3_init_4 : decode cX3_init 4 = .ok (.aload_n 0, 1) := by decide +kernel
theorem dX3_init_5 : decode cX3_init 5 = .ok (.iconst 4, 1) := by decide +kernel
theorem dX3_init_6 : decode cX3_init 6 = .ok (.anewarray 9, 3) := by decide +kernel
theorem dX3_init_9 : decode cX3_init 9 = .ok (.putfield 11, 3) := by decide +kernel
theorem dX3_init_12 : decode cX3_init 12 = .ok (.aload_n 0, 1) := by decide +kernel
theorem dX3_init_13 : decode cX3_init 13 = .ok (.iconst 0, 1) := by decide +kernel
theorem dX3_init_14 : decode cX3_init 14 = .ok (.putfield 17, 3) := by decide +kernel
theorem dX3_init_17 : decode cX3_init 17 = .ok (.aload_n 0, 1) := by decide +kernel
theorem dX3_init_18 : decode cX3_init 18 = .ok (.iconst 0, 1) := by decide +kernel
theorem dX3_init_19 : decode cX3_init 19 = .ok (.putfield 21, 3) := by decide +kernel
theorem dX3_init_22 : decode cX3_init 22 = .ok (.iconst 0, 1) := by decide +kernel
theorem dX3_init_23 : decode cX3_init 23 = .ok (.istore_n 1, 1) := by decide +kernel
theorem dX3_init_24 : decode cX3_init 24 = .ok (.iload_n 1, 1) := by decide +kernel
theorem dX3_init_25 : decode cX3_init 25 = .ok (.iconst 4, 1) := by decide +kernel
theorem dX3_init_26 : decode cX3_init 26 = .ok (.if_icmp .ge 22, 3) := by decide +kernel
theorem dX3_init_29 : decode cX3_init 29 = .ok (.aload_n 0, 1) := by decide +kernel
theorem dX3_init_30 : decode cX3_init 30 = .ok (.getfield 11, 3) := by decide +kernel
theorem dX3_init_33 : decode cX3_init 33 = .ok (.iload_n 1, 1) := by decide +kernel
theorem dX3_init_34 : decode cX3_init 34 = .ok (.new 9, 3) := by decide +kernel
theorem dX3_init_37 : decode cX3_init 37 = .ok (.dup, 1) := by decide +kernel
theorem dX3_init_38 : decode cX3_init 38 = .ok (.invokespecial 24, 3) := by decide +kernel
theorem dX3_init_41 : decode cX3_init 41 = .ok (.aastore, 1) := by decide +kernel
theorem dX3_init_42 : decode cX3_init 42 = .ok (.iinc 1 1, 3) := by decide +kernel
theorem dX3_init_45 : decode cX3_init 45 = .ok (.goto (-21), 3) := by decide +kernel
theorem dX3_init_48 : decode cX3_init 48 = .ok (.return_, 1) := by decide +kernel
set_option maxRecDepth 20000 in
theorem ggX3_copyFrom_X2_copyFrom : GoodIn wsX3_copyFrom wsX2_copyFrom := goodIn_r _ [8, 9, 10, 11, 12, 13, 14, 15, 16, 17, 18, 22, 23, 24, 25, 26, 27, 28, 29, 30, 31] (by decide +kernel) (by decide +kernel)
set_option maxRecDepth 20000 in
theorem gX3_copyFrom_X2_copyFrom : GoodIn wsX3_copyFrom (wsV RX3 25 RX2 yX2_copyFrom wsX2_copyFrom) := goodIn_app (goodIn_of _ (by decide +kernel)) ggX3_copyFrom_X2_copyFrom
theorem dX3_copyFrom_0 : decode cX3_copyFrom 0 = .ok (.iconst 0, 1) := by decide +kernel
theorem dX3_copyFrom_1 : decode cX3_copyFrom 1 = .ok (.istore_n 2, 1) := by decide +kernel
theorem dX3_copyFrom_2 : decode cX3_copyFrom 2 = .ok (.iload_n 2, 1) := by decide +kernel
theorem dX3_copyFrom_3 : decode cX3_copyFrom 3 = .ok (.iconst 4, 1) := by decide +kernel
theorem dX3_copyFrom_4 : decode cX3_copyFrom 4 = .ok (.if_icmp .ge 24, 3) := by decide +kernel
theorem dX3_copyFrom_7 : decode cX3_copyFrom 7 = .ok (.aload_n 0, 1) := by decide +kernel
theorem dX3_copyFrom_8 : decode cX3_copyFrom 8 = .ok (.getfield 11, 3) := by decide +kernel
theorem dX3_copyFrom_11 : decode cX3_copyFrom 11 = .ok (.iload_n 2, 1) := by decide +kernel
theorem dX3_copyFrom_12 : decode cX3_copyFrom 12 = .ok (.aaload, 1) := by decide +kernel
theorem dX3_copyFrom_13 : decode cX3_copyFrom 13 = .ok (.aload_n 1, 1) := by decide +kernel
theorem dX3_copyFrom_14 : decode cX3_copyFrom 14 = .ok (.getfield 11, 3) := by decide +kernel
theorem dX3_copyFrom_17 : decode cX3_copyFrom 17 = .ok (.iload_n 2, 1) := by decide +kernel
theorem dX3_copyFrom_18 : decode cX3_copyFrom 18 = .ok (.aaload, 1) := by decide +kernel
theorem dX3_copyFrom_19 : decode cX3_copyFrom 19 = .ok (.invokevirtual 25, 3) := by decide +kernel
theorem dX3_copyFrom_22 : decode cX3_copyFrom 22 = .ok (.iinc 2 1, 3) := by decide +kernel
theorem dX3_copyFrom_25 : decode cX3_copyFrom 25 = .ok (.goto (-23), 3) := by decide +kernel
theorem dX3_copyFrom_28 : decode cX3_copyFrom 28 = .ok (.aload_n 0, 1) := by decide +kernel
theorem dX3_copyFrom_29 : decode cX3_copyFrom 29 = .ok (.aload_n 1, 1) := by decide +kernel
theorem dX3_copyFrom_30 : decode cX3_copyFrom 30 = .ok (.getfield 17, 3) := by decide +kernel
theorem dX3_copyFrom_33 : decode cX3_copyFrom 33 = .ok (.putfield 17, 3) := by decide +kernel
theorem dX3_copyFrom_36 : decode cX3_copyFrom 36 = .ok (.aload_n 0, 1) := by decide +kernel
theorem dX3_copyFrom_37 : decode cX3_copyFrom 37 = .ok (.aload_n 1, 1) := by decide +kernel
theorem dX3_copyFrom_38 : decode cX3_copyFrom 38 = .ok (.getfield 21, 3) := by decide +kernel
theorem dX3_copyFrom_41 : decode cX3_copyFrom 41 = .ok (.putfield 21, 3) := by decide +kernel
theorem dX3_copyFrom_44 : decode cX3_copyFrom 44 = .ok (.return_, 1) := by decide +kernel
set_option maxRecDepth 20000 in
theorem ggX3_standing_X2_stands : GoodIn wsX3_standing wsX2_stands := goodIn_r _ [6, 7, 8, 9, 5, 10, 11, 12, 13, 14, 15, 16, 17, 18, 19, 20, 21, 22, 23, 24, 25, 26, 27, 28, 29, 30, 31, 32, 33, 34, 35, 36, 37, 38, 39, 40, 41, 42, 43, 44, 45, 46, 47, 48, 49, 50, 51, 52, 53, 54, 58, 59, 60, 61, 62, 63, 64, 65, 66, 67] (by decide +kernel) (by decide +kernel)
set_option maxRecDepth 20000 in
theorem gX3_standing_X2_stands : GoodIn wsX3_standing (wsV RX3 29 RX2 yX2_stands wsX2_stands) := goodIn_app (goodIn_of _ (by decide +kernel)) ggX3_standing_X2_stands
theorem dX3_standing_0 : decode cX3_standing 0 = .ok (.iconst 0, 1) := by decide +kernel
theorem dX3_standing_1 : decode cX3_standing 1 = .ok (.istore_n 1, 1) := by decide +kernel
theorem dX3_standing_2 : decode cX3_standing 2 = .ok (.iconst 0, 1) := by decide +kernel
theorem dX3_standing_3 : decode cX3_standing 3 = .ok (.istore_n 2, 1) := by decide +kernel
theorem dX3_standing_4 : decode cX3_standing 4 = .ok (.iload_n 2, 1) := by decide +kernel
theorem dX3_standing_5 : decode cX3_standing 5 = .ok (.iconst 4, 1) := by decide +kernel
theorem dX3_standing_6 : decode cX3_standing 6 = .ok (.if_icmp .ge 24, 3) := by decide +kernel
theorem dX3_standing_9 : decode cX3_standing 9 = .ok (.aload_n 0, 1) := by decide +kernel
theorem dX3_standing_10 : decode cX3_standing 10 = .ok (.getfield 11, 3) := by decide +kernel
theorem dX3_standing_13 : decode cX3_standing 13 = .ok (.iload_n 2, 1) := by decide +kernel
theorem dX3_standing_14 : decode cX3_standing 14 = .ok (.aaload, 1) := by decide +kernel
theorem dX3_standing_15 : decode cX3_standing 15 = .ok (.invokevirtual 29, 3) := by decide +kernel
theorem dX3_standing_18 : decode cX3_standing 18 = .ok (.ifCond .eq 6, 3) := by decide +kernel
theorem dX3_standing_21 : decode cX3_standing 21 = .ok (.iinc 1 1, 3) := by decide +kernel
theorem dX3_standing_24 : decode cX3_standing 24 = .ok (.iinc 2 1, 3) := by decide +kernel
theorem dX3_standing_27 : decode cX3_standing 27 = .ok (.goto (-23), 3) := by decide +kernel
theorem dX3_standing_30 : decode cX3_standing 30 = .ok (.iload_n 1, 1) := by decide +kernel
theorem dX3_standing_31 : decode cX3_standing 31 = .ok (.ireturn, 1) := by decide +kernel
theorem dX3_people_0 : decode cX3_people 0 = .ok (.iconst 0, 1) := by decide +kernel
theorem dX3_people_1 : decode cX3_people 1 = .ok (.istore_n 1, 1) := by decide +kernel
theorem dX3_people_2 : decode cX3_people 2 = .ok (.iconst 0, 1) := by decide +kernel
theorem dX3_people_3 : decode cX3_people 3 = .ok (.istore_n 2, 1) := by decide +kernel
theorem dX3_people_4 : decode cX3_people 4 = .ok (.iload_n 2, 1) := by decide +kernel
theorem dX3_people_5 : decode cX3_people 5 = .ok (.iconst 4, 1) := by decide +kernel
theorem dX3_people_6 : decode cX3_people 6 = .ok (.if_icmp .ge 21, 3) := by decide +kernel
theorem dX3_people_9 : decode cX3_people 9 = .ok (.iload_n 1, 1) := by decide +kernel
theorem dX3_people_10 : decode cX3_people 10 = .ok (.aload_n 0, 1) := by decide +kernel
theorem dX3_people_11 : decode cX3_people 11 = .ok (.getfield 11, 3) := by decide +kernel
theorem dX3_people_14 : decode cX3_people 14 = .ok (.iload_n 2, 1) := by decide +kernel
theorem dX3_people_15 : decode cX3_people 15 = .ok (.aaload, 1) := by decide +kernel
theorem dX3_people_16 : decode cX3_people 16 = .ok (.getfield 33, 3) := by decide +kernel
theorem dX3_people_19 : decode cX3_people 19 = .ok (.iadd, 1) := by decide +kernel
theorem dX3_people_20 : decode cX3_people 20 = .ok (.istore_n 1, 1) := by decide +kernel
theorem dX3_people_21 : decode cX3_people 21 = .ok (.iinc 2 1, 3) := by decide +kernel
theorem dX3_people_24 : decode cX3_people 24 = .ok (.goto (-20), 3) := by decide +kernel
theorem dX3_people_27 : decode cX3_people 27 = .ok (.iload_n 1, 1) := by decide +kernel
theorem dX3_people_28 : decode cX3_people 28 = .ok (.ireturn, 1) := by decide +kernel
theorem dX3_falls_0 : decode cX3_falls 0 = .ok (.iconst 0, 1) := by decide +kernel
theorem dX3_falls_1 : decode cX3_falls 1 = .ok (.istore_n 1, 1) := by decide +kernel
theorem dX3_falls_2 : decode cX3_falls 2 = .ok (.iconst 0, 1) := by decide +kernel
theorem dX3_falls_3 : decode cX3_falls 3 = .ok (.istore_n 2, 1) := by decide +kernel
theorem dX3_falls_4 : decode cX3_falls 4 = .ok (.iload_n 2, 1) := by decide +kernel
theorem dX3_falls_5 : decode cX3_falls 5 = .ok (.iconst 4, 1) := by decide +kernel
theorem dX3_falls_6 : decode cX3_falls 6 = .ok (.if_icmp .ge 21, 3) := by decide +kernel
theorem dX3_falls_9 : decode cX3_falls 9 = .ok (.iload_n 1, 1) := by decide +kernel
theorem dX3_falls_10 : decode cX3_falls 10 = .ok (.aload_n 0, 1) := by decide +kernel
theorem dX3_falls_11 : decode cX3_falls 11 = .ok (.getfield 11, 3) := by decide +kernel
theorem dX3_falls_14 : decode cX3_falls 14 = .ok (.iload_n 2, 1) := by decide +kernel
theorem dX3_falls_15 : decode cX3_falls 15 = .ok (.aaload, 1) := by decide +kernel
theorem dX3_falls_16 : decode cX3_falls 16 = .ok (.getfield 36, 3) := by decide +kernel
theorem dX3_falls_19 : decode cX3_falls 19 = .ok (.iadd, 1) := by decide +kernel
theorem dX3_falls_20 : decode cX3_falls 20 = .ok (.istore_n 1, 1) := by decide +kernel
theorem dX3_falls_21 : decode cX3_falls 21 = .ok (.iinc 2 1, 3) := by decide +kernel
theorem dX3_falls_24 : decode cX3_falls 24 = .ok (.goto (-20), 3) := by decide +kernel
theorem dX3_falls_27 : decode cX3_falls 27 = .ok (.iload_n 1, 1) := by decide +kernel
theorem dX3_falls_28 : decode cX3_falls 28 = .ok (.ireturn, 1) := by decide +kernel
set_option maxRecDepth 20000 in
theorem ggX3_fallsNow_X2_stands : GoodIn wsX3_fallsNow wsX2_stands := goodIn_r _ [6, 7, 8, 9, 5, 10, 11, 12, 13, 14, 15, 16, 17, 18, 19, 20, 21, 22, 23, 24, 25, 26, 27, 28, 29, 30, 31, 32, 33, 34, 35, 36, 37, 38, 39, 40, 41, 42, 43, 44, 45, 46, 47, 48, 49, 50, 51, 52, 53, 54, 67, 68, 69, 70, 71, 72, 73, 74, 75, 76] (by decide +kernel) (by decide +kernel)
set_option maxRecDepth 20000 in
theorem gX3_fallsNow_X2_stands : GoodIn wsX3_fallsNow (wsV RX3 29 RX2 yX2_stands wsX2_stands) := goodIn_app (goodIn_of _ (by decide +kernel)) ggX3_fallsNow_X2_stands
set_option maxRecDepth 20000 in
theorem ggX3_fallsNow_X3_fall : GoodIn wsX3_fallsNow wsX3_fall := goodIn_r _ [59, 60, 1, 61, 62, 63, 64, 5, 65, 32, 31, 66, 77, 78, 79, 67, 68, 69, 70, 71, 72, 73, 74, 75, 76] (by decide +kernel) (by decide +kernel)
set_option maxRecDepth 20000 in
theorem gX3_fallsNow_X3_fall : GoodIn wsX3_fallsNow (wsV RX3 39 RX3 yX3_fall wsX3_fall) := goodIn_app (goodIn_of _ (by decide +kernel)) ggX3_fallsNow_X3_fall
theorem dX3_fallsNow_0 : decode cX3_fallsNow 0 = .ok (.aload_n 1, 1) := by decide +kernel
theorem dX3_fallsNow_1 : decode cX3_fallsNow 1 = .ok (.getfield 33, 3) := by decide +kernel
theorem dX3_fallsNow_4 : decode cX3_fallsNow 4 = .ok (.ifCond .eq 10, 3) := by decide +kernel
theorem dX3_fallsNow_7 : decode cX3_fallsNow 7 = .ok (.aload_n 1, 1) := by decide +kernel
theorem dX3_fallsNow_8 : decode cX3_fallsNow 8 = .ok (.invokevirtual 29, 3) := by decide +kernel
theorem dX3_fallsNow_11 : decode cX3_fallsNow 11 = .ok (.ifCond .eq 5, 3) := by decide +kernel
theorem dX3_fallsNow_14 : decode cX3_fallsNow 14 = .ok (.iconst 0, 1) := by decide +kernel
theorem dX3_fallsNow_15 : decode cX3_fallsNow 15 = .ok (.ireturn, 1) := by decide +kernel
theorem dX3_fallsNow_16 : decode cX3_fallsNow 16 = .ok (.aload_n 0, 1) := by decide +kernel
theorem dX3_fallsNow_17 : decode cX3_fallsNow 17 = .ok (.aload_n 1, 1) := by decide +kernel
theorem dX3_fallsNow_18 : decode cX3_fallsNow 18 = .ok (.invokevirtual 39, 3) := by decide +kernel
theorem dX3_fallsNow_21 : decode cX3_fallsNow 21 = .ok (.iconst 1, 1) := by decide +kernel
theorem dX3_fallsNow_22 : decode cX3_fallsNow 22 = .ok (.ireturn, 1) := by decide +kernel
set_option maxRecDepth 20000 in
theorem ggX3_fall_X2_removeAll : GoodIn wsX3_fall wsX2_removeAll := goodIn_r _ [8, 9, 10, 11, 15, 16, 17, 18, 19, 20, 21, 22, 23, 24] (by decide +kernel) (by decide +kernel)
set_option maxRecDepth 20000 in
theorem gX3_fall_X2_removeAll : GoodIn wsX3_fall (wsV RX3 42 RX2 yX2_removeAll wsX2_removeAll) := goodIn_app (goodIn_of _ (by decide +kernel)) ggX3_fall_X2_removeAll
theorem dX3_fall_0 : decode cX3_fall 0 = .ok (.aload_n 0, 1) := by decide +kernel
theorem dX3_fall_1 : decode cX3_fall 1 = .ok (.dup, 1) := by decide +kernel
theorem dX3_fall_2 : decode cX3_fall 2 = .ok (.getfield 17, 3) := by decide +kernel
theorem dX3_fall_5 : decode cX3_fall 5 = .ok (.aload_n 1, 1) := by decide +kernel
theorem dX3_fall_6 : decode cX3_fall 6 = .ok (.getfield 33, 3) := by decide +kernel
theorem dX3_fall_9 : decode cX3_fall 9 = .ok (.iadd, 1) := by decide +kernel
theorem dX3_fall_10 : decode cX3_fall 10 = .ok (.putfield 17, 3) := by decide +kernel
theorem dX3_fall_13 : decode cX3_fall 13 = .ok (.aload_n 1, 1) := by decide +kernel
theorem dX3_fall_14 : decode cX3_fall 14 = .ok (.dup, 1) := by decide +kernel
theorem dX3_fall_15 : decode cX3_fall 15 = .ok (.getfield 36, 3) := by decide +kernel
theorem dX3_fall_18 : decode cX3_fall 18 = .ok (.iconst 1, 1) := by decide +kernel
theorem dX3_fall_19 : decode cX3_fall 19 = .ok (.iadd, 1) := by decide +kernel
theorem dX3_fall_20 : decode cX3_fall 20 = .ok (.putfield 36, 3) := by decide +kernel
theorem dX3_fall_23 : decode cX3_fall 23 = .ok (.aload_n 1, 1) := by decide +kernel
theorem dX3_fall_24 : decode cX3_fall 24 = .ok (.invokevirtual 42, 3) := by decide +kernel
theorem dX3_fall_27 : decode cX3_fall 27 = .ok (.return_, 1) := by decide +kernel
set_option maxRecDepth 20000 in
theorem ggX3_walk_X2_stepOf : GoodIn wsX3_walk wsX2_stepOf := goodIn_r _ [10, 11, 12, 13, 14, 9, 15, 16, 86, 87, 88, 89, 90, 91, 92, 93, 94, 95] (by decide +kernel) (by decide +kernel)
set_option maxRecDepth 20000 in
theorem gX3_walk_X2_stepOf : GoodIn wsX3_walk (wsV RX3 45 RX2 yX2_stepOf wsX2_stepOf) := goodIn_app (goodIn_of _ (by decide +kernel)) ggX3_walk_X2_stepOf
set_option maxRecDepth 20000 in
theorem ggX3_walk_X2_setStep : GoodIn wsX3_walk wsX2_setStep := goodIn_r _ [20, 11, 12, 13, 14, 9, 15, 16, 86, 87, 88, 89, 90, 91, 92, 93, 94, 95] (by decide +kernel) (by decide +kernel)
set_option maxRecDepth 20000 in
theorem gX3_walk_X2_setStep : GoodIn wsX3_walk (wsV RX3 54 RX2 yX2_setStep wsX2_setStep) := goodIn_app (goodIn_of _ (by decide +kernel)) ggX3_walk_X2_setStep
set_option maxRecDepth 20000 in
theorem ggX3_walk_X2_stands : GoodIn wsX3_walk wsX2_stands := goodIn_r _ [24, 25, 26, 27, 9, 28, 29, 30, 3, 31, 32, 33, 34, 35, 36, 37, 38, 39, 40, 41, 42, 43, 44, 45, 46, 47, 11, 48, 49, 50, 51, 52, 53, 54, 55, 56, 57, 58, 59, 60, 61, 62, 63, 64, 65, 66, 67, 68, 69, 70, 86, 87, 88, 89, 90, 91, 92, 93, 94, 95] (by decide +kernel) (by decide +kernel)
set_option maxRecDepth 20000 in
theorem gX3_walk_X2_stands : GoodIn wsX3_walk (wsV RX3 29 RX2 yX2_stands wsX2_stands) := goodIn_app (goodIn_of _ (by decide +kernel)) ggX3_walk_X2_stands
set_option maxRecDepth 20000 in
theorem ggX3_walk_X3_fall : GoodIn wsX3_walk wsX3_fall := goodIn_r _ [75, 76, 77, 78, 79, 80, 81, 9, 82, 48, 11, 16, 83, 84, 85, 86, 87, 88, 89, 90, 91, 92, 93, 94, 95] (by decide +kernel) (by decide +kernel)
set_option maxRecDepth 20000 in
theorem gX3_walk_X3_fall : GoodIn wsX3_walk (wsV RX3 39 RX3 yX3_fall wsX3_fall) := goodIn_app (goodIn_of _ (by decide +kernel)) ggX3_walk_X3_fall
theorem dX3_walk_0 : decode cX3_walk 0 = .ok (.aload_n 1, 1) := by decide +kernel
theorem dX3_walk_1 : decode cX3_walk 1 = .ok (.iload_n 2, 1) := by decide +kernel
theorem dX3_walk_2 : decode cX3_walk 2 = .ok (.invokevirtual 45, 3) := by decide +kernel
theorem dX3_walk_5 : decode cX3_walk 5 = .ok (.istore 4, 2) := by decide +kernel
theorem dX3_walk_7 : decode cX3_walk 7 = .ok (.iload_n 3, 1) := by decide +kernel
theorem dX3_walk_8 : decode cX3_walk 8 = .ok (.iload 4, 2) := by decide +kernel
theorem dX3_walk_10 : decode cX3_walk 10 = .ok (.if_icmp .ge 7, 3) := by decide +kernel
theorem dX3_walk_13 : decode cX3_walk 13 = .ok (.iconst (-1), 1) := by decide +kernel
theorem dX3_walk_14 : decode cX3_walk 14 = .ok (.goto 4, 3) := by decide +kernel
theorem dX3_walk_17 : decode cX3_walk 17 = .ok (.iconst 1, 1) := by decide +kernel
theorem dX3_walk_18 : decode cX3_walk 18 = .ok (.istore 5, 2) := by decide +kernel
theorem dX3_walk_20 : decode cX3_walk 20 = .ok (.iload_n 3, 1) := by decide +kernel
theorem dX3_walk_21 : decode cX3_walk 21 = .ok (.iload 4, 2) := by decide +kernel
theorem dX3_walk_23 : decode cX3_walk 23 = .ok (.isub, 1) := by decide +kernel
theorem dX3_walk_24 : decode cX3_walk 24 = .ok (.invokestatic 49, 3) := by decide +kernel
theorem dX3_walk_27 : decode cX3_walk 27 = .ok (.istore 6, 2) := by decide +kernel
theorem dX3_walk_29 : decode cX3_walk 29 = .ok (.iconst 1, 1) := by decide +kernel
theorem dX3_walk_30 : decode cX3_walk 30 = .ok (.istore 7, 2) := by decide +kernel
theorem dX3_walk_32 : decode cX3_walk 32 = .ok (.iload 7, 2) := by decide +kernel
theorem dX3_walk_34 : decode cX3_walk 34 = .ok (.iload 6, 2) := by decide +kernel
theorem dX3_walk_36 : decode cX3_walk 36 = .ok (.if_icmp .gt 46, 3) := by decide +kernel
theorem dX3_walk_39 : decode cX3_walk 39 = .ok (.aload_n 1, 1) := by decide +kernel
theorem dX3_walk_40 : decode cX3_walk 40 = .ok (.iload_n 2, 1) := by decide +kernel
theorem dX3_walk_41 : decode cX3_walk 41 = .ok (.iload 4, 2) := by decide +kernel
theorem dX3_walk_43 : decode cX3_walk 43 = .ok (.iload 7, 2) := by decide +kernel
theorem dX3_walk_45 : decode cX3_walk 45 = .ok (.iload 5, 2) := by decide +kernel
theorem dX3_walk_47 : decode cX3_walk 47 = .ok (.imul, 1) := by decide +kernel
theorem dX3_walk_48 : decode cX3_walk 48 = .ok (.iadd, 1) := by decide +kernel
theorem dX3_walk_49 : decode cX3_walk 49 = .ok (.invokevirtual 54, 3) := by decide +kernel
theorem dX3_walk_52 : decode cX3_walk 52 = .ok (.aload_n 0, 1) := by decide +kernel
theorem dX3_walk_53 : decode cX3_walk 53 = .ok (.dup, 1) := by decide +kernel
theorem dX3_walk_54 : decode cX3_walk 54 = .ok (.getfield 21, 3) := by decide +kernel
theorem dX3_walk_57 : decode cX3_walk 57 = .ok (.iconst 1, 1) := by decide +kernel
theorem dX3_walk_58 : decode cX3_walk 58 = .ok (.iadd, 1) := by decide +kernel
theorem dX3_walk_59 : decode cX3_walk 59 = .ok (.putfield 21, 3) := by decide +kernel
theorem dX3_walk_62 : decode cX3_walk 62 = .ok (.aload_n 1, 1) := by decide +kernel
theorem dX3_walk_63 : decode cX3_walk 63 = .ok (.invokevirtual 29, 3) := by decide +kernel
theorem dX3_walk_66 : decode cX3_walk 66 = .ok (.ifCond .ne 10, 3) := by decide +kernel
theorem dX3_walk_69 : decode cX3_walk 69 = .ok (.aload_n 0, 1) := by decide +kernel
theorem dX3_walk_70 : decode cX3_walk 70 = .ok (.aload_n 1, 1) := by decide +kernel
theorem dX3_walk_71 : decode cX3_walk 71 = .ok (.invokevirtual 39, 3) := by decide +kernel
theorem dX3_walk_74 : decode cX3_walk 74 = .ok (.iconst (-1), 1) := by decide +kernel
theorem dX3_walk_75 : decode cX3_walk 75 = .ok (.ireturn, 1) := by decide +kernel
theorem dX3_walk_76 : decode cX3_walk 76 = .ok (.iinc 7 1, 3) := by decide +kernel
theorem dX3_walk_79 : decode cX3_walk 79 = .ok (.goto (-47), 3) := by decide +kernel
theorem dX3_walk_82 : decode cX3_walk 82 = .ok (.iload_n 3, 1) := by decide +kernel
theorem dX3_walk_83 : decode cX3_walk 83 = .ok (.ireturn, 1) := by decide +kernel
set_option maxRecDepth 20000 in
theorem ggX4_init_X1_init : GoodIn wsX4_init wsX1_init := goodIn_r _ [13, 14, 2, 3, 15, 16, 17, 18, 19, 20, 25, 26, 27, 28, 29, 30] (by decide +kernel) (by decide +kernel)
set_option maxRecDepth 20000 in
theorem gX4_init_X1_init_n24 : GoodIn wsX4_init (wsX1_init) := ggX4_init_X1_init
theorem dX4_init_0 : decode cX4_init 0 = .ok (.aload_n 0, 1) := by decide +kernel
theorem dX4_init_1 : decode cX4_init 1 = .ok (.invokespecial 3, 3) := by decide +kernel
theorem dX4_init_4 : decode cX4_init 4 = .ok (.aload_n 0, 1) := by decide +kernel
theorem dX4_init_5 : decode cX4_init 5 = .ok (.bipush 60, 2) := by decide +kernel
theorem dX4_init_7 : decode cX4_init 7 = .ok (.newarray .int, 2) := by decide +kernel
theorem dX4_init_9 : decode cX4_init 9 = .ok (.putfield 9, 3) := by decide +kernel
theorem dX4_init_12 : decode cX4_init 12 = .ok (.aload_n 0, 1) := by decide +kernel
theorem dX4_init_13 : decode cX4_init 13 = .ok (.iconst 0, 1) := by decide +kernel
theorem dX4_init_14 : decode cX4_init 14 = .ok (.putfield 15, 3) := by decide +kernel
theorem dX4_init_17 : decode cX4_init 17 = .ok (.aload_n 0, 1) := by decide +kernel
theorem dX4_init_18 : decode cX4_init 18 = .ok (.iconst 0, 1) := by decide +kernel
theorem dX4_init_19 : decode cX4_init 19 = .ok (.putfield 19, 3) := by decide +kernel
theorem dX4_init_22 : decode cX4_init 22 = .ok (.aload_n 0, 1) := by decide +kernel
theorem dX4_init_23 : decode cX4_init 23 = .ok (.new 22, 3) := by decide +kernel
theorem dX4_init_26 : decode cX4_init 26 = .ok (.dup, 1) := by decide +kernel
theorem dX4_init_27 : decode cX4_init 27 = .ok (.invokespecial 24, 3) := by decide +kernel
theorem dX4_init_30 : decode cX4_init 30 = .ok (.putfield 25, 3) := by decide +kernel
theorem dX4_init_33 : decode cX4_init 33 = .ok (.return_, 1) := by decide +kernel
theorem dX4_isFull_0 : decode cX4_isFull 0 = .ok (.aload_n 0, 1) := by decide +kernel
theorem dX4_isFull_1 : decode cX4_isFull 1 = .ok (.getfield 15, 3) := by decide +kernel
theorem dX4_isFull_4 : decode cX4_isFull 4 = .ok (.bipush 60, 2) := by decide +kernel
theorem dX4_isFull_6 : decode cX4_isFull 6 = .ok (.if_icmp .lt 7, 3) := by decide +kernel
theorem dX4_isFull_9 : decode cX4_isFull 9 = .ok (.iconst 1, 1) := by decide +kernel
theorem dX4_isFull_10 : decode cX4_isFull 10 = .ok (.goto 4, 3) := by decide +kernel
theorem dX4_isFull_13 : decode cX4_isFull 13 = .ok (.iconst 0, 1) := by decide +kernel
theorem dX4_isFull_14 : decode cX4_isFull 14 = .ok (.ireturn, 1) := by decide +kernel
theorem dX4_add_0 : decode cX4_add 0 = .ok (.aload_n 0, 1) := by decide +kernel
theorem dX4_add_1 : decode cX4_add 1 = .ok (.getfield 15, 3) := by decide +kernel
theorem dX4_add_4 : decode cX4_add 4 = .ok (.ifCond .lt 32, 3) := by decide +kernel
theorem dX4_add_7 : decode cX4_add 7 = .ok (.aload_n 0, 1) := by decide +kernel
theorem dX4_add_8 : decode cX4_add 8 = .ok (.getfield 15, 3) := by decide +kernel
theorem dX4_add_11 : decode cX4_add 11 = .ok (.bipush 60, 2) := by decide +kernel
theorem dX4_add_13 : decode cX4_add 13 = .ok (.if_icmp .ge 23, 3) := by decide +kernel
theorem dX4_add_16 : decode cX4_add 16 = .ok (.aload_n 0, 1) := by decide +kernel
theorem dX4_add_17 : decode cX4_add 17 = .ok (.getfield 9, 3) := by decide +kernel
theorem dX4_add_20 : decode cX4_add 20 = .ok (.aload_n 0, 1) := by decide +kernel
theorem dX4_add_21 : decode cX4_add 21 = .ok (.getfield 15, 3) := by decide +kernel
theorem dX4_add_24 : decode cX4_add 24 = .ok (.iload_n 1, 1) := by decide +kernel
theorem dX4_add_25 : decode cX4_add 25 = .ok (.iastore, 1) := by decide +kernel
theorem dX4_add_26 : decode cX4_add 26 = .ok (.aload_n 0, 1) := by decide +kernel
theorem dX4_add_27 : decode cX4_add 27 = .ok (.dup, 1) := by decide +kernel
theorem dX4_add_28 : decode cX4_add 28 = .ok (.getfield 15, 3) := by decide +kernel
theorem dX4_add_31 : decode cX4_add 31 = .ok (.iconst 1, 1) := by decide +kernel
theorem dX4_add_32 : decode cX4_add 32 = .ok (.iadd, 1) := by decide +kernel
theorem dX4_add_33 : decode cX4_add 33 = .ok (.putfield 15, 3) := by decide +kernel
theorem dX4_add_36 : decode cX4_add 36 = .ok (.return_, 1) := by decide +kernel
theorem dX4_clear_0 : decode cX4_clear 0 = .ok (.aload_n 0, 1) := by decide +kernel
theorem dX4_clear_1 : decode cX4_clear 1 = .ok (.iconst 0, 1) := by decide +kernel
theorem dX4_clear_2 : decode cX4_clear 2 = .ok (.putfield 15, 3) := by decide +kernel
theorem dX4_clear_5 : decode cX4_clear 5 = .ok (.return_, 1) := by decide +kernel
theorem dX4_codeAt_0 : decode cX4_codeAt 0 = .ok (.iload_n 1, 1) := by decide +kernel
theorem dX4_codeAt_1 : decode cX4_codeAt 1 = .ok (.ifCond .lt 26, 3) := by decide +kernel
theorem dX4_codeAt_4 : decode cX4_codeAt 4 = .ok (.iload_n 1, 1) := by decide +kernel
theorem dX4_codeAt_5 : decode cX4_codeAt 5 = .ok (.aload_n 0, 1) := by decide +kernel
theorem dX4_codeAt_6 : decode cX4_codeAt 6 = .ok (.getfield 15, 3) := by decide +kernel
theorem dX4_codeAt_9 : decode cX4_codeAt 9 = .ok (.if_icmp .ge 18, 3) := by decide +kernel
theorem dX4_codeAt_12 : decode cX4_codeAt 12 = .ok (.iload_n 1, 1) := by decide +kernel
theorem dX4_codeAt_13 : decode cX4_codeAt 13 = .ok (.bipush 60, 2) := by decide +kernel
theorem dX4_codeAt_15 : decode cX4_codeAt 15 = .ok (.if_icmp .ge 12, 3) := by decide +kernel
theorem dX4_codeAt_18 : decode cX4_codeAt 18 = .ok (.aload_n 0, 1) := by decide +kernel
theorem dX4_codeAt_19 : decode cX4_codeAt 19 = .ok (.getfield 9, 3) := by decide +kernel
theorem dX4_codeAt_22 : decode cX4_codeAt 22 = .ok (.iload_n 1, 1) := by decide +kernel
theorem dX4_codeAt_23 : decode cX4_codeAt 23 = .ok (.iaload, 1) := by decide +kernel
theorem dX4_codeAt_24 : decode cX4_codeAt 24 = .ok (.goto 4, 3) := by decide +kernel
theorem dX4_codeAt_27 : decode cX4_codeAt 27 = .ok (.iconst 0, 1) := by decide +kernel
theorem dX4_codeAt_28 : decode cX4_codeAt 28 = .ok (.ireturn, 1) := by decide +kernel
set_option maxRecDepth 20000 in
theorem ggX4_firstFault_X1_startPart : GoodIn wsX4_firstFault wsX1_startPart := goodIn_r _ [7, 8, 9, 57, 58, 59, 60, 61, 62] (by decide +kernel) (by decide +kernel)
set_option maxRecDepth 20000 in
theorem gX4_firstFault_X1_startPart : GoodIn wsX4_firstFault (wsV RX4 29 RX1 yX1_startPart wsX1_startPart) := goodIn_app (goodIn_of _ (by decide +kernel)) ggX4_firstFault_X1_startPart
set_option maxRecDepth 20000 in
theorem ggX4_firstFault_X4_codeAt : GoodIn wsX4_firstFault wsX4_codeAt := goodIn_r _ [14, 2, 15, 53, 54, 55, 56] (by decide +kernel) (by decide +kernel)
set_option maxRecDepth 20000 in
theorem gX4_firstFault_X4_codeAt : GoodIn wsX4_firstFault (wsV RX4 32 RX4 yX4_codeAt wsX4_codeAt) := goodIn_app (goodIn_of _ (by decide +kernel)) ggX4_firstFault_X4_codeAt
set_option maxRecDepth 20000 in
theorem ggX4_firstFault_X1_takes : GoodIn wsX4_firstFault wsX1_takes := goodIn_r _ [19, 8, 9, 20, 21, 22, 6, 23, 24, 25, 26, 27, 28, 29, 30, 31, 32, 33, 34, 35, 36, 37, 38, 39, 40, 41, 42, 43, 44, 45, 46, 47, 48, 49, 50, 51, 52, 4, 5, 7, 57, 58, 59, 60, 61, 62] (by decide +kernel) (by decide +kernel)
set_option maxRecDepth 20000 in
theorem gX4_firstFault_X1_takes : GoodIn wsX4_firstFault (wsV RX4 36 RX1 yX1_takes wsX1_takes) := goodIn_app (goodIn_of _ (by decide +kernel)) ggX4_firstFault_X1_takes
theorem dX4_firstFault_0 : decode cX4_firstFault 0 = .ok (.aload_n 0, 1) := by decide +kernel
theorem dX4_firstFault_1 : decode cX4_firstFault 1 = .ok (.getfield 25, 3) := by decide +kernel
theorem dX4_firstFault_4 : decode cX4_firstFault 4 = .ok (.invokevirtual 29, 3) := by decide +kernel
theorem dX4_firstFault_7 : decode cX4_firstFault 7 = .ok (.iconst 0, 1) := by decide +kernel
theorem dX4_firstFault_8 : decode cX4_firstFault 8 = .ok (.istore_n 1, 1) := by decide +kernel
theorem dX4_firstFault_9 : decode cX4_firstFault 9 = .ok (.iload_n 1, 1) := by decide +kernel
theorem dX4_firstFault_10 : decode cX4_firstFault 10 = .ok (.aload_n 0, 1) := by decide +kernel
theorem dX4_firstFault_11 : decode cX4_firstFault 11 = .ok (.getfield 15, 3) := by decide +kernel
theorem dX4_firstFault_14 : decode cX4_firstFault 14 = .ok (.if_icmp .ge 26, 3) := by decide +kernel
theorem dX4_firstFault_17 : decode cX4_firstFault 17 = .ok (.aload_n 0, 1) := by decide +kernel
theorem dX4_firstFault_18 : decode cX4_firstFault 18 = .ok (.getfield 25, 3) := by decide +kernel
theorem dX4_firstFault_21 : decode cX4_firstFault 21 = .ok (.aload_n 0, 1) := by decide +kernel
theorem dX4_firstFault_22 : decode cX4_firstFault 22 = .ok (.iload_n 1, 1) := by decide +kernel
theorem dX4_firstFault_23 : decode cX4_firstFault 23 = .ok (.invokevirtual 32, 3) := by decide +kernel
theorem dX4_firstFault_26 : decode cX4_firstFault 26 = .ok (.invokevirtual 36, 3) := by decide +kernel
theorem dX4_firstFault_29 : decode cX4_firstFault 29 = .ok (.ifCond .ne 5, 3) := by decide +kernel
theorem dX4_firstFault_32 : decode cX4_firstFault 32 = .ok (.iload_n 1, 1) := by decide +kernel
theorem dX4_firstFault_33 : decode cX4_firstFault 33 = .ok (.ireturn, 1) := by decide +kernel
theorem dX4_firstFault_34 : decode cX4_firstFault 34 = .ok (.iinc 1 1, 3) := by decide +kernel
theorem dX4_firstFault_37 : decode cX4_firstFault 37 = .ok (.goto (-28), 3) := by decide +kernel
theorem dX4_firstFault_40 : decode cX4_firstFault 40 = .ok (.aload_n 0, 1) := by decide +kernel
theorem dX4_firstFault_41 : decode cX4_firstFault 41 = .ok (.getfield 15, 3) := by decide +kernel
theorem dX4_firstFault_44 : decode cX4_firstFault 44 = .ok (.ireturn, 1) := by decide +kernel
set_option maxRecDepth 20000 in
theorem ggX4_isWhole_X4_firstFault : GoodIn wsX4_isWhole wsX4_firstFault := goodIn_r _ [7, 2, 1, 8, 9, 10, 11, 12, 13, 14, 15, 16, 17, 6, 18, 19, 20, 21, 22, 23, 24, 25, 26, 27, 28, 29, 30, 31, 32, 33, 34, 35, 36, 37, 38, 39, 40, 41, 42, 43, 44, 45, 46, 47, 48, 49, 50, 51, 52, 53, 54, 55, 56, 58, 59, 60, 61, 62, 63, 64, 65, 66, 67] (by decide +kernel) (by decide +kernel)
set_option maxRecDepth 20000 in
theorem gX4_isWhole_X4_firstFault : GoodIn wsX4_isWhole (wsV RX4 40 RX4 yX4_firstFault wsX4_firstFault) := goodIn_app (goodIn_of _ (by decide +kernel)) ggX4_isWhole_X4_firstFault
set_option maxRecDepth 20000 in
theorem ggX4_isWhole_X1_isPartWhole : GoodIn wsX4_isWhole wsX1_isPartWhole := goodIn_r _ [55, 13, 14, 38, 39, 62, 63, 64, 65, 66, 67] (by decide +kernel) (by decide +kernel)
set_option maxRecDepth 20000 in
theorem gX4_isWhole_X1_isPartWhole : GoodIn wsX4_isWhole (wsV RX4 44 RX1 yX1_isPartWhole wsX1_isPartWhole) := goodIn_app (goodIn_of _ (by decide +kernel)) ggX4_isWhole_X1_isPartWhole
theorem dX4_isWhole_0 : decode cX4_isWhole 0 = .ok (.aload_n 0, 1) := by decide +kernel
theorem dX4_isWhole_1 : decode cX4_isWhole 1 = .ok (.invokevirtual 40, 3) := by decide +kernel
theorem dX4_isWhole_4 : decode cX4_isWhole 4 = .ok (.aload_n 0, 1) := by decide +kernel
theorem dX4_isWhole_5 : decode cX4_isWhole 5 = .ok (.getfield 15, 3) := by decide +kernel
theorem dX4_isWhole_8 : decode cX4_isWhole 8 = .ok (.if_icmp .ne 17, 3) := by decide +kernel
theorem dX4_isWhole_11 : decode cX4_isWhole 11 = .ok (.aload_n 0, 1) := by decide +kernel
theorem dX4_isWhole_12 : decode cX4_isWhole 12 = .ok (.getfield 25, 3) := by decide +kernel
theorem dX4_isWhole_15 : decode cX4_isWhole 15 = .ok (.invokevirtual 44, 3) := by decide +kernel
theorem dX4_isWhole_18 : decode cX4_isWhole 18 = .ok (.ifCond .eq 7, 3) := by decide +kernel
theorem dX4_isWhole_21 : decode cX4_isWhole 21 = .ok (.iconst 1, 1) := by decide +kernel
theorem dX4_isWhole_22 : decode cX4_isWhole 22 = .ok (.goto 4, 3) := by decide +kernel
theorem dX4_isWhole_25 : decode cX4_isWhole 25 = .ok (.iconst 0, 1) := by decide +kernel
theorem dX4_isWhole_26 : decode cX4_isWhole 26 = .ok (.ireturn, 1) := by decide +kernel
theorem dX4_rewind_0 : decode cX4_rewind 0 = .ok (.aload_n 0, 1) := by decide +kernel
theorem dX4_rewind_1 : decode cX4_rewind 1 = .ok (.iconst 0, 1) := by decide +kernel
theorem dX4_rewind_2 : decode cX4_rewind 2 = .ok (.putfield 19, 3) := by decide +kernel
theorem dX4_rewind_5 : decode cX4_rewind 5 = .ok (.return_, 1) := by decide +kernel
set_option maxRecDepth 20000 in
theorem ggX4_nextPart_X1_startPart : GoodIn wsX4_nextPart wsX1_startPart := goodIn_r _ [8, 9, 10, 58, 59, 60, 61, 62, 63] (by decide +kernel) (by decide +kernel)
set_option maxRecDepth 20000 in
theorem gX4_nextPart_X1_startPart : GoodIn wsX4_nextPart (wsV RX4 29 RX1 yX1_startPart wsX1_startPart) := goodIn_app (goodIn_of _ (by decide +kernel)) ggX4_nextPart_X1_startPart
set_option maxRecDepth 20000 in
theorem ggX4_nextPart_X4_codeAt : GoodIn wsX4_nextPart wsX4_codeAt := goodIn_r _ [15, 2, 16, 54, 55, 56, 57] (by decide +kernel) (by decide +kernel)
set_option maxRecDepth 20000 in
theorem gX4_nextPart_X4_codeAt : GoodIn wsX4_nextPart (wsV RX4 32 RX4 yX4_codeAt wsX4_codeAt) := goodIn_app (goodIn_of _ (by decide +kernel)) ggX4_nextPart_X4_codeAt
set_option maxRecDepth 20000 in
theorem ggX4_nextPart_X1_takes : GoodIn wsX4_nextPart wsX1_takes := goodIn_r _ [20, 9, 10, 21, 22, 23, 7, 24, 25, 26, 27, 28, 29, 30, 31, 32, 33, 34, 35, 36, 37, 38, 39, 40, 41, 42, 43, 44, 45, 46, 47, 48, 49, 50, 51, 52, 53, 5, 6, 8, 58, 59, 60, 61, 62, 63] (by decide +kernel) (by decide +kernel)
set_option maxRecDepth 20000 in
theorem gX4_nextPart_X1_takes : GoodIn wsX4_nextPart (wsV RX4 36 RX1 yX1_takes wsX1_takes) := goodIn_app (goodIn_of _ (by decide +kernel)) ggX4_nextPart_X1_takes
theorem dX4_nextPart_0 : decode cX4_nextPart 0 = .ok (.aload_n 0, 1) := by decide +kernel
theorem dX4_nextPart_1 : decode cX4_nextPart 1 = .ok (.getfield 19, 3) := by decide +kernel
theorem dX4_nextPart_4 : decode cX4_nextPart 4 = .ok (.aload_n 0, 1) := by decide +kernel
theorem dX4_nextPart_5 : decode cX4_nextPart 5 = .ok (.getfield 15, 3) := by decide +kernel
theorem dX4_nextPart_8 : decode cX4_nextPart 8 = .ok (.if_icmp .lt 5, 3) := by decide +kernel
theorem dX4_nextPart_11 : decode cX4_nextPart 11 = .ok (.iconst 0, 1) := by decide +kernel
theorem dX4_nextPart_12 : decode cX4_nextPart 12 = .ok (.ireturn, 1) := by decide +kernel
theorem dX4_nextPart_13 : decode cX4_nextPart 13 = .ok (.aload_n 0, 1) := by decide +kernel
theorem dX4_nextPart_14 : decode cX4_nextPart 14 = .ok (.getfield 25, 3) := by decide +kernel
theorem dX4_nextPart_17 : decode cX4_nextPart 17 = .ok (.invokevirtual 29, 3) := by decide +kernel
theorem dX4_nextPart_20 : decode cX4_nextPart 20 = .ok (.aload_n 0, 1) := by decide +kernel
theorem dX4_nextPart_21 : decode cX4_nextPart 21 = .ok (.getfield 19, 3) := by decide +kernel
theorem dX4_nextPart_24 : decode cX4_nextPart 24 = .ok (.aload_n 0, 1) := by decide +kernel
theorem dX4_nextPart_25 : decode cX4_nextPart 25 = .ok (.getfield 15, 3) := by decide +kernel
theorem dX4_nextPart_28 : decode cX4_nextPart 28 = .ok (.if_icmp .ge 42, 3) := by decide +kernel
theorem dX4_nextPart_31 : decode cX4_nextPart 31 = .ok (.aload_n 0, 1) := by decide +kernel
theorem dX4_nextPart_32 : decode cX4_nextPart 32 = .ok (.aload_n 0, 1) := by decide +kernel
theorem dX4_nextPart_33 : decode cX4_nextPart 33 = .ok (.getfield 19, 3) := by decide +kernel
theorem dX4_nextPart_36 : decode cX4_nextPart 36 = .ok (.invokevirtual 32, 3) := by decide +kernel
theorem dX4_nextPart_39 : decode cX4_nextPart 39 = .ok (.istore_n 1, 1) := by decide +kernel
theorem dX4_nextPart_40 : decode cX4_nextPart 40 = .ok (.aload_n 0, 1) := by decide +kernel
theorem dX4_nextPart_41 : decode cX4_nextPart 41 = .ok (.dup, 1) := by decide +kernel
theorem dX4_nextPart_42 : decode cX4_nextPart 42 = .ok (.getfield 19, 3) := by decide +kernel
theorem dX4_nextPart_45 : decode cX4_nextPart 45 = .ok (.iconst 1, 1) := by decide +kernel
theorem dX4_nextPart_46 : decode cX4_nextPart 46 = .ok (.iadd, 1) := by decide +kernel
theorem dX4_nextPart_47 : decode cX4_nextPart 47 = .ok (.putfield 19, 3) := by decide +kernel
theorem dX4_nextPart_50 : decode cX4_nextPart 50 = .ok (.iload_n 1, 1) := by decide +kernel
theorem dX4_nextPart_51 : decode cX4_nextPart 51 = .ok (.bipush 59, 2) := by decide +kernel
theorem dX4_nextPart_53 : decode cX4_nextPart 53 = .ok (.if_icmp .ne 5, 3) := by decide +kernel
theorem dX4_nextPart_56 : decode cX4_nextPart 56 = .ok (.iconst 1, 1) := by decide +kernel
theorem dX4_nextPart_57 : decode cX4_nextPart 57 = .ok (.ireturn, 1) := by decide +kernel
theorem dX4_nextPart_58 : decode cX4_nextPart 58 = .ok (.aload_n 0, 1) := by decide +kernel
theorem dX4_nextPart_59 : decode cX4_nextPart 59 = .ok (.getfield 25, 3) := by decide +kernel
theorem dX4_nextPart_62 : decode cX4_nextPart 62 = .ok (.iload_n 1, 1) := by decide +kernel
theorem dX4_nextPart_63 : decode cX4_nextPart 63 = .ok (.invokevirtual 36, 3) := by decide +kernel
theorem dX4_nextPart_66 : decode cX4_nextPart 66 = .ok (.pop, 1) := by decide +kernel
theorem dX4_nextPart_67 : decode cX4_nextPart 67 = .ok (.goto (-47), 3) := by decide +kernel
theorem dX4_nextPart_70 : decode cX4_nextPart 70 = .ok (.iconst 1, 1) := by decide +kernel
theorem dX4_nextPart_71 : decode cX4_nextPart 71 = .ok (.ireturn, 1) := by decide +kernel
end
section
/-! ===== BEGIN .. of methods that hand back an object of the pool ===== -/
section
variable {p : Program} {l : Launch} {e : Env} {R : Room} {s : State} {m : MethodId} {args : Array Value} {below : List Frame} {meth : Method} {c : Code} {H : Heap} {locs : List Loc} {cells slots : Nat} {Q : State → Prop}
variable {mc ms : Nat} {free : Addr → Prop} {A0 A1 : Nat → Prop} {H0 : Heap} {a : Array Value} {pc : Nat} {ls : Array Slot} {st0 rest : List Value}
theorem vx_callq {S SX : Type} {post : Option Nat → S → Prop} {px : SX → Prop} {B : S → State → Prop} {BX : String → SX → State → Prop} {AX : Nat → Prop} (hr : vx_Run p l e R s m args below meth c H locs cells slots mc ms (F0 m pc ls st0) rest (va_Qq post B A1 a) (vx_X px BX AX) free) (hS : va_S A0 H0 H locs) (hA : ∀ q, q < H.size → A1 q → A0 q) (hf : ∀ q, free q → A0 q) (hAX : ∀ q, q < H.size → AX q → A0 q)
    (kx : ∀ (E : String) (ce : Cell) (q9 : Addr) (u : SX) (t : State) (H1 : Heap) (locs1 : List Loc), t.heap = H1 → s.vm.Alike t.vm → px u → BX E u t → H.size ≤ H1.size → (∀ q : Nat, q < H.size → ¬ AX q → H1[q]? = H[q]?) → va_S A0 H0 H1 locs1 → H1[q9]? = some ce → ce.vm = .none → s.vm.findClass E = some ce.cls → vx_W p l e R s m args below meth c H1 locs1 (cells + mc) (slots + ms) Q (F0 m pc ls rest) q9)
    (kk : ∀ (r : Option Nat) (u : S) (t : State) (H1 : Heap) (locs1 : List Loc), t.heap = H1 → s.vm.Alike t.vm → post r u → B u t → H.size ≤ H1.size → (∀ q : Nat, q < H.size → ¬ A1 q → H1[q]? = H[q]?) → va_S A0 H0 H1 locs1 → W p l e R s m args below meth c H1 locs1 (cells + mc) (slots + ms) Q (F0 m (pc + 3) ls (va_rf r :: rest))) : W p l e R s m args below meth c H locs cells slots Q (F0 m pc ls st0) := by
  intro T hT X
  rcases hr T hT X with ⟨v, st₀, t, T', L, h0, X', hL, e1, e2, ⟨⟨r, u, hv, hp, hb⟩, hF⟩, st⟩ | ⟨q, st₀, t, T', L, E, ce, h0, X', hL, e1, e2, ⟨u, hp, hb, hF⟩, hce, hcv, hcl, st⟩
  · cases hv
    obtain ⟨k1, k2, k3⟩ := vx_keep h0 e1 hS hA hf hL hF
    obtain ⟨t2, a1, b1⟩ := kk r u t T'.heap (locs ++ L) e1.symm (by rw [← e2]; exact X'.warmed.alike) hp hb k1 k2 k3 T' rfl X'
    exact ⟨t2, st t2 a1, b1⟩
  · obtain ⟨k1, k2, k3⟩ := vx_keep h0 e1 hS hAX hf hL hF
    obtain ⟨t2, a1, b1⟩ := kx E ce q u t T'.heap (locs ++ L) e1.symm (by rw [← e2]; exact X'.warmed.alike) hp hb k1 k2 k3 (by rw [e1]; exact hce) hcv hcl T' rfl X'
    exact ⟨t2, st.trans a1, b1⟩
end
/-! ===== END ===== -/
end
section
/-! the base layer: a walk over a world that is one list, locals and operands at hand -/
section ZB
variable {p : Program} {l : Launch} {e : Env} {R : Room} {s : State} {m : MethodId} {args : Array Value} {below : List Frame} {meth : Method} {c : Code} {D : va_G} {tys : List (ClassId × FieldType)} {A : Nat → Prop} {Q : State → Prop} {nL : Nat} {ws : va_W} {cells slots pc : Nat} {lv : List (Nat × Value)} {rest : List Value} {cc : ByteArray} {own : String} {Ts : List Cond}
/-- what stays over a method's walk -/
def zE (p : Program) (s : State) (m : MethodId) (args : Array Value) (c : Code) (D : va_G) (tys : List (ClassId × FieldType)) (A : Nat → Prop) (nL : Nat) (cc : ByteArray) (own : String) (Ts : List Cond) : Prop :=
  p.tables.exec = Jvm.exec ∧ c.code = cc ∧ c.maxLocals = nL ∧ s.vm.findClass own = some m.cls ∧ (∀ w ∈ Ts, w.before args s = true) ∧ va_K D vwCl tys s ∧ ∀ q, s.heap.size ≤ q → A q
/-- the walk's goal: world ws, place pc, locals lv, operands st -/
def zW (p : Program) (l : Launch) (e : Env) (R : Room) (s : State) (m : MethodId) (args : Array Value) (below : List Frame) (meth : Method) (c : Code) (D : va_G) (A : Nat → Prop) (Q : State → Prop) (nL : Nat) (ws : va_W) (cells slots pc : Nat) (lv : List (Nat × Value)) (st : List Value) : Prop :=
  ∀ (H : Heap) (locs : List Loc) (ls : Array Slot), va_P D vwCl ws H → va_D A ws → va_S A s.heap H locs → lv_has ls nL lv → W p l e R s m args below meth c H locs cells slots Q (F0 m pc ls st)
theorem zE.hx (E : zE p s m args c D tys A nL cc own Ts) : p.tables.exec = Jvm.exec := E.1
theorem zE.hb (E : zE p s m args c D tys A nL cc own Ts) : c.code = cc := E.2.1
theorem zE.hml (E : zE p s m args c D tys A nL cc own Ts) : c.maxLocals = nL := E.2.2.1
theorem zE.hown (E : zE p s m args c D tys A nL cc own Ts) : s.vm.findClass own = some m.cls := E.2.2.2.1
theorem zE.hts (E : zE p s m args c D tys A nL cc own Ts) : ∀ w ∈ Ts, w.before args s = true := E.2.2.2.2.1
theorem zE.hK (E : zE p s m args c D tys A nL cc own Ts) : va_K D vwCl tys s := E.2.2.2.2.2.1
theorem zE.hA (E : zE p s m args c D tys A nL cc own Ts) : ∀ q, s.heap.size ≤ q → A q := E.2.2.2.2.2.2
theorem z_iconst (E : zE p s m args c D tys A nL cc own Ts) {n : Int} {v : Int32} (d : decode cc pc = .ok (.iconst n, 1)) (hv : Int32.ofInt n = v) (k : zW p l e R s m args below meth c D A Q nL ws cells slots (pc + 1) lv (.int v :: rest)) : zW p l e R s m args below meth c D A Q nL ws cells slots pc lv (rest) := fun H locs ls hP hD hS hl => lv_iconst E.hx E.hb d hv (k H locs ls hP hD hS hl)
theorem z_bipush (E : zE p s m args c D tys A nL cc own Ts) {n : Int} {v : Int32} (d : decode cc pc = .ok (.bipush n, 2)) (hv : (Int8.ofInt n).toInt32 = v) (k : zW p l e R s m args below meth c D A Q nL ws cells slots (pc + 2) lv (.int v :: rest)) : zW p l e R s m args below meth c D A Q nL ws cells slots pc lv (rest) := fun H locs ls hP hD hS hl => lv_bipush E.hx E.hb d hv (k H locs ls hP hD hS hl)
theorem z_sipush (E : zE p s m args c D tys A nL cc own Ts) {n : Int} {v : Int32} (d : decode cc pc = .ok (.sipush n, 3)) (hv : (Int16.ofInt n).toInt32 = v) (k : zW p l e R s m args below meth c D A Q nL ws cells slots (pc + 3) lv (.int v :: rest)) : zW p l e R s m args below meth c D A Q nL ws cells slots pc lv (rest) := fun H locs ls hP hD hS hl => lv_sipush E.hx E.hb d hv (k H locs ls hP hD hS hl)
theorem z_lconst (E : zE p s m args c D tys A nL cc own Ts) {n : Fin 2} {v : Int64} (d : decode cc pc = .ok (.lconst n, 1)) (hv : Int64.ofNat (n : Nat) = v) (k : zW p l e R s m args below meth c D A Q nL ws cells slots (pc + 1) lv (.long v :: rest)) : zW p l e R s m args below meth c D A Q nL ws cells slots pc lv (rest) := fun H locs ls hP hD hS hl => lv_lconst E.hx E.hb d hv (k H locs ls hP hD hS hl)
theorem z_ldc (E : zE p s m args c D tys A nL cc own Ts) {index : Nat} {v : Int32} (d : decode cc pc = .ok (.ldc index, 2)) (hw : Cond.constant own index v ∈ Ts) (k : zW p l e R s m args below meth c D A Q nL ws cells slots (pc + 2) lv (.int v :: rest)) : zW p l e R s m args below meth c D A Q nL ws cells slots pc lv (rest) := fun H locs ls hP hD hS hl => lv_ldc E.hx E.hb E.hown (E.hts _ hw) d (k H locs ls hP hD hS hl)
theorem z_ldcw (E : zE p s m args c D tys A nL cc own Ts) {index : Nat} {v : Int32} (d : decode cc pc = .ok (.ldc_w index, 3)) (hw : Cond.constant own index v ∈ Ts) (k : zW p l e R s m args below meth c D A Q nL ws cells slots (pc + 3) lv (.int v :: rest)) : zW p l e R s m args below meth c D A Q nL ws cells slots pc lv (rest) := fun H locs ls hP hD hS hl => lv_ldcw E.hx E.hb E.hown (E.hts _ hw) d (k H locs ls hP hD hS hl)
theorem z_ldc2 (E : zE p s m args c D tys A nL cc own Ts) {index : Nat} {v : Int64} (d : decode cc pc = .ok (.ldc2_w index, 3)) (hw : Cond.constantLong own index v ∈ Ts) (k : zW p l e R s m args below meth c D A Q nL ws cells slots (pc + 3) lv (.long v :: rest)) : zW p l e R s m args below meth c D A Q nL ws cells slots pc lv (rest) := fun H locs ls hP hD hS hl => lv_ldc2 E.hx E.hb E.hown (E.hts _ hw) d (k H locs ls hP hD hS hl)
theorem z_ldc2d (E : zE p s m args c D tys A nL cc own Ts) {index : Nat} {v : UInt64} (d : decode cc pc = .ok (.ldc2_w index, 3)) (hw : Cond.constantDouble own index v ∈ Ts) (k : zW p l e R s m args below meth c D A Q nL ws cells slots (pc + 3) lv (.double v :: rest)) : zW p l e R s m args below meth c D A Q nL ws cells slots pc lv (rest) := fun H locs ls hP hD hS hl => lv_ldc2d E.hx E.hb E.hown (E.hts _ hw) d (k H locs ls hP hD hS hl)
theorem z_iload_n (E : zE p s m args c D tys A nL cc own Ts) {k0 : Fin 4} {i : Nat} {x : Int32} (d : decode cc pc = .ok (.iload_n k0, 1)) (hi : (k0 : Nat) = i) (q : Nat) (hq : lv[q]? = some (i, .int x)) (k : zW p l e R s m args below meth c D A Q nL ws cells slots (pc + 1) lv (.int x :: rest)) : zW p l e R s m args below meth c D A Q nL ws cells slots pc lv (rest) := fun H locs ls hP hD hS hl => lv_iload_n E.hx E.hb d hi (lv_at hl q hq) (k H locs ls hP hD hS hl)
theorem z_iload (E : zE p s m args c D tys A nL cc own Ts) {i : Nat} {x : Int32} (d : decode cc pc = .ok (.iload i, 2)) (q : Nat) (hq : lv[q]? = some (i, .int x)) (k : zW p l e R s m args below meth c D A Q nL ws cells slots (pc + 2) lv (.int x :: rest)) : zW p l e R s m args below meth c D A Q nL ws cells slots pc lv (rest) := fun H locs ls hP hD hS hl => lv_iload E.hx E.hb d (lv_at hl q hq) (k H locs ls hP hD hS hl)
theorem z_istore_n (E : zE p s m args c D tys A nL cc own Ts) {k0 : Fin 4} {i : Nat} {x : Int32} {lv' : List (Nat × Value)} (d : decode cc pc = .ok (.istore_n k0, 1)) (hi : (k0 : Nat) = i) (hn : i < nL) (hlv : (i, Value.int x) :: lv.filter (fun q => !(q.1 == i) && !(q.1 + 1 == i && q.2.category == 2)) = lv') (k : zW p l e R s m args below meth c D A Q nL ws cells slots (pc + 1) lv' (rest)) : zW p l e R s m args below meth c D A Q nL ws cells slots pc lv (.int x :: rest) := fun H locs ls hP hD hS hl => lv_istore_n E.hx E.hb d hi hl hn hlv (fun ls' hl' => k H locs ls' hP hD hS hl')
theorem z_istore (E : zE p s m args c D tys A nL cc own Ts) {i : Nat} {x : Int32} {lv' : List (Nat × Value)} (d : decode cc pc = .ok (.istore i, 2)) (hn : i < nL) (hlv : (i, Value.int x) :: lv.filter (fun q => !(q.1 == i) && !(q.1 + 1 == i && q.2.category == 2)) = lv') (k : zW p l e R s m args below meth c D A Q nL ws cells slots (pc + 2) lv' (rest)) : zW p l e R s m args below meth c D A Q nL ws cells slots pc lv (.int x :: rest) := fun H locs ls hP hD hS hl => lv_istore E.hx E.hb d hl hn hlv (fun ls' hl' => k H locs ls' hP hD hS hl')
theorem z_aload_n (E : zE p s m args c D tys A nL cc own Ts) {k0 : Fin 4} {i : Nat} {x : Nat} (d : decode cc pc = .ok (.aload_n k0, 1)) (hi : (k0 : Nat) = i) (q : Nat) (hq : lv[q]? = some (i, .ref x)) (k : zW p l e R s m args below meth c D A Q nL ws cells slots (pc + 1) lv (.ref x :: rest)) : zW p l e R s m args below meth c D A Q nL ws cells slots pc lv (rest) := fun H locs ls hP hD hS hl => lv_aload_n E.hx E.hb d hi (lv_at hl q hq) (k H locs ls hP hD hS hl)
theorem z_aload (E : zE p s m args c D tys A nL cc own Ts) {i : Nat} {x : Nat} (d : decode cc pc = .ok (.aload i, 2)) (q : Nat) (hq : lv[q]? = some (i, .ref x)) (k : zW p l e R s m args below meth c D A Q nL ws cells slots (pc + 2) lv (.ref x :: rest)) : zW p l e R s m args below meth c D A Q nL ws cells slots pc lv (rest) := fun H locs ls hP hD hS hl => lv_aload E.hx E.hb d (lv_at hl q hq) (k H locs ls hP hD hS hl)
theorem z_astore_n (E : zE p s m args c D tys A nL cc own Ts) {k0 : Fin 4} {i : Nat} {x : Nat} {lv' : List (Nat × Value)} (d : decode cc pc = .ok (.astore_n k0, 1)) (hi : (k0 : Nat) = i) (hn : i < nL) (hlv : (i, Value.ref x) :: lv.filter (fun q => !(q.1 == i) && !(q.1 + 1 == i && q.2.category == 2)) = lv') (k : zW p l e R s m args below meth c D A Q nL ws cells slots (pc + 1) lv' (rest)) : zW p l e R s m args below meth c D A Q nL ws cells slots pc lv (.ref x :: rest) := fun H locs ls hP hD hS hl => lv_astore_n E.hx E.hb d hi hl hn hlv (fun ls' hl' => k H locs ls' hP hD hS hl')
theorem z_astore (E : zE p s m args c D tys A nL cc own Ts) {i : Nat} {x : Nat} {lv' : List (Nat × Value)} (d : decode cc pc = .ok (.astore i, 2)) (hn : i < nL) (hlv : (i, Value.ref x) :: lv.filter (fun q => !(q.1 == i) && !(q.1 + 1 == i && q.2.category == 2)) = lv') (k : zW p l e R s m args below meth c D A Q nL ws cells slots (pc + 2) lv' (rest)) : zW p l e R s m args below meth c D A Q nL ws cells slots pc lv (.ref x :: rest) := fun H locs ls hP hD hS hl => lv_astore E.hx E.hb d hl hn hlv (fun ls' hl' => k H locs ls' hP hD hS hl')
theorem z_lload_n (E : zE p s m args c D tys A nL cc own Ts) {k0 : Fin 4} {i : Nat} {x : Int64} (d : decode cc pc = .ok (.lload_n k0, 1)) (hi : (k0 : Nat) = i) (q : Nat) (hq : lv[q]? = some (i, .long x)) (k : zW p l e R s m args below meth c D A Q nL ws cells slots (pc + 1) lv (.long x :: rest)) : zW p l e R s m args below meth c D A Q nL ws cells slots pc lv (rest) := fun H locs ls hP hD hS hl => lv_lload_n E.hx E.hb d hi (lv_at hl q hq) (k H locs ls hP hD hS hl)
theorem z_lload (E : zE p s m args c D tys A nL cc own Ts) {i : Nat} {x : Int64} (d : decode cc pc = .ok (.lload i, 2)) (q : Nat) (hq : lv[q]? = some (i, .long x)) (k : zW p l e R s m args below meth c D A Q nL ws cells slots (pc + 2) lv (.long x :: rest)) : zW p l e R s m args below meth c D A Q nL ws cells slots pc lv (rest) := fun H locs ls hP hD hS hl => lv_lload E.hx E.hb d (lv_at hl q hq) (k H locs ls hP hD hS hl)
theorem z_lstore_n (E : zE p s m args c D tys A nL cc own Ts) {k0 : Fin 4} {i : Nat} {x : Int64} {lv' : List (Nat × Value)} (d : decode cc pc = .ok (.lstore_n k0, 1)) (hi : (k0 : Nat) = i) (hn : i + 1 < nL) (hlv : (i, Value.long x) :: lv.filter (fun q => !(q.1 == i) && (!(q.1 == i + 1) && !(q.1 + 1 == i && q.2.category == 2))) = lv') (k : zW p l e R s m args below meth c D A Q nL ws cells slots (pc + 1) lv' (rest)) : zW p l e R s m args below meth c D A Q nL ws cells slots pc lv (.long x :: rest) := fun H locs ls hP hD hS hl => lv_lstore_n E.hx E.hb d hi hl hn hlv (fun ls' hl' => k H locs ls' hP hD hS hl')
theorem z_lstore (E : zE p s m args c D tys A nL cc own Ts) {i : Nat} {x : Int64} {lv' : List (Nat × Value)} (d : decode cc pc = .ok (.lstore i, 2)) (hn : i + 1 < nL) (hlv : (i, Value.long x) :: lv.filter (fun q => !(q.1 == i) && (!(q.1 == i + 1) && !(q.1 + 1 == i && q.2.category == 2))) = lv') (k : zW p l e R s m args below meth c D A Q nL ws cells slots (pc + 2) lv' (rest)) : zW p l e R s m args below meth c D A Q nL ws cells slots pc lv (.long x :: rest) := fun H locs ls hP hD hS hl => lv_lstore E.hx E.hb d hl hn hlv (fun ls' hl' => k H locs ls' hP hD hS hl')
theorem z_dload_n (E : zE p s m args c D tys A nL cc own Ts) {k0 : Fin 4} {i : Nat} {x : UInt64} (d : decode cc pc = .ok (.dload_n k0, 1)) (hi : (k0 : Nat) = i) (q : Nat) (hq : lv[q]? = some (i, .double x)) (k : zW p l e R s m args below meth c D A Q nL ws cells slots (pc + 1) lv (.double x :: rest)) : zW p l e R s m args below meth c D A Q nL ws cells slots pc lv (rest) := fun H locs ls hP hD hS hl => lv_dload_n E.hx E.hb d hi (lv_at hl q hq) (k H locs ls hP hD hS hl)
theorem z_dload (E : zE p s m args c D tys A nL cc own Ts) {i : Nat} {x : UInt64} (d : decode cc pc = .ok (.dload i, 2)) (q : Nat) (hq : lv[q]? = some (i, .double x)) (k : zW p l e R s m args below meth c D A Q nL ws cells slots (pc + 2) lv (.double x :: rest)) : zW p l e R s m args below meth c D A Q nL ws cells slots pc lv (rest) := fun H locs ls hP hD hS hl => lv_dload E.hx E.hb d (lv_at hl q hq) (k H locs ls hP hD hS hl)
theorem z_dstore_n (E : zE p s m args c D tys A nL cc own Ts) {k0 : Fin 4} {i : Nat} {x : UInt64} {lv' : List (Nat × Value)} (d : decode cc pc = .ok (.dstore_n k0, 1)) (hi : (k0 : Nat) = i) (hn : i + 1 < nL) (hlv : (i, Value.double x) :: lv.filter (fun q => !(q.1 == i) && (!(q.1 == i + 1) && !(q.1 + 1 == i && q.2.category == 2))) = lv') (k : zW p l e R s m args below meth c D A Q nL ws cells slots (pc + 1) lv' (rest)) : zW p l e R s m args below meth c D A Q nL ws cells slots pc lv (.double x :: rest) := fun H locs ls hP hD hS hl => lv_dstore_n E.hx E.hb d hi hl hn hlv (fun ls' hl' => k H locs ls' hP hD hS hl')
theorem z_dstore (E : zE p s m args c D tys A nL cc own Ts) {i : Nat} {x : UInt64} {lv' : List (Nat × Value)} (d : decode cc pc = .ok (.dstore i, 2)) (hn : i + 1 < nL) (hlv : (i, Value.double x) :: lv.filter (fun q => !(q.1 == i) && (!(q.1 == i + 1) && !(q.1 + 1 == i && q.2.category == 2))) = lv') (k : zW p l e R s m args below meth c D A Q nL ws cells slots (pc + 2) lv' (rest)) : zW p l e R s m args below meth c D A Q nL ws cells slots pc lv (.double x :: rest) := fun H locs ls hP hD hS hl => lv_dstore E.hx E.hb d hl hn hlv (fun ls' hl' => k H locs ls' hP hD hS hl')
theorem z_iinc (E : zE p s m args c D tys A nL cc own Ts) {i q : Nat} {n : Int} {x v : Int32} {lv' : List (Nat × Value)} (d : decode cc pc = .ok (.iinc i n, 3)) (hq : lv[q]? = some (i, .int x)) (hv : x + Int32.ofInt n = v) (hn : i < nL) (hlv : (i, Value.int v) :: lv.filter (fun q => !(q.1 == i) && !(q.1 + 1 == i && q.2.category == 2)) = lv') (k : zW p l e R s m args below meth c D A Q nL ws cells slots (pc + 3) lv' (rest)) : zW p l e R s m args below meth c D A Q nL ws cells slots pc lv (rest) := fun H locs ls hP hD hS hl => lv_iinc E.hx E.hb d hl hq hv hn hlv (fun ls' hl' => k H locs ls' hP hD hS hl')
theorem z_iadd (E : zE p s m args c D tys A nL cc own Ts) {x y : Int32} (d : decode cc pc = .ok (.iadd, 1)) (k : zW p l e R s m args below meth c D A Q nL ws cells slots (pc + 1) lv (.int (x + y) :: rest)) : zW p l e R s m args below meth c D A Q nL ws cells slots pc lv (.int y :: .int x :: rest) := fun H locs ls hP hD hS hl => lv_iadd E.hx E.hb d (k H locs ls hP hD hS hl)
theorem z_isub (E : zE p s m args c D tys A nL cc own Ts) {x y : Int32} (d : decode cc pc = .ok (.isub, 1)) (k : zW p l e R s m args below meth c D A Q nL ws cells slots (pc + 1) lv (.int (x - y) :: rest)) : zW p l e R s m args below meth c D A Q nL ws cells slots pc lv (.int y :: .int x :: rest) := fun H locs ls hP hD hS hl => lv_isub E.hx E.hb d (k H locs ls hP hD hS hl)
theorem z_imul (E : zE p s m args c D tys A nL cc own Ts) {x y : Int32} (d : decode cc pc = .ok (.imul, 1)) (k : zW p l e R s m args below meth c D A Q nL ws cells slots (pc + 1) lv (.int (x * y) :: rest)) : zW p l e R s m args below meth c D A Q nL ws cells slots pc lv (.int y :: .int x :: rest) := fun H locs ls hP hD hS hl => lv_imul E.hx E.hb d (k H locs ls hP hD hS hl)
theorem z_iand (E : zE p s m args c D tys A nL cc own Ts) {x y : Int32} (d : decode cc pc = .ok (.iand, 1)) (k : zW p l e R s m args below meth c D A Q nL ws cells slots (pc + 1) lv (.int (x &&& y) :: rest)) : zW p l e R s m args below meth c D A Q nL ws cells slots pc lv (.int y :: .int x :: rest) := fun H locs ls hP hD hS hl => lv_iand E.hx E.hb d (k H locs ls hP hD hS hl)
theorem z_ior (E : zE p s m args c D tys A nL cc own Ts) {x y : Int32} (d : decode cc pc = .ok (.ior, 1)) (k : zW p l e R s m args below meth c D A Q nL ws cells slots (pc + 1) lv (.int (x ||| y) :: rest)) : zW p l e R s m args below meth c D A Q nL ws cells slots pc lv (.int y :: .int x :: rest) := fun H locs ls hP hD hS hl => lv_ior E.hx E.hb d (k H locs ls hP hD hS hl)
theorem z_ixor (E : zE p s m args c D tys A nL cc own Ts) {x y : Int32} (d : decode cc pc = .ok (.ixor, 1)) (k : zW p l e R s m args below meth c D A Q nL ws cells slots (pc + 1) lv (.int (x ^^^ y) :: rest)) : zW p l e R s m args below meth c D A Q nL ws cells slots pc lv (.int y :: .int x :: rest) := fun H locs ls hP hD hS hl => lv_ixor E.hx E.hb d (k H locs ls hP hD hS hl)
theorem z_iaddV (E : zE p s m args c D tys A nL cc own Ts) {x y v : Int32} (d : decode cc pc = .ok (.iadd, 1)) (hv : x + y = v) (k : zW p l e R s m args below meth c D A Q nL ws cells slots (pc + 1) lv (.int v :: rest)) : zW p l e R s m args below meth c D A Q nL ws cells slots pc lv (.int y :: .int x :: rest) := fun H locs ls hP hD hS hl => lv_iadd E.hx E.hb d (by rw [hv]; exact (k H locs ls hP hD hS hl))
theorem z_isubV (E : zE p s m args c D tys A nL cc own Ts) {x y v : Int32} (d : decode cc pc = .ok (.isub, 1)) (hv : x - y = v) (k : zW p l e R s m args below meth c D A Q nL ws cells slots (pc + 1) lv (.int v :: rest)) : zW p l e R s m args below meth c D A Q nL ws cells slots pc lv (.int y :: .int x :: rest) := fun H locs ls hP hD hS hl => lv_isub E.hx E.hb d (by rw [hv]; exact (k H locs ls hP hD hS hl))
theorem z_imulV (E : zE p s m args c D tys A nL cc own Ts) {x y v : Int32} (d : decode cc pc = .ok (.imul, 1)) (hv : x * y = v) (k : zW p l e R s m args below meth c D A Q nL ws cells slots (pc + 1) lv (.int v :: rest)) : zW p l e R s m args below meth c D A Q nL ws cells slots pc lv (.int y :: .int x :: rest) := fun H locs ls hP hD hS hl => lv_imul E.hx E.hb d (by rw [hv]; exact (k H locs ls hP hD hS hl))
theorem z_iorV (E : zE p s m args c D tys A nL cc own Ts) {x y v : Int32} (d : decode cc pc = .ok (.ior, 1)) (hv : x ||| y = v) (k : zW p l e R s m args below meth c D A Q nL ws cells slots (pc + 1) lv (.int v :: rest)) : zW p l e R s m args below meth c D A Q nL ws cells slots pc lv (.int y :: .int x :: rest) := fun H locs ls hP hD hS hl => lv_ior E.hx E.hb d (by rw [hv]; exact (k H locs ls hP hD hS hl))
theorem z_ishl (E : zE p s m args c D tys A nL cc own Ts) {x y : Int32} (d : decode cc pc = .ok (.ishl, 1)) (k : zW p l e R s m args below meth c D A Q nL ws cells slots (pc + 1) lv (.int (x <<< (y &&& 31)) :: rest)) : zW p l e R s m args below meth c D A Q nL ws cells slots pc lv (.int y :: .int x :: rest) := fun H locs ls hP hD hS hl => lv_ishl E.hx E.hb d (k H locs ls hP hD hS hl)
theorem z_idiv (E : zE p s m args c D tys A nL cc own Ts) {x y : Int32} (d : decode cc pc = .ok (.idiv, 1)) (hne : ¬ y = 0) (k : zW p l e R s m args below meth c D A Q nL ws cells slots (pc + 1) lv (.int (x / y) :: rest)) : zW p l e R s m args below meth c D A Q nL ws cells slots pc lv (.int y :: .int x :: rest) := fun H locs ls hP hD hS hl => lv_idiv E.hx E.hb d hne (k H locs ls hP hD hS hl)
theorem z_ineg (E : zE p s m args c D tys A nL cc own Ts) {x : Int32} (d : decode cc pc = .ok (.ineg, 1)) (k : zW p l e R s m args below meth c D A Q nL ws cells slots (pc + 1) lv (.int (-x) :: rest)) : zW p l e R s m args below meth c D A Q nL ws cells slots pc lv (.int x :: rest) := fun H locs ls hP hD hS hl => lv_ineg E.hx E.hb d (k H locs ls hP hD hS hl)
theorem z_i2l (E : zE p s m args c D tys A nL cc own Ts) {x : Int32} {v : Int64} (d : decode cc pc = .ok (.i2l, 1)) (hv : x.toInt64 = v) (k : zW p l e R s m args below meth c D A Q nL ws cells slots (pc + 1) lv (.long v :: rest)) : zW p l e R s m args below meth c D A Q nL ws cells slots pc lv (.int x :: rest) := fun H locs ls hP hD hS hl => lv_i2l E.hx E.hb d hv (k H locs ls hP hD hS hl)
theorem z_i2d (E : zE p s m args c D tys A nL cc own Ts) {x : Int32} (d : decode cc pc = .ok (.i2d, 1)) (k : zW p l e R s m args below meth c D A Q nL ws cells slots (pc + 1) lv (.double (FP.i2d x) :: rest)) : zW p l e R s m args below meth c D A Q nL ws cells slots pc lv (.int x :: rest) := fun H locs ls hP hD hS hl => lv_i2d E.hx E.hb d (k H locs ls hP hD hS hl)
theorem z_d2l (E : zE p s m args c D tys A nL cc own Ts) {x : UInt64} (d : decode cc pc = .ok (.d2l, 1)) (k : zW p l e R s m args below meth c D A Q nL ws cells slots (pc + 1) lv (.long (FP.d2l x) :: rest)) : zW p l e R s m args below meth c D A Q nL ws cells slots pc lv (.double x :: rest) := fun H locs ls hP hD hS hl => lv_d2l E.hx E.hb d (k H locs ls hP hD hS hl)
theorem z_dcmp (E : zE p s m args c D tys A nL cc own Ts) {x y : UInt64} {op : CmpOp} (d : decode cc pc = .ok (.dcmp op, 1)) (k : zW p l e R s m args below meth c D A Q nL ws cells slots (pc + 1) lv (.int (Op.cmpValue (FP.dcmp x y) op) :: rest)) : zW p l e R s m args below meth c D A Q nL ws cells slots pc lv (.double y :: .double x :: rest) := fun H locs ls hP hD hS hl => lv_dcmp E.hx E.hb d (k H locs ls hP hD hS hl)
theorem z_dmul (E : zE p s m args c D tys A nL cc own Ts) {x y : UInt64} (d : decode cc pc = .ok (.dmul, 1)) (hne : vf_n64 (FP.dmul x y)) (k : zW p l e R s m args below meth c D A Q nL ws cells slots (pc + 1) lv (.double (FP.dmul x y) :: rest)) : zW p l e R s m args below meth c D A Q nL ws cells slots pc lv (.double y :: .double x :: rest) := fun H locs ls hP hD hS hl => lv_dmul E.hx E.hb d hne (k H locs ls hP hD hS hl)
theorem z_dsub (E : zE p s m args c D tys A nL cc own Ts) {x y : UInt64} (d : decode cc pc = .ok (.dsub, 1)) (hne : vf_n64 (FP.dsub x y)) (k : zW p l e R s m args below meth c D A Q nL ws cells slots (pc + 1) lv (.double (FP.dsub x y) :: rest)) : zW p l e R s m args below meth c D A Q nL ws cells slots pc lv (.double y :: .double x :: rest) := fun H locs ls hP hD hS hl => lv_dsub E.hx E.hb d hne (k H locs ls hP hD hS hl)
theorem z_ddiv (E : zE p s m args c D tys A nL cc own Ts) {x y : UInt64} (d : decode cc pc = .ok (.ddiv, 1)) (hne : vf_n64 (FP.ddiv x y)) (k : zW p l e R s m args below meth c D A Q nL ws cells slots (pc + 1) lv (.double (FP.ddiv x y) :: rest)) : zW p l e R s m args below meth c D A Q nL ws cells slots pc lv (.double y :: .double x :: rest) := fun H locs ls hP hD hS hl => lv_ddiv E.hx E.hb d hne (k H locs ls hP hD hS hl)
theorem z_ladd (E : zE p s m args c D tys A nL cc own Ts) {x y : Int64} (d : decode cc pc = .ok (.ladd, 1)) (k : zW p l e R s m args below meth c D A Q nL ws cells slots (pc + 1) lv (.long (x + y) :: rest)) : zW p l e R s m args below meth c D A Q nL ws cells slots pc lv (.long y :: .long x :: rest) := fun H locs ls hP hD hS hl => lv_ladd E.hx E.hb d (k H locs ls hP hD hS hl)
theorem z_lmul (E : zE p s m args c D tys A nL cc own Ts) {x y : Int64} (d : decode cc pc = .ok (.lmul, 1)) (k : zW p l e R s m args below meth c D A Q nL ws cells slots (pc + 1) lv (.long (x * y) :: rest)) : zW p l e R s m args below meth c D A Q nL ws cells slots pc lv (.long y :: .long x :: rest) := fun H locs ls hP hD hS hl => lv_lmul E.hx E.hb d (k H locs ls hP hD hS hl)
theorem z_lsub (E : zE p s m args c D tys A nL cc own Ts) {x y : Int64} (d : decode cc pc = .ok (.lsub, 1)) (k : zW p l e R s m args below meth c D A Q nL ws cells slots (pc + 1) lv (.long (x - y) :: rest)) : zW p l e R s m args below meth c D A Q nL ws cells slots pc lv (.long y :: .long x :: rest) := fun H locs ls hP hD hS hl => lv_lsub E.hx E.hb d (k H locs ls hP hD hS hl)
theorem z_lshl (E : zE p s m args c D tys A nL cc own Ts) {x v : Int64} {y : Int32} (d : decode cc pc = .ok (.lshl, 1)) (hv : x <<< (y.toInt64 &&& 63) = v) (k : zW p l e R s m args below meth c D A Q nL ws cells slots (pc + 1) lv (.long v :: rest)) : zW p l e R s m args below meth c D A Q nL ws cells slots pc lv (.int y :: .long x :: rest) := fun H locs ls hP hD hS hl => lv_lshl E.hx E.hb d hv (k H locs ls hP hD hS hl)
theorem z_dup (E : zE p s m args c D tys A nL cc own Ts) {va : Value} (d : decode cc pc = .ok (.dup, 1)) (hva : va.category = 1) (k : zW p l e R s m args below meth c D A Q nL ws cells slots (pc + 1) lv (va :: va :: rest)) : zW p l e R s m args below meth c D A Q nL ws cells slots pc lv (va :: rest) := fun H locs ls hP hD hS hl => lv_dup E.hx E.hb d hva (k H locs ls hP hD hS hl)
theorem z_dup2 (E : zE p s m args c D tys A nL cc own Ts) {va vb : Value} (d : decode cc pc = .ok (.dup2, 1)) (hva : va.category = 1) (hvb : vb.category = 1) (k : zW p l e R s m args below meth c D A Q nL ws cells slots (pc + 1) lv (va :: vb :: va :: vb :: rest)) : zW p l e R s m args below meth c D A Q nL ws cells slots pc lv (va :: vb :: rest) := fun H locs ls hP hD hS hl => lv_dup2_11 E.hx E.hb d hva hvb (k H locs ls hP hD hS hl)
theorem z_pop (E : zE p s m args c D tys A nL cc own Ts) {va : Value} (d : decode cc pc = .ok (.pop, 1)) (hva : va.category = 1) (k : zW p l e R s m args below meth c D A Q nL ws cells slots (pc + 1) lv (rest)) : zW p l e R s m args below meth c D A Q nL ws cells slots pc lv (va :: rest) := fun H locs ls hP hD hS hl => lv_pop E.hx E.hb d hva (k H locs ls hP hD hS hl)
theorem z_goto (E : zE p s m args c D tys A nL cc own Ts) {off : Int} {tgt : Nat} (d : decode cc pc = .ok (.goto off, 3)) (ht : (pc : Int) + off = (tgt : Int)) (k : zW p l e R s m args below meth c D A Q nL ws cells slots tgt lv rest) : zW p l e R s m args below meth c D A Q nL ws cells slots pc lv rest := fun H locs ls hP hD hS hl => lv_goto E.hx E.hb d ht (k H locs ls hP hD hS hl)
theorem z_if_eq (E : zE p s m args c D tys A nL cc own Ts) {x : Int32} {off : Int} {tgt : Nat} (d : decode cc pc = .ok (.ifCond .eq off, 3)) (ht : (pc : Int) + off = (tgt : Int)) (kt : (x = 0) → zW p l e R s m args below meth c D A Q nL ws cells slots tgt lv rest) (kf : ¬ (x = 0) → zW p l e R s m args below meth c D A Q nL ws cells slots (pc + 3) lv rest) : zW p l e R s m args below meth c D A Q nL ws cells slots pc lv (.int x :: rest) := fun H locs ls hP hD hS hl => lv_if_eq E.hx E.hb d ht (fun h => kt h H locs ls hP hD hS hl) (fun h => kf h H locs ls hP hD hS hl)
theorem z_if_eq_t (E : zE p s m args c D tys A nL cc own Ts) {x : Int32} {off : Int} {tgt : Nat} (d : decode cc pc = .ok (.ifCond .eq off, 3)) (ht : (pc : Int) + off = (tgt : Int)) (h0 : (x = 0)) (kt : zW p l e R s m args below meth c D A Q nL ws cells slots tgt lv rest) : zW p l e R s m args below meth c D A Q nL ws cells slots pc lv (.int x :: rest) := z_if_eq E d ht (fun _ => kt) (fun h => absurd h0 h)
theorem z_if_eq_f (E : zE p s m args c D tys A nL cc own Ts) {x : Int32} {off : Int} {tgt : Nat} (d : decode cc pc = .ok (.ifCond .eq off, 3)) (ht : (pc : Int) + off = (tgt : Int)) (h0 : ¬ (x = 0)) (kf : zW p l e R s m args below meth c D A Q nL ws cells slots (pc + 3) lv rest) : zW p l e R s m args below meth c D A Q nL ws cells slots pc lv (.int x :: rest) := z_if_eq E d ht (fun h => absurd h h0) (fun _ => kf)
theorem z_icmp_eq (E : zE p s m args c D tys A nL cc own Ts) {x y : Int32} {off : Int} {tgt : Nat} (d : decode cc pc = .ok (.if_icmp .eq off, 3)) (ht : (pc : Int) + off = (tgt : Int)) (kt : (x = y) → zW p l e R s m args below meth c D A Q nL ws cells slots tgt lv rest) (kf : ¬ (x = y) → zW p l e R s m args below meth c D A Q nL ws cells slots (pc + 3) lv rest) : zW p l e R s m args below meth c D A Q nL ws cells slots pc lv (.int y :: .int x :: rest) := fun H locs ls hP hD hS hl => lv_icmp_eq E.hx E.hb d ht (fun h => kt h H locs ls hP hD hS hl) (fun h => kf h H locs ls hP hD hS hl)
theorem z_icmp_eq_t (E : zE p s m args c D tys A nL cc own Ts) {x y : Int32} {off : Int} {tgt : Nat} (d : decode cc pc = .ok (.if_icmp .eq off, 3)) (ht : (pc : Int) + off = (tgt : Int)) (h0 : (x = y)) (kt : zW p l e R s m args below meth c D A Q nL ws cells slots tgt lv rest) : zW p l e R s m args below meth c D A Q nL ws cells slots pc lv (.int y :: .int x :: rest) := z_icmp_eq E d ht (fun _ => kt) (fun h => absurd h0 h)
theorem z_icmp_eq_f (E : zE p s m args c D tys A nL cc own Ts) {x y : Int32} {off : Int} {tgt : Nat} (d : decode cc pc = .ok (.if_icmp .eq off, 3)) (ht : (pc : Int) + off = (tgt : Int)) (h0 : ¬ (x = y)) (kf : zW p l e R s m args below meth c D A Q nL ws cells slots (pc + 3) lv rest) : zW p l e R s m args below meth c D A Q nL ws cells slots pc lv (.int y :: .int x :: rest) := z_icmp_eq E d ht (fun h => absurd h h0) (fun _ => kf)
theorem z_if_ne (E : zE p s m args c D tys A nL cc own Ts) {x : Int32} {off : Int} {tgt : Nat} (d : decode cc pc = .ok (.ifCond .ne off, 3)) (ht : (pc : Int) + off = (tgt : Int)) (kt : (¬ x = 0) → zW p l e R s m args below meth c D A Q nL ws cells slots tgt lv rest) (kf : (x = 0) → zW p l e R s m args below meth c D A Q nL ws cells slots (pc + 3) lv rest) : zW p l e R s m args below meth c D A Q nL ws cells slots pc lv (.int x :: rest) := fun H locs ls hP hD hS hl => lv_if_ne E.hx E.hb d ht (fun h => kt h H locs ls hP hD hS hl) (fun h => kf h H locs ls hP hD hS hl)
theorem z_if_ne_t (E : zE p s m args c D tys A nL cc own Ts) {x : Int32} {off : Int} {tgt : Nat} (d : decode cc pc = .ok (.ifCond .ne off, 3)) (ht : (pc : Int) + off = (tgt : Int)) (h0 : (¬ x = 0)) (kt : zW p l e R s m args below meth c D A Q nL ws cells slots tgt lv rest) : zW p l e R s m args below meth c D A Q nL ws cells slots pc lv (.int x :: rest) := z_if_ne E d ht (fun _ => kt) (fun h => absurd h h0)
theorem z_if_ne_f (E : zE p s m args c D tys A nL cc own Ts) {x : Int32} {off : Int} {tgt : Nat} (d : decode cc pc = .ok (.ifCond .ne off, 3)) (ht : (pc : Int) + off = (tgt : Int)) (h0 : (x = 0)) (kf : zW p l e R s m args below meth c D A Q nL ws cells slots (pc + 3) lv rest) : zW p l e R s m args below meth c D A Q nL ws cells slots pc lv (.int x :: rest) := z_if_ne E d ht (fun h => absurd h0 h) (fun _ => kf)
theorem z_icmp_ne (E : zE p s m args c D tys A nL cc own Ts) {x y : Int32} {off : Int} {tgt : Nat} (d : decode cc pc = .ok (.if_icmp .ne off, 3)) (ht : (pc : Int) + off = (tgt : Int)) (kt : (¬ x = y) → zW p l e R s m args below meth c D A Q nL ws cells slots tgt lv rest) (kf : (x = y) → zW p l e R s m args below meth c D A Q nL ws cells slots (pc + 3) lv rest) : zW p l e R s m args below meth c D A Q nL ws cells slots pc lv (.int y :: .int x :: rest) := fun H locs ls hP hD hS hl => lv_icmp_ne E.hx E.hb d ht (fun h => kt h H locs ls hP hD hS hl) (fun h => kf h H locs ls hP hD hS hl)
theorem z_icmp_ne_t (E : zE p s m args c D tys A nL cc own Ts) {x y : Int32} {off : Int} {tgt : Nat} (d : decode cc pc = .ok (.if_icmp .ne off, 3)) (ht : (pc : Int) + off = (tgt : Int)) (h0 : (¬ x = y)) (kt : zW p l e R s m args below meth c D A Q nL ws cells slots tgt lv rest) : zW p l e R s m args below meth c D A Q nL ws cells slots pc lv (.int y :: .int x :: rest) := z_icmp_ne E d ht (fun _ => kt) (fun h => absurd h h0)
theorem z_icmp_ne_f (E : zE p s m args c D tys A nL cc own Ts) {x y : Int32} {off : Int} {tgt : Nat} (d : decode cc pc = .ok (.if_icmp .ne off, 3)) (ht : (pc : Int) + off = (tgt : Int)) (h0 : (x = y)) (kf : zW p l e R s m args below meth c D A Q nL ws cells slots (pc + 3) lv rest) : zW p l e R s m args below meth c D A Q nL ws cells slots pc lv (.int y :: .int x :: rest) := z_icmp_ne E d ht (fun h => absurd h0 h) (fun _ => kf)
theorem z_if_lt (E : zE p s m args c D tys A nL cc own Ts) {x : Int32} {off : Int} {tgt : Nat} (d : decode cc pc = .ok (.ifCond .lt off, 3)) (ht : (pc : Int) + off = (tgt : Int)) (kt : (x < 0) → zW p l e R s m args below meth c D A Q nL ws cells slots tgt lv rest) (kf : ¬ (x < 0) → zW p l e R s m args below meth c D A Q nL ws cells slots (pc + 3) lv rest) : zW p l e R s m args below meth c D A Q nL ws cells slots pc lv (.int x :: rest) := fun H locs ls hP hD hS hl => lv_if_lt E.hx E.hb d ht (fun h => kt h H locs ls hP hD hS hl) (fun h => kf h H locs ls hP hD hS hl)
theorem z_if_lt_t (E : zE p s m args c D tys A nL cc own Ts) {x : Int32} {off : Int} {tgt : Nat} (d : decode cc pc = .ok (.ifCond .lt off, 3)) (ht : (pc : Int) + off = (tgt : Int)) (h0 : (x < 0)) (kt : zW p l e R s m args below meth c D A Q nL ws cells slots tgt lv rest) : zW p l e R s m args below meth c D A Q nL ws cells slots pc lv (.int x :: rest) := z_if_lt E d ht (fun _ => kt) (fun h => absurd h0 h)
theorem z_if_lt_f (E : zE p s m args c D tys A nL cc own Ts) {x : Int32} {off : Int} {tgt : Nat} (d : decode cc pc = .ok (.ifCond .lt off, 3)) (ht : (pc : Int) + off = (tgt : Int)) (h0 : ¬ (x < 0)) (kf : zW p l e R s m args below meth c D A Q nL ws cells slots (pc + 3) lv rest) : zW p l e R s m args below meth c D A Q nL ws cells slots pc lv (.int x :: rest) := z_if_lt E d ht (fun h => absurd h h0) (fun _ => kf)
theorem z_icmp_lt (E : zE p s m args c D tys A nL cc own Ts) {x y : Int32} {off : Int} {tgt : Nat} (d : decode cc pc = .ok (.if_icmp .lt off, 3)) (ht : (pc : Int) + off = (tgt : Int)) (kt : (x < y) → zW p l e R s m args below meth c D A Q nL ws cells slots tgt lv rest) (kf : ¬ (x < y) → zW p l e R s m args below meth c D A Q nL ws cells slots (pc + 3) lv rest) : zW p l e R s m args below meth c D A Q nL ws cells slots pc lv (.int y :: .int x :: rest) := fun H locs ls hP hD hS hl => lv_icmp_lt E.hx E.hb d ht (fun h => kt h H locs ls hP hD hS hl) (fun h => kf h H locs ls hP hD hS hl)
theorem z_icmp_lt_t (E : zE p s m args c D tys A nL cc own Ts) {x y : Int32} {off : Int} {tgt : Nat} (d : decode cc pc = .ok (.if_icmp .lt off, 3)) (ht : (pc : Int) + off = (tgt : Int)) (h0 : (x < y)) (kt : zW p l e R s m args below meth c D A Q nL ws cells slots tgt lv rest) : zW p l e R s m args below meth c D A Q nL ws cells slots pc lv (.int y :: .int x :: rest) := z_icmp_lt E d ht (fun _ => kt) (fun h => absurd h0 h)
theorem z_icmp_lt_f (E : zE p s m args c D tys A nL cc own Ts) {x y : Int32} {off : Int} {tgt : Nat} (d : decode cc pc = .ok (.if_icmp .lt off, 3)) (ht : (pc : Int) + off = (tgt : Int)) (h0 : ¬ (x < y)) (kf : zW p l e R s m args below meth c D A Q nL ws cells slots (pc + 3) lv rest) : zW p l e R s m args below meth c D A Q nL ws cells slots pc lv (.int y :: .int x :: rest) := z_icmp_lt E d ht (fun h => absurd h h0) (fun _ => kf)
theorem z_if_ge (E : zE p s m args c D tys A nL cc own Ts) {x : Int32} {off : Int} {tgt : Nat} (d : decode cc pc = .ok (.ifCond .ge off, 3)) (ht : (pc : Int) + off = (tgt : Int)) (kt : (0 ≤ x) → zW p l e R s m args below meth c D A Q nL ws cells slots tgt lv rest) (kf : ¬ (0 ≤ x) → zW p l e R s m args below meth c D A Q nL ws cells slots (pc + 3) lv rest) : zW p l e R s m args below meth c D A Q nL ws cells slots pc lv (.int x :: rest) := fun H locs ls hP hD hS hl => lv_if_ge E.hx E.hb d ht (fun h => kt h H locs ls hP hD hS hl) (fun h => kf h H locs ls hP hD hS hl)
theorem z_if_ge_t (E : zE p s m args c D tys A nL cc own Ts) {x : Int32} {off : Int} {tgt : Nat} (d : decode cc pc = .ok (.ifCond .ge off, 3)) (ht : (pc : Int) + off = (tgt : Int)) (h0 : (0 ≤ x)) (kt : zW p l e R s m args below meth c D A Q nL ws cells slots tgt lv rest) : zW p l e R s m args below meth c D A Q nL ws cells slots pc lv (.int x :: rest) := z_if_ge E d ht (fun _ => kt) (fun h => absurd h0 h)
theorem z_if_ge_f (E : zE p s m args c D tys A nL cc own Ts) {x : Int32} {off : Int} {tgt : Nat} (d : decode cc pc = .ok (.ifCond .ge off, 3)) (ht : (pc : Int) + off = (tgt : Int)) (h0 : ¬ (0 ≤ x)) (kf : zW p l e R s m args below meth c D A Q nL ws cells slots (pc + 3) lv rest) : zW p l e R s m args below meth c D A Q nL ws cells slots pc lv (.int x :: rest) := z_if_ge E d ht (fun h => absurd h h0) (fun _ => kf)
theorem z_icmp_ge (E : zE p s m args c D tys A nL cc own Ts) {x y : Int32} {off : Int} {tgt : Nat} (d : decode cc pc = .ok (.if_icmp .ge off, 3)) (ht : (pc : Int) + off = (tgt : Int)) (kt : (y ≤ x) → zW p l e R s m args below meth c D A Q nL ws cells slots tgt lv rest) (kf : ¬ (y ≤ x) → zW p l e R s m args below meth c D A Q nL ws cells slots (pc + 3) lv rest) : zW p l e R s m args below meth c D A Q nL ws cells slots pc lv (.int y :: .int x :: rest) := fun H locs ls hP hD hS hl => lv_icmp_ge E.hx E.hb d ht (fun h => kt h H locs ls hP hD hS hl) (fun h => kf h H locs ls hP hD hS hl)
theorem z_icmp_ge_t (E : zE p s m args c D tys A nL cc own Ts) {x y : Int32} {off : Int} {tgt : Nat} (d : decode cc pc = .ok (.if_icmp .ge off, 3)) (ht : (pc : Int) + off = (tgt : Int)) (h0 : (y ≤ x)) (kt : zW p l e R s m args below meth c D A Q nL ws cells slots tgt lv rest) : zW p l e R s m args below meth c D A Q nL ws cells slots pc lv (.int y :: .int x :: rest) := z_icmp_ge E d ht (fun _ => kt) (fun h => absurd h0 h)
theorem z_icmp_ge_f (E : zE p s m args c D tys A nL cc own Ts) {x y : Int32} {off : Int} {tgt : Nat} (d : decode cc pc = .ok (.if_icmp .ge off, 3)) (ht : (pc : Int) + off = (tgt : Int)) (h0 : ¬ (y ≤ x)) (kf : zW p l e R s m args below meth c D A Q nL ws cells slots (pc + 3) lv rest) : zW p l e R s m args below meth c D A Q nL ws cells slots pc lv (.int y :: .int x :: rest) := z_icmp_ge E d ht (fun h => absurd h h0) (fun _ => kf)
theorem z_if_gt (E : zE p s m args c D tys A nL cc own Ts) {x : Int32} {off : Int} {tgt : Nat} (d : decode cc pc = .ok (.ifCond .gt off, 3)) (ht : (pc : Int) + off = (tgt : Int)) (kt : (0 < x) → zW p l e R s m args below meth c D A Q nL ws cells slots tgt lv rest) (kf : ¬ (0 < x) → zW p l e R s m args below meth c D A Q nL ws cells slots (pc + 3) lv rest) : zW p l e R s m args below meth c D A Q nL ws cells slots pc lv (.int x :: rest) := fun H locs ls hP hD hS hl => lv_if_gt E.hx E.hb d ht (fun h => kt h H locs ls hP hD hS hl) (fun h => kf h H locs ls hP hD hS hl)
theorem z_if_gt_t (E : zE p s m args c D tys A nL cc own Ts) {x : Int32} {off : Int} {tgt : Nat} (d : decode cc pc = .ok (.ifCond .gt off, 3)) (ht : (pc : Int) + off = (tgt : Int)) (h0 : (0 < x)) (kt : zW p l e R s m args below meth c D A Q nL ws cells slots tgt lv rest) : zW p l e R s m args below meth c D A Q nL ws cells slots pc lv (.int x :: rest) := z_if_gt E d ht (fun _ => kt) (fun h => absurd h0 h)
theorem z_if_gt_f (E : zE p s m args c D tys A nL cc own Ts) {x : Int32} {off : Int} {tgt : Nat} (d : decode cc pc = .ok (.ifCond .gt off, 3)) (ht : (pc : Int) + off = (tgt : Int)) (h0 : ¬ (0 < x)) (kf : zW p l e R s m args below meth c D A Q nL ws cells slots (pc + 3) lv rest) : zW p l e R s m args below meth c D A Q nL ws cells slots pc lv (.int x :: rest) := z_if_gt E d ht (fun h => absurd h h0) (fun _ => kf)
theorem z_icmp_gt (E : zE p s m args c D tys A nL cc own Ts) {x y : Int32} {off : Int} {tgt : Nat} (d : decode cc pc = .ok (.if_icmp .gt off, 3)) (ht : (pc : Int) + off = (tgt : Int)) (kt : (y < x) → zW p l e R s m args below meth c D A Q nL ws cells slots tgt lv rest) (kf : ¬ (y < x) → zW p l e R s m args below meth c D A Q nL ws cells slots (pc + 3) lv rest) : zW p l e R s m args below meth c D A Q nL ws cells slots pc lv (.int y :: .int x :: rest) := fun H locs ls hP hD hS hl => lv_icmp_gt E.hx E.hb d ht (fun h => kt h H locs ls hP hD hS hl) (fun h => kf h H locs ls hP hD hS hl)
theorem z_icmp_gt_t (E : zE p s m args c D tys A nL cc own Ts) {x y : Int32} {off : Int} {tgt : Nat} (d : decode cc pc = .ok (.if_icmp .gt off, 3)) (ht : (pc : Int) + off = (tgt : Int)) (h0 : (y < x)) (kt : zW p l e R s m args below meth c D A Q nL ws cells slots tgt lv rest) : zW p l e R s m args below meth c D A Q nL ws cells slots pc lv (.int y :: .int x :: rest) := z_icmp_gt E d ht (fun _ => kt) (fun h => absurd h0 h)
theorem z_icmp_gt_f (E : zE p s m args c D tys A nL cc own Ts) {x y : Int32} {off : Int} {tgt : Nat} (d : decode cc pc = .ok (.if_icmp .gt off, 3)) (ht : (pc : Int) + off = (tgt : Int)) (h0 : ¬ (y < x)) (kf : zW p l e R s m args below meth c D A Q nL ws cells slots (pc + 3) lv rest) : zW p l e R s m args below meth c D A Q nL ws cells slots pc lv (.int y :: .int x :: rest) := z_icmp_gt E d ht (fun h => absurd h h0) (fun _ => kf)
theorem z_if_le (E : zE p s m args c D tys A nL cc own Ts) {x : Int32} {off : Int} {tgt : Nat} (d : decode cc pc = .ok (.ifCond .le off, 3)) (ht : (pc : Int) + off = (tgt : Int)) (kt : (x ≤ 0) → zW p l e R s m args below meth c D A Q nL ws cells slots tgt lv rest) (kf : ¬ (x ≤ 0) → zW p l e R s m args below meth c D A Q nL ws cells slots (pc + 3) lv rest) : zW p l e R s m args below meth c D A Q nL ws cells slots pc lv (.int x :: rest) := fun H locs ls hP hD hS hl => lv_if_le E.hx E.hb d ht (fun h => kt h H locs ls hP hD hS hl) (fun h => kf h H locs ls hP hD hS hl)
theorem z_if_le_t (E : zE p s m args c D tys A nL cc own Ts) {x : Int32} {off : Int} {tgt : Nat} (d : decode cc pc = .ok (.ifCond .le off, 3)) (ht : (pc : Int) + off = (tgt : Int)) (h0 : (x ≤ 0)) (kt : zW p l e R s m args below meth c D A Q nL ws cells slots tgt lv rest) : zW p l e R s m args below meth c D A Q nL ws cells slots pc lv (.int x :: rest) := z_if_le E d ht (fun _ => kt) (fun h => absurd h0 h)
theorem z_if_le_f (E : zE p s m args c D tys A nL cc own Ts) {x : Int32} {off : Int} {tgt : Nat} (d : decode cc pc = .ok (.ifCond .le off, 3)) (ht : (pc : Int) + off = (tgt : Int)) (h0 : ¬ (x ≤ 0)) (kf : zW p l e R s m args below meth c D A Q nL ws cells slots (pc + 3) lv rest) : zW p l e R s m args below meth c D A Q nL ws cells slots pc lv (.int x :: rest) := z_if_le E d ht (fun h => absurd h h0) (fun _ => kf)
theorem z_icmp_le (E : zE p s m args c D tys A nL cc own Ts) {x y : Int32} {off : Int} {tgt : Nat} (d : decode cc pc = .ok (.if_icmp .le off, 3)) (ht : (pc : Int) + off = (tgt : Int)) (kt : (x ≤ y) → zW p l e R s m args below meth c D A Q nL ws cells slots tgt lv rest) (kf : ¬ (x ≤ y) → zW p l e R s m args below meth c D A Q nL ws cells slots (pc + 3) lv rest) : zW p l e R s m args below meth c D A Q nL ws cells slots pc lv (.int y :: .int x :: rest) := fun H locs ls hP hD hS hl => lv_icmp_le E.hx E.hb d ht (fun h => kt h H locs ls hP hD hS hl) (fun h => kf h H locs ls hP hD hS hl)
theorem z_icmp_le_t (E : zE p s m args c D tys A nL cc own Ts) {x y : Int32} {off : Int} {tgt : Nat} (d : decode cc pc = .ok (.if_icmp .le off, 3)) (ht : (pc : Int) + off = (tgt : Int)) (h0 : (x ≤ y)) (kt : zW p l e R s m args below meth c D A Q nL ws cells slots tgt lv rest) : zW p l e R s m args below meth c D A Q nL ws cells slots pc lv (.int y :: .int x :: rest) := z_icmp_le E d ht (fun _ => kt) (fun h => absurd h0 h)
theorem z_icmp_le_f (E : zE p s m args c D tys A nL cc own Ts) {x y : Int32} {off : Int} {tgt : Nat} (d : decode cc pc = .ok (.if_icmp .le off, 3)) (ht : (pc : Int) + off = (tgt : Int)) (h0 : ¬ (x ≤ y)) (kf : zW p l e R s m args below meth c D A Q nL ws cells slots (pc + 3) lv rest) : zW p l e R s m args below meth c D A Q nL ws cells slots pc lv (.int y :: .int x :: rest) := z_icmp_le E d ht (fun h => absurd h h0) (fun _ => kf)
theorem z_lookup (E : zE p s m args c D tys A nL cc own Ts) {dflt : Int} {ps : Array (Int × Int)} {len : Nat} {x : Int32} {off : Int} {tgt : Nat} (d : decode cc pc = .ok (.lookupswitch dflt ps, len)) (hp : (ps.toList.zip (ps.toList.drop 1)).all (fun (a, next) => a.1 < next.1) = true) (ho : Op.lookupswitch.offset ps.toList dflt x.toInt = off) (ht : (pc : Int) + off = (tgt : Int)) (k : zW p l e R s m args below meth c D A Q nL ws cells slots tgt lv rest) : zW p l e R s m args below meth c D A Q nL ws cells slots pc lv (.int x :: rest) := fun H locs ls hP hD hS hl => lv_lookup E.hx E.hb d hp ho ht (k H locs ls hP hD hS hl)
theorem z_tableOut (E : zE p s m args c D tys A nL cc own Ts) {dflt lo hi : Int} {offs : Array Int} {len : Nat} {x : Int32} {tgt : Nat} (d : decode cc pc = .ok (.tableswitch dflt lo hi offs, len)) (h : x.toInt < lo ∨ hi < x.toInt) (ht : (pc : Int) + dflt = (tgt : Int)) (k : zW p l e R s m args below meth c D A Q nL ws cells slots tgt lv rest) : zW p l e R s m args below meth c D A Q nL ws cells slots pc lv (.int x :: rest) := fun H locs ls hP hD hS hl => lv_tableOut E.hx E.hb d h ht (k H locs ls hP hD hS hl)
theorem z_tableIn (E : zE p s m args c D tys A nL cc own Ts) {dflt lo hi : Int} {offs : Array Int} {len : Nat} {x : Int32} {off : Int} {tgt : Nat} (d : decode cc pc = .ok (.tableswitch dflt lo hi offs, len)) (h1 : ¬ x.toInt < lo) (h2 : ¬ hi < x.toInt) (ho : offs[(x.toInt - lo).toNat]? = some off) (ht : (pc : Int) + off = (tgt : Int)) (k : zW p l e R s m args below meth c D A Q nL ws cells slots tgt lv rest) : zW p l e R s m args below meth c D A Q nL ws cells slots pc lv (.int x :: rest) := fun H locs ls hP hD hS hl => lv_tableIn E.hx E.hb d h1 h2 ho ht (k H locs ls hP hD hS hl)
theorem z_widen {k n : Nat} (h1 : cells ≤ k) (h2 : slots ≤ n) (kk : zW p l e R s m args below meth c D A Q nL ws k n pc lv rest) : zW p l e R s m args below meth c D A Q nL ws cells slots pc lv rest := fun H locs ls hP hD hS hl => W.widen h1 h2 (kk H locs ls hP hD hS hl)
theorem z_cs {k n : Nat} (h1 : cells = k) (h2 : slots = n) (kk : zW p l e R s m args below meth c D A Q nL ws k n pc lv rest) : zW p l e R s m args below meth c D A Q nL ws cells slots pc lv rest := h1 ▸ h2 ▸ kk
/-- other names of the same -/
theorem z_eq {ws' : va_W} {lv' : List (Nat × Value)} {st st' : List Value} (h1 : ws = ws') (h2 : lv = lv') (h3 : st = st') (kk : zW p l e R s m args below meth c D A Q nL ws' cells slots pc lv' st') : zW p l e R s m args below meth c D A Q nL ws cells slots pc lv st := h1 ▸ h2 ▸ h3 ▸ kk
/-- fewer locals -/
theorem z_lv (is : List Nat) {lv' : List (Nat × Value)} (h2 : lv_pick lv is = lv') (kk : zW p l e R s m args below meth c D A Q nL ws cells slots pc lv' rest) : zW p l e R s m args below meth c D A Q nL ws cells slots pc lv rest := fun H locs ls hP hD hS hl => kk H locs ls hP hD hS (lv_sub hl is h2)
theorem z_get (E : zE p s m args c D tys A nL cc own Ts) {ref C : String} {T : u_T} {N ci index : Nat} (q0 : Nat) {a : Nat} {fs : List Value} (he : ws[q0]? = some (a, .inr (ci, fs))) (hc : vwCl[ci]? = some (C, T, N)) (hin : ∀ w ∈ u_ws C T N, w ∈ Ts) (k0 : Nat) (hk : k0 < N) (hlink : Cond.fieldLink own index ref (T k0).2.1 (T k0).2.2.1 ∈ Ts) (hsame : (T k0).1 = ref) {v : Value} (hv : fs[k0]? = some v) (d : decode cc pc = .ok (.getfield index, 3)) (k : zW p l e R s m args below meth c D A Q nL ws cells slots (pc + 3) lv (v :: rest)) : zW p l e R s m args below meth c D A Q nL ws cells slots pc lv (.ref a :: rest) := fun H locs ls hP hD hS hl => va_get (own := own) (C := C) (T := T) (N := N) (ref := ref) E.hx E.hb E.hts hin E.hown E.hK hP q0 he hc k0 hk (E.hts _ hlink) (by subst hsame; exact fun _ h => h) hv d (k H locs ls hP hD hS hl)
theorem z_put (E : zE p s m args c D tys A nL cc own Ts) {ref C : String} {T : u_T} {N ci index : Nat} (q0 : Nat) {a : Nat} {fs : List Value} (he : ws[q0]? = some (a, .inr (ci, fs))) (hc : vwCl[ci]? = some (C, T, N)) (hin : ∀ w ∈ u_ws C T N, w ∈ Ts) (ty0 : Nat → FieldType) (hty : ∀ k, k < N → parseFieldDescriptor (T k).2.2.1 = some (ty0 k)) (hnm : ∀ a, a < N → ∀ b, b < N → a ≠ b → (T a).2.1 ≠ (T b).2.1) (k0 : Nat) (hk : k0 < N) (hlink : Cond.fieldLink own index ref (T k0).2.1 (T k0).2.2.1 ∈ Ts) (hsame : (T k0).1 = ref) (hfin : (T k0).2.2.2 = false) {v : Value} (hn : narrow (ty0 k0) v = v) (hfit : fits (ty0 k0) v = true) (hlen : k0 < fs.length) {ws' : va_W} (hset : ws.set q0 (a, .inr (ci, fs.set k0 v)) = ws') (d : decode cc pc = .ok (.putfield index, 3)) (k : zW p l e R s m args below meth c D A Q nL ws' cells slots (pc + 3) lv rest) : zW p l e R s m args below meth c D A Q nL ws cells slots pc lv (v :: .ref a :: rest) := fun H locs ls hP hD hS hl => va_put (own := own) (C := C) (T := T) (N := N) (ref := ref) E.hx E.hb E.hts hin ty0 hty hnm E.hown E.hK hP hD hS q0 he hc k0 hk (E.hts _ hlink) (by subst hsame; exact fun _ h => h) hfin (hty k0 hk) hn hfit hlen d (fun H1 locs1 hP1 hD1 hS1 => k H1 locs1 ls (hset ▸ hP1) (hset ▸ hD1) hS1 hl)
theorem z_iald (E : zE p s m args c D tys A nL cc own Ts) (q0 t0 : Nat) {a n : Nat} {cA : ClassId} {f : Nat → Int32} (ha : ws[q0]? = some (a, .inl (cA, n, .inl f))) (ht : tys[t0]? = some (cA, .int)) {i : Int32} (hin : vp_in i n) {v : Int32} (hv : f i.toNatClampNeg = v) (d : decode cc pc = .ok (.iaload, 1)) (k : zW p l e R s m args below meth c D A Q nL ws cells slots (pc + 1) lv (.int v :: rest)) : zW p l e R s m args below meth c D A Q nL ws cells slots pc lv (.int i :: .ref a :: rest) := fun H locs ls hP hD hS hl => va_iald E.hx E.hb E.hK hP q0 t0 ha ht hin d (by rw [hv]; exact (k H locs ls hP hD hS hl))
theorem z_iast (E : zE p s m args c D tys A nL cc own Ts) (q0 t0 : Nat) {a n : Nat} {cA : ClassId} {f : Nat → Int32} (ha : ws[q0]? = some (a, .inl (cA, n, .inl f))) (ht : tys[t0]? = some (cA, .int)) {i x : Int32} (hin : vp_in i n) {ws' : va_W} (hset : ws.set q0 (a, .inl (cA, n, .inl (upd f i.toNatClampNeg x))) = ws') (d : decode cc pc = .ok (.iastore, 1)) (k : zW p l e R s m args below meth c D A Q nL ws' cells slots (pc + 1) lv rest) : zW p l e R s m args below meth c D A Q nL ws cells slots pc lv (.int x :: .int i :: .ref a :: rest) := fun H locs ls hP hD hS hl => va_iast E.hx E.hb E.hK hP hD hS q0 t0 ha ht hin d (fun H1 locs1 hP1 hD1 hS1 => k H1 locs1 ls (hset ▸ hP1) (hset ▸ hD1) hS1 hl)
theorem z_lald (E : zE p s m args c D tys A nL cc own Ts) (q0 t0 : Nat) {a n : Nat} {cA : ClassId} {f : Nat → Int64} (ha : ws[q0]? = some (a, .inl (cA, n, .inr (.inl f)))) (ht : tys[t0]? = some (cA, .long)) {i : Int32} (hin : vp_in i n) {v : Int64} (hv : f i.toNatClampNeg = v) (d : decode cc pc = .ok (.laload, 1)) (k : zW p l e R s m args below meth c D A Q nL ws cells slots (pc + 1) lv (.long v :: rest)) : zW p l e R s m args below meth c D A Q nL ws cells slots pc lv (.int i :: .ref a :: rest) := fun H locs ls hP hD hS hl => va_lald E.hx E.hb E.hK hP q0 t0 ha ht hin d (by rw [hv]; exact (k H locs ls hP hD hS hl))
theorem z_last (E : zE p s m args c D tys A nL cc own Ts) (q0 t0 : Nat) {a n : Nat} {cA : ClassId} {f : Nat → Int64} (ha : ws[q0]? = some (a, .inl (cA, n, .inr (.inl f)))) (ht : tys[t0]? = some (cA, .long)) {i : Int32} {x : Int64} (hin : vp_in i n) {ws' : va_W} (hset : ws.set q0 (a, .inl (cA, n, .inr (.inl (vp_updL f i.toNatClampNeg x)))) = ws') (d : decode cc pc = .ok (.lastore, 1)) (k : zW p l e R s m args below meth c D A Q nL ws' cells slots (pc + 1) lv rest) : zW p l e R s m args below meth c D A Q nL ws cells slots pc lv (.long x :: .int i :: .ref a :: rest) := fun H locs ls hP hD hS hl => va_last E.hx E.hb E.hK hP hD hS q0 t0 ha ht hin d (fun H1 locs1 hP1 hD1 hS1 => k H1 locs1 ls (hset ▸ hP1) (hset ▸ hD1) hS1 hl)
theorem z_aldq (E : zE p s m args c D tys A nL cc own Ts) (q0 t0 : Nat) {a n : Nat} {cA : ClassId} {C : String} {f : Nat → Option Nat} (ha : ws[q0]? = some (a, .inl (cA, n, .inr (.inr (.inr (.inr f)))))) (ht : tys[t0]? = some (cA, .object C)) {i : Int32} (hin : vp_in i n) {v : Value} (hv : va_rf (f i.toNatClampNeg) = v) (d : decode cc pc = .ok (.aaload, 1)) (k : zW p l e R s m args below meth c D A Q nL ws cells slots (pc + 1) lv (v :: rest)) : zW p l e R s m args below meth c D A Q nL ws cells slots pc lv (.int i :: .ref a :: rest) := fun H locs ls hP hD hS hl => va_aldq E.hx E.hb E.hK hP q0 t0 ha ht hin d (by rw [hv]; exact (k H locs ls hP hD hS hl))
theorem z_gets (E : zE p s m args c D tys A nL cc own Ts) {C n0 d0 : String} {v : Value} {index : Nat} (hZ : va_Z C n0 d0 v A s s.heap) (hlink : Cond.fieldLink own index C n0 d0 ∈ Ts) (d : decode cc pc = .ok (.getstatic index, 3)) (k : zW p l e R s m args below meth c D A Q nL ws cells slots (pc + 3) lv (v :: rest)) : zW p l e R s m args below meth c D A Q nL ws cells slots pc lv rest := fun H locs ls hP hD hS hl => va_gets E.hx E.hb hZ hS E.hown (E.hts _ hlink) (fun _ h => h) d (k H locs ls hP hD hS hl)
theorem z_ti (E : zE p s m args c D tys A nL cc own Ts) {t N : Nat} {f : Nat → Value} (hT : va_T .int t N f A s s.heap) {i : Int32} (hin : vp_in i N) {v : Value} (hv : f i.toNatClampNeg = v) (d : decode cc pc = .ok (.iaload, 1)) (k : zW p l e R s m args below meth c D A Q nL ws cells slots (pc + 1) lv (v :: rest)) : zW p l e R s m args below meth c D A Q nL ws cells slots pc lv (.int i :: .ref t :: rest) := fun H locs ls hP hD hS hl => va_ti E.hx E.hb hT hS hin hv d (k H locs ls hP hD hS hl)
theorem z_tlen (E : zE p s m args c D tys A nL cc own Ts) {ty : FieldType} {t N : Nat} {f : Nat → Value} (hT : va_T ty t N f A s s.heap) {v : Int32} (hv : Int32.ofNat N = v) (d : decode cc pc = .ok (.arraylength, 1)) (k : zW p l e R s m args below meth c D A Q nL ws cells slots (pc + 1) lv (.int v :: rest)) : zW p l e R s m args below meth c D A Q nL ws cells slots pc lv (.ref t :: rest) := fun H locs ls hP hD hS hl => va_tlen E.hx E.hb hT hS hv d (k H locs ls hP hD hS hl)
theorem z_mmax (E : zE p s m args c D tys A nL cc own Ts) {index : Nat} {x y : Int32} (w1 : Cond.methodLink own index Lib.Math.max.name ∈ Ts) (w2 : Cond.static Lib.Math.max.name ∈ Ts) (w3 : Cond.initialized "java/lang/Math" ∈ Ts) (w4 : Cond.code Lib.Math.max.name Lib.Math.max.code 2 (some .int) ∈ Ts) (hf : 1 ≤ R.frames) (hlo : (rest.map fun v => v.category).sum + 13 ≤ R.locals) (hc : cells ≤ R.cells) (hs : slots ≤ R.slots) (d : decode cc pc = .ok (.invokestatic index, 3)) (k : zW p l e R s m args below meth c D A Q nL ws cells slots (pc + 3) lv (.int (if x < y then y else x) :: rest)) : zW p l e R s m args below meth c D A Q nL ws cells slots pc lv (.int y :: .int x :: rest) := fun H locs ls hP hD hS hl => va_mmax E.hx E.hb (E.hml.trans hl.1.symm) E.hown (E.hts _ w1) (E.hts _ w2) (E.hts _ w3) (E.hts _ w4) hf hlo hc hs d (k H locs ls hP hD hS hl)
theorem z_mmin (E : zE p s m args c D tys A nL cc own Ts) {index : Nat} {x y : Int32} (w1 : Cond.methodLink own index Lib.Math.min.name ∈ Ts) (w2 : Cond.static Lib.Math.min.name ∈ Ts) (w3 : Cond.initialized "java/lang/Math" ∈ Ts) (w4 : Cond.code Lib.Math.min.name Lib.Math.min.code 2 (some .int) ∈ Ts) (hf : 1 ≤ R.frames) (hlo : (rest.map fun v => v.category).sum + 13 ≤ R.locals) (hc : cells ≤ R.cells) (hs : slots ≤ R.slots) (d : decode cc pc = .ok (.invokestatic index, 3)) (k : zW p l e R s m args below meth c D A Q nL ws cells slots (pc + 3) lv (.int (if y < x then y else x) :: rest)) : zW p l e R s m args below meth c D A Q nL ws cells slots pc lv (.int y :: .int x :: rest) := fun H locs ls hP hD hS hl => va_mmin E.hx E.hb (E.hml.trans hl.1.symm) E.hown (E.hts _ w1) (E.hts _ w2) (E.hts _ w3) (E.hts _ w4) hf hlo hc hs d (k H locs ls hP hD hS hl)
theorem z_mabs (E : zE p s m args c D tys A nL cc own Ts) {index : Nat} {x : Int32} (w1 : Cond.methodLink own index Lib.Math.abs.name ∈ Ts) (w2 : Cond.static Lib.Math.abs.name ∈ Ts) (w3 : Cond.initialized "java/lang/Math" ∈ Ts) (w4 : Cond.code Lib.Math.abs.name Lib.Math.abs.code 1 (some .int) ∈ Ts) (hf : 1 ≤ R.frames) (hlo : (rest.map fun v => v.category).sum + 13 ≤ R.locals) (hc : cells ≤ R.cells) (hs : slots ≤ R.slots) (d : decode cc pc = .ok (.invokestatic index, 3)) (k : zW p l e R s m args below meth c D A Q nL ws cells slots (pc + 3) lv (.int (if 0 ≤ x then x else 0 - x) :: rest)) : zW p l e R s m args below meth c D A Q nL ws cells slots pc lv (.int x :: rest) := fun H locs ls hP hD hS hl => va_mabs E.hx E.hb (E.hml.trans hl.1.symm) E.hown (E.hts _ w1) (E.hts _ w2) (E.hts _ w3) (E.hts _ w4) hf hlo hc hs d (k H locs ls hP hD hS hl)
end ZB
end
section
/-! contracts over one world, their ends, their calls -/
section ZC
/-- the words of a throw that tables may warm -/
def zTW : List Cond := [.castable "java/lang/IndexOutOfBoundsException" "java/lang/IndexOutOfBoundsException", .castable "java/lang/IllegalArgumentException" "java/lang/IllegalArgumentException", .castable "java/lang/IllegalStateException" "java/lang/IllegalStateException", .declares (Bundle.initS "java/lang/RuntimeException"), .declares (Bundle.initS "java/lang/Exception"), .declares (Bundle.initS Bundle.tN)]
theorem zTW_warm0 {u U : State} (h : u.vm.Alike U.vm) (k : ∀ w ∈ zTW, w.before #[] u = true) : ∀ w ∈ zTW, w.before #[] U = true := by
  intro w hw
  have h0 := k w hw
  have key : ∀ c : Cond, c ∈ zTW → c.before #[] (u.setVm U.vm) = c.before #[] u := by
    intro c hc
    simp only [zTW, List.mem_cons, List.not_mem_nil, or_false] at hc
    rcases hc with rfl | rfl | rfl | rfl | rfl | rfl
    · exact Cond.castable_setVm h _ _
    · exact Cond.castable_setVm h _ _
    · exact Cond.castable_setVm h _ _
    · exact Cond.declares_setVm h _
    · exact Cond.declares_setVm h _
    · exact Cond.declares_setVm h _
  have h1 : w.before #[] (u.setVm U.vm) = true := (key w hw).trans h0
  have hon : w.onTables = true := by
    simp only [zTW, List.mem_cons, List.not_mem_nil, or_false] at hw
    rcases hw with rfl | rfl | rfl | rfl | rfl | rfl <;> rfl
  exact va_tabs hon (rfl : (u.setVm U.vm).vm = U.vm) h1
theorem zTW_warm {s U : State} (hW : s.WarmedH U.vm) (k : ∀ w ∈ zTW, w.before #[] s = true) : ∀ w ∈ zTW, w.before #[] U = true := zTW_warm0 hW.alike k
/-- what the start's statics hold, outside A -/
def zSK (A : Nat → Prop) (U : State) (H : Heap) : Prop :=
  (∃ t : Nat, va_Z "LadderClimb" "GROUND_PERCENTS" "[I" (.ref t) A U H ∧ va_T .int t 4 (fun j => .int (([5, 25, 40, 60] : List Int32).getD j 0)) A U H) ∧
  (∃ t : Nat, va_Z "LadderClimb" "WALL_PERCENTS" "[I" (.ref t) A U H ∧ va_T .int t 4 (fun j => .int (([0, 20, 45, 60] : List Int32).getD j 0)) A U H) ∧
  vx_Zq Bundle.tN "UNASSIGNED_STACK" Bundle.steD A U H ∧ vx_Zq Bundle.tN "SUPPRESSED_SENTINEL" Bundle.listD A U H ∧
  (∃ a : Nat, vk_R RX5 78 "the ladder is full" a U) ∧ (∃ a : Nat, vk_R RX5 102 "the buffer is full" a U) ∧ (∃ a : Nat, vk_R RX5 120 "the buffer is not complete works" a U) ∧ (∃ a : Nat, vk_R RX5 140 "nothing is saved" a U) ∧ (∃ a : Nat, vk_R RX5 157 "a ladder has the numbers 0 to 10" a U) ∧ (∃ a : Nat, vk_R RX5 166 "a person has the numbers 0 and 1" a U) ∧ (∃ a : Nat, vk_R RX5 199 "there are the counts 0 to 5" a U) ∧ (∃ a : Nat, vk_R RX5 282 "no such ladder" a U) ∧ (∃ a : Nat, vk_R RX5 293 "no such person" a U) ∧ (∃ a : Nat, vk_R RX5 295 "out of range" a U) ∧ va_Nw (.fieldLinkNest RX2 91 RX5 "GROUND_PERCENTS" "[I" RX5) U ∧ va_Nw (.fieldLinkNest RX2 94 RX5 "WALL_PERCENTS" "[I" RX5) U ∧ va_Nw (.methodLinkNest RX3 24 yX2_init RX5) U ∧ va_Nw (.methodLinkNest RX5 25 yX4_init RX5) U ∧ va_Nw (.methodLinkNest RX4 24 yX1_init RX5) U ∧ va_Nw (.methodLinkNest RX5 32 yX2_init RX5) U ∧ ∀ w ∈ zTW, w.before #[] U = true

theorem zSK.narrow {A B : Nat → Prop} {U : State} {H : Heap} (h : zSK A U H) (hAB : ∀ q, B q → A q) : zSK B U H := by
  obtain ⟨⟨t1, a1, b1⟩, ⟨t2, a2, b2⟩, h3, h4, h5⟩ := h
  exact ⟨⟨t1, a1.narrow hAB, b1.narrow hAB⟩, ⟨t2, a2.narrow hAB, b2.narrow hAB⟩, h3.narrow hAB, h4.narrow hAB, h5⟩
theorem zSK.kept {A : Nat → Prop} {U : State} {H H1 : Heap} (h : zSK A U H) (hq : ∀ a : Nat, a < H.size → ¬ A a → H1[a]? = H[a]?) : zSK A U H1 := by
  obtain ⟨⟨t1, a1, b1⟩, ⟨t2, a2, b2⟩, h3, h4, h5⟩ := h
  exact ⟨⟨t1, a1.kept hq, b1.kept hq⟩, ⟨t2, a2.kept hq, b2.kept hq⟩, h3.kept hq, h4.kept hq, h5⟩
theorem zSK.warm {A : Nat → Prop} {s U : State} {H : Heap} (hW : s.WarmedH U.vm) (h : zSK A s H) : zSK A U H := by
  obtain ⟨⟨t1, a1, b1⟩, ⟨t2, a2, b2⟩, h3, h4, ⟨x1, g1⟩, ⟨x2, g2⟩, ⟨x3, g3⟩, ⟨x4, g4⟩, ⟨x5, g5⟩, ⟨x6, g6⟩, ⟨x7, g7⟩, ⟨x8, g8⟩, ⟨x9, g9⟩, ⟨x10, g10⟩, n1, n2, n3, n4, n5, n6, tw⟩ := h
  exact ⟨⟨t1, a1.moved hW.alike, b1.moved hW.alike⟩, ⟨t2, a2.moved hW.alike, b2.moved hW.alike⟩, h3.moved hW.alike, h4.moved hW.alike, ⟨x1, g1.warm hW⟩, ⟨x2, g2.warm hW⟩, ⟨x3, g3.warm hW⟩, ⟨x4, g4.warm hW⟩, ⟨x5, g5.warm hW⟩, ⟨x6, g6.warm hW⟩, ⟨x7, g7.warm hW⟩, ⟨x8, g8.warm hW⟩, ⟨x9, g9.warm hW⟩, ⟨x10, g10.warm hW⟩, n1.warmF hW, n2.warmF hW, n3.warmM hW, n4.warmM hW, n5.warmM hW, n6.warmM hW, zTW_warm hW tw⟩
theorem zSK.same {A : Nat → Prop} {s U : State} {H : Heap} (hv : U.vm = s.vm) (h : zSK A s H) : zSK A U H := by
  obtain ⟨⟨t1, a1, b1⟩, ⟨t2, a2, b2⟩, h3, h4, ⟨x1, g1⟩, ⟨x2, g2⟩, ⟨x3, g3⟩, ⟨x4, g4⟩, ⟨x5, g5⟩, ⟨x6, g6⟩, ⟨x7, g7⟩, ⟨x8, g8⟩, ⟨x9, g9⟩, ⟨x10, g10⟩, n1, n2, n3, n4, n5, n6, tw⟩ := h
  have hal : s.vm.Alike U.vm := by rw [hv]; exact Vm.Alike.refl _
  exact ⟨⟨t1, a1.moved hal, b1.moved hal⟩, ⟨t2, a2.moved hal, b2.moved hal⟩, h3.moved hal, h4.moved hal, ⟨x1, g1.same hv⟩, ⟨x2, g2.same hv⟩, ⟨x3, g3.same hv⟩, ⟨x4, g4.same hv⟩, ⟨x5, g5.same hv⟩, ⟨x6, g6.same hv⟩, ⟨x7, g7.same hv⟩, ⟨x8, g8.same hv⟩, ⟨x9, g9.same hv⟩, ⟨x10, g10.same hv⟩, n1.same rfl hv.symm, n2.same rfl hv.symm, n3.same rfl hv.symm, n4.same rfl hv.symm, n5.same rfl hv.symm, n6.same rfl hv.symm, zTW_warm0 (by rw [hv]; exact Vm.Alike.refl _) tw⟩
def zPc (D : va_G) (tys : List (ClassId × FieldType)) (av : List Value) (ws : va_W) (sz : Nat) : Array Value → State → Prop := va_Pc av (fun U => U.heap.size = sz ∧ va_P D vwCl ws U.heap ∧ va_K D vwCl tys U ∧ va_D (fun _ => True) ws ∧ zSK (va_A ws sz) U U.heap)
def zB (D : va_G) (tys : List (ClassId × FieldType)) (A : Nat → Prop) (ws : va_W) (t : State) : Prop := va_P D vwCl ws t.heap ∧ va_K D vwCl tys t ∧ va_D A ws
theorem zPc.blind {D : va_G} {tys : List (ClassId × FieldType)} {av : List Value} {ws : va_W} {sz : Nat} : FrameBlind (zPc D tys av ws sz) := fun a U g mk q => by
  obtain ⟨q0, q1, q2, q3, q4, q5⟩ := q
  exact ⟨q0, q1, q2, va_K.moved (u := U) (U := U.calling g mk a) (Vm.Alike.refl U.vm) q3, q4, zSK.same (s := U) (U := U.calling g mk a) rfl q5⟩
theorem zPc.start {D : va_G} {tys : List (ClassId × FieldType)} {av : List Value} {ws : va_W} {A : Nat → Prop} {s : State} {H : Heap} {locs : List Loc} (hP : va_P D vwCl ws H) (hD : va_D A ws) (hS : va_S A s.heap H locs) (hA : ∀ q, s.heap.size ≤ q → A q) (hK : va_K D vwCl tys s) (hZ : zSK A s s.heap) : ∀ U : State, U.heap = H → s.WarmedH U.vm → zPc D tys av ws H.size av.toArray U := fun U hU hW => by
  subst hU
  refine ⟨rfl, rfl, hP, hK.moved hW.alike, hD.weaken (fun _ _ _ _ => trivial), ?_⟩
  refine zSK.warm hW ((hZ.kept hS.2.1).narrow fun q hq => ?_)
  rcases hq with ⟨k, e0, h⟩ | h
  · exact hD.2 k (q, e0) h
  · exact hA q (Nat.le_trans hS.1 h)
theorem zA.in {ws : va_W} {A : Nat → Prop} {s : State} {H : Heap} {locs : List Loc} (hD : va_D A ws) (hS : va_S A s.heap H locs) (hA : ∀ q, s.heap.size ≤ q → A q) : ∀ q, va_A ws H.size q → A q := fun q hq => by
  rcases hq with ⟨k, e0, h⟩ | h
  · exact hD.2 k (q, e0) h
  · exact hA q (Nat.le_trans hS.1 h)
/-- a contract that returns -/
def zMi (l : Launch) (y : MethodName) (wl : List Cond) (rm : Room) (D : va_G) (tys : List (ClassId × FieldType)) (av : List Value) (ws : va_W) {S : Type} (post : Int32 → S → Prop) (out : S → va_W) (mc ms : Nat) : Prop := ∀ sz : Nat, Met l y wl rm (zPc D tys av ws sz) (va_Qi post (fun u => zB D tys (va_A ws sz) (out u)) (va_A ws sz)) mc ms (va_A ws sz)
/-- .. or throws -/
def zXi (l : Launch) (y : MethodName) (wl : List Cond) (rm : Room) (D : va_G) (tys : List (ClassId × FieldType)) (av : List Value) (ws : va_W) {S SX : Type} (post : Int32 → S → Prop) (out : S → va_W) (px : String → SX → Prop) (outx : SX → va_W) (mc ms : Nat) : Prop := ∀ sz : Nat, vx_Met l y wl rm (zPc D tys av ws sz) (va_Qi post (fun u => zB D tys (va_A ws sz) (out u)) (va_A ws sz)) (vx_X (fun u : String × SX => px u.1 u.2) (fun E u t => E = u.1 ∧ zB D tys (va_A ws sz) (outx u.2) t) (va_A ws sz)) mc ms (va_A ws sz)
/-- a contract that returns -/
def zMl (l : Launch) (y : MethodName) (wl : List Cond) (rm : Room) (D : va_G) (tys : List (ClassId × FieldType)) (av : List Value) (ws : va_W) {S : Type} (post : Int64 → S → Prop) (out : S → va_W) (mc ms : Nat) : Prop := ∀ sz : Nat, Met l y wl rm (zPc D tys av ws sz) (va_Ql post (fun u => zB D tys (va_A ws sz) (out u)) (va_A ws sz)) mc ms (va_A ws sz)
/-- .. or throws -/
def zXl (l : Launch) (y : MethodName) (wl : List Cond) (rm : Room) (D : va_G) (tys : List (ClassId × FieldType)) (av : List Value) (ws : va_W) {S SX : Type} (post : Int64 → S → Prop) (out : S → va_W) (px : String → SX → Prop) (outx : SX → va_W) (mc ms : Nat) : Prop := ∀ sz : Nat, vx_Met l y wl rm (zPc D tys av ws sz) (va_Ql post (fun u => zB D tys (va_A ws sz) (out u)) (va_A ws sz)) (vx_X (fun u : String × SX => px u.1 u.2) (fun E u t => E = u.1 ∧ zB D tys (va_A ws sz) (outx u.2) t) (va_A ws sz)) mc ms (va_A ws sz)
/-- a contract that returns -/
def zMd (l : Launch) (y : MethodName) (wl : List Cond) (rm : Room) (D : va_G) (tys : List (ClassId × FieldType)) (av : List Value) (ws : va_W) {S : Type} (post : UInt64 → S → Prop) (out : S → va_W) (mc ms : Nat) : Prop := ∀ sz : Nat, Met l y wl rm (zPc D tys av ws sz) (va_Qd post (fun u => zB D tys (va_A ws sz) (out u)) (va_A ws sz)) mc ms (va_A ws sz)
/-- .. or throws -/
def zXd (l : Launch) (y : MethodName) (wl : List Cond) (rm : Room) (D : va_G) (tys : List (ClassId × FieldType)) (av : List Value) (ws : va_W) {S SX : Type} (post : UInt64 → S → Prop) (out : S → va_W) (px : String → SX → Prop) (outx : SX → va_W) (mc ms : Nat) : Prop := ∀ sz : Nat, vx_Met l y wl rm (zPc D tys av ws sz) (va_Qd post (fun u => zB D tys (va_A ws sz) (out u)) (va_A ws sz)) (vx_X (fun u : String × SX => px u.1 u.2) (fun E u t => E = u.1 ∧ zB D tys (va_A ws sz) (outx u.2) t) (va_A ws sz)) mc ms (va_A ws sz)
/-- a contract that returns -/
def zMq (l : Launch) (y : MethodName) (wl : List Cond) (rm : Room) (D : va_G) (tys : List (ClassId × FieldType)) (av : List Value) (ws : va_W) {S : Type} (post : Option Nat → S → Prop) (out : S → va_W) (mc ms : Nat) : Prop := ∀ sz : Nat, Met l y wl rm (zPc D tys av ws sz) (va_Qq post (fun u => zB D tys (va_A ws sz) (out u)) (va_A ws sz)) mc ms (va_A ws sz)
/-- .. or throws -/
def zXq (l : Launch) (y : MethodName) (wl : List Cond) (rm : Room) (D : va_G) (tys : List (ClassId × FieldType)) (av : List Value) (ws : va_W) {S SX : Type} (post : Option Nat → S → Prop) (out : S → va_W) (px : String → SX → Prop) (outx : SX → va_W) (mc ms : Nat) : Prop := ∀ sz : Nat, vx_Met l y wl rm (zPc D tys av ws sz) (va_Qq post (fun u => zB D tys (va_A ws sz) (out u)) (va_A ws sz)) (vx_X (fun u : String × SX => px u.1 u.2) (fun E u t => E = u.1 ∧ zB D tys (va_A ws sz) (outx u.2) t) (va_A ws sz)) mc ms (va_A ws sz)
def zMv (l : Launch) (y : MethodName) (wl : List Cond) (rm : Room) (D : va_G) (tys : List (ClassId × FieldType)) (av : List Value) (ws : va_W) {S : Type} (post : S → Prop) (out : S → va_W) (mc ms : Nat) : Prop := ∀ sz : Nat, Met l y wl rm (zPc D tys av ws sz) (va_Qv post (fun u => zB D tys (va_A ws sz) (out u)) (va_A ws sz)) mc ms (va_A ws sz)
def zXv (l : Launch) (y : MethodName) (wl : List Cond) (rm : Room) (D : va_G) (tys : List (ClassId × FieldType)) (av : List Value) (ws : va_W) {S SX : Type} (post : S → Prop) (out : S → va_W) (px : String → SX → Prop) (outx : SX → va_W) (mc ms : Nat) : Prop := ∀ sz : Nat, vx_Met l y wl rm (zPc D tys av ws sz) (va_Qv post (fun u => zB D tys (va_A ws sz) (out u)) (va_A ws sz)) (vx_X (fun u : String × SX => px u.1 u.2) (fun E u t => E = u.1 ∧ zB D tys (va_A ws sz) (outx u.2) t) (va_A ws sz)) mc ms (va_A ws sz)
/-- as Met.ofW, for a method of a class that is not plainly named, itself run by its own code -/
theorem zMetF {l : Launch} {y : MethodName} {ws ws' : List Cond} {rm : Room} {Pc : Array Value → State → Prop} {Qc : Array Value → State → Outcome → State → Prop} {mc ms : Nat} {free : Addr → Prop} {cc : ByteArray} {maxL : Nat} {ret : Option FieldType}
    (hy : plainFor y = true) (hw : ws = Cond.code y cc maxL ret :: ws')
    (body : ∀ p e s m args below meth c s₁, BodyLoose p l y (headSpec ws rm) cc maxL ret e s m args below meth c s₁ → c.maxLocals = maxL → Pc args s →
      W p l e (headSpec ws rm).room s m args below meth c s.heap [] 0 0 (MQ below Qc args s mc ms free) (entryFrame m args maxL)) : Met l y ws rm Pc Qc mc ms free := by
  refine MetFree.of_bodySF (code := cc) (maxLocals := maxL) (ret := ret) hy ?_ ?_
  · intro args s m h hn
    obtain ⟨meth, c, h1, h2, h3, h4, h5, h6, -, -⟩ := Cond.code_spec hn (atoms_spec (ws := ws) h _ (by rw [hw]; exact List.mem_cons_self))
    exact ⟨meth, c, h1, h2, h3, h4, h5, h6⟩
  · intro p e s m args below meth c s₁ B hml hP _
    have hh0 : s₁.heap = s.heap := by rw [B.state]; rfl
    obtain ⟨t, a1, o, b1, b2, b3⟩ := body p e s m args below meth c s₁ B hml hP s₁ hh0 (Stand.of_body B)
    exact ⟨t, o, a1, b1, b2, ⟨b3.1, b3.2⟩⟩
theorem zMiM.of {l : Launch} {y : MethodName} {wl wl' : List Cond} {rm : Room} {D : va_G} {tys : List (ClassId × FieldType)} {av : List Value} {ws : va_W} {cc : ByteArray} {maxL : Nat} {ret : Option FieldType} {mc ms : Nat} {S : Type} {post : Int32 → S → Prop} {out : S → va_W} (hy : plainName y.cls = true) (hw : wl = Cond.code y cc maxL ret :: wl') {lv0 : List (Nat × Value)} (hlen : (lg_sl av).length ≤ maxL) (hlv : lv_args 0 av = lv0)
    (body : ∀ (p : Program) (e : Env) (s : State) (m : MethodId) (args : Array Value) (below : List Frame) (meth : Method) (c : Code), zE p s m args c D tys (va_A ws s.heap.size) maxL cc y.cls wl → zSK (va_A ws s.heap.size) s s.heap → meth.sig.returnType = ret → meth.locks = false → meth.name = y.name →
      zW p l e rm s m args below meth c D (va_A ws s.heap.size) (MQ below (va_Qi post (fun u => zB D tys (va_A ws s.heap.size) (out u)) (va_A ws s.heap.size)) args s mc ms (va_A ws s.heap.size)) maxL ws 0 0 0 lv0 []) : zMi l y wl rm D tys av ws post out mc ms := by
  intro sz
  refine Met.ofW (cc := cc) (maxL := maxL) (ret := ret) hy hw ?_
  intro p e s m args below meth c s₁ B hml hv
  obtain ⟨rfl, hsz, hP, hK, hD0, hZ⟩ := hv
  subst hsz
  have hD := hD0.self (sz := s.heap.size)
  have hl := lv_entry av (n := maxL) hlen
  rw [hlv] at hl
  rw [lg_entry_eq]
  exact body p e s m _ below meth c ⟨B.exec, B.bytes, hml, findClass_of_methodNamed B.named, atoms_spec (ws := wl) B.pre, hK, fun q h => Or.inr h⟩ hZ B.returns B.notSynchronized (name_of_methodNamed B.named B.method).1 s.heap [] _ hP hD va_S.rf hl
theorem zMiX.of {l : Launch} {y : MethodName} {wl wl' : List Cond} {rm : Room} {D : va_G} {tys : List (ClassId × FieldType)} {av : List Value} {ws : va_W} {cc : ByteArray} {maxL : Nat} {ret : Option FieldType} {mc ms : Nat} {S : Type} {post : Int32 → S → Prop} {out : S → va_W} {SX : Type} {px : String → SX → Prop} {outx : SX → va_W} (hy : plainName y.cls = true) (hw : wl = Cond.code y cc maxL ret :: wl') {lv0 : List (Nat × Value)} (hlen : (lg_sl av).length ≤ maxL) (hlv : lv_args 0 av = lv0)
    (body : ∀ (p : Program) (e : Env) (s : State) (m : MethodId) (args : Array Value) (below : List Frame) (meth : Method) (c : Code), zE p s m args c D tys (va_A ws s.heap.size) maxL cc y.cls wl → zSK (va_A ws s.heap.size) s s.heap → meth.sig.returnType = ret → meth.locks = false → (∀ x ∈ c.exceptionTable.toList, False) → meth.name = y.name →
      zW p l e rm s m args below meth c D (va_A ws s.heap.size) (vx_MQ below (va_Qi post (fun u => zB D tys (va_A ws s.heap.size) (out u)) (va_A ws s.heap.size)) (vx_X (fun u : String × SX => px u.1 u.2) (fun E u t => E = u.1 ∧ zB D tys (va_A ws s.heap.size) (outx u.2) t) (va_A ws s.heap.size)) args s mc ms (va_A ws s.heap.size)) maxL ws 0 0 0 lv0 []) : zXi l y wl rm D tys av ws post out px outx mc ms := by
  intro sz
  refine vx_ofW (cc := cc) (maxL := maxL) (ret := ret) hy hw ?_
  intro p e s m args below meth c s₁ B hml htb hv
  obtain ⟨rfl, hsz, hP, hK, hD0, hZ⟩ := hv
  subst hsz
  have hD := hD0.self (sz := s.heap.size)
  have hl := lv_entry av (n := maxL) hlen
  rw [hlv] at hl
  rw [lg_entry_eq]
  exact body p e s m _ below meth c ⟨B.exec, B.bytes, hml, findClass_of_methodNamed B.named, atoms_spec (ws := wl) B.pre, hK, fun q h => Or.inr h⟩ hZ B.returns B.notSynchronized htb (name_of_methodNamed B.named B.method).1 s.heap [] _ hP hD va_S.rf hl
theorem zMlM.of {l : Launch} {y : MethodName} {wl wl' : List Cond} {rm : Room} {D : va_G} {tys : List (ClassId × FieldType)} {av : List Value} {ws : va_W} {cc : ByteArray} {maxL : Nat} {ret : Option FieldType} {mc ms : Nat} {S : Type} {post : Int64 → S → Prop} {out : S → va_W} (hy : plainName y.cls = true) (hw : wl = Cond.code y cc maxL ret :: wl') {lv0 : List (Nat × Value)} (hlen : (lg_sl av).length ≤ maxL) (hlv : lv_args 0 av = lv0)
    (body : ∀ (p : Program) (e : Env) (s : State) (m : MethodId) (args : Array Value) (below : List Frame) (meth : Method) (c : Code), zE p s m args c D tys (va_A ws s.heap.size) maxL cc y.cls wl → zSK (va_A ws s.heap.size) s s.heap → meth.sig.returnType = ret → meth.locks = false → meth.name = y.name →
      zW p l e rm s m args below meth c D (va_A ws s.heap.size) (MQ below (va_Ql post (fun u => zB D tys (va_A ws s.heap.size) (out u)) (va_A ws s.heap.size)) args s mc ms (va_A ws s.heap.size)) maxL ws 0 0 0 lv0 []) : zMl l y wl rm D tys av ws post out mc ms := by
  intro sz
  refine Met.ofW (cc := cc) (maxL := maxL) (ret := ret) hy hw ?_
  intro p e s m args below meth c s₁ B hml hv
  obtain ⟨rfl, hsz, hP, hK, hD0, hZ⟩ := hv
  subst hsz
  have hD := hD0.self (sz := s.heap.size)
  have hl := lv_entry av (n := maxL) hlen
  rw [hlv] at hl
  rw [lg_entry_eq]
  exact body p e s m _ below meth c ⟨B.exec, B.bytes, hml, findClass_of_methodNamed B.named, atoms_spec (ws := wl) B.pre, hK, fun q h => Or.inr h⟩ hZ B.returns B.notSynchronized (name_of_methodNamed B.named B.method).1 s.heap [] _ hP hD va_S.rf hl
theorem zMlX.of {l : Launch} {y : MethodName} {wl wl' : List Cond} {rm : Room} {D : va_G} {tys : List (ClassId × FieldType)} {av : List Value} {ws : va_W} {cc : ByteArray} {maxL : Nat} {ret : Option FieldType} {mc ms : Nat} {S : Type} {post : Int64 → S → Prop} {out : S → va_W} {SX : Type} {px : String → SX → Prop} {outx : SX → va_W} (hy : plainName y.cls = true) (hw : wl = Cond.code y cc maxL ret :: wl') {lv0 : List (Nat × Value)} (hlen : (lg_sl av).length ≤ maxL) (hlv : lv_args 0 av = lv0)
    (body : ∀ (p : Program) (e : Env) (s : State) (m : MethodId) (args : Array Value) (below : List Frame) (meth : Method) (c : Code), zE p s m args c D tys (va_A ws s.heap.size) maxL cc y.cls wl → zSK (va_A ws s.heap.size) s s.heap → meth.sig.returnType = ret → meth.locks = false → (∀ x ∈ c.exceptionTable.toList, False) → meth.name = y.name →
      zW p l e rm s m args below meth c D (va_A ws s.heap.size) (vx_MQ below (va_Ql post (fun u => zB D tys (va_A ws s.heap.size) (out u)) (va_A ws s.heap.size)) (vx_X (fun u : String × SX => px u.1 u.2) (fun E u t => E = u.1 ∧ zB D tys (va_A ws s.heap.size) (outx u.2) t) (va_A ws s.heap.size)) args s mc ms (va_A ws s.heap.size)) maxL ws 0 0 0 lv0 []) : zXl l y wl rm D tys av ws post out px outx mc ms := by
  intro sz
  refine vx_ofW (cc := cc) (maxL := maxL) (ret := ret) hy hw ?_
  intro p e s m args below meth c s₁ B hml htb hv
  obtain ⟨rfl, hsz, hP, hK, hD0, hZ⟩ := hv
  subst hsz
  have hD := hD0.self (sz := s.heap.size)
  have hl := lv_entry av (n := maxL) hlen
  rw [hlv] at hl
  rw [lg_entry_eq]
  exact body p e s m _ below meth c ⟨B.exec, B.bytes, hml, findClass_of_methodNamed B.named, atoms_spec (ws := wl) B.pre, hK, fun q h => Or.inr h⟩ hZ B.returns B.notSynchronized htb (name_of_methodNamed B.named B.method).1 s.heap [] _ hP hD va_S.rf hl
theorem zMdM.of {l : Launch} {y : MethodName} {wl wl' : List Cond} {rm : Room} {D : va_G} {tys : List (ClassId × FieldType)} {av : List Value} {ws : va_W} {cc : ByteArray} {maxL : Nat} {ret : Option FieldType} {mc ms : Nat} {S : Type} {post : UInt64 → S → Prop} {out : S → va_W} (hy : plainName y.cls = true) (hw : wl = Cond.code y cc maxL ret :: wl') {lv0 : List (Nat × Value)} (hlen : (lg_sl av).length ≤ maxL) (hlv : lv_args 0 av = lv0)
    (body : ∀ (p : Program) (e : Env) (s : State) (m : MethodId) (args : Array Value) (below : List Frame) (meth : Method) (c : Code), zE p s m args c D tys (va_A ws s.heap.size) maxL cc y.cls wl → zSK (va_A ws s.heap.size) s s.heap → meth.sig.returnType = ret → meth.locks = false → meth.name = y.name →
      zW p l e rm s m args below meth c D (va_A ws s.heap.size) (MQ below (va_Qd post (fun u => zB D tys (va_A ws s.heap.size) (out u)) (va_A ws s.heap.size)) args s mc ms (va_A ws s.heap.size)) maxL ws 0 0 0 lv0 []) : zMd l y wl rm D tys av ws post out mc ms := by
  intro sz
  refine Met.ofW (cc := cc) (maxL := maxL) (ret := ret) hy hw ?_
  intro p e s m args below meth c s₁ B hml hv
  obtain ⟨rfl, hsz, hP, hK, hD0, hZ⟩ := hv
  subst hsz
  have hD := hD0.self (sz := s.heap.size)
  have hl := lv_entry av (n := maxL) hlen
  rw [hlv] at hl
  rw [lg_entry_eq]
  exact body p e s m _ below meth c ⟨B.exec, B.bytes, hml, findClass_of_methodNamed B.named, atoms_spec (ws := wl) B.pre, hK, fun q h => Or.inr h⟩ hZ B.returns B.notSynchronized (name_of_methodNamed B.named B.method).1 s.heap [] _ hP hD va_S.rf hl
theorem zMdX.of {l : Launch} {y : MethodName} {wl wl' : List Cond} {rm : Room} {D : va_G} {tys : List (ClassId × FieldType)} {av : List Value} {ws : va_W} {cc : ByteArray} {maxL : Nat} {ret : Option FieldType} {mc ms : Nat} {S : Type} {post : UInt64 → S → Prop} {out : S → va_W} {SX : Type} {px : String → SX → Prop} {outx : SX → va_W} (hy : plainName y.cls = true) (hw : wl = Cond.code y cc maxL ret :: wl') {lv0 : List (Nat × Value)} (hlen : (lg_sl av).length ≤ maxL) (hlv : lv_args 0 av = lv0)
    (body : ∀ (p : Program) (e : Env) (s : State) (m : MethodId) (args : Array Value) (below : List Frame) (meth : Method) (c : Code), zE p s m args c D tys (va_A ws s.heap.size) maxL cc y.cls wl → zSK (va_A ws s.heap.size) s s.heap → meth.sig.returnType = ret → meth.locks = false → (∀ x ∈ c.exceptionTable.toList, False) → meth.name = y.name →
      zW p l e rm s m args below meth c D (va_A ws s.heap.size) (vx_MQ below (va_Qd post (fun u => zB D tys (va_A ws s.heap.size) (out u)) (va_A ws s.heap.size)) (vx_X (fun u : String × SX => px u.1 u.2) (fun E u t => E = u.1 ∧ zB D tys (va_A ws s.heap.size) (outx u.2) t) (va_A ws s.heap.size)) args s mc ms (va_A ws s.heap.size)) maxL ws 0 0 0 lv0 []) : zXd l y wl rm D tys av ws post out px outx mc ms := by
  intro sz
  refine vx_ofW (cc := cc) (maxL := maxL) (ret := ret) hy hw ?_
  intro p e s m args below meth c s₁ B hml htb hv
  obtain ⟨rfl, hsz, hP, hK, hD0, hZ⟩ := hv
  subst hsz
  have hD := hD0.self (sz := s.heap.size)
  have hl := lv_entry av (n := maxL) hlen
  rw [hlv] at hl
  rw [lg_entry_eq]
  exact body p e s m _ below meth c ⟨B.exec, B.bytes, hml, findClass_of_methodNamed B.named, atoms_spec (ws := wl) B.pre, hK, fun q h => Or.inr h⟩ hZ B.returns B.notSynchronized htb (name_of_methodNamed B.named B.method).1 s.heap [] _ hP hD va_S.rf hl
theorem zMqM.of {l : Launch} {y : MethodName} {wl wl' : List Cond} {rm : Room} {D : va_G} {tys : List (ClassId × FieldType)} {av : List Value} {ws : va_W} {cc : ByteArray} {maxL : Nat} {ret : Option FieldType} {mc ms : Nat} {S : Type} {post : Option Nat → S → Prop} {out : S → va_W} (hy : plainName y.cls = true) (hw : wl = Cond.code y cc maxL ret :: wl') {lv0 : List (Nat × Value)} (hlen : (lg_sl av).length ≤ maxL) (hlv : lv_args 0 av = lv0)
    (body : ∀ (p : Program) (e : Env) (s : State) (m : MethodId) (args : Array Value) (below : List Frame) (meth : Method) (c : Code), zE p s m args c D tys (va_A ws s.heap.size) maxL cc y.cls wl → zSK (va_A ws s.heap.size) s s.heap → meth.sig.returnType = ret → meth.locks = false → meth.name = y.name →
      zW p l e rm s m args below meth c D (va_A ws s.heap.size) (MQ below (va_Qq post (fun u => zB D tys (va_A ws s.heap.size) (out u)) (va_A ws s.heap.size)) args s mc ms (va_A ws s.heap.size)) maxL ws 0 0 0 lv0 []) : zMq l y wl rm D tys av ws post out mc ms := by
  intro sz
  refine Met.ofW (cc := cc) (maxL := maxL) (ret := ret) hy hw ?_
  intro p e s m args below meth c s₁ B hml hv
  obtain ⟨rfl, hsz, hP, hK, hD0, hZ⟩ := hv
  subst hsz
  have hD := hD0.self (sz := s.heap.size)
  have hl := lv_entry av (n := maxL) hlen
  rw [hlv] at hl
  rw [lg_entry_eq]
  exact body p e s m _ below meth c ⟨B.exec, B.bytes, hml, findClass_of_methodNamed B.named, atoms_spec (ws := wl) B.pre, hK, fun q h => Or.inr h⟩ hZ B.returns B.notSynchronized (name_of_methodNamed B.named B.method).1 s.heap [] _ hP hD va_S.rf hl
theorem zMqX.of {l : Launch} {y : MethodName} {wl wl' : List Cond} {rm : Room} {D : va_G} {tys : List (ClassId × FieldType)} {av : List Value} {ws : va_W} {cc : ByteArray} {maxL : Nat} {ret : Option FieldType} {mc ms : Nat} {S : Type} {post : Option Nat → S → Prop} {out : S → va_W} {SX : Type} {px : String → SX → Prop} {outx : SX → va_W} (hy : plainName y.cls = true) (hw : wl = Cond.code y cc maxL ret :: wl') {lv0 : List (Nat × Value)} (hlen : (lg_sl av).length ≤ maxL) (hlv : lv_args 0 av = lv0)
    (body : ∀ (p : Program) (e : Env) (s : State) (m : MethodId) (args : Array Value) (below : List Frame) (meth : Method) (c : Code), zE p s m args c D tys (va_A ws s.heap.size) maxL cc y.cls wl → zSK (va_A ws s.heap.size) s s.heap → meth.sig.returnType = ret → meth.locks = false → (∀ x ∈ c.exceptionTable.toList, False) → meth.name = y.name →
      zW p l e rm s m args below meth c D (va_A ws s.heap.size) (vx_MQ below (va_Qq post (fun u => zB D tys (va_A ws s.heap.size) (out u)) (va_A ws s.heap.size)) (vx_X (fun u : String × SX => px u.1 u.2) (fun E u t => E = u.1 ∧ zB D tys (va_A ws s.heap.size) (outx u.2) t) (va_A ws s.heap.size)) args s mc ms (va_A ws s.heap.size)) maxL ws 0 0 0 lv0 []) : zXq l y wl rm D tys av ws post out px outx mc ms := by
  intro sz
  refine vx_ofW (cc := cc) (maxL := maxL) (ret := ret) hy hw ?_
  intro p e s m args below meth c s₁ B hml htb hv
  obtain ⟨rfl, hsz, hP, hK, hD0, hZ⟩ := hv
  subst hsz
  have hD := hD0.self (sz := s.heap.size)
  have hl := lv_entry av (n := maxL) hlen
  rw [hlv] at hl
  rw [lg_entry_eq]
  exact body p e s m _ below meth c ⟨B.exec, B.bytes, hml, findClass_of_methodNamed B.named, atoms_spec (ws := wl) B.pre, hK, fun q h => Or.inr h⟩ hZ B.returns B.notSynchronized htb (name_of_methodNamed B.named B.method).1 s.heap [] _ hP hD va_S.rf hl
theorem zMvM.of {l : Launch} {y : MethodName} {wl wl' : List Cond} {rm : Room} {D : va_G} {tys : List (ClassId × FieldType)} {av : List Value} {ws : va_W} {cc : ByteArray} {maxL : Nat} {ret : Option FieldType} {mc ms : Nat} {S : Type} {post : S → Prop} {out : S → va_W} (hy : plainName y.cls = true) (hw : wl = Cond.code y cc maxL ret :: wl') {lv0 : List (Nat × Value)} (hlen : (lg_sl av).length ≤ maxL) (hlv : lv_args 0 av = lv0)
    (body : ∀ (p : Program) (e : Env) (s : State) (m : MethodId) (args : Array Value) (below : List Frame) (meth : Method) (c : Code), zE p s m args c D tys (va_A ws s.heap.size) maxL cc y.cls wl → zSK (va_A ws s.heap.size) s s.heap → meth.sig.returnType = ret → meth.locks = false → meth.name = y.name →
      zW p l e rm s m args below meth c D (va_A ws s.heap.size) (MQ below (va_Qv post (fun u => zB D tys (va_A ws s.heap.size) (out u)) (va_A ws s.heap.size)) args s mc ms (va_A ws s.heap.size)) maxL ws 0 0 0 lv0 []) : zMv l y wl rm D tys av ws post out mc ms := by
  intro sz
  refine Met.ofW (cc := cc) (maxL := maxL) (ret := ret) hy hw ?_
  intro p e s m args below meth c s₁ B hml hv
  obtain ⟨rfl, hsz, hP, hK, hD0, hZ⟩ := hv
  subst hsz
  have hD := hD0.self (sz := s.heap.size)
  have hl := lv_entry av (n := maxL) hlen
  rw [hlv] at hl
  rw [lg_entry_eq]
  exact body p e s m _ below meth c ⟨B.exec, B.bytes, hml, findClass_of_methodNamed B.named, atoms_spec (ws := wl) B.pre, hK, fun q h => Or.inr h⟩ hZ B.returns B.notSynchronized (name_of_methodNamed B.named B.method).1 s.heap [] _ hP hD va_S.rf hl
theorem zMvX.of {l : Launch} {y : MethodName} {wl wl' : List Cond} {rm : Room} {D : va_G} {tys : List (ClassId × FieldType)} {av : List Value} {ws : va_W} {cc : ByteArray} {maxL : Nat} {ret : Option FieldType} {mc ms : Nat} {S : Type} {post : S → Prop} {out : S → va_W} {SX : Type} {px : String → SX → Prop} {outx : SX → va_W} (hy : plainName y.cls = true) (hw : wl = Cond.code y cc maxL ret :: wl') {lv0 : List (Nat × Value)} (hlen : (lg_sl av).length ≤ maxL) (hlv : lv_args 0 av = lv0)
    (body : ∀ (p : Program) (e : Env) (s : State) (m : MethodId) (args : Array Value) (below : List Frame) (meth : Method) (c : Code), zE p s m args c D tys (va_A ws s.heap.size) maxL cc y.cls wl → zSK (va_A ws s.heap.size) s s.heap → meth.sig.returnType = ret → meth.locks = false → (∀ x ∈ c.exceptionTable.toList, False) → meth.name = y.name →
      zW p l e rm s m args below meth c D (va_A ws s.heap.size) (vx_MQ below (va_Qv post (fun u => zB D tys (va_A ws s.heap.size) (out u)) (va_A ws s.heap.size)) (vx_X (fun u : String × SX => px u.1 u.2) (fun E u t => E = u.1 ∧ zB D tys (va_A ws s.heap.size) (outx u.2) t) (va_A ws s.heap.size)) args s mc ms (va_A ws s.heap.size)) maxL ws 0 0 0 lv0 []) : zXv l y wl rm D tys av ws post out px outx mc ms := by
  intro sz
  refine vx_ofW (cc := cc) (maxL := maxL) (ret := ret) hy hw ?_
  intro p e s m args below meth c s₁ B hml htb hv
  obtain ⟨rfl, hsz, hP, hK, hD0, hZ⟩ := hv
  subst hsz
  have hD := hD0.self (sz := s.heap.size)
  have hl := lv_entry av (n := maxL) hlen
  rw [hlv] at hl
  rw [lg_entry_eq]
  exact body p e s m _ below meth c ⟨B.exec, B.bytes, hml, findClass_of_methodNamed B.named, atoms_spec (ws := wl) B.pre, hK, fun q h => Or.inr h⟩ hZ B.returns B.notSynchronized htb (name_of_methodNamed B.named B.method).1 s.heap [] _ hP hD va_S.rf hl
theorem zMiF.of {l : Launch} {y : MethodName} {wl wl' : List Cond} {rm : Room} {D : va_G} {tys : List (ClassId × FieldType)} {av : List Value} {ws : va_W} {cc : ByteArray} {maxL : Nat} {ret : Option FieldType} {mc ms : Nat} {S : Type} {post : Int32 → S → Prop} {out : S → va_W} (hy : plainFor y = true) (hw : wl = Cond.code y cc maxL ret :: wl') {lv0 : List (Nat × Value)} (hlen : (lg_sl av).length ≤ maxL) (hlv : lv_args 0 av = lv0)
    (body : ∀ (p : Program) (e : Env) (s : State) (m : MethodId) (args : Array Value) (below : List Frame) (meth : Method) (c : Code), zE p s m args c D tys (va_A ws s.heap.size) maxL cc y.cls wl → zSK (va_A ws s.heap.size) s s.heap → meth.sig.returnType = ret → meth.locks = false → meth.name = y.name →
      zW p l e rm s m args below meth c D (va_A ws s.heap.size) (MQ below (va_Qi post (fun u => zB D tys (va_A ws s.heap.size) (out u)) (va_A ws s.heap.size)) args s mc ms (va_A ws s.heap.size)) maxL ws 0 0 0 lv0 []) : zMi l y wl rm D tys av ws post out mc ms := by
  intro sz
  refine zMetF (cc := cc) (maxL := maxL) (ret := ret) hy hw ?_
  intro p e s m args below meth c s₁ B hml hv
  obtain ⟨rfl, hsz, hP, hK, hD0, hZ⟩ := hv
  subst hsz
  have hD := hD0.self (sz := s.heap.size)
  have hl := lv_entry av (n := maxL) hlen
  rw [hlv] at hl
  rw [lg_entry_eq]
  exact body p e s m _ below meth c ⟨B.exec, B.bytes, hml, findClass_of_methodNamed B.named, atoms_spec (ws := wl) B.pre, hK, fun q h => Or.inr h⟩ hZ B.returns B.notSynchronized (name_of_methodNamed B.named B.method).1 s.heap [] _ hP hD va_S.rf hl
variable {p : Program} {l : Launch} {e : Env} {R : Room} {s : State} {m : MethodId} {args : Array Value} {below : List Frame} {meth : Method} {c : Code} {D : va_G} {tys : List (ClassId × FieldType)} {A : Nat → Prop} {Q : State → Prop} {nL : Nat} {ws : va_W} {cells slots pc : Nat} {lv : List (Nat × Value)} {rest : List Value} {cc : ByteArray} {own : String} {Ts : List Cond}
theorem z_iretM (E : zE p s m args c D tys A nL cc own Ts) (hr : meth.sig.returnType = some .int) (hlocks : meth.locks = false) {S : Type} {post : Int32 → S → Prop} {out : S → va_W} {mc ms : Nat} {v : Int32} (u : S) (hw : ws = out u) (hp : post v u) (hc : cells ≤ mc) (hs : slots ≤ ms) (d : decode cc pc = .ok (.ireturn, 1)) : zW p l e R s m args below meth c D A (MQ below (va_Qi post (fun u => zB D tys A (out u)) A) args s mc ms A) nL ws cells slots pc lv [.int v] := fun H locs ls hP hD hS hl => W.widen hc hs (W.iret (v := v) E.hx E.hb hr (fun t ht hW => ⟨⟨v, u, rfl, hp, (by show zB D tys A (out u) t; rw [← hw]; exact ⟨by rw [ht]; exact hP, E.hK.moved hW.alike, hD⟩)⟩, hS.F ht⟩) hS.2.2 d hlocks)
theorem z_izretM (E : zE p s m args c D tys A nL cc own Ts) (hr : meth.sig.returnType = some .boolean) (hlocks : meth.locks = false) {S : Type} {post : Int32 → S → Prop} {out : S → va_W} {mc ms : Nat} {v : Int32} (u : S) (hn : narrow .boolean (.int v) = .int v) (hw : ws = out u) (hp : post v u) (hc : cells ≤ mc) (hs : slots ≤ ms) (d : decode cc pc = .ok (.ireturn, 1)) : zW p l e R s m args below meth c D A (MQ below (va_Qi post (fun u => zB D tys A (out u)) A) args s mc ms A) nL ws cells slots pc lv [.int v] := fun H locs ls hP hD hS hl => W.widen hc hs (W.zret (v := v) (ty := .boolean) E.hx E.hb hr hn (fun t ht hW => ⟨⟨v, u, rfl, hp, (by show zB D tys A (out u) t; rw [← hw]; exact ⟨by rw [ht]; exact hP, E.hK.moved hW.alike, hD⟩)⟩, hS.F ht⟩) hS.2.2 d hlocks)
theorem z_iretX (E : zE p s m args c D tys A nL cc own Ts) (hr : meth.sig.returnType = some .int) (hlocks : meth.locks = false) {S : Type} {post : Int32 → S → Prop} {out : S → va_W} {XC : String → State → State → Prop} {mc ms : Nat} {v : Int32} (u : S) (hw : ws = out u) (hp : post v u) (hc : cells ≤ mc) (hs : slots ≤ ms) (d : decode cc pc = .ok (.ireturn, 1)) : zW p l e R s m args below meth c D A (vx_MQ below (va_Qi post (fun u => zB D tys A (out u)) A) XC args s mc ms A) nL ws cells slots pc lv [.int v] := fun H locs ls hP hD hS hl => vx_ret (W.widen hc hs (W.iret (v := v) E.hx E.hb hr (fun t ht hW => ⟨⟨v, u, rfl, hp, (by show zB D tys A (out u) t; rw [← hw]; exact ⟨by rw [ht]; exact hP, E.hK.moved hW.alike, hD⟩)⟩, hS.F ht⟩) hS.2.2 d hlocks))
theorem z_izretX (E : zE p s m args c D tys A nL cc own Ts) (hr : meth.sig.returnType = some .boolean) (hlocks : meth.locks = false) {S : Type} {post : Int32 → S → Prop} {out : S → va_W} {XC : String → State → State → Prop} {mc ms : Nat} {v : Int32} (u : S) (hn : narrow .boolean (.int v) = .int v) (hw : ws = out u) (hp : post v u) (hc : cells ≤ mc) (hs : slots ≤ ms) (d : decode cc pc = .ok (.ireturn, 1)) : zW p l e R s m args below meth c D A (vx_MQ below (va_Qi post (fun u => zB D tys A (out u)) A) XC args s mc ms A) nL ws cells slots pc lv [.int v] := fun H locs ls hP hD hS hl => vx_ret (W.widen hc hs (W.zret (v := v) (ty := .boolean) E.hx E.hb hr hn (fun t ht hW => ⟨⟨v, u, rfl, hp, (by show zB D tys A (out u) t; rw [← hw]; exact ⟨by rw [ht]; exact hP, E.hK.moved hW.alike, hD⟩)⟩, hS.F ht⟩) hS.2.2 d hlocks))
theorem z_lretM (E : zE p s m args c D tys A nL cc own Ts) (hr : meth.sig.returnType = some .long) (hlocks : meth.locks = false) {S : Type} {post : Int64 → S → Prop} {out : S → va_W} {mc ms : Nat} {v : Int64} (u : S) (hw : ws = out u) (hp : post v u) (hc : cells ≤ mc) (hs : slots ≤ ms) (d : decode cc pc = .ok (.lreturn, 1)) : zW p l e R s m args below meth c D A (MQ below (va_Ql post (fun u => zB D tys A (out u)) A) args s mc ms A) nL ws cells slots pc lv [.long v] := fun H locs ls hP hD hS hl => W.widen hc hs (W.lret (v := v) E.hx E.hb hr (fun t ht hW => ⟨⟨v, u, rfl, hp, (by show zB D tys A (out u) t; rw [← hw]; exact ⟨by rw [ht]; exact hP, E.hK.moved hW.alike, hD⟩)⟩, hS.F ht⟩) hS.2.2 d hlocks)
theorem z_lretX (E : zE p s m args c D tys A nL cc own Ts) (hr : meth.sig.returnType = some .long) (hlocks : meth.locks = false) {S : Type} {post : Int64 → S → Prop} {out : S → va_W} {XC : String → State → State → Prop} {mc ms : Nat} {v : Int64} (u : S) (hw : ws = out u) (hp : post v u) (hc : cells ≤ mc) (hs : slots ≤ ms) (d : decode cc pc = .ok (.lreturn, 1)) : zW p l e R s m args below meth c D A (vx_MQ below (va_Ql post (fun u => zB D tys A (out u)) A) XC args s mc ms A) nL ws cells slots pc lv [.long v] := fun H locs ls hP hD hS hl => vx_ret (W.widen hc hs (W.lret (v := v) E.hx E.hb hr (fun t ht hW => ⟨⟨v, u, rfl, hp, (by show zB D tys A (out u) t; rw [← hw]; exact ⟨by rw [ht]; exact hP, E.hK.moved hW.alike, hD⟩)⟩, hS.F ht⟩) hS.2.2 d hlocks))
theorem z_dretM (E : zE p s m args c D tys A nL cc own Ts) (hr : meth.sig.returnType = some .double) (hlocks : meth.locks = false) {S : Type} {post : UInt64 → S → Prop} {out : S → va_W} {mc ms : Nat} {v : UInt64} (u : S) (hw : ws = out u) (hp : post v u) (hc : cells ≤ mc) (hs : slots ≤ ms) (d : decode cc pc = .ok (.dreturn, 1)) : zW p l e R s m args below meth c D A (MQ below (va_Qd post (fun u => zB D tys A (out u)) A) args s mc ms A) nL ws cells slots pc lv [.double v] := fun H locs ls hP hD hS hl => W.widen hc hs (W.dret (v := v) E.hx E.hb hr (fun t ht hW => ⟨⟨v, u, rfl, hp, (by show zB D tys A (out u) t; rw [← hw]; exact ⟨by rw [ht]; exact hP, E.hK.moved hW.alike, hD⟩)⟩, hS.F ht⟩) hS.2.2 d hlocks)
theorem z_dretX (E : zE p s m args c D tys A nL cc own Ts) (hr : meth.sig.returnType = some .double) (hlocks : meth.locks = false) {S : Type} {post : UInt64 → S → Prop} {out : S → va_W} {XC : String → State → State → Prop} {mc ms : Nat} {v : UInt64} (u : S) (hw : ws = out u) (hp : post v u) (hc : cells ≤ mc) (hs : slots ≤ ms) (d : decode cc pc = .ok (.dreturn, 1)) : zW p l e R s m args below meth c D A (vx_MQ below (va_Qd post (fun u => zB D tys A (out u)) A) XC args s mc ms A) nL ws cells slots pc lv [.double v] := fun H locs ls hP hD hS hl => vx_ret (W.widen hc hs (W.dret (v := v) E.hx E.hb hr (fun t ht hW => ⟨⟨v, u, rfl, hp, (by show zB D tys A (out u) t; rw [← hw]; exact ⟨by rw [ht]; exact hP, E.hK.moved hW.alike, hD⟩)⟩, hS.F ht⟩) hS.2.2 d hlocks))
theorem z_qretM (E : zE p s m args c D tys A nL cc own Ts) {cn : String} (hr : meth.sig.returnType = some (.object cn)) (hlocks : meth.locks = false) {S : Type} {post : Option Nat → S → Prop} {out : S → va_W} {mc ms : Nat} {v : Nat} (u : S) (hw : ws = out u) (hp : post (some v) u) (hc : cells ≤ mc) (hs : slots ≤ ms) (d : decode cc pc = .ok (.areturn, 1)) : zW p l e R s m args below meth c D A (MQ below (va_Qq post (fun u => zB D tys A (out u)) A) args s mc ms A) nL ws cells slots pc lv [.ref v] := fun H locs ls hP hD hS hl => W.widen hc hs (W.aret (v := .ref v) E.hx E.hb hr (Or.inl ⟨_, rfl⟩) (Or.inr ⟨_, rfl⟩) (fun t ht hW => ⟨⟨some v, u, rfl, hp, (by show zB D tys A (out u) t; rw [← hw]; exact ⟨by rw [ht]; exact hP, E.hK.moved hW.alike, hD⟩)⟩, hS.F ht⟩) hS.2.2 d hlocks)
theorem z_qretX (E : zE p s m args c D tys A nL cc own Ts) {cn : String} (hr : meth.sig.returnType = some (.object cn)) (hlocks : meth.locks = false) {S : Type} {post : Option Nat → S → Prop} {out : S → va_W} {XC : String → State → State → Prop} {mc ms : Nat} {v : Nat} (u : S) (hw : ws = out u) (hp : post (some v) u) (hc : cells ≤ mc) (hs : slots ≤ ms) (d : decode cc pc = .ok (.areturn, 1)) : zW p l e R s m args below meth c D A (vx_MQ below (va_Qq post (fun u => zB D tys A (out u)) A) XC args s mc ms A) nL ws cells slots pc lv [.ref v] := fun H locs ls hP hD hS hl => vx_ret (W.widen hc hs (W.aret (v := .ref v) E.hx E.hb hr (Or.inl ⟨_, rfl⟩) (Or.inr ⟨_, rfl⟩) (fun t ht hW => ⟨⟨some v, u, rfl, hp, (by show zB D tys A (out u) t; rw [← hw]; exact ⟨by rw [ht]; exact hP, E.hK.moved hW.alike, hD⟩)⟩, hS.F ht⟩) hS.2.2 d hlocks))
theorem z_vretM (E : zE p s m args c D tys A nL cc own Ts) (hr : meth.sig.returnType = none) (hlocks : meth.locks = false) {S : Type} {post : S → Prop} {out : S → va_W} {mc ms : Nat} (u : S) (hw : ws = out u) (hp : post u) (hc : cells ≤ mc) (hs : slots ≤ ms) (d : decode cc pc = .ok (.return_, 1)) : zW p l e R s m args below meth c D A (MQ below (va_Qv post (fun u => zB D tys A (out u)) A) args s mc ms A) nL ws cells slots pc lv [] := fun H locs ls hP hD hS hl => W.widen hc hs (W.vret E.hx E.hb hr (fun t ht hW => ⟨⟨u, rfl, hp, (by show zB D tys A (out u) t; rw [← hw]; exact ⟨by rw [ht]; exact hP, E.hK.moved hW.alike, hD⟩)⟩, hS.F ht⟩) hS.2.2 d hlocks)
theorem z_vretX (E : zE p s m args c D tys A nL cc own Ts) (hr : meth.sig.returnType = none) (hlocks : meth.locks = false) {S : Type} {post : S → Prop} {out : S → va_W} {XC : String → State → State → Prop} {mc ms : Nat} (u : S) (hw : ws = out u) (hp : post u) (hc : cells ≤ mc) (hs : slots ≤ ms) (d : decode cc pc = .ok (.return_, 1)) : zW p l e R s m args below meth c D A (vx_MQ below (va_Qv post (fun u => zB D tys A (out u)) A) XC args s mc ms A) nL ws cells slots pc lv [] := fun H locs ls hP hD hS hl => vx_ret (W.widen hc hs (W.vret E.hx E.hb hr (fun t ht hW => ⟨⟨u, rfl, hp, (by show zB D tys A (out u) t; rw [← hw]; exact ⟨by rw [ht]; exact hP, E.hK.moved hW.alike, hD⟩)⟩, hS.F ht⟩) hS.2.2 d hlocks))
theorem z_callVi (E : zE p s m args c D tys A nL cc own Ts) (hZ : zSK A s s.heap) {y : MethodName} {wl wl' : List Cond} {rm : Room} {bytes : ByteArray} {maxL mc ms n index : Nat} {ret : Option FieldType} {C : String} {b : Nat} {As st : List Value} {S : Type} {post : Int32 → S → Prop} {out : S → va_W} (hM : zMi l y wl rm D tys (.ref b :: As) ws post out mc ms) (hg : GoodIn Ts (wsV own index C y wl)) (hw : wl = Cond.code y bytes maxL ret :: wl') (hmc : rm.cells = mc) (hms : rm.slots = ms) (hd : y.cls = C ∧ y.cls ≠ "java/lang/invoke/MethodHandle" ∧ y.cls ≠ "java/lang/invoke/VarHandle" ∧ (parseMethodDescriptor y.desc).map (fun d => d.parameters.length) = some n) (hn : As.length = n) (hR : rm.frames + 1 ≤ R.frames ∧ 8 + (maxL + 11) + rm.locals ≤ R.locals) {T0 : u_T} {N ci : Nat} {fs : List Value} (hci : vwCl[ci]? = some (C, T0, N)) (q0 : Nat) (hrv : ws[q0]? = some (b, .inr (ci, fs))) (hstk : st = As.reverse ++ .ref b :: rest) (hcat : (rest.map fun v => v.category).sum ≤ 8) (hf : cells + mc ≤ R.cells ∧ slots + ms ≤ R.slots) (d : decode cc pc = .ok (.invokevirtual index, 3)) (k : ∀ (r : Int32) (u : S), post r u → zW p l e R s m args below meth c D A Q nL (out u) (cells + mc) (slots + ms) (pc + 3) lv (.int r :: rest)) : zW p l e R s m args below meth c D A Q nL ws cells slots pc lv st := fun H locs ls hP hD hS hl => va_calli (va_runV (As := As) (rest := rest) ⟨E.hx, E.hb, E.hml, E.hown, E.hts⟩ (hM H.size) (cwV n E.hts hg hw hmc hms hd hR) ⟨zPc.blind, va_recv E.hK hP hci hrv, zPc.start hP hD hS E.hA E.hK hZ⟩ rfl hn hl.1 hstk (lv_room hcat) d hf) hS (fun q _ h => zA.in hD hS E.hA q h) (fun q h => zA.in hD hS E.hA q h) (fun r u t H1 locs1 ht hvm hp hB hz1 hk1 hS1 => k r u hp H1 locs1 ls (by rw [← ht]; exact hB.1) (hB.2.2.weaken (fun _ q _ h => zA.in hD hS E.hA q.1 h)) hS1 hl)
theorem z_callViX (E : zE p s m args c D tys A nL cc own Ts) (hZ : zSK A s s.heap) {y : MethodName} {wl wl' : List Cond} {rm : Room} {bytes : ByteArray} {maxL mc ms n index : Nat} {ret : Option FieldType} {C : String} {b : Nat} {As st : List Value} {S : Type} {post : Int32 → S → Prop} {out : S → va_W} {SX : Type} {px : String → SX → Prop} {outx : SX → va_W} (hM : zXi l y wl rm D tys (.ref b :: As) ws post out px outx mc ms) (hg : GoodIn Ts (wsV own index C y wl)) (hw : wl = Cond.code y bytes maxL ret :: wl') (hmc : rm.cells = mc) (hms : rm.slots = ms) (hd : y.cls = C ∧ y.cls ≠ "java/lang/invoke/MethodHandle" ∧ y.cls ≠ "java/lang/invoke/VarHandle" ∧ (parseMethodDescriptor y.desc).map (fun d => d.parameters.length) = some n) (hn : As.length = n) (hR : rm.frames + 1 ≤ R.frames ∧ 8 + (maxL + 11) + rm.locals ≤ R.locals) {T0 : u_T} {N ci : Nat} {fs : List Value} (hci : vwCl[ci]? = some (C, T0, N)) (q0 : Nat) (hrv : ws[q0]? = some (b, .inr (ci, fs))) (hstk : st = As.reverse ++ .ref b :: rest) (hcat : (rest.map fun v => v.category).sum ≤ 8) (hf : cells + mc ≤ R.cells ∧ slots + ms ≤ R.slots) (d : decode cc pc = .ok (.invokevirtual index, 3)) (kx : ∀ (E0 : String) (u : SX) (q9 : Nat) (ce : Cell) (H : Heap) (locs : List Loc) (ls : Array Slot), px E0 u → va_P D vwCl (outx u) H → va_D A (outx u) → va_S A s.heap H locs → lv_has ls nL lv → H[q9]? = some ce → ce.vm = .none → s.vm.findClass E0 = some ce.cls → vx_W p l e R s m args below meth c H locs (cells + mc) (slots + ms) Q (F0 m pc ls rest) q9) (k : ∀ (r : Int32) (u : S), post r u → zW p l e R s m args below meth c D A Q nL (out u) (cells + mc) (slots + ms) (pc + 3) lv (.int r :: rest)) : zW p l e R s m args below meth c D A Q nL ws cells slots pc lv st := fun H locs ls hP hD hS hl => vx_calli (vx_runV (As := As) (rest := rest) ⟨E.hx, E.hb, E.hml, E.hown, E.hts⟩ (hM H.size) (cwV n E.hts hg hw hmc hms hd hR) ⟨zPc.blind, va_recv E.hK hP hci hrv, zPc.start hP hD hS E.hA E.hK hZ⟩ rfl hn hl.1 hstk (lv_room hcat) d hf) hS (fun q _ h => zA.in hD hS E.hA q h) (fun q h => zA.in hD hS E.hA q h) (fun q _ h => zA.in hD hS E.hA q h) (fun E0 ce q9 u t H1 locs1 ht hvm hp hB hz1 hk1 hS1 hce hcv hcl => kx E0 u.2 q9 ce H1 locs1 ls (by rw [hB.1]; exact hp) (by rw [← ht]; exact hB.2.1) (hB.2.2.2.weaken (fun _ q _ h => zA.in hD hS E.hA q.1 h)) hS1 hl hce hcv hcl) (fun r u t H1 locs1 ht hvm hp hB hz1 hk1 hS1 => k r u hp H1 locs1 ls (by rw [← ht]; exact hB.1) (hB.2.2.weaken (fun _ q _ h => zA.in hD hS E.hA q.1 h)) hS1 hl)
theorem z_callViN (E : zE p s m args c D tys A nL cc own Ts) (hZ : zSK A s s.heap) {y : MethodName} {wl wl' : List Cond} {rm : Room} {bytes : ByteArray} {maxL mc ms n index : Nat} {ret : Option FieldType} {C : String} {b : Nat} {As st : List Value} {S : Type} {post : Int32 → S → Prop} {out : S → va_W} {SX : Type} {px : String → SX → Prop} {outx : SX → va_W} (hM : zXi l y wl rm D tys (.ref b :: As) ws post out px outx mc ms) (hg : GoodIn Ts (wsV own index C y wl)) (hw : wl = Cond.code y bytes maxL ret :: wl') (hmc : rm.cells = mc) (hms : rm.slots = ms) (hd : y.cls = C ∧ y.cls ≠ "java/lang/invoke/MethodHandle" ∧ y.cls ≠ "java/lang/invoke/VarHandle" ∧ (parseMethodDescriptor y.desc).map (fun d => d.parameters.length) = some n) (hn : As.length = n) (hR : rm.frames + 1 ≤ R.frames ∧ 8 + (maxL + 11) + rm.locals ≤ R.locals) {T0 : u_T} {N ci : Nat} {fs : List Value} (hci : vwCl[ci]? = some (C, T0, N)) (q0 : Nat) (hrv : ws[q0]? = some (b, .inr (ci, fs))) (hstk : st = As.reverse ++ .ref b :: rest) (hcat : (rest.map fun v => v.category).sum ≤ 8) (hf : cells + mc ≤ R.cells ∧ slots + ms ≤ R.slots) (d : decode cc pc = .ok (.invokevirtual index, 3)) (hno : ∀ (E0 : String) (u : SX), ¬ px E0 u) (k : ∀ (r : Int32) (u : S), post r u → zW p l e R s m args below meth c D A Q nL (out u) (cells + mc) (slots + ms) (pc + 3) lv (.int r :: rest)) : zW p l e R s m args below meth c D A Q nL ws cells slots pc lv st := z_callViX E hZ hM hg hw hmc hms hd hn hR hci q0 hrv hstk hcat hf d (fun E0 u _ _ _ _ _ hp => absurd hp (hno E0 u)) k
theorem z_callSi (E : zE p s m args c D tys A nL cc own Ts) (hZ : zSK A s s.heap) {y : MethodName} {wl wl' : List Cond} {rm : Room} {bytes : ByteArray} {maxL mc ms n index : Nat} {ret : Option FieldType} {As st : List Value} {S : Type} {post : Int32 → S → Prop} {out : S → va_W} (hM : zMi l y wl rm D tys (As) ws post out mc ms) (hg : GoodIn Ts (va_wsS own index y wl)) (hw : wl = Cond.code y bytes maxL ret :: wl') (hmc : rm.cells = mc) (hms : rm.slots = ms) (hd : y.cls ≠ "java/lang/invoke/MethodHandle" ∧ y.cls ≠ "java/lang/invoke/VarHandle" ∧ (parseMethodDescriptor y.desc).map (fun d => d.parameters.length) = some n) (hn : As.length = n) (hR : rm.frames + 1 ≤ R.frames ∧ 8 + (maxL + 11) + rm.locals ≤ R.locals)  (hstk : st = As.reverse ++ rest) (hcat : (rest.map fun v => v.category).sum ≤ 8) (hf : cells + mc ≤ R.cells ∧ slots + ms ≤ R.slots) (d : decode cc pc = .ok (.invokestatic index, 3)) (k : ∀ (r : Int32) (u : S), post r u → zW p l e R s m args below meth c D A Q nL (out u) (cells + mc) (slots + ms) (pc + 3) lv (.int r :: rest)) : zW p l e R s m args below meth c D A Q nL ws cells slots pc lv st := fun H locs ls hP hD hS hl => va_calli (va_runS (As := As) (rest := rest) ⟨E.hx, E.hb, E.hml, E.hown, E.hts⟩ (hM H.size) (va_cwS n E.hts hg hw hmc hms hd hR) ⟨zPc.blind, zPc.start hP hD hS E.hA E.hK hZ⟩ rfl hn hl.1 hstk (lv_room hcat) d hf) hS (fun q _ h => zA.in hD hS E.hA q h) (fun q h => zA.in hD hS E.hA q h) (fun r u t H1 locs1 ht hvm hp hB hz1 hk1 hS1 => k r u hp H1 locs1 ls (by rw [← ht]; exact hB.1) (hB.2.2.weaken (fun _ q _ h => zA.in hD hS E.hA q.1 h)) hS1 hl)
theorem z_callSiX (E : zE p s m args c D tys A nL cc own Ts) (hZ : zSK A s s.heap) {y : MethodName} {wl wl' : List Cond} {rm : Room} {bytes : ByteArray} {maxL mc ms n index : Nat} {ret : Option FieldType} {As st : List Value} {S : Type} {post : Int32 → S → Prop} {out : S → va_W} {SX : Type} {px : String → SX → Prop} {outx : SX → va_W} (hM : zXi l y wl rm D tys (As) ws post out px outx mc ms) (hg : GoodIn Ts (va_wsS own index y wl)) (hw : wl = Cond.code y bytes maxL ret :: wl') (hmc : rm.cells = mc) (hms : rm.slots = ms) (hd : y.cls ≠ "java/lang/invoke/MethodHandle" ∧ y.cls ≠ "java/lang/invoke/VarHandle" ∧ (parseMethodDescriptor y.desc).map (fun d => d.parameters.length) = some n) (hn : As.length = n) (hR : rm.frames + 1 ≤ R.frames ∧ 8 + (maxL + 11) + rm.locals ≤ R.locals)  (hstk : st = As.reverse ++ rest) (hcat : (rest.map fun v => v.category).sum ≤ 8) (hf : cells + mc ≤ R.cells ∧ slots + ms ≤ R.slots) (d : decode cc pc = .ok (.invokestatic index, 3)) (kx : ∀ (E0 : String) (u : SX) (q9 : Nat) (ce : Cell) (H : Heap) (locs : List Loc) (ls : Array Slot), px E0 u → va_P D vwCl (outx u) H → va_D A (outx u) → va_S A s.heap H locs → lv_has ls nL lv → H[q9]? = some ce → ce.vm = .none → s.vm.findClass E0 = some ce.cls → vx_W p l e R s m args below meth c H locs (cells + mc) (slots + ms) Q (F0 m pc ls rest) q9) (k : ∀ (r : Int32) (u : S), post r u → zW p l e R s m args below meth c D A Q nL (out u) (cells + mc) (slots + ms) (pc + 3) lv (.int r :: rest)) : zW p l e R s m args below meth c D A Q nL ws cells slots pc lv st := fun H locs ls hP hD hS hl => vx_calli (vx_runS (As := As) (rest := rest) ⟨E.hx, E.hb, E.hml, E.hown, E.hts⟩ (hM H.size) (va_cwS n E.hts hg hw hmc hms hd hR) ⟨zPc.blind, zPc.start hP hD hS E.hA E.hK hZ⟩ rfl hn hl.1 hstk (lv_room hcat) d hf) hS (fun q _ h => zA.in hD hS E.hA q h) (fun q h => zA.in hD hS E.hA q h) (fun q _ h => zA.in hD hS E.hA q h) (fun E0 ce q9 u t H1 locs1 ht hvm hp hB hz1 hk1 hS1 hce hcv hcl => kx E0 u.2 q9 ce H1 locs1 ls (by rw [hB.1]; exact hp) (by rw [← ht]; exact hB.2.1) (hB.2.2.2.weaken (fun _ q _ h => zA.in hD hS E.hA q.1 h)) hS1 hl hce hcv hcl) (fun r u t H1 locs1 ht hvm hp hB hz1 hk1 hS1 => k r u hp H1 locs1 ls (by rw [← ht]; exact hB.1) (hB.2.2.weaken (fun _ q _ h => zA.in hD hS E.hA q.1 h)) hS1 hl)
theorem z_callSiN (E : zE p s m args c D tys A nL cc own Ts) (hZ : zSK A s s.heap) {y : MethodName} {wl wl' : List Cond} {rm : Room} {bytes : ByteArray} {maxL mc ms n index : Nat} {ret : Option FieldType} {As st : List Value} {S : Type} {post : Int32 → S → Prop} {out : S → va_W} {SX : Type} {px : String → SX → Prop} {outx : SX → va_W} (hM : zXi l y wl rm D tys (As) ws post out px outx mc ms) (hg : GoodIn Ts (va_wsS own index y wl)) (hw : wl = Cond.code y bytes maxL ret :: wl') (hmc : rm.cells = mc) (hms : rm.slots = ms) (hd : y.cls ≠ "java/lang/invoke/MethodHandle" ∧ y.cls ≠ "java/lang/invoke/VarHandle" ∧ (parseMethodDescriptor y.desc).map (fun d => d.parameters.length) = some n) (hn : As.length = n) (hR : rm.frames + 1 ≤ R.frames ∧ 8 + (maxL + 11) + rm.locals ≤ R.locals)  (hstk : st = As.reverse ++ rest) (hcat : (rest.map fun v => v.category).sum ≤ 8) (hf : cells + mc ≤ R.cells ∧ slots + ms ≤ R.slots) (d : decode cc pc = .ok (.invokestatic index, 3)) (hno : ∀ (E0 : String) (u : SX), ¬ px E0 u) (k : ∀ (r : Int32) (u : S), post r u → zW p l e R s m args below meth c D A Q nL (out u) (cells + mc) (slots + ms) (pc + 3) lv (.int r :: rest)) : zW p l e R s m args below meth c D A Q nL ws cells slots pc lv st := z_callSiX E hZ hM hg hw hmc hms hd hn hR hstk hcat hf d (fun E0 u _ _ _ _ _ hp => absurd hp (hno E0 u)) k
theorem z_callVl (E : zE p s m args c D tys A nL cc own Ts) (hZ : zSK A s s.heap) {y : MethodName} {wl wl' : List Cond} {rm : Room} {bytes : ByteArray} {maxL mc ms n index : Nat} {ret : Option FieldType} {C : String} {b : Nat} {As st : List Value} {S : Type} {post : Int64 → S → Prop} {out : S → va_W} (hM : zMl l y wl rm D tys (.ref b :: As) ws post out mc ms) (hg : GoodIn Ts (wsV own index C y wl)) (hw : wl = Cond.code y bytes maxL ret :: wl') (hmc : rm.cells = mc) (hms : rm.slots = ms) (hd : y.cls = C ∧ y.cls ≠ "java/lang/invoke/MethodHandle" ∧ y.cls ≠ "java/lang/invoke/VarHandle" ∧ (parseMethodDescriptor y.desc).map (fun d => d.parameters.length) = some n) (hn : As.length = n) (hR : rm.frames + 1 ≤ R.frames ∧ 8 + (maxL + 11) + rm.locals ≤ R.locals) {T0 : u_T} {N ci : Nat} {fs : List Value} (hci : vwCl[ci]? = some (C, T0, N)) (q0 : Nat) (hrv : ws[q0]? = some (b, .inr (ci, fs))) (hstk : st = As.reverse ++ .ref b :: rest) (hcat : (rest.map fun v => v.category).sum ≤ 8) (hf : cells + mc ≤ R.cells ∧ slots + ms ≤ R.slots) (d : decode cc pc = .ok (.invokevirtual index, 3)) (k : ∀ (r : Int64) (u : S), post r u → zW p l e R s m args below meth c D A Q nL (out u) (cells + mc) (slots + ms) (pc + 3) lv (.long r :: rest)) : zW p l e R s m args below meth c D A Q nL ws cells slots pc lv st := fun H locs ls hP hD hS hl => va_calll (va_runV (As := As) (rest := rest) ⟨E.hx, E.hb, E.hml, E.hown, E.hts⟩ (hM H.size) (cwV n E.hts hg hw hmc hms hd hR) ⟨zPc.blind, va_recv E.hK hP hci hrv, zPc.start hP hD hS E.hA E.hK hZ⟩ rfl hn hl.1 hstk (lv_room hcat) d hf) hS (fun q _ h => zA.in hD hS E.hA q h) (fun q h => zA.in hD hS E.hA q h) (fun r u t H1 locs1 ht hvm hp hB hz1 hk1 hS1 => k r u hp H1 locs1 ls (by rw [← ht]; exact hB.1) (hB.2.2.weaken (fun _ q _ h => zA.in hD hS E.hA q.1 h)) hS1 hl)
theorem z_callVlX (E : zE p s m args c D tys A nL cc own Ts) (hZ : zSK A s s.heap) {y : MethodName} {wl wl' : List Cond} {rm : Room} {bytes : ByteArray} {maxL mc ms n index : Nat} {ret : Option FieldType} {C : String} {b : Nat} {As st : List Value} {S : Type} {post : Int64 → S → Prop} {out : S → va_W} {SX : Type} {px : String → SX → Prop} {outx : SX → va_W} (hM : zXl l y wl rm D tys (.ref b :: As) ws post out px outx mc ms) (hg : GoodIn Ts (wsV own index C y wl)) (hw : wl = Cond.code y bytes maxL ret :: wl') (hmc : rm.cells = mc) (hms : rm.slots = ms) (hd : y.cls = C ∧ y.cls ≠ "java/lang/invoke/MethodHandle" ∧ y.cls ≠ "java/lang/invoke/VarHandle" ∧ (parseMethodDescriptor y.desc).map (fun d => d.parameters.length) = some n) (hn : As.length = n) (hR : rm.frames + 1 ≤ R.frames ∧ 8 + (maxL + 11) + rm.locals ≤ R.locals) {T0 : u_T} {N ci : Nat} {fs : List Value} (hci : vwCl[ci]? = some (C, T0, N)) (q0 : Nat) (hrv : ws[q0]? = some (b, .inr (ci, fs))) (hstk : st = As.reverse ++ .ref b :: rest) (hcat : (rest.map fun v => v.category).sum ≤ 8) (hf : cells + mc ≤ R.cells ∧ slots + ms ≤ R.slots) (d : decode cc pc = .ok (.invokevirtual index, 3)) (kx : ∀ (E0 : String) (u : SX) (q9 : Nat) (ce : Cell) (H : Heap) (locs : List Loc) (ls : Array Slot), px E0 u → va_P D vwCl (outx u) H → va_D A (outx u) → va_S A s.heap H locs → lv_has ls nL lv → H[q9]? = some ce → ce.vm = .none → s.vm.findClass E0 = some ce.cls → vx_W p l e R s m args below meth c H locs (cells + mc) (slots + ms) Q (F0 m pc ls rest) q9) (k : ∀ (r : Int64) (u : S), post r u → zW p l e R s m args below meth c D A Q nL (out u) (cells + mc) (slots + ms) (pc + 3) lv (.long r :: rest)) : zW p l e R s m args below meth c D A Q nL ws cells slots pc lv st := fun H locs ls hP hD hS hl => vx_calll (vx_runV (As := As) (rest := rest) ⟨E.hx, E.hb, E.hml, E.hown, E.hts⟩ (hM H.size) (cwV n E.hts hg hw hmc hms hd hR) ⟨zPc.blind, va_recv E.hK hP hci hrv, zPc.start hP hD hS E.hA E.hK hZ⟩ rfl hn hl.1 hstk (lv_room hcat) d hf) hS (fun q _ h => zA.in hD hS E.hA q h) (fun q h => zA.in hD hS E.hA q h) (fun q _ h => zA.in hD hS E.hA q h) (fun E0 ce q9 u t H1 locs1 ht hvm hp hB hz1 hk1 hS1 hce hcv hcl => kx E0 u.2 q9 ce H1 locs1 ls (by rw [hB.1]; exact hp) (by rw [← ht]; exact hB.2.1) (hB.2.2.2.weaken (fun _ q _ h => zA.in hD hS E.hA q.1 h)) hS1 hl hce hcv hcl) (fun r u t H1 locs1 ht hvm hp hB hz1 hk1 hS1 => k r u hp H1 locs1 ls (by rw [← ht]; exact hB.1) (hB.2.2.weaken (fun _ q _ h => zA.in hD hS E.hA q.1 h)) hS1 hl)
theorem z_callVlN (E : zE p s m args c D tys A nL cc own Ts) (hZ : zSK A s s.heap) {y : MethodName} {wl wl' : List Cond} {rm : Room} {bytes : ByteArray} {maxL mc ms n index : Nat} {ret : Option FieldType} {C : String} {b : Nat} {As st : List Value} {S : Type} {post : Int64 → S → Prop} {out : S → va_W} {SX : Type} {px : String → SX → Prop} {outx : SX → va_W} (hM : zXl l y wl rm D tys (.ref b :: As) ws post out px outx mc ms) (hg : GoodIn Ts (wsV own index C y wl)) (hw : wl = Cond.code y bytes maxL ret :: wl') (hmc : rm.cells = mc) (hms : rm.slots = ms) (hd : y.cls = C ∧ y.cls ≠ "java/lang/invoke/MethodHandle" ∧ y.cls ≠ "java/lang/invoke/VarHandle" ∧ (parseMethodDescriptor y.desc).map (fun d => d.parameters.length) = some n) (hn : As.length = n) (hR : rm.frames + 1 ≤ R.frames ∧ 8 + (maxL + 11) + rm.locals ≤ R.locals) {T0 : u_T} {N ci : Nat} {fs : List Value} (hci : vwCl[ci]? = some (C, T0, N)) (q0 : Nat) (hrv : ws[q0]? = some (b, .inr (ci, fs))) (hstk : st = As.reverse ++ .ref b :: rest) (hcat : (rest.map fun v => v.category).sum ≤ 8) (hf : cells + mc ≤ R.cells ∧ slots + ms ≤ R.slots) (d : decode cc pc = .ok (.invokevirtual index, 3)) (hno : ∀ (E0 : String) (u : SX), ¬ px E0 u) (k : ∀ (r : Int64) (u : S), post r u → zW p l e R s m args below meth c D A Q nL (out u) (cells + mc) (slots + ms) (pc + 3) lv (.long r :: rest)) : zW p l e R s m args below meth c D A Q nL ws cells slots pc lv st := z_callVlX E hZ hM hg hw hmc hms hd hn hR hci q0 hrv hstk hcat hf d (fun E0 u _ _ _ _ _ hp => absurd hp (hno E0 u)) k
theorem z_callSl (E : zE p s m args c D tys A nL cc own Ts) (hZ : zSK A s s.heap) {y : MethodName} {wl wl' : List Cond} {rm : Room} {bytes : ByteArray} {maxL mc ms n index : Nat} {ret : Option FieldType} {As st : List Value} {S : Type} {post : Int64 → S → Prop} {out : S → va_W} (hM : zMl l y wl rm D tys (As) ws post out mc ms) (hg : GoodIn Ts (va_wsS own index y wl)) (hw : wl = Cond.code y bytes maxL ret :: wl') (hmc : rm.cells = mc) (hms : rm.slots = ms) (hd : y.cls ≠ "java/lang/invoke/MethodHandle" ∧ y.cls ≠ "java/lang/invoke/VarHandle" ∧ (parseMethodDescriptor y.desc).map (fun d => d.parameters.length) = some n) (hn : As.length = n) (hR : rm.frames + 1 ≤ R.frames ∧ 8 + (maxL + 11) + rm.locals ≤ R.locals)  (hstk : st = As.reverse ++ rest) (hcat : (rest.map fun v => v.category).sum ≤ 8) (hf : cells + mc ≤ R.cells ∧ slots + ms ≤ R.slots) (d : decode cc pc = .ok (.invokestatic index, 3)) (k : ∀ (r : Int64) (u : S), post r u → zW p l e R s m args below meth c D A Q nL (out u) (cells + mc) (slots + ms) (pc + 3) lv (.long r :: rest)) : zW p l e R s m args below meth c D A Q nL ws cells slots pc lv st := fun H locs ls hP hD hS hl => va_calll (va_runS (As := As) (rest := rest) ⟨E.hx, E.hb, E.hml, E.hown, E.hts⟩ (hM H.size) (va_cwS n E.hts hg hw hmc hms hd hR) ⟨zPc.blind, zPc.start hP hD hS E.hA E.hK hZ⟩ rfl hn hl.1 hstk (lv_room hcat) d hf) hS (fun q _ h => zA.in hD hS E.hA q h) (fun q h => zA.in hD hS E.hA q h) (fun r u t H1 locs1 ht hvm hp hB hz1 hk1 hS1 => k r u hp H1 locs1 ls (by rw [← ht]; exact hB.1) (hB.2.2.weaken (fun _ q _ h => zA.in hD hS E.hA q.1 h)) hS1 hl)
theorem z_callSlX (E : zE p s m args c D tys A nL cc own Ts) (hZ : zSK A s s.heap) {y : MethodName} {wl wl' : List Cond} {rm : Room} {bytes : ByteArray} {maxL mc ms n index : Nat} {ret : Option FieldType} {As st : List Value} {S : Type} {post : Int64 → S → Prop} {out : S → va_W} {SX : Type} {px : String → SX → Prop} {outx : SX → va_W} (hM : zXl l y wl rm D tys (As) ws post out px outx mc ms) (hg : GoodIn Ts (va_wsS own index y wl)) (hw : wl = Cond.code y bytes maxL ret :: wl') (hmc : rm.cells = mc) (hms : rm.slots = ms) (hd : y.cls ≠ "java/lang/invoke/MethodHandle" ∧ y.cls ≠ "java/lang/invoke/VarHandle" ∧ (parseMethodDescriptor y.desc).map (fun d => d.parameters.length) = some n) (hn : As.length = n) (hR : rm.frames + 1 ≤ R.frames ∧ 8 + (maxL + 11) + rm.locals ≤ R.locals)  (hstk : st = As.reverse ++ rest) (hcat : (rest.map fun v => v.category).sum ≤ 8) (hf : cells + mc ≤ R.cells ∧ slots + ms ≤ R.slots) (d : decode cc pc = .ok (.invokestatic index, 3)) (kx : ∀ (E0 : String) (u : SX) (q9 : Nat) (ce : Cell) (H : Heap) (locs : List Loc) (ls : Array Slot), px E0 u → va_P D vwCl (outx u) H → va_D A (outx u) → va_S A s.heap H locs → lv_has ls nL lv → H[q9]? = some ce → ce.vm = .none → s.vm.findClass E0 = some ce.cls → vx_W p l e R s m args below meth c H locs (cells + mc) (slots + ms) Q (F0 m pc ls rest) q9) (k : ∀ (r : Int64) (u : S), post r u → zW p l e R s m args below meth c D A Q nL (out u) (cells + mc) (slots + ms) (pc + 3) lv (.long r :: rest)) : zW p l e R s m args below meth c D A Q nL ws cells slots pc lv st := fun H locs ls hP hD hS hl => vx_calll (vx_runS (As := As) (rest := rest) ⟨E.hx, E.hb, E.hml, E.hown, E.hts⟩ (hM H.size) (va_cwS n E.hts hg hw hmc hms hd hR) ⟨zPc.blind, zPc.start hP hD hS E.hA E.hK hZ⟩ rfl hn hl.1 hstk (lv_room hcat) d hf) hS (fun q _ h => zA.in hD hS E.hA q h) (fun q h => zA.in hD hS E.hA q h) (fun q _ h => zA.in hD hS E.hA q h) (fun E0 ce q9 u t H1 locs1 ht hvm hp hB hz1 hk1 hS1 hce hcv hcl => kx E0 u.2 q9 ce H1 locs1 ls (by rw [hB.1]; exact hp) (by rw [← ht]; exact hB.2.1) (hB.2.2.2.weaken (fun _ q _ h => zA.in hD hS E.hA q.1 h)) hS1 hl hce hcv hcl) (fun r u t H1 locs1 ht hvm hp hB hz1 hk1 hS1 => k r u hp H1 locs1 ls (by rw [← ht]; exact hB.1) (hB.2.2.weaken (fun _ q _ h => zA.in hD hS E.hA q.1 h)) hS1 hl)
theorem z_callSlN (E : zE p s m args c D tys A nL cc own Ts) (hZ : zSK A s s.heap) {y : MethodName} {wl wl' : List Cond} {rm : Room} {bytes : ByteArray} {maxL mc ms n index : Nat} {ret : Option FieldType} {As st : List Value} {S : Type} {post : Int64 → S → Prop} {out : S → va_W} {SX : Type} {px : String → SX → Prop} {outx : SX → va_W} (hM : zXl l y wl rm D tys (As) ws post out px outx mc ms) (hg : GoodIn Ts (va_wsS own index y wl)) (hw : wl = Cond.code y bytes maxL ret :: wl') (hmc : rm.cells = mc) (hms : rm.slots = ms) (hd : y.cls ≠ "java/lang/invoke/MethodHandle" ∧ y.cls ≠ "java/lang/invoke/VarHandle" ∧ (parseMethodDescriptor y.desc).map (fun d => d.parameters.length) = some n) (hn : As.length = n) (hR : rm.frames + 1 ≤ R.frames ∧ 8 + (maxL + 11) + rm.locals ≤ R.locals)  (hstk : st = As.reverse ++ rest) (hcat : (rest.map fun v => v.category).sum ≤ 8) (hf : cells + mc ≤ R.cells ∧ slots + ms ≤ R.slots) (d : decode cc pc = .ok (.invokestatic index, 3)) (hno : ∀ (E0 : String) (u : SX), ¬ px E0 u) (k : ∀ (r : Int64) (u : S), post r u → zW p l e R s m args below meth c D A Q nL (out u) (cells + mc) (slots + ms) (pc + 3) lv (.long r :: rest)) : zW p l e R s m args below meth c D A Q nL ws cells slots pc lv st := z_callSlX E hZ hM hg hw hmc hms hd hn hR hstk hcat hf d (fun E0 u _ _ _ _ _ hp => absurd hp (hno E0 u)) k
theorem z_callVd (E : zE p s m args c D tys A nL cc own Ts) (hZ : zSK A s s.heap) {y : MethodName} {wl wl' : List Cond} {rm : Room} {bytes : ByteArray} {maxL mc ms n index : Nat} {ret : Option FieldType} {C : String} {b : Nat} {As st : List Value} {S : Type} {post : UInt64 → S → Prop} {out : S → va_W} (hM : zMd l y wl rm D tys (.ref b :: As) ws post out mc ms) (hg : GoodIn Ts (wsV own index C y wl)) (hw : wl = Cond.code y bytes maxL ret :: wl') (hmc : rm.cells = mc) (hms : rm.slots = ms) (hd : y.cls = C ∧ y.cls ≠ "java/lang/invoke/MethodHandle" ∧ y.cls ≠ "java/lang/invoke/VarHandle" ∧ (parseMethodDescriptor y.desc).map (fun d => d.parameters.length) = some n) (hn : As.length = n) (hR : rm.frames + 1 ≤ R.frames ∧ 8 + (maxL + 11) + rm.locals ≤ R.locals) {T0 : u_T} {N ci : Nat} {fs : List Value} (hci : vwCl[ci]? = some (C, T0, N)) (q0 : Nat) (hrv : ws[q0]? = some (b, .inr (ci, fs))) (hstk : st = As.reverse ++ .ref b :: rest) (hcat : (rest.map fun v => v.category).sum ≤ 8) (hf : cells + mc ≤ R.cells ∧ slots + ms ≤ R.slots) (d : decode cc pc = .ok (.invokevirtual index, 3)) (k : ∀ (r : UInt64) (u : S), post r u → zW p l e R s m args below meth c D A Q nL (out u) (cells + mc) (slots + ms) (pc + 3) lv (.double r :: rest)) : zW p l e R s m args below meth c D A Q nL ws cells slots pc lv st := fun H locs ls hP hD hS hl => va_calld (va_runV (As := As) (rest := rest) ⟨E.hx, E.hb, E.hml, E.hown, E.hts⟩ (hM H.size) (cwV n E.hts hg hw hmc hms hd hR) ⟨zPc.blind, va_recv E.hK hP hci hrv, zPc.start hP hD hS E.hA E.hK hZ⟩ rfl hn hl.1 hstk (lv_room hcat) d hf) hS (fun q _ h => zA.in hD hS E.hA q h) (fun q h => zA.in hD hS E.hA q h) (fun r u t H1 locs1 ht hvm hp hB hz1 hk1 hS1 => k r u hp H1 locs1 ls (by rw [← ht]; exact hB.1) (hB.2.2.weaken (fun _ q _ h => zA.in hD hS E.hA q.1 h)) hS1 hl)
theorem z_callVdX (E : zE p s m args c D tys A nL cc own Ts) (hZ : zSK A s s.heap) {y : MethodName} {wl wl' : List Cond} {rm : Room} {bytes : ByteArray} {maxL mc ms n index : Nat} {ret : Option FieldType} {C : String} {b : Nat} {As st : List Value} {S : Type} {post : UInt64 → S → Prop} {out : S → va_W} {SX : Type} {px : String → SX → Prop} {outx : SX → va_W} (hM : zXd l y wl rm D tys (.ref b :: As) ws post out px outx mc ms) (hg : GoodIn Ts (wsV own index C y wl)) (hw : wl = Cond.code y bytes maxL ret :: wl') (hmc : rm.cells = mc) (hms : rm.slots = ms) (hd : y.cls = C ∧ y.cls ≠ "java/lang/invoke/MethodHandle" ∧ y.cls ≠ "java/lang/invoke/VarHandle" ∧ (parseMethodDescriptor y.desc).map (fun d => d.parameters.length) = some n) (hn : As.length = n) (hR : rm.frames + 1 ≤ R.frames ∧ 8 + (maxL + 11) + rm.locals ≤ R.locals) {T0 : u_T} {N ci : Nat} {fs : List Value} (hci : vwCl[ci]? = some (C, T0, N)) (q0 : Nat) (hrv : ws[q0]? = some (b, .inr (ci, fs))) (hstk : st = As.reverse ++ .ref b :: rest) (hcat : (rest.map fun v => v.category).sum ≤ 8) (hf : cells + mc ≤ R.cells ∧ slots + ms ≤ R.slots) (d : decode cc pc = .ok (.invokevirtual index, 3)) (kx : ∀ (E0 : String) (u : SX) (q9 : Nat) (ce : Cell) (H : Heap) (locs : List Loc) (ls : Array Slot), px E0 u → va_P D vwCl (outx u) H → va_D A (outx u) → va_S A s.heap H locs → lv_has ls nL lv → H[q9]? = some ce → ce.vm = .none → s.vm.findClass E0 = some ce.cls → vx_W p l e R s m args below meth c H locs (cells + mc) (slots + ms) Q (F0 m pc ls rest) q9) (k : ∀ (r : UInt64) (u : S), post r u → zW p l e R s m args below meth c D A Q nL (out u) (cells + mc) (slots + ms) (pc + 3) lv (.double r :: rest)) : zW p l e R s m args below meth c D A Q nL ws cells slots pc lv st := fun H locs ls hP hD hS hl => vx_calld (vx_runV (As := As) (rest := rest) ⟨E.hx, E.hb, E.hml, E.hown, E.hts⟩ (hM H.size) (cwV n E.hts hg hw hmc hms hd hR) ⟨zPc.blind, va_recv E.hK hP hci hrv, zPc.start hP hD hS E.hA E.hK hZ⟩ rfl hn hl.1 hstk (lv_room hcat) d hf) hS (fun q _ h => zA.in hD hS E.hA q h) (fun q h => zA.in hD hS E.hA q h) (fun q _ h => zA.in hD hS E.hA q h) (fun E0 ce q9 u t H1 locs1 ht hvm hp hB hz1 hk1 hS1 hce hcv hcl => kx E0 u.2 q9 ce H1 locs1 ls (by rw [hB.1]; exact hp) (by rw [← ht]; exact hB.2.1) (hB.2.2.2.weaken (fun _ q _ h => zA.in hD hS E.hA q.1 h)) hS1 hl hce hcv hcl) (fun r u t H1 locs1 ht hvm hp hB hz1 hk1 hS1 => k r u hp H1 locs1 ls (by rw [← ht]; exact hB.1) (hB.2.2.weaken (fun _ q _ h => zA.in hD hS E.hA q.1 h)) hS1 hl)
theorem z_callVdN (E : zE p s m args c D tys A nL cc own Ts) (hZ : zSK A s s.heap) {y : MethodName} {wl wl' : List Cond} {rm : Room} {bytes : ByteArray} {maxL mc ms n index : Nat} {ret : Option FieldType} {C : String} {b : Nat} {As st : List Value} {S : Type} {post : UInt64 → S → Prop} {out : S → va_W} {SX : Type} {px : String → SX → Prop} {outx : SX → va_W} (hM : zXd l y wl rm D tys (.ref b :: As) ws post out px outx mc ms) (hg : GoodIn Ts (wsV own index C y wl)) (hw : wl = Cond.code y bytes maxL ret :: wl') (hmc : rm.cells = mc) (hms : rm.slots = ms) (hd : y.cls = C ∧ y.cls ≠ "java/lang/invoke/MethodHandle" ∧ y.cls ≠ "java/lang/invoke/VarHandle" ∧ (parseMethodDescriptor y.desc).map (fun d => d.parameters.length) = some n) (hn : As.length = n) (hR : rm.frames + 1 ≤ R.frames ∧ 8 + (maxL + 11) + rm.locals ≤ R.locals) {T0 : u_T} {N ci : Nat} {fs : List Value} (hci : vwCl[ci]? = some (C, T0, N)) (q0 : Nat) (hrv : ws[q0]? = some (b, .inr (ci, fs))) (hstk : st = As.reverse ++ .ref b :: rest) (hcat : (rest.map fun v => v.category).sum ≤ 8) (hf : cells + mc ≤ R.cells ∧ slots + ms ≤ R.slots) (d : decode cc pc = .ok (.invokevirtual index, 3)) (hno : ∀ (E0 : String) (u : SX), ¬ px E0 u) (k : ∀ (r : UInt64) (u : S), post r u → zW p l e R s m args below meth c D A Q nL (out u) (cells + mc) (slots + ms) (pc + 3) lv (.double r :: rest)) : zW p l e R s m args below meth c D A Q nL ws cells slots pc lv st := z_callVdX E hZ hM hg hw hmc hms hd hn hR hci q0 hrv hstk hcat hf d (fun E0 u _ _ _ _ _ hp => absurd hp (hno E0 u)) k
theorem z_callSd (E : zE p s m args c D tys A nL cc own Ts) (hZ : zSK A s s.heap) {y : MethodName} {wl wl' : List Cond} {rm : Room} {bytes : ByteArray} {maxL mc ms n index : Nat} {ret : Option FieldType} {As st : List Value} {S : Type} {post : UInt64 → S → Prop} {out : S → va_W} (hM : zMd l y wl rm D tys (As) ws post out mc ms) (hg : GoodIn Ts (va_wsS own index y wl)) (hw : wl = Cond.code y bytes maxL ret :: wl') (hmc : rm.cells = mc) (hms : rm.slots = ms) (hd : y.cls ≠ "java/lang/invoke/MethodHandle" ∧ y.cls ≠ "java/lang/invoke/VarHandle" ∧ (parseMethodDescriptor y.desc).map (fun d => d.parameters.length) = some n) (hn : As.length = n) (hR : rm.frames + 1 ≤ R.frames ∧ 8 + (maxL + 11) + rm.locals ≤ R.locals)  (hstk : st = As.reverse ++ rest) (hcat : (rest.map fun v => v.category).sum ≤ 8) (hf : cells + mc ≤ R.cells ∧ slots + ms ≤ R.slots) (d : decode cc pc = .ok (.invokestatic index, 3)) (k : ∀ (r : UInt64) (u : S), post r u → zW p l e R s m args below meth c D A Q nL (out u) (cells + mc) (slots + ms) (pc + 3) lv (.double r :: rest)) : zW p l e R s m args below meth c D A Q nL ws cells slots pc lv st := fun H locs ls hP hD hS hl => va_calld (va_runS (As := As) (rest := rest) ⟨E.hx, E.hb, E.hml, E.hown, E.hts⟩ (hM H.size) (va_cwS n E.hts hg hw hmc hms hd hR) ⟨zPc.blind, zPc.start hP hD hS E.hA E.hK hZ⟩ rfl hn hl.1 hstk (lv_room hcat) d hf) hS (fun q _ h => zA.in hD hS E.hA q h) (fun q h => zA.in hD hS E.hA q h) (fun r u t H1 locs1 ht hvm hp hB hz1 hk1 hS1 => k r u hp H1 locs1 ls (by rw [← ht]; exact hB.1) (hB.2.2.weaken (fun _ q _ h => zA.in hD hS E.hA q.1 h)) hS1 hl)
theorem z_callSdX (E : zE p s m args c D tys A nL cc own Ts) (hZ : zSK A s s.heap) {y : MethodName} {wl wl' : List Cond} {rm : Room} {bytes : ByteArray} {maxL mc ms n index : Nat} {ret : Option FieldType} {As st : List Value} {S : Type} {post : UInt64 → S → Prop} {out : S → va_W} {SX : Type} {px : String → SX → Prop} {outx : SX → va_W} (hM : zXd l y wl rm D tys (As) ws post out px outx mc ms) (hg : GoodIn Ts (va_wsS own index y wl)) (hw : wl = Cond.code y bytes maxL ret :: wl') (hmc : rm.cells = mc) (hms : rm.slots = ms) (hd : y.cls ≠ "java/lang/invoke/MethodHandle" ∧ y.cls ≠ "java/lang/invoke/VarHandle" ∧ (parseMethodDescriptor y.desc).map (fun d => d.parameters.length) = some n) (hn : As.length = n) (hR : rm.frames + 1 ≤ R.frames ∧ 8 + (maxL + 11) + rm.locals ≤ R.locals)  (hstk : st = As.reverse ++ rest) (hcat : (rest.map fun v => v.category).sum ≤ 8) (hf : cells + mc ≤ R.cells ∧ slots + ms ≤ R.slots) (d : decode cc pc = .ok (.invokestatic index, 3)) (kx : ∀ (E0 : String) (u : SX) (q9 : Nat) (ce : Cell) (H : Heap) (locs : List Loc) (ls : Array Slot), px E0 u → va_P D vwCl (outx u) H → va_D A (outx u) → va_S A s.heap H locs → lv_has ls nL lv → H[q9]? = some ce → ce.vm = .none → s.vm.findClass E0 = some ce.cls → vx_W p l e R s m args below meth c H locs (cells + mc) (slots + ms) Q (F0 m pc ls rest) q9) (k : ∀ (r : UInt64) (u : S), post r u → zW p l e R s m args below meth c D A Q nL (out u) (cells + mc) (slots + ms) (pc + 3) lv (.double r :: rest)) : zW p l e R s m args below meth c D A Q nL ws cells slots pc lv st := fun H locs ls hP hD hS hl => vx_calld (vx_runS (As := As) (rest := rest) ⟨E.hx, E.hb, E.hml, E.hown, E.hts⟩ (hM H.size) (va_cwS n E.hts hg hw hmc hms hd hR) ⟨zPc.blind, zPc.start hP hD hS E.hA E.hK hZ⟩ rfl hn hl.1 hstk (lv_room hcat) d hf) hS (fun q _ h => zA.in hD hS E.hA q h) (fun q h => zA.in hD hS E.hA q h) (fun q _ h => zA.in hD hS E.hA q h) (fun E0 ce q9 u t H1 locs1 ht hvm hp hB hz1 hk1 hS1 hce hcv hcl => kx E0 u.2 q9 ce H1 locs1 ls (by rw [hB.1]; exact hp) (by rw [← ht]; exact hB.2.1) (hB.2.2.2.weaken (fun _ q _ h => zA.in hD hS E.hA q.1 h)) hS1 hl hce hcv hcl) (fun r u t H1 locs1 ht hvm hp hB hz1 hk1 hS1 => k r u hp H1 locs1 ls (by rw [← ht]; exact hB.1) (hB.2.2.weaken (fun _ q _ h => zA.in hD hS E.hA q.1 h)) hS1 hl)
theorem z_callSdN (E : zE p s m args c D tys A nL cc own Ts) (hZ : zSK A s s.heap) {y : MethodName} {wl wl' : List Cond} {rm : Room} {bytes : ByteArray} {maxL mc ms n index : Nat} {ret : Option FieldType} {As st : List Value} {S : Type} {post : UInt64 → S → Prop} {out : S → va_W} {SX : Type} {px : String → SX → Prop} {outx : SX → va_W} (hM : zXd l y wl rm D tys (As) ws post out px outx mc ms) (hg : GoodIn Ts (va_wsS own index y wl)) (hw : wl = Cond.code y bytes maxL ret :: wl') (hmc : rm.cells = mc) (hms : rm.slots = ms) (hd : y.cls ≠ "java/lang/invoke/MethodHandle" ∧ y.cls ≠ "java/lang/invoke/VarHandle" ∧ (parseMethodDescriptor y.desc).map (fun d => d.parameters.length) = some n) (hn : As.length = n) (hR : rm.frames + 1 ≤ R.frames ∧ 8 + (maxL + 11) + rm.locals ≤ R.locals)  (hstk : st = As.reverse ++ rest) (hcat : (rest.map fun v => v.category).sum ≤ 8) (hf : cells + mc ≤ R.cells ∧ slots + ms ≤ R.slots) (d : decode cc pc = .ok (.invokestatic index, 3)) (hno : ∀ (E0 : String) (u : SX), ¬ px E0 u) (k : ∀ (r : UInt64) (u : S), post r u → zW p l e R s m args below meth c D A Q nL (out u) (cells + mc) (slots + ms) (pc + 3) lv (.double r :: rest)) : zW p l e R s m args below meth c D A Q nL ws cells slots pc lv st := z_callSdX E hZ hM hg hw hmc hms hd hn hR hstk hcat hf d (fun E0 u _ _ _ _ _ hp => absurd hp (hno E0 u)) k
theorem z_callVq (E : zE p s m args c D tys A nL cc own Ts) (hZ : zSK A s s.heap) {y : MethodName} {wl wl' : List Cond} {rm : Room} {bytes : ByteArray} {maxL mc ms n index : Nat} {ret : Option FieldType} {C : String} {b : Nat} {As st : List Value} {S : Type} {post : Option Nat → S → Prop} {out : S → va_W} (hM : zMq l y wl rm D tys (.ref b :: As) ws post out mc ms) (hg : GoodIn Ts (wsV own index C y wl)) (hw : wl = Cond.code y bytes maxL ret :: wl') (hmc : rm.cells = mc) (hms : rm.slots = ms) (hd : y.cls = C ∧ y.cls ≠ "java/lang/invoke/MethodHandle" ∧ y.cls ≠ "java/lang/invoke/VarHandle" ∧ (parseMethodDescriptor y.desc).map (fun d => d.parameters.length) = some n) (hn : As.length = n) (hR : rm.frames + 1 ≤ R.frames ∧ 8 + (maxL + 11) + rm.locals ≤ R.locals) {T0 : u_T} {N ci : Nat} {fs : List Value} (hci : vwCl[ci]? = some (C, T0, N)) (q0 : Nat) (hrv : ws[q0]? = some (b, .inr (ci, fs))) (hstk : st = As.reverse ++ .ref b :: rest) (hcat : (rest.map fun v => v.category).sum ≤ 8) (hf : cells + mc ≤ R.cells ∧ slots + ms ≤ R.slots) (d : decode cc pc = .ok (.invokevirtual index, 3)) (k : ∀ (r : Option Nat) (u : S), post r u → zW p l e R s m args below meth c D A Q nL (out u) (cells + mc) (slots + ms) (pc + 3) lv (va_rf r :: rest)) : zW p l e R s m args below meth c D A Q nL ws cells slots pc lv st := fun H locs ls hP hD hS hl => va_callq (va_runV (As := As) (rest := rest) ⟨E.hx, E.hb, E.hml, E.hown, E.hts⟩ (hM H.size) (cwV n E.hts hg hw hmc hms hd hR) ⟨zPc.blind, va_recv E.hK hP hci hrv, zPc.start hP hD hS E.hA E.hK hZ⟩ rfl hn hl.1 hstk (lv_room hcat) d hf) hS (fun q _ h => zA.in hD hS E.hA q h) (fun q h => zA.in hD hS E.hA q h) (fun r u t H1 locs1 ht hvm hp hB hz1 hk1 hS1 => k r u hp H1 locs1 ls (by rw [← ht]; exact hB.1) (hB.2.2.weaken (fun _ q _ h => zA.in hD hS E.hA q.1 h)) hS1 hl)
theorem z_callVqX (E : zE p s m args c D tys A nL cc own Ts) (hZ : zSK A s s.heap) {y : MethodName} {wl wl' : List Cond} {rm : Room} {bytes : ByteArray} {maxL mc ms n index : Nat} {ret : Option FieldType} {C : String} {b : Nat} {As st : List Value} {S : Type} {post : Option Nat → S → Prop} {out : S → va_W} {SX : Type} {px : String → SX → Prop} {outx : SX → va_W} (hM : zXq l y wl rm D tys (.ref b :: As) ws post out px outx mc ms) (hg : GoodIn Ts (wsV own index C y wl)) (hw : wl = Cond.code y bytes maxL ret :: wl') (hmc : rm.cells = mc) (hms : rm.slots = ms) (hd : y.cls = C ∧ y.cls ≠ "java/lang/invoke/MethodHandle" ∧ y.cls ≠ "java/lang/invoke/VarHandle" ∧ (parseMethodDescriptor y.desc).map (fun d => d.parameters.length) = some n) (hn : As.length = n) (hR : rm.frames + 1 ≤ R.frames ∧ 8 + (maxL + 11) + rm.locals ≤ R.locals) {T0 : u_T} {N ci : Nat} {fs : List Value} (hci : vwCl[ci]? = some (C, T0, N)) (q0 : Nat) (hrv : ws[q0]? = some (b, .inr (ci, fs))) (hstk : st = As.reverse ++ .ref b :: rest) (hcat : (rest.map fun v => v.category).sum ≤ 8) (hf : cells + mc ≤ R.cells ∧ slots + ms ≤ R.slots) (d : decode cc pc = .ok (.invokevirtual index, 3)) (kx : ∀ (E0 : String) (u : SX) (q9 : Nat) (ce : Cell) (H : Heap) (locs : List Loc) (ls : Array Slot), px E0 u → va_P D vwCl (outx u) H → va_D A (outx u) → va_S A s.heap H locs → lv_has ls nL lv → H[q9]? = some ce → ce.vm = .none → s.vm.findClass E0 = some ce.cls → vx_W p l e R s m args below meth c H locs (cells + mc) (slots + ms) Q (F0 m pc ls rest) q9) (k : ∀ (r : Option Nat) (u : S), post r u → zW p l e R s m args below meth c D A Q nL (out u) (cells + mc) (slots + ms) (pc + 3) lv (va_rf r :: rest)) : zW p l e R s m args below meth c D A Q nL ws cells slots pc lv st := fun H locs ls hP hD hS hl => vx_callq (vx_runV (As := As) (rest := rest) ⟨E.hx, E.hb, E.hml, E.hown, E.hts⟩ (hM H.size) (cwV n E.hts hg hw hmc hms hd hR) ⟨zPc.blind, va_recv E.hK hP hci hrv, zPc.start hP hD hS E.hA E.hK hZ⟩ rfl hn hl.1 hstk (lv_room hcat) d hf) hS (fun q _ h => zA.in hD hS E.hA q h) (fun q h => zA.in hD hS E.hA q h) (fun q _ h => zA.in hD hS E.hA q h) (fun E0 ce q9 u t H1 locs1 ht hvm hp hB hz1 hk1 hS1 hce hcv hcl => kx E0 u.2 q9 ce H1 locs1 ls (by rw [hB.1]; exact hp) (by rw [← ht]; exact hB.2.1) (hB.2.2.2.weaken (fun _ q _ h => zA.in hD hS E.hA q.1 h)) hS1 hl hce hcv hcl) (fun r u t H1 locs1 ht hvm hp hB hz1 hk1 hS1 => k r u hp H1 locs1 ls (by rw [← ht]; exact hB.1) (hB.2.2.weaken (fun _ q _ h => zA.in hD hS E.hA q.1 h)) hS1 hl)
theorem z_callVqN (E : zE p s m args c D tys A nL cc own Ts) (hZ : zSK A s s.heap) {y : MethodName} {wl wl' : List Cond} {rm : Room} {bytes : ByteArray} {maxL mc ms n index : Nat} {ret : Option FieldType} {C : String} {b : Nat} {As st : List Value} {S : Type} {post : Option Nat → S → Prop} {out : S → va_W} {SX : Type} {px : String → SX → Prop} {outx : SX → va_W} (hM : zXq l y wl rm D tys (.ref b :: As) ws post out px outx mc ms) (hg : GoodIn Ts (wsV own index C y wl)) (hw : wl = Cond.code y bytes maxL ret :: wl') (hmc : rm.cells = mc) (hms : rm.slots = ms) (hd : y.cls = C ∧ y.cls ≠ "java/lang/invoke/MethodHandle" ∧ y.cls ≠ "java/lang/invoke/VarHandle" ∧ (parseMethodDescriptor y.desc).map (fun d => d.parameters.length) = some n) (hn : As.length = n) (hR : rm.frames + 1 ≤ R.frames ∧ 8 + (maxL + 11) + rm.locals ≤ R.locals) {T0 : u_T} {N ci : Nat} {fs : List Value} (hci : vwCl[ci]? = some (C, T0, N)) (q0 : Nat) (hrv : ws[q0]? = some (b, .inr (ci, fs))) (hstk : st = As.reverse ++ .ref b :: rest) (hcat : (rest.map fun v => v.category).sum ≤ 8) (hf : cells + mc ≤ R.cells ∧ slots + ms ≤ R.slots) (d : decode cc pc = .ok (.invokevirtual index, 3)) (hno : ∀ (E0 : String) (u : SX), ¬ px E0 u) (k : ∀ (r : Option Nat) (u : S), post r u → zW p l e R s m args below meth c D A Q nL (out u) (cells + mc) (slots + ms) (pc + 3) lv (va_rf r :: rest)) : zW p l e R s m args below meth c D A Q nL ws cells slots pc lv st := z_callVqX E hZ hM hg hw hmc hms hd hn hR hci q0 hrv hstk hcat hf d (fun E0 u _ _ _ _ _ hp => absurd hp (hno E0 u)) k
theorem z_callSq (E : zE p s m args c D tys A nL cc own Ts) (hZ : zSK A s s.heap) {y : MethodName} {wl wl' : List Cond} {rm : Room} {bytes : ByteArray} {maxL mc ms n index : Nat} {ret : Option FieldType} {As st : List Value} {S : Type} {post : Option Nat → S → Prop} {out : S → va_W} (hM : zMq l y wl rm D tys (As) ws post out mc ms) (hg : GoodIn Ts (va_wsS own index y wl)) (hw : wl = Cond.code y bytes maxL ret :: wl') (hmc : rm.cells = mc) (hms : rm.slots = ms) (hd : y.cls ≠ "java/lang/invoke/MethodHandle" ∧ y.cls ≠ "java/lang/invoke/VarHandle" ∧ (parseMethodDescriptor y.desc).map (fun d => d.parameters.length) = some n) (hn : As.length = n) (hR : rm.frames + 1 ≤ R.frames ∧ 8 + (maxL + 11) + rm.locals ≤ R.locals)  (hstk : st = As.reverse ++ rest) (hcat : (rest.map fun v => v.category).sum ≤ 8) (hf : cells + mc ≤ R.cells ∧ slots + ms ≤ R.slots) (d : decode cc pc = .ok (.invokestatic index, 3)) (k : ∀ (r : Option Nat) (u : S), post r u → zW p l e R s m args below meth c D A Q nL (out u) (cells + mc) (slots + ms) (pc + 3) lv (va_rf r :: rest)) : zW p l e R s m args below meth c D A Q nL ws cells slots pc lv st := fun H locs ls hP hD hS hl => va_callq (va_runS (As := As) (rest := rest) ⟨E.hx, E.hb, E.hml, E.hown, E.hts⟩ (hM H.size) (va_cwS n E.hts hg hw hmc hms hd hR) ⟨zPc.blind, zPc.start hP hD hS E.hA E.hK hZ⟩ rfl hn hl.1 hstk (lv_room hcat) d hf) hS (fun q _ h => zA.in hD hS E.hA q h) (fun q h => zA.in hD hS E.hA q h) (fun r u t H1 locs1 ht hvm hp hB hz1 hk1 hS1 => k r u hp H1 locs1 ls (by rw [← ht]; exact hB.1) (hB.2.2.weaken (fun _ q _ h => zA.in hD hS E.hA q.1 h)) hS1 hl)
theorem z_callSqX (E : zE p s m args c D tys A nL cc own Ts) (hZ : zSK A s s.heap) {y : MethodName} {wl wl' : List Cond} {rm : Room} {bytes : ByteArray} {maxL mc ms n index : Nat} {ret : Option FieldType} {As st : List Value} {S : Type} {post : Option Nat → S → Prop} {out : S → va_W} {SX : Type} {px : String → SX → Prop} {outx : SX → va_W} (hM : zXq l y wl rm D tys (As) ws post out px outx mc ms) (hg : GoodIn Ts (va_wsS own index y wl)) (hw : wl = Cond.code y bytes maxL ret :: wl') (hmc : rm.cells = mc) (hms : rm.slots = ms) (hd : y.cls ≠ "java/lang/invoke/MethodHandle" ∧ y.cls ≠ "java/lang/invoke/VarHandle" ∧ (parseMethodDescriptor y.desc).map (fun d => d.parameters.length) = some n) (hn : As.length = n) (hR : rm.frames + 1 ≤ R.frames ∧ 8 + (maxL + 11) + rm.locals ≤ R.locals)  (hstk : st = As.reverse ++ rest) (hcat : (rest.map fun v => v.category).sum ≤ 8) (hf : cells + mc ≤ R.cells ∧ slots + ms ≤ R.slots) (d : decode cc pc = .ok (.invokestatic index, 3)) (kx : ∀ (E0 : String) (u : SX) (q9 : Nat) (ce : Cell) (H : Heap) (locs : List Loc) (ls : Array Slot), px E0 u → va_P D vwCl (outx u) H → va_D A (outx u) → va_S A s.heap H locs → lv_has ls nL lv → H[q9]? = some ce → ce.vm = .none → s.vm.findClass E0 = some ce.cls → vx_W p l e R s m args below meth c H locs (cells + mc) (slots + ms) Q (F0 m pc ls rest) q9) (k : ∀ (r : Option Nat) (u : S), post r u → zW p l e R s m args below meth c D A Q nL (out u) (cells + mc) (slots + ms) (pc + 3) lv (va_rf r :: rest)) : zW p l e R s m args below meth c D A Q nL ws cells slots pc lv st := fun H locs ls hP hD hS hl => vx_callq (vx_runS (As := As) (rest := rest) ⟨E.hx, E.hb, E.hml, E.hown, E.hts⟩ (hM H.size) (va_cwS n E.hts hg hw hmc hms hd hR) ⟨zPc.blind, zPc.start hP hD hS E.hA E.hK hZ⟩ rfl hn hl.1 hstk (lv_room hcat) d hf) hS (fun q _ h => zA.in hD hS E.hA q h) (fun q h => zA.in hD hS E.hA q h) (fun q _ h => zA.in hD hS E.hA q h) (fun E0 ce q9 u t H1 locs1 ht hvm hp hB hz1 hk1 hS1 hce hcv hcl => kx E0 u.2 q9 ce H1 locs1 ls (by rw [hB.1]; exact hp) (by rw [← ht]; exact hB.2.1) (hB.2.2.2.weaken (fun _ q _ h => zA.in hD hS E.hA q.1 h)) hS1 hl hce hcv hcl) (fun r u t H1 locs1 ht hvm hp hB hz1 hk1 hS1 => k r u hp H1 locs1 ls (by rw [← ht]; exact hB.1) (hB.2.2.weaken (fun _ q _ h => zA.in hD hS E.hA q.1 h)) hS1 hl)
theorem z_callSqN (E : zE p s m args c D tys A nL cc own Ts) (hZ : zSK A s s.heap) {y : MethodName} {wl wl' : List Cond} {rm : Room} {bytes : ByteArray} {maxL mc ms n index : Nat} {ret : Option FieldType} {As st : List Value} {S : Type} {post : Option Nat → S → Prop} {out : S → va_W} {SX : Type} {px : String → SX → Prop} {outx : SX → va_W} (hM : zXq l y wl rm D tys (As) ws post out px outx mc ms) (hg : GoodIn Ts (va_wsS own index y wl)) (hw : wl = Cond.code y bytes maxL ret :: wl') (hmc : rm.cells = mc) (hms : rm.slots = ms) (hd : y.cls ≠ "java/lang/invoke/MethodHandle" ∧ y.cls ≠ "java/lang/invoke/VarHandle" ∧ (parseMethodDescriptor y.desc).map (fun d => d.parameters.length) = some n) (hn : As.length = n) (hR : rm.frames + 1 ≤ R.frames ∧ 8 + (maxL + 11) + rm.locals ≤ R.locals)  (hstk : st = As.reverse ++ rest) (hcat : (rest.map fun v => v.category).sum ≤ 8) (hf : cells + mc ≤ R.cells ∧ slots + ms ≤ R.slots) (d : decode cc pc = .ok (.invokestatic index, 3)) (hno : ∀ (E0 : String) (u : SX), ¬ px E0 u) (k : ∀ (r : Option Nat) (u : S), post r u → zW p l e R s m args below meth c D A Q nL (out u) (cells + mc) (slots + ms) (pc + 3) lv (va_rf r :: rest)) : zW p l e R s m args below meth c D A Q nL ws cells slots pc lv st := z_callSqX E hZ hM hg hw hmc hms hd hn hR hstk hcat hf d (fun E0 u _ _ _ _ _ hp => absurd hp (hno E0 u)) k
theorem z_callVv (E : zE p s m args c D tys A nL cc own Ts) (hZ : zSK A s s.heap) {y : MethodName} {wl wl' : List Cond} {rm : Room} {bytes : ByteArray} {maxL mc ms n index : Nat} {ret : Option FieldType} {C : String} {b : Nat} {As st : List Value} {S : Type} {post : S → Prop} {out : S → va_W} (hM : zMv l y wl rm D tys (.ref b :: As) ws post out mc ms) (hg : GoodIn Ts (wsV own index C y wl)) (hw : wl = Cond.code y bytes maxL ret :: wl') (hmc : rm.cells = mc) (hms : rm.slots = ms) (hd : y.cls = C ∧ y.cls ≠ "java/lang/invoke/MethodHandle" ∧ y.cls ≠ "java/lang/invoke/VarHandle" ∧ (parseMethodDescriptor y.desc).map (fun d => d.parameters.length) = some n) (hn : As.length = n) (hR : rm.frames + 1 ≤ R.frames ∧ 8 + (maxL + 11) + rm.locals ≤ R.locals) {T0 : u_T} {N ci : Nat} {fs : List Value} (hci : vwCl[ci]? = some (C, T0, N)) (q0 : Nat) (hrv : ws[q0]? = some (b, .inr (ci, fs))) (hstk : st = As.reverse ++ .ref b :: rest) (hcat : (rest.map fun v => v.category).sum ≤ 8) (hf : cells + mc ≤ R.cells ∧ slots + ms ≤ R.slots) (d : decode cc pc = .ok (.invokevirtual index, 3)) (k : ∀ (u : S), post u → zW p l e R s m args below meth c D A Q nL (out u) (cells + mc) (slots + ms) (pc + 3) lv (rest)) : zW p l e R s m args below meth c D A Q nL ws cells slots pc lv st := fun H locs ls hP hD hS hl => va_callv (va_runV (As := As) (rest := rest) ⟨E.hx, E.hb, E.hml, E.hown, E.hts⟩ (hM H.size) (cwV n E.hts hg hw hmc hms hd hR) ⟨zPc.blind, va_recv E.hK hP hci hrv, zPc.start hP hD hS E.hA E.hK hZ⟩ rfl hn hl.1 hstk (lv_room hcat) d hf) hS (fun q _ h => zA.in hD hS E.hA q h) (fun q h => zA.in hD hS E.hA q h) (fun u t H1 locs1 ht hvm hp hB hz1 hk1 hS1 => k u hp H1 locs1 ls (by rw [← ht]; exact hB.1) (hB.2.2.weaken (fun _ q _ h => zA.in hD hS E.hA q.1 h)) hS1 hl)
theorem z_callVvX (E : zE p s m args c D tys A nL cc own Ts) (hZ : zSK A s s.heap) {y : MethodName} {wl wl' : List Cond} {rm : Room} {bytes : ByteArray} {maxL mc ms n index : Nat} {ret : Option FieldType} {C : String} {b : Nat} {As st : List Value} {S : Type} {post : S → Prop} {out : S → va_W} {SX : Type} {px : String → SX → Prop} {outx : SX → va_W} (hM : zXv l y wl rm D tys (.ref b :: As) ws post out px outx mc ms) (hg : GoodIn Ts (wsV own index C y wl)) (hw : wl = Cond.code y bytes maxL ret :: wl') (hmc : rm.cells = mc) (hms : rm.slots = ms) (hd : y.cls = C ∧ y.cls ≠ "java/lang/invoke/MethodHandle" ∧ y.cls ≠ "java/lang/invoke/VarHandle" ∧ (parseMethodDescriptor y.desc).map (fun d => d.parameters.length) = some n) (hn : As.length = n) (hR : rm.frames + 1 ≤ R.frames ∧ 8 + (maxL + 11) + rm.locals ≤ R.locals) {T0 : u_T} {N ci : Nat} {fs : List Value} (hci : vwCl[ci]? = some (C, T0, N)) (q0 : Nat) (hrv : ws[q0]? = some (b, .inr (ci, fs))) (hstk : st = As.reverse ++ .ref b :: rest) (hcat : (rest.map fun v => v.category).sum ≤ 8) (hf : cells + mc ≤ R.cells ∧ slots + ms ≤ R.slots) (d : decode cc pc = .ok (.invokevirtual index, 3)) (kx : ∀ (E0 : String) (u : SX) (q9 : Nat) (ce : Cell) (H : Heap) (locs : List Loc) (ls : Array Slot), px E0 u → va_P D vwCl (outx u) H → va_D A (outx u) → va_S A s.heap H locs → lv_has ls nL lv → H[q9]? = some ce → ce.vm = .none → s.vm.findClass E0 = some ce.cls → vx_W p l e R s m args below meth c H locs (cells + mc) (slots + ms) Q (F0 m pc ls rest) q9) (k : ∀ (u : S), post u → zW p l e R s m args below meth c D A Q nL (out u) (cells + mc) (slots + ms) (pc + 3) lv (rest)) : zW p l e R s m args below meth c D A Q nL ws cells slots pc lv st := fun H locs ls hP hD hS hl => vx_callv (vx_runV (As := As) (rest := rest) ⟨E.hx, E.hb, E.hml, E.hown, E.hts⟩ (hM H.size) (cwV n E.hts hg hw hmc hms hd hR) ⟨zPc.blind, va_recv E.hK hP hci hrv, zPc.start hP hD hS E.hA E.hK hZ⟩ rfl hn hl.1 hstk (lv_room hcat) d hf) hS (fun q _ h => zA.in hD hS E.hA q h) (fun q h => zA.in hD hS E.hA q h) (fun q _ h => zA.in hD hS E.hA q h) (fun E0 ce q9 u t H1 locs1 ht hvm hp hB hz1 hk1 hS1 hce hcv hcl => kx E0 u.2 q9 ce H1 locs1 ls (by rw [hB.1]; exact hp) (by rw [← ht]; exact hB.2.1) (hB.2.2.2.weaken (fun _ q _ h => zA.in hD hS E.hA q.1 h)) hS1 hl hce hcv hcl) (fun u t H1 locs1 ht hvm hp hB hz1 hk1 hS1 => k u hp H1 locs1 ls (by rw [← ht]; exact hB.1) (hB.2.2.weaken (fun _ q _ h => zA.in hD hS E.hA q.1 h)) hS1 hl)
theorem z_callVvN (E : zE p s m args c D tys A nL cc own Ts) (hZ : zSK A s s.heap) {y : MethodName} {wl wl' : List Cond} {rm : Room} {bytes : ByteArray} {maxL mc ms n index : Nat} {ret : Option FieldType} {C : String} {b : Nat} {As st : List Value} {S : Type} {post : S → Prop} {out : S → va_W} {SX : Type} {px : String → SX → Prop} {outx : SX → va_W} (hM : zXv l y wl rm D tys (.ref b :: As) ws post out px outx mc ms) (hg : GoodIn Ts (wsV own index C y wl)) (hw : wl = Cond.code y bytes maxL ret :: wl') (hmc : rm.cells = mc) (hms : rm.slots = ms) (hd : y.cls = C ∧ y.cls ≠ "java/lang/invoke/MethodHandle" ∧ y.cls ≠ "java/lang/invoke/VarHandle" ∧ (parseMethodDescriptor y.desc).map (fun d => d.parameters.length) = some n) (hn : As.length = n) (hR : rm.frames + 1 ≤ R.frames ∧ 8 + (maxL + 11) + rm.locals ≤ R.locals) {T0 : u_T} {N ci : Nat} {fs : List Value} (hci : vwCl[ci]? = some (C, T0, N)) (q0 : Nat) (hrv : ws[q0]? = some (b, .inr (ci, fs))) (hstk : st = As.reverse ++ .ref b :: rest) (hcat : (rest.map fun v => v.category).sum ≤ 8) (hf : cells + mc ≤ R.cells ∧ slots + ms ≤ R.slots) (d : decode cc pc = .ok (.invokevirtual index, 3)) (hno : ∀ (E0 : String) (u : SX), ¬ px E0 u) (k : ∀ (u : S), post u → zW p l e R s m args below meth c D A Q nL (out u) (cells + mc) (slots + ms) (pc + 3) lv (rest)) : zW p l e R s m args below meth c D A Q nL ws cells slots pc lv st := z_callVvX E hZ hM hg hw hmc hms hd hn hR hci q0 hrv hstk hcat hf d (fun E0 u _ _ _ _ _ hp => absurd hp (hno E0 u)) k
theorem z_callSv (E : zE p s m args c D tys A nL cc own Ts) (hZ : zSK A s s.heap) {y : MethodName} {wl wl' : List Cond} {rm : Room} {bytes : ByteArray} {maxL mc ms n index : Nat} {ret : Option FieldType} {As st : List Value} {S : Type} {post : S → Prop} {out : S → va_W} (hM : zMv l y wl rm D tys (As) ws post out mc ms) (hg : GoodIn Ts (va_wsS own index y wl)) (hw : wl = Cond.code y bytes maxL ret :: wl') (hmc : rm.cells = mc) (hms : rm.slots = ms) (hd : y.cls ≠ "java/lang/invoke/MethodHandle" ∧ y.cls ≠ "java/lang/invoke/VarHandle" ∧ (parseMethodDescriptor y.desc).map (fun d => d.parameters.length) = some n) (hn : As.length = n) (hR : rm.frames + 1 ≤ R.frames ∧ 8 + (maxL + 11) + rm.locals ≤ R.locals)  (hstk : st = As.reverse ++ rest) (hcat : (rest.map fun v => v.category).sum ≤ 8) (hf : cells + mc ≤ R.cells ∧ slots + ms ≤ R.slots) (d : decode cc pc = .ok (.invokestatic index, 3)) (k : ∀ (u : S), post u → zW p l e R s m args below meth c D A Q nL (out u) (cells + mc) (slots + ms) (pc + 3) lv (rest)) : zW p l e R s m args below meth c D A Q nL ws cells slots pc lv st := fun H locs ls hP hD hS hl => va_callv (va_runS (As := As) (rest := rest) ⟨E.hx, E.hb, E.hml, E.hown, E.hts⟩ (hM H.size) (va_cwS n E.hts hg hw hmc hms hd hR) ⟨zPc.blind, zPc.start hP hD hS E.hA E.hK hZ⟩ rfl hn hl.1 hstk (lv_room hcat) d hf) hS (fun q _ h => zA.in hD hS E.hA q h) (fun q h => zA.in hD hS E.hA q h) (fun u t H1 locs1 ht hvm hp hB hz1 hk1 hS1 => k u hp H1 locs1 ls (by rw [← ht]; exact hB.1) (hB.2.2.weaken (fun _ q _ h => zA.in hD hS E.hA q.1 h)) hS1 hl)
theorem z_callSvX (E : zE p s m args c D tys A nL cc own Ts) (hZ : zSK A s s.heap) {y : MethodName} {wl wl' : List Cond} {rm : Room} {bytes : ByteArray} {maxL mc ms n index : Nat} {ret : Option FieldType} {As st : List Value} {S : Type} {post : S → Prop} {out : S → va_W} {SX : Type} {px : String → SX → Prop} {outx : SX → va_W} (hM : zXv l y wl rm D tys (As) ws post out px outx mc ms) (hg : GoodIn Ts (va_wsS own index y wl)) (hw : wl = Cond.code y bytes maxL ret :: wl') (hmc : rm.cells = mc) (hms : rm.slots = ms) (hd : y.cls ≠ "java/lang/invoke/MethodHandle" ∧ y.cls ≠ "java/lang/invoke/VarHandle" ∧ (parseMethodDescriptor y.desc).map (fun d => d.parameters.length) = some n) (hn : As.length = n) (hR : rm.frames + 1 ≤ R.frames ∧ 8 + (maxL + 11) + rm.locals ≤ R.locals)  (hstk : st = As.reverse ++ rest) (hcat : (rest.map fun v => v.category).sum ≤ 8) (hf : cells + mc ≤ R.cells ∧ slots + ms ≤ R.slots) (d : decode cc pc = .ok (.invokestatic index, 3)) (kx : ∀ (E0 : String) (u : SX) (q9 : Nat) (ce : Cell) (H : Heap) (locs : List Loc) (ls : Array Slot), px E0 u → va_P D vwCl (outx u) H → va_D A (outx u) → va_S A s.heap H locs → lv_has ls nL lv → H[q9]? = some ce → ce.vm = .none → s.vm.findClass E0 = some ce.cls → vx_W p l e R s m args below meth c H locs (cells + mc) (slots + ms) Q (F0 m pc ls rest) q9) (k : ∀ (u : S), post u → zW p l e R s m args below meth c D A Q nL (out u) (cells + mc) (slots + ms) (pc + 3) lv (rest)) : zW p l e R s m args below meth c D A Q nL ws cells slots pc lv st := fun H locs ls hP hD hS hl => vx_callv (vx_runS (As := As) (rest := rest) ⟨E.hx, E.hb, E.hml, E.hown, E.hts⟩ (hM H.size) (va_cwS n E.hts hg hw hmc hms hd hR) ⟨zPc.blind, zPc.start hP hD hS E.hA E.hK hZ⟩ rfl hn hl.1 hstk (lv_room hcat) d hf) hS (fun q _ h => zA.in hD hS E.hA q h) (fun q h => zA.in hD hS E.hA q h) (fun q _ h => zA.in hD hS E.hA q h) (fun E0 ce q9 u t H1 locs1 ht hvm hp hB hz1 hk1 hS1 hce hcv hcl => kx E0 u.2 q9 ce H1 locs1 ls (by rw [hB.1]; exact hp) (by rw [← ht]; exact hB.2.1) (hB.2.2.2.weaken (fun _ q _ h => zA.in hD hS E.hA q.1 h)) hS1 hl hce hcv hcl) (fun u t H1 locs1 ht hvm hp hB hz1 hk1 hS1 => k u hp H1 locs1 ls (by rw [← ht]; exact hB.1) (hB.2.2.weaken (fun _ q _ h => zA.in hD hS E.hA q.1 h)) hS1 hl)
theorem z_callSvN (E : zE p s m args c D tys A nL cc own Ts) (hZ : zSK A s s.heap) {y : MethodName} {wl wl' : List Cond} {rm : Room} {bytes : ByteArray} {maxL mc ms n index : Nat} {ret : Option FieldType} {As st : List Value} {S : Type} {post : S → Prop} {out : S → va_W} {SX : Type} {px : String → SX → Prop} {outx : SX → va_W} (hM : zXv l y wl rm D tys (As) ws post out px outx mc ms) (hg : GoodIn Ts (va_wsS own index y wl)) (hw : wl = Cond.code y bytes maxL ret :: wl') (hmc : rm.cells = mc) (hms : rm.slots = ms) (hd : y.cls ≠ "java/lang/invoke/MethodHandle" ∧ y.cls ≠ "java/lang/invoke/VarHandle" ∧ (parseMethodDescriptor y.desc).map (fun d => d.parameters.length) = some n) (hn : As.length = n) (hR : rm.frames + 1 ≤ R.frames ∧ 8 + (maxL + 11) + rm.locals ≤ R.locals)  (hstk : st = As.reverse ++ rest) (hcat : (rest.map fun v => v.category).sum ≤ 8) (hf : cells + mc ≤ R.cells ∧ slots + ms ≤ R.slots) (d : decode cc pc = .ok (.invokestatic index, 3)) (hno : ∀ (E0 : String) (u : SX), ¬ px E0 u) (k : ∀ (u : S), post u → zW p l e R s m args below meth c D A Q nL (out u) (cells + mc) (slots + ms) (pc + 3) lv (rest)) : zW p l e R s m args below meth c D A Q nL ws cells slots pc lv st := z_callSvX E hZ hM hg hw hmc hms hd hn hR hstk hcat hf d (fun E0 u _ _ _ _ _ hp => absurd hp (hno E0 u)) k
theorem zx_out {Qc : Array Value → State → Outcome → State → Prop} {SY : Type} {py : String → SY → Prop} {outy : SY → va_W} {mc ms : Nat} (E : zE p s m args c D tys A nL cc own Ts) (htb : ∀ x ∈ c.exceptionTable.toList, False) (hlocks : meth.locks = false) {E0 : String} {q9 : Nat} {ce : Cell} {H : Heap} {locs : List Loc} {ls : Array Slot} (uy : SY) (hpy : py E0 uy) (hP : va_P D vwCl (outy uy) H) (hD : va_D A (outy uy)) (hS : va_S A s.heap H locs) (h1 : H[q9]? = some ce) (h2 : ce.vm = .none) (h3 : s.vm.findClass E0 = some ce.cls) (hc : cells ≤ mc) (hs : slots ≤ ms) :
    vx_W p l e R s m args below meth c H locs cells slots (vx_MQ below Qc (vx_X (fun u : String × SY => py u.1 u.2) (fun E1 u t => E1 = u.1 ∧ zB D tys A (outy u.2) t) A) args s mc ms A) (F0 m pc ls rest) q9 :=
  vx_out (fun x hx => (htb x hx).elim) hlocks h1 h2 h3 (fun t ht hvm => ⟨(E0, uy), hpy, ⟨rfl, by rw [ht]; exact hP, E.hK.moved hvm, hD⟩, hS.F ht⟩) hS.2.2 hc hs
/-- where two ways meet: told once -/
theorem z_join {pc2 : Nat} {lv2 : Int32 → List (Nat × Value)} {st2 : Int32 → List Value} {c2 s2 : Nat} (P : Int32 → Prop) (hJ : ∀ v : Int32, P v → zW p l e R s m args below meth c D A Q nL ws c2 s2 pc2 (lv2 v) (st2 v)) (k : (∀ v : Int32, P v → zW p l e R s m args below meth c D A Q nL ws c2 s2 pc2 (lv2 v) (st2 v)) → zW p l e R s m args below meth c D A Q nL ws cells slots pc lv rest) : zW p l e R s m args below meth c D A Q nL ws cells slots pc lv rest := k hJ
theorem z_getsN (E : zE p s m args c D tys A nL cc own Ts) {C n0 d0 host : String} {v : Value} {index : Nat} (hZ : va_Z C n0 d0 v A s s.heap) (hlink : va_Nw (.fieldLinkNest own index C n0 d0 host) s) (d : decode cc pc = .ok (.getstatic index, 3)) (k : zW p l e R s m args below meth c D A Q nL ws cells slots (pc + 3) lv (v :: rest)) : zW p l e R s m args below meth c D A Q nL ws cells slots pc lv rest := fun H locs ls hP hD hS hl => va_getsN E.hx E.hb hZ hS E.hown (va_Nw.use rfl hlink) (fun _ h => h) d (k H locs ls hP hD hS hl)
end ZC
end
section
/-! the class's memory: cell i holds the ints mem i k; its cells lie at ad 0 .. ad 106 -/
abbrev zM : Type := Nat → Nat → Int32
def mset (mem : zM) (i k : Nat) (v : Int32) : zM := fun a b => if a = i ∧ b = k then v else mem a b
theorem mset_self (mem : zM) (i k : Nat) (v : Int32) : mset mem i k v i = upd (mem i) k v := by
  funext b
  by_cases h : b = k <;> simp [mset, upd, h]
theorem mset_ne (mem : zM) {i a : Nat} (k : Nat) (v : Int32) (h : a ≠ i) : mset mem i k v a = mem a := by
  funext b
  simp [mset, h]
theorem mset_at (mem : zM) (i k : Nat) (v : Int32) : mset mem i k v i k = v := by simp [mset]
/-- what the cell i is, with the row r of its ints -/
def cRow (ad : Nat → Nat) (cI cR cS : ClassId) (i : Nat) (r : Nat → Int32) : va_E :=
  if i < 87 then
    if i % 3 = 0 then .inr (2, [.int (r 0), .int (r 1), .int (r 2), .int (r 3), .int (r 4), .int (r 5), .int (r 6), .int (r 7), .ref (ad (i + 1)), .ref (ad (i + 2))])
    else .inl (cI, 3, .inl r)
  else if i < 94 then .inr (3, [.ref (ad (i + 7)), .int (r 1), .int (r 2)])
  else if i < 101 then .inl (cR, 4, .inr (.inr (.inr (.inr (fun k => some (ad (3 * (4 * (i - 94) + k))))))))
  else if i = 101 then .inr (0, [.ref (ad 102), .int (r 1), .int (r 2)])
  else if i = 102 then .inl (cS, 6, .inr (.inr (.inr (.inr (fun k => some (ad (88 + k)))))))
  else if i = 103 then .inr (4, [.ref (ad 104), .int (r 1), .int (r 2), .ref (ad 105)])
  else if i = 104 then .inl (cI, 60, .inl r)
  else if i = 105 then .inr (1, [.int (r 0), .int (r 1), .int (r 2), .int (r 3), .int (r 4), .int (r 5)])
  else .inr (5, [.ref (ad 87), .ref (ad 101), .ref (ad 103), .ref (ad 84)])
def cw (ad : Nat → Nat) (cI cR cS : ClassId) (mem : zM) : va_W := (List.range 107).map (fun i => (ad i, cRow ad cI cR cS i (mem i)))
/-- the kinds of arrays that are used -/
abbrev cK (cI cR cS cL : ClassId) : List (ClassId × FieldType) := [(cI, .int), (cR, .object "LadderClimb$Rig"), (cS, .object "LadderClimb$Site"), (cL, .long)]
section ZM
variable {ad : Nat → Nat} {cI cR cS : ClassId} {mem : zM}
theorem cw_at {i : Nat} (hi : i < 107) : (cw ad cI cR cS mem)[i]? = some (ad i, cRow ad cI cR cS i (mem i)) := by
  simp [cw, hi]
theorem cw_len : (cw ad cI cR cS mem).length = 107 := by simp [cw]
theorem cw_set {i : Nat} (hi : i < 107) {mem' : zM} {x : va_E} (he : cRow ad cI cR cS i (mem' i) = x) (ho : ∀ k, k ≠ i → mem' k = mem k) : (cw ad cI cR cS mem).set i (ad i, x) = cw ad cI cR cS mem' := by
  apply List.ext_getElem?
  intro k
  by_cases hk : k = i
  · subst hk
    rw [List.getElem?_set_self (by rw [cw_len]; exact hi), cw_at hi, he]
  · rw [List.getElem?_set_ne (fun h => hk h.symm)]
    by_cases hl : k < 107
    · rw [cw_at hl, cw_at hl, ho k hk]
    · rw [List.getElem?_eq_none (by rw [cw_len]; omega), List.getElem?_eq_none (by rw [cw_len]; omega)]
theorem cw_rig {j : Nat} (hj : j < 29) : (cw ad cI cR cS mem)[3 * j]? = some (ad (3 * j), .inr (2, [.int (mem (3 * j) 0), .int (mem (3 * j) 1), .int (mem (3 * j) 2), .int (mem (3 * j) 3), .int (mem (3 * j) 4), .int (mem (3 * j) 5), .int (mem (3 * j) 6), .int (mem (3 * j) 7), .ref (ad (3 * j + 1)), .ref (ad (3 * j + 2))])) := by
  rw [cw_at (by omega)]
  simp [cRow, show 3 * j < 87 by omega]
theorem cw_wt {j : Nat} (hj : j < 29) : (cw ad cI cR cS mem)[3 * j + 1]? = some (ad (3 * j + 1), .inl (cI, 3, .inl (mem (3 * j + 1)))) := by
  rw [cw_at (by omega)]
  simp [cRow, show 3 * j + 1 < 87 by omega, show (3 * j + 1) % 3 ≠ 0 by omega]
theorem cw_st {j : Nat} (hj : j < 29) : (cw ad cI cR cS mem)[3 * j + 2]? = some (ad (3 * j + 2), .inl (cI, 3, .inl (mem (3 * j + 2)))) := by
  rw [cw_at (by omega)]
  simp [cRow, show 3 * j + 2 < 87 by omega, show (3 * j + 2) % 3 ≠ 0 by omega]
theorem cw_site {t : Nat} (ht : t < 7) : (cw ad cI cR cS mem)[87 + t]? = some (ad (87 + t), .inr (3, [.ref (ad (94 + t)), .int (mem (87 + t) 1), .int (mem (87 + t) 2)])) := by
  rw [cw_at (by omega)]
  simp [cRow, show ¬ 87 + t < 87 by omega, show 87 + t < 94 by omega, show 87 + t + 7 = 94 + t by omega]
theorem cw_rigs {t : Nat} (ht : t < 7) : (cw ad cI cR cS mem)[94 + t]? = some (ad (94 + t), .inl (cR, 4, .inr (.inr (.inr (.inr (fun k => some (ad (3 * (4 * t + k))))))))) := by
  rw [cw_at (by omega)]
  simp [cRow, show ¬ 94 + t < 87 by omega, show ¬ 94 + t < 94 by omega, show 94 + t < 101 by omega, show 94 + t - 94 = t by omega]
theorem cw_hist : (cw ad cI cR cS mem)[101]? = some (ad 101, .inr (0, [.ref (ad 102), .int (mem 101 1), .int (mem 101 2)])) := by
  rw [cw_at (by omega)]; simp [cRow]
theorem cw_saved : (cw ad cI cR cS mem)[102]? = some (ad 102, .inl (cS, 6, .inr (.inr (.inr (.inr (fun k => some (ad (88 + k)))))))) := by
  rw [cw_at (by omega)]; simp [cRow]
theorem cw_works : (cw ad cI cR cS mem)[103]? = some (ad 103, .inr (4, [.ref (ad 104), .int (mem 103 1), .int (mem 103 2), .ref (ad 105)])) := by
  rw [cw_at (by omega)]; simp [cRow]
theorem cw_codes : (cw ad cI cR cS mem)[104]? = some (ad 104, .inl (cI, 60, .inl (mem 104))) := by
  rw [cw_at (by omega)]; simp [cRow]
theorem cw_read : (cw ad cI cR cS mem)[105]? = some (ad 105, .inr (1, [.int (mem 105 0), .int (mem 105 1), .int (mem 105 2), .int (mem 105 3), .int (mem 105 4), .int (mem 105 5)])) := by
  rw [cw_at (by omega)]; simp [cRow]
theorem cw_lad : (cw ad cI cR cS mem)[106]? = some (ad 106, .inr (5, [.ref (ad 87), .ref (ad 101), .ref (ad 103), .ref (ad 84)])) := by
  rw [cw_at (by omega)]; simp [cRow]
/-- a store into a field, into a row -/
theorem cs_rig {j : Nat} (hj : j < 29) (k : Nat) (hk : k < 8) {v : Int32} {x : va_E} (hx : x = .inr (2, [.int (mem (3 * j) 0), .int (mem (3 * j) 1), .int (mem (3 * j) 2), .int (mem (3 * j) 3), .int (mem (3 * j) 4), .int (mem (3 * j) 5), .int (mem (3 * j) 6), .int (mem (3 * j) 7), .ref (ad (3 * j + 1)), .ref (ad (3 * j + 2))].set k (.int v))) : (cw ad cI cR cS mem).set (3 * j) (ad (3 * j), x) = cw ad cI cR cS (mset mem (3 * j) k v) := by
  refine cw_set (by omega) ?_ (fun a ha => mset_ne mem k v ha)
  rw [hx, mset_self]
  rcases (show k = 0 ∨ k = 1 ∨ k = 2 ∨ k = 3 ∨ k = 4 ∨ k = 5 ∨ k = 6 ∨ k = 7 by omega) with h | h | h | h | h | h | h | h <;> subst h <;> simp [cRow, upd, show 3 * j < 87 by omega]
theorem cs_wt {j : Nat} (hj : j < 29) (n : Nat) (v : Int32) : (cw ad cI cR cS mem).set (3 * j + 1) (ad (3 * j + 1), .inl (cI, 3, .inl (upd (mem (3 * j + 1)) n v))) = cw ad cI cR cS (mset mem (3 * j + 1) n v) := by
  refine cw_set (by omega) ?_ (fun a ha => mset_ne mem n v ha)
  rw [mset_self]
  simp [cRow, show 3 * j + 1 < 87 by omega, show (3 * j + 1) % 3 ≠ 0 by omega]
theorem cs_st {j : Nat} (hj : j < 29) (n : Nat) (v : Int32) : (cw ad cI cR cS mem).set (3 * j + 2) (ad (3 * j + 2), .inl (cI, 3, .inl (upd (mem (3 * j + 2)) n v))) = cw ad cI cR cS (mset mem (3 * j + 2) n v) := by
  refine cw_set (by omega) ?_ (fun a ha => mset_ne mem n v ha)
  rw [mset_self]
  simp [cRow, show 3 * j + 2 < 87 by omega, show (3 * j + 2) % 3 ≠ 0 by omega]
theorem cs_site {t : Nat} (ht : t < 7) (k : Nat) (hk0 : 1 ≤ k) (hk : k < 3) {v : Int32} {x : va_E} (hx : x = .inr (3, [.ref (ad (94 + t)), .int (mem (87 + t) 1), .int (mem (87 + t) 2)].set k (.int v))) : (cw ad cI cR cS mem).set (87 + t) (ad (87 + t), x) = cw ad cI cR cS (mset mem (87 + t) k v) := by
  refine cw_set (by omega) ?_ (fun a ha => mset_ne mem k v ha)
  rw [hx, mset_self]
  rcases (show k = 1 ∨ k = 2 by omega) with h | h <;> subst h <;> simp [cRow, upd, show ¬ 87 + t < 87 by omega, show 87 + t < 94 by omega, show 87 + t + 7 = 94 + t by omega]
theorem cs_hist (k : Nat) (hk0 : 1 ≤ k) (hk : k < 3) {v : Int32} {x : va_E} (hx : x = .inr (0, [.ref (ad 102), .int (mem 101 1), .int (mem 101 2)].set k (.int v))) : (cw ad cI cR cS mem).set 101 (ad 101, x) = cw ad cI cR cS (mset mem 101 k v) := by
  refine cw_set (by omega) ?_ (fun a ha => mset_ne mem k v ha)
  rw [hx, mset_self]
  rcases (show k = 1 ∨ k = 2 by omega) with h | h <;> subst h <;> simp [cRow, upd]
theorem cs_works (k : Nat) (hk0 : 1 ≤ k) (hk : k < 3) {v : Int32} {x : va_E} (hx : x = .inr (4, [.ref (ad 104), .int (mem 103 1), .int (mem 103 2), .ref (ad 105)].set k (.int v))) : (cw ad cI cR cS mem).set 103 (ad 103, x) = cw ad cI cR cS (mset mem 103 k v) := by
  refine cw_set (by omega) ?_ (fun a ha => mset_ne mem k v ha)
  rw [hx, mset_self]
  rcases (show k = 1 ∨ k = 2 by omega) with h | h <;> subst h <;> simp [cRow, upd]
theorem cs_codes (n : Nat) (v : Int32) : (cw ad cI cR cS mem).set 104 (ad 104, .inl (cI, 60, .inl (upd (mem 104) n v))) = cw ad cI cR cS (mset mem 104 n v) := by
  refine cw_set (by omega) ?_ (fun a ha => mset_ne mem n v ha)
  rw [mset_self]
  simp [cRow]
theorem cs_read (k : Nat) (hk : k < 6) {v : Int32} {x : va_E} (hx : x = .inr (1, [.int (mem 105 0), .int (mem 105 1), .int (mem 105 2), .int (mem 105 3), .int (mem 105 4), .int (mem 105 5)].set k (.int v))) : (cw ad cI cR cS mem).set 105 (ad 105, x) = cw ad cI cR cS (mset mem 105 k v) := by
  refine cw_set (by omega) ?_ (fun a ha => mset_ne mem k v ha)
  rw [hx, mset_self]
  rcases (show k = 0 ∨ k = 1 ∨ k = 2 ∨ k = 3 ∨ k = 4 ∨ k = 5 by omega) with h | h | h | h | h | h <;> subst h <;> simp [cRow, upd]
end ZM
/-- the numbers of the rig j: 0 to 7 its fields, 8 to 10 the weights, 11 to 13 the steps -/
def rv (mem : zM) (j : Nat) : Nat → Int32 := fun k => if k < 8 then mem (3 * j) k else if k < 11 then mem (3 * j + 1) (k - 8) else mem (3 * j + 2) (k - 11)
/-- a name for the memory -/
theorem z_gm {p : Program} {l : Launch} {e : Env} {R : Room} {s : State} {m : MethodId} {args : Array Value} {below : List Frame} {meth : Method} {c : Code} {D : va_G} {A : Nat → Prop} {Q : State → Prop} {nL : Nat} {cells slots pc : Nat} {lv : List (Nat × Value)} {st : List Value} {ad : Nat → Nat} {cI cR cS : ClassId} {mem : zM} (k : ∀ m' : zM, m' = mem → zW p l e R s m args below meth c D A Q nL (cw ad cI cR cS m') cells slots pc lv st) : zW p l e R s m args below meth c D A Q nL (cw ad cI cR cS mem) cells slots pc lv st := k mem rfl
end
section
/-! LadderClimb$Rig: what its methods answer, over the numbers R of a rig (0 to 7 its fields, 8 to 10 weights, 11 to 13 steps) -/
theorem zvin {i : Int32} {n : Nat} (h : decide (¬ (i < 0 ∨ n ≤ i.toNatClampNeg)) = true) : vp_in i n := by
  unfold vp_in
  exact of_decide_eq_true h
def fMax (x y : Int32) : Int32 := if x < y then y else x
def fMin (x y : Int32) : Int32 := if y < x then y else x
def fAbs (x : Int32) : Int32 := if 0 ≤ x then x else 0 - x
def fFD (x y : Int32) : Int32 := if 0 ≤ x ^^^ y then x / y else if (x / y) * y = x then x / y else x / y - 1
def fFull (R : Nat → Int32) : Int32 := if R 7 < 3 then 0 else 1
def fBears (R : Nat → Int32) (q : Int32) : Int32 := if q < 0 then 0 else if R 7 ≤ q then 0 else if 3 ≤ q then 0 else 1
def fLoad (R : Nat → Int32) : Int32 := R 2 + R 8 + R 9 + R 10
def fMoment (R : Nat → Int32) : Int32 := R 0 * (5 * R 2 + R 11 * R 8 + R 12 * R 9 + R 13 * R 10)
def fPush (R : Nat → Int32) (f : Int32) : Int32 := fMoment R - 10 * f * R 0
def fGP (R : Nat → Int32) : Int32 := if R 3 < 0 then 0 else if 4 ≤ R 3 then 0 else ([5, 25, 40, 60] : List Int32).getD (R 3).toNatClampNeg 0
def fWP (R : Nat → Int32) : Int32 := if R 4 < 0 then 0 else if 4 ≤ R 4 then 0 else ([0, 20, 45, 60] : List Int32).getD (R 4).toNatClampNeg 0
def fLBW (R : Nat → Int32) : Int32 := if R 4 = 3 then 0 else if 1000 * R 1 - 10 * R 0 * fWP R ≤ 0 then -1000 else -fFD (fWP R * fMoment R) (1000 * R 1 - 10 * R 0 * fWP R)
def fSlope (R : Nat → Int32) : Int32 := 10 * R 1 * fGP R - 1000 * R 0
def fRoom (R : Nat → Int32) : Int32 := 10 * R 1 * (fGP R * fLoad R + 100 * R 5) - 100 * fMoment R
def fLBG (R : Nat → Int32) : Int32 := if 0 ≤ fSlope R then -1000 else -fFD (fRoom R) (-fSlope R)
def fLeast (R : Nat → Int32) : Int32 := fMax (-1000) (fMax (fLBW R) (fLBG R))
def fGreat (R : Nat → Int32) : Int32 := if 1000 * R 1 + 10 * R 0 * fWP R ≤ 0 then 0 else fFD (fWP R * fMoment R) (1000 * R 1 + 10 * R 0 * fWP R)
def fStands (R : Nat → Int32) : Int32 := if fGreat R < fLeast R then 0 else 1
def fForces (R : Nat → Int32) : Int32 := fMax 0 (fGreat R - fLeast R + 1)
def fNearest (R : Nat → Int32) : Int32 := fMax (fLeast R) (fMin 0 (fGreat R))
def fWallBad (R : Nat → Int32) (f : Int32) : Bool := decide (fWP R * fPush R f < 1000 * R 1 * fAbs f) || (decide (R 4 = 3) && decide (f < 0))
def fWGW1 (R : Nat → Int32) (f : Int32) : Int32 := if 0 ≤ fPush R f then 0 else 1
def fWGW2 (R : Nat → Int32) (f : Int32) : Int32 := if fWallBad R f = true then fWGW1 R f ||| 2 else fWGW1 R f
def fWGW3 (R : Nat → Int32) (f : Int32) : Int32 := if f ≤ fLoad R then fWGW2 R f else fWGW2 R f ||| 4
def fWGW (R : Nat → Int32) (f : Int32) : Int32 := if 100 * fPush R f ≤ 10 * R 1 * (fGP R * (fLoad R - f) + 100 * R 5) then fWGW3 R f else fWGW3 R f ||| 8
theorem zpos0 {x : Int32} (h : ¬ x ≤ 0) : ¬ x = 0 := fun z => h (by rw [z]; decide)
theorem zneg0 {x : Int32} (h : ¬ 0 ≤ x) : ¬ -x = 0 := fun z => h (by
  have h2 : x = 0 := by rw [← Int32.neg_neg (a := x), z]; rfl
  rw [h2]; decide)
theorem zvinN {x : Int32} {n : Nat} {N : Int32} (hN : N.toInt = n) (h0 : ¬ x < 0) (h1 : ¬ N ≤ x) : vp_in x n := by
  have e0 : ¬ x.toInt < (0 : Int32).toInt := fun z => h0 (Int32.lt_iff_toInt_lt.mpr z)
  have e1 : ¬ N.toInt ≤ x.toInt := fun z => h1 (Int32.le_iff_toInt_le.mpr z)
  have e2 : (0 : Int32).toInt = 0 := by decide
  exact vp_in_iff.mpr ⟨by omega, by omega⟩
theorem zvin4 {x : Int32} (h0 : ¬ x < 0) (h1 : ¬ 4 ≤ x) : vp_in x 4 := zvinN (by decide) h0 h1
theorem zvin3 {x : Int32} (h0 : ¬ x < 0) (h1 : ¬ 3 ≤ x) : vp_in x 3 := zvinN (by decide) h0 h1
theorem fWallBad_1 {R : Nat → Int32} {f : Int32} (h : fWP R * fPush R f < 1000 * R 1 * fAbs f) : fWallBad R f = true := by unfold fWallBad; rw [decide_eq_true h]; rfl
theorem fWallBad_2 {R : Nat → Int32} {f : Int32} (h1 : R 4 = 3) (h2 : ¬ 0 ≤ f) : fWallBad R f = true := by unfold fWallBad; rw [decide_eq_true h1, decide_eq_true (Int32.not_le.mp h2)]; simp
theorem fWallBad_3 {R : Nat → Int32} {f : Int32} (h : ¬ fWP R * fPush R f < 1000 * R 1 * fAbs f) (h1 : ¬ R 4 = 3) : ¬ fWallBad R f = true := by unfold fWallBad; rw [decide_eq_false h, decide_eq_false h1]; simp
theorem fWallBad_4 {R : Nat → Int32} {f : Int32} (h : ¬ fWP R * fPush R f < 1000 * R 1 * fAbs f) (h2 : 0 ≤ f) : ¬ fWallBad R f = true := by unfold fWallBad; rw [decide_eq_false h, decide_eq_false (Int32.not_lt.mpr h2)]; simp
theorem fBears_in {R : Nat → Int32} {q : Int32} (h : ¬ fBears R q = 0) : vp_in q 3 := by
  unfold fBears at h
  by_cases h0 : q < 0
  · simp [h0] at h
  · by_cases h1 : R 7 ≤ q
    · simp [h0, h1] at h
    · by_cases h2 : 3 ≤ q
      · simp [h0, h1, h2] at h
      · have e0 : ¬ q.toInt < (0 : Int32).toInt := fun z => h0 (Int32.lt_iff_toInt_lt.mpr z)
        have e2 : ¬ (3 : Int32).toInt ≤ q.toInt := fun z => h2 (Int32.le_iff_toInt_le.mpr z)
        refine vp_in_iff.mpr ⟨?_, ?_⟩
        · have : (0 : Int32).toInt = 0 := by decide
          omega
        · have : (3 : Int32).toInt = 3 := by decide
          omega
def sWeightOf (mem : zM) (j : Nat) (q : Int32) : Int32 := if fBears (rv mem j) q = 0 then 0 else mem (3 * j + 1) q.toNatClampNeg
def sStepOf (mem : zM) (j : Nat) (q : Int32) : Int32 := if fBears (rv mem j) q = 0 then 0 else mem (3 * j + 2) q.toNatClampNeg
def sSetStep (mem : zM) (j : Nat) (q v : Int32) : zM := if fBears (rv mem j) q = 0 then mem else mset mem (3 * j + 2) q.toNatClampNeg v
def sAdd (mem : zM) (j : Nat) (w : Int32) : zM := if mem (3 * j) 7 < 0 then mem else if 3 ≤ mem (3 * j) 7 then mem else mset (mset (mset mem (3 * j + 1) (mem (3 * j) 7).toNatClampNeg w) (3 * j + 2) (mem (3 * j) 7).toNatClampNeg 0) (3 * j) 7 (mem (3 * j) 7 + 1)
set_option maxHeartbeats 4000000 in
set_option maxRecDepth 100000 in
theorem k_floorDiv (l : Launch) (D : va_G) (tys : List (ClassId × FieldType)) (ws : va_W) (x y : Int32) (hne : ¬ y = 0) : zMi l yJ9_floorDiv_7cf53 wsJ9_floorDiv_7cf53 ({ frames := 0, cells := 0, slots := 0, locals := 0 }) D tys [.int x, .int y] ws (fun r (_ : Unit) => r = fFD x y) (fun _ => ws) 0 0 := by
  refine zMiF.of (cc := cJ9_floorDiv_7cf53) (maxL := 3) (ret := (some .int)) (by decide +kernel) rfl (lv0 := [(0, .int x), (1, .int y)]) (Nat.le_of_ble_eq_true rfl) rfl ?_
  intro p e s m args below meth c E hZ hr hlocks hnm
  refine z_iload_n E dJ9_floorDiv_7cf53_0 rfl 0 rfl ?_
  refine z_iload_n E dJ9_floorDiv_7cf53_1 rfl 1 rfl ?_
  refine z_idiv E dJ9_floorDiv_7cf53_2 hne ?_
  refine z_istore_n (lv' := [(2, .int (x / y)), (0, .int x), (1, .int y)]) E dJ9_floorDiv_7cf53_3 rfl (by decide) rfl ?_
  refine z_iload_n E dJ9_floorDiv_7cf53_4 rfl 1 rfl ?_
  refine z_iload_n E dJ9_floorDiv_7cf53_5 rfl 2 rfl ?_
  refine z_ixor E dJ9_floorDiv_7cf53_6 ?_
  refine z_if_ge (tgt := 21) E dJ9_floorDiv_7cf53_7 (by decide) (fun c7 => ?_) (fun c7 => ?_)
  · skip
    refine z_iload_n E dJ9_floorDiv_7cf53_21 rfl 0 rfl ?_
    exact z_iretM E hr hlocks (()) rfl (by simp [fFD, c7]) (Nat.le_of_ble_eq_true rfl) (Nat.le_of_ble_eq_true rfl) dJ9_floorDiv_7cf53_22
  · skip
    refine z_iload_n E dJ9_floorDiv_7cf53_10 rfl 0 rfl ?_
    refine z_iload_n E dJ9_floorDiv_7cf53_11 rfl 2 rfl ?_
    refine z_imul E dJ9_floorDiv_7cf53_12 ?_
    refine z_iload_n E dJ9_floorDiv_7cf53_13 rfl 1 rfl ?_
    refine z_icmp_eq (tgt := 21) E dJ9_floorDiv_7cf53_14 (by decide) (fun c14 => ?_) (fun c14 => ?_)
    · skip
      refine z_iload_n E dJ9_floorDiv_7cf53_21 rfl 0 rfl ?_
      exact z_iretM E hr hlocks (()) rfl (by simp [fFD, c7, c14]) (Nat.le_of_ble_eq_true rfl) (Nat.le_of_ble_eq_true rfl) dJ9_floorDiv_7cf53_22
    · skip
      refine z_iload_n E dJ9_floorDiv_7cf53_17 rfl 0 rfl ?_
      refine z_iconst (v := 1) E dJ9_floorDiv_7cf53_18 (by decide) ?_
      refine z_isub E dJ9_floorDiv_7cf53_19 ?_
      exact z_iretM E hr hlocks (()) rfl (by simp [fFD, c7, c14]) (Nat.le_of_ble_eq_true rfl) (Nat.le_of_ble_eq_true rfl) dJ9_floorDiv_7cf53_20
set_option maxHeartbeats 4000000 in
set_option maxRecDepth 100000 in
theorem k_isFull (l : Launch) (D : va_G) (ad : Nat → Nat) (cI cR cS cL : ClassId) (mem : zM) {j : Nat} (hj : j < 29) : zMi l yX2_isFull wsX2_isFull ({ frames := 0, cells := 0, slots := 0, locals := 0 }) D (cK cI cR cS cL) [.ref (ad (3 * j))] (cw ad cI cR cS mem) (fun r u => r = fFull (rv mem j) ∧ u = mem) (cw ad cI cR cS) 0 0 := by
  refine zMiM.of (cc := cX2_isFull) (maxL := 1) (ret := (some .boolean)) (by decide +kernel) rfl (lv0 := [(0, .ref (ad (3 * j)))]) (Nat.le_of_ble_eq_true rfl) rfl ?_
  intro p e s m args below meth c E hZ hr hlocks hnm
  refine z_aload_n E dX2_isFull_0 rfl 0 rfl ?_
  refine z_get E (3 * j) (cw_rig hj) (C := RX2) (T := TX2) (N := 10) rfl (fun _ h => List.mem_cons_of_mem _ (List.mem_append_right _ h)) 7 (by decide) (List.mem_of_getElem? (i := 1) (by decide +kernel)) rfl (v := .int (mem (3 * j) 7)) rfl dX2_isFull_1 ?_
  refine z_iconst (v := 3) E dX2_isFull_4 (by decide) ?_
  refine z_icmp_lt (tgt := 12) E dX2_isFull_5 (by decide) (fun c5 => ?_) (fun c5 => ?_)
  · skip
    refine z_iconst (v := 0) E dX2_isFull_12 (by decide) ?_
    exact z_izretM E hr hlocks (mem) rfl rfl ⟨by simp [fFull, rv, c5], rfl⟩ (Nat.le_of_ble_eq_true rfl) (Nat.le_of_ble_eq_true rfl) dX2_isFull_13
  · skip
    refine z_iconst (v := 1) E dX2_isFull_8 (by decide) ?_
    refine z_goto (tgt := 13) E dX2_isFull_9 (by decide) ?_
    exact z_izretM E hr hlocks (mem) rfl rfl ⟨by simp [fFull, rv, c5], rfl⟩ (Nat.le_of_ble_eq_true rfl) (Nat.le_of_ble_eq_true rfl) dX2_isFull_13
set_option maxHeartbeats 4000000 in
set_option maxRecDepth 100000 in
theorem k_bears (l : Launch) (D : va_G) (ad : Nat → Nat) (cI cR cS cL : ClassId) (mem : zM) {j : Nat} (hj : j < 29) (q : Int32) : zMi l yX2_bears wsX2_bears ({ frames := 0, cells := 0, slots := 0, locals := 0 }) D (cK cI cR cS cL) [.ref (ad (3 * j)), .int q] (cw ad cI cR cS mem) (fun r u => r = fBears (rv mem j) q ∧ u = mem) (cw ad cI cR cS) 0 0 := by
  refine zMiM.of (cc := cX2_bears) (maxL := 2) (ret := (some .boolean)) (by decide +kernel) rfl (lv0 := [(0, .ref (ad (3 * j))), (1, .int q)]) (Nat.le_of_ble_eq_true rfl) rfl ?_
  intro p e s m args below meth c E hZ hr hlocks hnm
  refine z_iload_n E dX2_bears_0 rfl 1 rfl ?_
  refine z_if_lt (tgt := 21) E dX2_bears_1 (by decide) (fun c1 => ?_) (fun c1 => ?_)
  · skip
    refine z_iconst (v := 0) E dX2_bears_21 (by decide) ?_
    exact z_izretM E hr hlocks (mem) rfl rfl ⟨by simp [fBears, rv, c1], rfl⟩ (Nat.le_of_ble_eq_true rfl) (Nat.le_of_ble_eq_true rfl) dX2_bears_22
  · skip
    refine z_iload_n E dX2_bears_4 rfl 1 rfl ?_
    refine z_aload_n E dX2_bears_5 rfl 0 rfl ?_
    refine z_get E (3 * j) (cw_rig hj) (C := RX2) (T := TX2) (N := 10) rfl (fun _ h => List.mem_cons_of_mem _ (List.mem_append_right _ h)) 7 (by decide) (List.mem_of_getElem? (i := 1) (by decide +kernel)) rfl (v := .int (mem (3 * j) 7)) rfl dX2_bears_6 ?_
    refine z_icmp_ge (tgt := 21) E dX2_bears_9 (by decide) (fun c9 => ?_) (fun c9 => ?_)
    · skip
      refine z_iconst (v := 0) E dX2_bears_21 (by decide) ?_
      exact z_izretM E hr hlocks (mem) rfl rfl ⟨by simp [fBears, rv, c1, c9], rfl⟩ (Nat.le_of_ble_eq_true rfl) (Nat.le_of_ble_eq_true rfl) dX2_bears_22
    · skip
      refine z_iload_n E dX2_bears_12 rfl 1 rfl ?_
      refine z_iconst (v := 3) E dX2_bears_13 (by decide) ?_
      refine z_icmp_ge (tgt := 21) E dX2_bears_14 (by decide) (fun c14 => ?_) (fun c14 => ?_)
      · skip
        refine z_iconst (v := 0) E dX2_bears_21 (by decide) ?_
        exact z_izretM E hr hlocks (mem) rfl rfl ⟨by simp [fBears, rv, c1, c9, c14], rfl⟩ (Nat.le_of_ble_eq_true rfl) (Nat.le_of_ble_eq_true rfl) dX2_bears_22
      · skip
        refine z_iconst (v := 1) E dX2_bears_17 (by decide) ?_
        refine z_goto (tgt := 22) E dX2_bears_18 (by decide) ?_
        exact z_izretM E hr hlocks (mem) rfl rfl ⟨by simp [fBears, rv, c1, c9, c14], rfl⟩ (Nat.le_of_ble_eq_true rfl) (Nat.le_of_ble_eq_true rfl) dX2_bears_22
set_option maxHeartbeats 4000000 in
set_option maxRecDepth 100000 in
theorem k_weightOf (l : Launch) (D : va_G) (ad : Nat → Nat) (cI cR cS cL : ClassId) (mem : zM) {j : Nat} (hj : j < 29) (q : Int32) : zMi l yX2_weightOf wsX2_weightOf ({ frames := 1, cells := 0, slots := 0, locals := 21 }) D (cK cI cR cS cL) [.ref (ad (3 * j)), .int q] (cw ad cI cR cS mem) (fun r u => r = sWeightOf mem j q ∧ u = mem) (cw ad cI cR cS) 0 0 := by
  refine zMiM.of (cc := cX2_weightOf) (maxL := 2) (ret := (some .int)) (by decide +kernel) rfl (lv0 := [(0, .ref (ad (3 * j))), (1, .int q)]) (Nat.le_of_ble_eq_true rfl) rfl ?_
  intro p e s m args below meth c E hZ hr hlocks hnm
  refine z_aload_n E dX2_weightOf_0 rfl 0 rfl ?_
  refine z_iload_n E dX2_weightOf_1 rfl 1 rfl ?_
  refine z_callVi E hZ (k_bears l D ad cI cR cS cL mem hj q) gX2_weightOf_X2_bears (n := 1) rfl rfl rfl (by decide +kernel) rfl ⟨Nat.le_of_ble_eq_true rfl, Nat.le_of_ble_eq_true rfl⟩  (C := RX2) rfl (3 * j) (cw_rig hj) (As := [.int q]) (rest := []) rfl (Nat.le_of_ble_eq_true rfl) ⟨Nat.le_of_ble_eq_true rfl, Nat.le_of_ble_eq_true rfl⟩ dX2_weightOf_2 (fun r u hp => ?_)
  rw [hp.1, hp.2]
  refine z_if_eq (tgt := 17) E dX2_weightOf_5 (by decide) (fun c5 => ?_) (fun c5 => ?_)
  · skip
    refine z_iconst (v := 0) E dX2_weightOf_17 (by decide) ?_
    exact z_iretM E hr hlocks (mem) rfl ⟨by simp [sWeightOf, c5], rfl⟩ (Nat.le_of_ble_eq_true rfl) (Nat.le_of_ble_eq_true rfl) dX2_weightOf_18
  · skip
    refine z_aload_n E dX2_weightOf_8 rfl 0 rfl ?_
    refine z_get E (3 * j) (cw_rig hj) (C := RX2) (T := TX2) (N := 10) rfl (fun _ h => List.mem_cons_of_mem _ (List.mem_append_right _ h)) 8 (by decide) (List.mem_of_getElem? (i := 1) (by decide +kernel)) rfl (v := .ref (ad (3 * j + 1))) rfl dX2_weightOf_9 ?_
    refine z_iload_n E dX2_weightOf_12 rfl 1 rfl ?_
    refine z_iald E (3 * j + 1) 0 (cw_wt hj) rfl (fBears_in c5) (v := mem (3 * j + 1) q.toNatClampNeg) rfl dX2_weightOf_13 ?_
    refine z_goto (tgt := 18) E dX2_weightOf_14 (by decide) ?_
    exact z_iretM E hr hlocks (mem) rfl ⟨by simp [sWeightOf, c5], rfl⟩ (Nat.le_of_ble_eq_true rfl) (Nat.le_of_ble_eq_true rfl) dX2_weightOf_18
set_option maxHeartbeats 4000000 in
set_option maxRecDepth 100000 in
theorem k_stepOf (l : Launch) (D : va_G) (ad : Nat → Nat) (cI cR cS cL : ClassId) (mem : zM) {j : Nat} (hj : j < 29) (q : Int32) : zMi l yX2_stepOf wsX2_stepOf ({ frames := 1, cells := 0, slots := 0, locals := 21 }) D (cK cI cR cS cL) [.ref (ad (3 * j)), .int q] (cw ad cI cR cS mem) (fun r u => r = sStepOf mem j q ∧ u = mem) (cw ad cI cR cS) 0 0 := by
  refine zMiM.of (cc := cX2_stepOf) (maxL := 2) (ret := (some .int)) (by decide +kernel) rfl (lv0 := [(0, .ref (ad (3 * j))), (1, .int q)]) (Nat.le_of_ble_eq_true rfl) rfl ?_
  intro p e s m args below meth c E hZ hr hlocks hnm
  refine z_aload_n E dX2_stepOf_0 rfl 0 rfl ?_
  refine z_iload_n E dX2_stepOf_1 rfl 1 rfl ?_
  refine z_callVi E hZ (k_bears l D ad cI cR cS cL mem hj q) gX2_stepOf_X2_bears (n := 1) rfl rfl rfl (by decide +kernel) rfl ⟨Nat.le_of_ble_eq_true rfl, Nat.le_of_ble_eq_true rfl⟩  (C := RX2) rfl (3 * j) (cw_rig hj) (As := [.int q]) (rest := []) rfl (Nat.le_of_ble_eq_true rfl) ⟨Nat.le_of_ble_eq_true rfl, Nat.le_of_ble_eq_true rfl⟩ dX2_stepOf_2 (fun r u hp => ?_)
  rw [hp.1, hp.2]
  refine z_if_eq (tgt := 17) E dX2_stepOf_5 (by decide) (fun c5 => ?_) (fun c5 => ?_)
  · skip
    refine z_iconst (v := 0) E dX2_stepOf_17 (by decide) ?_
    exact z_iretM E hr hlocks (mem) rfl ⟨by simp [sStepOf, c5], rfl⟩ (Nat.le_of_ble_eq_true rfl) (Nat.le_of_ble_eq_true rfl) dX2_stepOf_18
  · skip
    refine z_aload_n E dX2_stepOf_8 rfl 0 rfl ?_
    refine z_get E (3 * j) (cw_rig hj) (C := RX2) (T := TX2) (N := 10) rfl (fun _ h => List.mem_cons_of_mem _ (List.mem_append_right _ h)) 9 (by decide) (List.mem_of_getElem? (i := 1) (by decide +kernel)) rfl (v := .ref (ad (3 * j + 2))) rfl dX2_stepOf_9 ?_
    refine z_iload_n E dX2_stepOf_12 rfl 1 rfl ?_
    refine z_iald E (3 * j + 2) 0 (cw_st hj) rfl (fBears_in c5) (v := mem (3 * j + 2) q.toNatClampNeg) rfl dX2_stepOf_13 ?_
    refine z_goto (tgt := 18) E dX2_stepOf_14 (by decide) ?_
    exact z_iretM E hr hlocks (mem) rfl ⟨by simp [sStepOf, c5], rfl⟩ (Nat.le_of_ble_eq_true rfl) (Nat.le_of_ble_eq_true rfl) dX2_stepOf_18
set_option maxHeartbeats 4000000 in
set_option maxRecDepth 100000 in
theorem k_setStep (l : Launch) (D : va_G) (ad : Nat → Nat) (cI cR cS cL : ClassId) (mem : zM) {j : Nat} (hj : j < 29) (q v : Int32) : zMv l yX2_setStep wsX2_setStep ({ frames := 1, cells := 0, slots := 0, locals := 21 }) D (cK cI cR cS cL) [.ref (ad (3 * j)), .int q, .int v] (cw ad cI cR cS mem) (fun u => u = sSetStep mem j q v) (cw ad cI cR cS) 0 0 := by
  refine zMvM.of (cc := cX2_setStep) (maxL := 3) (ret := none) (by decide +kernel) rfl (lv0 := [(0, .ref (ad (3 * j))), (1, .int q), (2, .int v)]) (Nat.le_of_ble_eq_true rfl) rfl ?_
  intro p e s m args below meth c E hZ hr hlocks hnm
  refine z_aload_n E dX2_setStep_0 rfl 0 rfl ?_
  refine z_iload_n E dX2_setStep_1 rfl 1 rfl ?_
  refine z_callVi E hZ (k_bears l D ad cI cR cS cL mem hj q) gX2_setStep_X2_bears (n := 1) rfl rfl rfl (by decide +kernel) rfl ⟨Nat.le_of_ble_eq_true rfl, Nat.le_of_ble_eq_true rfl⟩  (C := RX2) rfl (3 * j) (cw_rig hj) (As := [.int q]) (rest := []) rfl (Nat.le_of_ble_eq_true rfl) ⟨Nat.le_of_ble_eq_true rfl, Nat.le_of_ble_eq_true rfl⟩ dX2_setStep_2 (fun r u hp => ?_)
  rw [hp.1, hp.2]
  refine z_if_eq (tgt := 15) E dX2_setStep_5 (by decide) (fun c5 => ?_) (fun c5 => ?_)
  · skip
    exact z_vretM E hr hlocks (mem) rfl (by simp [sSetStep, c5]) (Nat.le_of_ble_eq_true rfl) (Nat.le_of_ble_eq_true rfl) dX2_setStep_15
  · skip
    refine z_aload_n E dX2_setStep_8 rfl 0 rfl ?_
    refine z_get E (3 * j) (cw_rig hj) (C := RX2) (T := TX2) (N := 10) rfl (fun _ h => List.mem_cons_of_mem _ (List.mem_append_right _ h)) 9 (by decide) (List.mem_of_getElem? (i := 1) (by decide +kernel)) rfl (v := .ref (ad (3 * j + 2))) rfl dX2_setStep_9 ?_
    refine z_iload_n E dX2_setStep_12 rfl 1 rfl ?_
    refine z_iload_n E dX2_setStep_13 rfl 2 rfl ?_
    refine z_iast E (3 * j + 2) 0 (cw_st hj) rfl (fBears_in c5) (ws' := cw ad cI cR cS (mset mem (3 * j + 2) q.toNatClampNeg v)) (cs_st hj q.toNatClampNeg v) dX2_setStep_14 ?_
    refine z_gm (fun m1 hm1 => ?_)
    exact z_vretM E hr hlocks (m1) rfl (by simp [sSetStep, c5, hm1]) (Nat.le_of_ble_eq_true rfl) (Nat.le_of_ble_eq_true rfl) dX2_setStep_15
set_option maxHeartbeats 4000000 in
set_option maxRecDepth 100000 in
theorem k_load (l : Launch) (D : va_G) (ad : Nat → Nat) (cI cR cS cL : ClassId) (mem : zM) {j : Nat} (hj : j < 29) : zMi l yX2_load wsX2_load ({ frames := 0, cells := 0, slots := 0, locals := 0 }) D (cK cI cR cS cL) [.ref (ad (3 * j))] (cw ad cI cR cS mem) (fun r u => r = fLoad (rv mem j) ∧ u = mem) (cw ad cI cR cS) 0 0 := by
  refine zMiM.of (cc := cX2_load) (maxL := 3) (ret := (some .int)) (by decide +kernel) rfl (lv0 := [(0, .ref (ad (3 * j)))]) (Nat.le_of_ble_eq_true rfl) rfl ?_
  intro p e s m args below meth c E hZ hr hlocks hnm
  refine z_aload_n E dX2_load_0 rfl 0 rfl ?_
  refine z_get E (3 * j) (cw_rig hj) (C := RX2) (T := TX2) (N := 10) rfl (fun _ h => List.mem_cons_of_mem _ (List.mem_append_right _ h)) 2 (by decide) (List.mem_of_getElem? (i := 1) (by decide +kernel)) rfl (v := .int (mem (3 * j) 2)) rfl dX2_load_1 ?_
  refine z_istore_n (lv' := [(1, .int (mem (3 * j) 2)), (0, .ref (ad (3 * j)))]) E dX2_load_4 rfl (by decide) rfl ?_
  refine z_iconst (v := 0) E dX2_load_5 (by decide) ?_
  refine z_istore_n (lv' := [(2, .int 0), (1, .int (mem (3 * j) 2)), (0, .ref (ad (3 * j)))]) E dX2_load_6 rfl (by decide) rfl ?_
  refine z_iload_n E dX2_load_7 rfl 0 rfl ?_
  refine z_iconst (v := 3) E dX2_load_8 (by decide) ?_
  refine z_icmp_ge_f (tgt := 27) E dX2_load_9 (by decide) (by decide) ?_
  refine z_iload_n E dX2_load_12 rfl 1 rfl ?_
  refine z_aload_n E dX2_load_13 rfl 2 rfl ?_
  refine z_get E (3 * j) (cw_rig hj) (C := RX2) (T := TX2) (N := 10) rfl (fun _ h => List.mem_cons_of_mem _ (List.mem_append_right _ h)) 8 (by decide) (List.mem_of_getElem? (i := 2) (by decide +kernel)) rfl (v := .ref (ad (3 * j + 1))) rfl dX2_load_14 ?_
  refine z_iload_n E dX2_load_17 rfl 0 rfl ?_
  refine z_iald E (3 * j + 1) 0 (cw_wt hj) rfl (zvin rfl) (v := mem (3 * j + 1) 0) rfl dX2_load_18 ?_
  refine z_iadd E dX2_load_19 ?_
  refine z_istore_n (lv' := [(1, .int ((mem (3 * j) 2) + (mem (3 * j + 1) 0))), (2, .int 0), (0, .ref (ad (3 * j)))]) E dX2_load_20 rfl (by decide) rfl ?_
  refine z_iinc (v := 1) (lv' := [(2, .int 1), (1, .int ((mem (3 * j) 2) + (mem (3 * j + 1) 0))), (0, .ref (ad (3 * j)))]) E dX2_load_21 (q := 1) rfl (by decide) (by decide) rfl ?_
  refine z_goto (tgt := 7) E dX2_load_24 (by decide) ?_
  refine z_iload_n E dX2_load_7 rfl 0 rfl ?_
  refine z_iconst (v := 3) E dX2_load_8 (by decide) ?_
  refine z_icmp_ge_f (tgt := 27) E dX2_load_9 (by decide) (by decide) ?_
  refine z_iload_n E dX2_load_12 rfl 1 rfl ?_
  refine z_aload_n E dX2_load_13 rfl 2 rfl ?_
  refine z_get E (3 * j) (cw_rig hj) (C := RX2) (T := TX2) (N := 10) rfl (fun _ h => List.mem_cons_of_mem _ (List.mem_append_right _ h)) 8 (by decide) (List.mem_of_getElem? (i := 2) (by decide +kernel)) rfl (v := .ref (ad (3 * j + 1))) rfl dX2_load_14 ?_
  refine z_iload_n E dX2_load_17 rfl 0 rfl ?_
  refine z_iald E (3 * j + 1) 0 (cw_wt hj) rfl (zvin rfl) (v := mem (3 * j + 1) 1) rfl dX2_load_18 ?_
  refine z_iadd E dX2_load_19 ?_
  refine z_istore_n (lv' := [(1, .int (((mem (3 * j) 2) + (mem (3 * j + 1) 0)) + (mem (3 * j + 1) 1))), (2, .int 1), (0, .ref (ad (3 * j)))]) E dX2_load_20 rfl (by decide) rfl ?_
  refine z_iinc (v := 2) (lv' := [(2, .int 2), (1, .int (((mem (3 * j) 2) + (mem (3 * j + 1) 0)) + (mem (3 * j + 1) 1))), (0, .ref (ad (3 * j)))]) E dX2_load_21 (q := 1) rfl (by decide) (by decide) rfl ?_
  refine z_goto (tgt := 7) E dX2_load_24 (by decide) ?_
  refine z_iload_n E dX2_load_7 rfl 0 rfl ?_
  refine z_iconst (v := 3) E dX2_load_8 (by decide) ?_
  refine z_icmp_ge_f (tgt := 27) E dX2_load_9 (by decide) (by decide) ?_
  refine z_iload_n E dX2_load_12 rfl 1 rfl ?_
  refine z_aload_n E dX2_load_13 rfl 2 rfl ?_
  refine z_get E (3 * j) (cw_rig hj) (C := RX2) (T := TX2) (N := 10) rfl (fun _ h => List.mem_cons_of_mem _ (List.mem_append_right _ h)) 8 (by decide) (List.mem_of_getElem? (i := 2) (by decide +kernel)) rfl (v := .ref (ad (3 * j + 1))) rfl dX2_load_14 ?_
  refine z_iload_n E dX2_load_17 rfl 0 rfl ?_
  refine z_iald E (3 * j + 1) 0 (cw_wt hj) rfl (zvin rfl) (v := mem (3 * j + 1) 2) rfl dX2_load_18 ?_
  refine z_iadd E dX2_load_19 ?_
  refine z_istore_n (lv' := [(1, .int ((((mem (3 * j) 2) + (mem (3 * j + 1) 0)) + (mem (3 * j + 1) 1)) + (mem (3 * j + 1) 2))), (2, .int 2), (0, .ref (ad (3 * j)))]) E dX2_load_20 rfl (by decide) rfl ?_
  refine z_iinc (v := 3) (lv' := [(2, .int 3), (1, .int ((((mem (3 * j) 2) + (mem (3 * j + 1) 0)) + (mem (3 * j + 1) 1)) + (mem (3 * j + 1) 2))), (0, .ref (ad (3 * j)))]) E dX2_load_21 (q := 1) rfl (by decide) (by decide) rfl ?_
  refine z_goto (tgt := 7) E dX2_load_24 (by decide) ?_
  refine z_iload_n E dX2_load_7 rfl 0 rfl ?_
  refine z_iconst (v := 3) E dX2_load_8 (by decide) ?_
  refine z_icmp_ge_t (tgt := 27) E dX2_load_9 (by decide) (by decide) ?_
  refine z_iload_n E dX2_load_27 rfl 1 rfl ?_
  exact z_iretM E hr hlocks (mem) rfl ⟨rfl, rfl⟩ (Nat.le_of_ble_eq_true rfl) (Nat.le_of_ble_eq_true rfl) dX2_load_28
set_option maxHeartbeats 4000000 in
set_option maxRecDepth 100000 in
theorem k_moment (l : Launch) (D : va_G) (ad : Nat → Nat) (cI cR cS cL : ClassId) (mem : zM) {j : Nat} (hj : j < 29) : zMi l yX2_moment wsX2_moment ({ frames := 0, cells := 0, slots := 0, locals := 0 }) D (cK cI cR cS cL) [.ref (ad (3 * j))] (cw ad cI cR cS mem) (fun r u => r = fMoment (rv mem j) ∧ u = mem) (cw ad cI cR cS) 0 0 := by
  refine zMiM.of (cc := cX2_moment) (maxL := 3) (ret := (some .int)) (by decide +kernel) rfl (lv0 := [(0, .ref (ad (3 * j)))]) (Nat.le_of_ble_eq_true rfl) rfl ?_
  intro p e s m args below meth c E hZ hr hlocks hnm
  refine z_iconst (v := 5) E dX2_moment_0 (by decide) ?_
  refine z_aload_n E dX2_moment_1 rfl 0 rfl ?_
  refine z_get E (3 * j) (cw_rig hj) (C := RX2) (T := TX2) (N := 10) rfl (fun _ h => List.mem_cons_of_mem _ (List.mem_append_right _ h)) 2 (by decide) (List.mem_of_getElem? (i := 1) (by decide +kernel)) rfl (v := .int (mem (3 * j) 2)) rfl dX2_moment_2 ?_
  refine z_imul E dX2_moment_5 ?_
  refine z_istore_n (lv' := [(1, .int (5 * (mem (3 * j) 2))), (0, .ref (ad (3 * j)))]) E dX2_moment_6 rfl (by decide) rfl ?_
  refine z_iconst (v := 0) E dX2_moment_7 (by decide) ?_
  refine z_istore_n (lv' := [(2, .int 0), (1, .int (5 * (mem (3 * j) 2))), (0, .ref (ad (3 * j)))]) E dX2_moment_8 rfl (by decide) rfl ?_
  refine z_iload_n E dX2_moment_9 rfl 0 rfl ?_
  refine z_iconst (v := 3) E dX2_moment_10 (by decide) ?_
  refine z_icmp_ge_f (tgt := 36) E dX2_moment_11 (by decide) (by decide) ?_
  refine z_iload_n E dX2_moment_14 rfl 1 rfl ?_
  refine z_aload_n E dX2_moment_15 rfl 2 rfl ?_
  refine z_get E (3 * j) (cw_rig hj) (C := RX2) (T := TX2) (N := 10) rfl (fun _ h => List.mem_cons_of_mem _ (List.mem_append_right _ h)) 9 (by decide) (List.mem_of_getElem? (i := 2) (by decide +kernel)) rfl (v := .ref (ad (3 * j + 2))) rfl dX2_moment_16 ?_
  refine z_iload_n E dX2_moment_19 rfl 0 rfl ?_
  refine z_iald E (3 * j + 2) 0 (cw_st hj) rfl (zvin rfl) (v := mem (3 * j + 2) 0) rfl dX2_moment_20 ?_
  refine z_aload_n E dX2_moment_21 rfl 2 rfl ?_
  refine z_get E (3 * j) (cw_rig hj) (C := RX2) (T := TX2) (N := 10) rfl (fun _ h => List.mem_cons_of_mem _ (List.mem_append_right _ h)) 8 (by decide) (List.mem_of_getElem? (i := 3) (by decide +kernel)) rfl (v := .ref (ad (3 * j + 1))) rfl dX2_moment_22 ?_
  refine z_iload_n E dX2_moment_25 rfl 0 rfl ?_
  refine z_iald E (3 * j + 1) 0 (cw_wt hj) rfl (zvin rfl) (v := mem (3 * j + 1) 0) rfl dX2_moment_26 ?_
  refine z_imul E dX2_moment_27 ?_
  refine z_iadd E dX2_moment_28 ?_
  refine z_istore_n (lv' := [(1, .int ((5 * (mem (3 * j) 2)) + ((mem (3 * j + 2) 0) * (mem (3 * j + 1) 0)))), (2, .int 0), (0, .ref (ad (3 * j)))]) E dX2_moment_29 rfl (by decide) rfl ?_
  refine z_iinc (v := 1) (lv' := [(2, .int 1), (1, .int ((5 * (mem (3 * j) 2)) + ((mem (3 * j + 2) 0) * (mem (3 * j + 1) 0)))), (0, .ref (ad (3 * j)))]) E dX2_moment_30 (q := 1) rfl (by decide) (by decide) rfl ?_
  refine z_goto (tgt := 9) E dX2_moment_33 (by decide) ?_
  refine z_iload_n E dX2_moment_9 rfl 0 rfl ?_
  refine z_iconst (v := 3) E dX2_moment_10 (by decide) ?_
  refine z_icmp_ge_f (tgt := 36) E dX2_moment_11 (by decide) (by decide) ?_
  refine z_iload_n E dX2_moment_14 rfl 1 rfl ?_
  refine z_aload_n E dX2_moment_15 rfl 2 rfl ?_
  refine z_get E (3 * j) (cw_rig hj) (C := RX2) (T := TX2) (N := 10) rfl (fun _ h => List.mem_cons_of_mem _ (List.mem_append_right _ h)) 9 (by decide) (List.mem_of_getElem? (i := 2) (by decide +kernel)) rfl (v := .ref (ad (3 * j + 2))) rfl dX2_moment_16 ?_
  refine z_iload_n E dX2_moment_19 rfl 0 rfl ?_
  refine z_iald E (3 * j + 2) 0 (cw_st hj) rfl (zvin rfl) (v := mem (3 * j + 2) 1) rfl dX2_moment_20 ?_
  refine z_aload_n E dX2_moment_21 rfl 2 rfl ?_
  refine z_get E (3 * j) (cw_rig hj) (C := RX2) (T := TX2) (N := 10) rfl (fun _ h => List.mem_cons_of_mem _ (List.mem_append_right _ h)) 8 (by decide) (List.mem_of_getElem? (i := 3) (by decide +kernel)) rfl (v := .ref (ad (3 * j + 1))) rfl dX2_moment_22 ?_
  refine z_iload_n E dX2_moment_25 rfl 0 rfl ?_
  refine z_iald E (3 * j + 1) 0 (cw_wt hj) rfl (zvin rfl) (v := mem (3 * j + 1) 1) rfl dX2_moment_26 ?_
  refine z_imul E dX2_moment_27 ?_
  refine z_iadd E dX2_moment_28 ?_
  refine z_istore_n (lv' := [(1, .int (((5 * (mem (3 * j) 2)) + ((mem (3 * j + 2) 0) * (mem (3 * j + 1) 0))) + ((mem (3 * j + 2) 1) * (mem (3 * j + 1) 1)))), (2, .int 1), (0, .ref (ad (3 * j)))]) E dX2_moment_29 rfl (by decide) rfl ?_
  refine z_iinc (v := 2) (lv' := [(2, .int 2), (1, .int (((5 * (mem (3 * j) 2)) + ((mem (3 * j + 2) 0) * (mem (3 * j + 1) 0))) + ((mem (3 * j + 2) 1) * (mem (3 * j + 1) 1)))), (0, .ref (ad (3 * j)))]) E dX2_moment_30 (q := 1) rfl (by decide) (by decide) rfl ?_
  refine z_goto (tgt := 9) E dX2_moment_33 (by decide) ?_
  refine z_iload_n E dX2_moment_9 rfl 0 rfl ?_
  refine z_iconst (v := 3) E dX2_moment_10 (by decide) ?_
  refine z_icmp_ge_f (tgt := 36) E dX2_moment_11 (by decide) (by decide) ?_
  refine z_iload_n E dX2_moment_14 rfl 1 rfl ?_
  refine z_aload_n E dX2_moment_15 rfl 2 rfl ?_
  refine z_get E (3 * j) (cw_rig hj) (C := RX2) (T := TX2) (N := 10) rfl (fun _ h => List.mem_cons_of_mem _ (List.mem_append_right _ h)) 9 (by decide) (List.mem_of_getElem? (i := 2) (by decide +kernel)) rfl (v := .ref (ad (3 * j + 2))) rfl dX2_moment_16 ?_
  refine z_iload_n E dX2_moment_19 rfl 0 rfl ?_
  refine z_iald E (3 * j + 2) 0 (cw_st hj) rfl (zvin rfl) (v := mem (3 * j + 2) 2) rfl dX2_moment_20 ?_
  refine z_aload_n E dX2_moment_21 rfl 2 rfl ?_
  refine z_get E (3 * j) (cw_rig hj) (C := RX2) (T := TX2) (N := 10) rfl (fun _ h => List.mem_cons_of_mem _ (List.mem_append_right _ h)) 8 (by decide) (List.mem_of_getElem? (i := 3) (by decide +kernel)) rfl (v := .ref (ad (3 * j + 1))) rfl dX2_moment_22 ?_
  refine z_iload_n E dX2_moment_25 rfl 0 rfl ?_
  refine z_iald E (3 * j + 1) 0 (cw_wt hj) rfl (zvin rfl) (v := mem (3 * j + 1) 2) rfl dX2_moment_26 ?_
  refine z_imul E dX2_moment_27 ?_
  refine z_iadd E dX2_moment_28 ?_
  refine z_istore_n (lv' := [(1, .int ((((5 * (mem (3 * j) 2)) + ((mem (3 * j + 2) 0) * (mem (3 * j + 1) 0))) + ((mem (3 * j + 2) 1) * (mem (3 * j + 1) 1))) + ((mem (3 * j + 2) 2) * (mem (3 * j + 1) 2)))), (2, .int 2), (0, .ref (ad (3 * j)))]) E dX2_moment_29 rfl (by decide) rfl ?_
  refine z_iinc (v := 3) (lv' := [(2, .int 3), (1, .int ((((5 * (mem (3 * j) 2)) + ((mem (3 * j + 2) 0) * (mem (3 * j + 1) 0))) + ((mem (3 * j + 2) 1) * (mem (3 * j + 1) 1))) + ((mem (3 * j + 2) 2) * (mem (3 * j + 1) 2)))), (0, .ref (ad (3 * j)))]) E dX2_moment_30 (q := 1) rfl (by decide) (by decide) rfl ?_
  refine z_goto (tgt := 9) E dX2_moment_33 (by decide) ?_
  refine z_iload_n E dX2_moment_9 rfl 0 rfl ?_
  refine z_iconst (v := 3) E dX2_moment_10 (by decide) ?_
  refine z_icmp_ge_t (tgt := 36) E dX2_moment_11 (by decide) (by decide) ?_
  refine z_aload_n E dX2_moment_36 rfl 2 rfl ?_
  refine z_get E (3 * j) (cw_rig hj) (C := RX2) (T := TX2) (N := 10) rfl (fun _ h => List.mem_cons_of_mem _ (List.mem_append_right _ h)) 0 (by decide) (List.mem_of_getElem? (i := 4) (by decide +kernel)) rfl (v := .int (mem (3 * j) 0)) rfl dX2_moment_37 ?_
  refine z_iload_n E dX2_moment_40 rfl 1 rfl ?_
  refine z_imul E dX2_moment_41 ?_
  exact z_iretM E hr hlocks (mem) rfl ⟨rfl, rfl⟩ (Nat.le_of_ble_eq_true rfl) (Nat.le_of_ble_eq_true rfl) dX2_moment_42
set_option maxHeartbeats 4000000 in
set_option maxRecDepth 100000 in
theorem k_push (l : Launch) (D : va_G) (ad : Nat → Nat) (cI cR cS cL : ClassId) (mem : zM) {j : Nat} (hj : j < 29) (f : Int32) : zMi l yX2_push wsX2_push ({ frames := 1, cells := 0, slots := 0, locals := 22 }) D (cK cI cR cS cL) [.ref (ad (3 * j)), .int f] (cw ad cI cR cS mem) (fun r u => r = fPush (rv mem j) f ∧ u = mem) (cw ad cI cR cS) 0 0 := by
  refine zMiM.of (cc := cX2_push) (maxL := 2) (ret := (some .int)) (by decide +kernel) rfl (lv0 := [(0, .ref (ad (3 * j))), (1, .int f)]) (Nat.le_of_ble_eq_true rfl) rfl ?_
  intro p e s m args below meth c E hZ hr hlocks hnm
  refine z_aload_n E dX2_push_0 rfl 0 rfl ?_
  refine z_callVi E hZ (k_moment l D ad cI cR cS cL mem hj) gX2_push_X2_moment (n := 0) rfl rfl rfl (by decide +kernel) rfl ⟨Nat.le_of_ble_eq_true rfl, Nat.le_of_ble_eq_true rfl⟩  (C := RX2) rfl (3 * j) (cw_rig hj) (As := []) (rest := []) rfl (Nat.le_of_ble_eq_true rfl) ⟨Nat.le_of_ble_eq_true rfl, Nat.le_of_ble_eq_true rfl⟩ dX2_push_1 (fun r u hp => ?_)
  rw [hp.1, hp.2]
  refine z_bipush (v := 10) E dX2_push_4 (by decide) ?_
  refine z_iload_n E dX2_push_6 rfl 1 rfl ?_
  refine z_imul E dX2_push_7 ?_
  refine z_aload_n E dX2_push_8 rfl 0 rfl ?_
  refine z_get E (3 * j) (cw_rig hj) (C := RX2) (T := TX2) (N := 10) rfl (fun _ h => List.mem_cons_of_mem _ (List.mem_append_right _ h)) 0 (by decide) (List.mem_of_getElem? (i := 1) (by decide +kernel)) rfl (v := .int (mem (3 * j) 0)) rfl dX2_push_9 ?_
  refine z_imul E dX2_push_12 ?_
  refine z_isub E dX2_push_13 ?_
  exact z_iretM E hr hlocks (mem) rfl ⟨rfl, rfl⟩ (Nat.le_of_ble_eq_true rfl) (Nat.le_of_ble_eq_true rfl) dX2_push_14
set_option maxHeartbeats 4000000 in
set_option maxRecDepth 100000 in
theorem k_groundPercents (l : Launch) (D : va_G) (ad : Nat → Nat) (cI cR cS cL : ClassId) (mem : zM) {j : Nat} (hj : j < 29) : zMi l yX2_groundPercents wsX2_groundPercents ({ frames := 0, cells := 0, slots := 0, locals := 0 }) D (cK cI cR cS cL) [.ref (ad (3 * j))] (cw ad cI cR cS mem) (fun r u => r = fGP (rv mem j) ∧ u = mem) (cw ad cI cR cS) 0 0 := by
  refine zMiM.of (cc := cX2_groundPercents) (maxL := 1) (ret := (some .int)) (by decide +kernel) rfl (lv0 := [(0, .ref (ad (3 * j)))]) (Nat.le_of_ble_eq_true rfl) rfl ?_
  intro p e s m args below meth c E hZ hr hlocks hnm
  obtain ⟨⟨t1, a1, b1⟩, ⟨t2, a2, b2⟩, -, -, -, -, -, -, -, -, -, -, -, -, N1, N2, -⟩ := id hZ
  refine z_aload_n E dX2_groundPercents_0 rfl 0 rfl ?_
  refine z_get E (3 * j) (cw_rig hj) (C := RX2) (T := TX2) (N := 10) rfl (fun _ h => List.mem_cons_of_mem _ (List.mem_append_right _ h)) 3 (by decide) (List.mem_of_getElem? (i := 1) (by decide +kernel)) rfl (v := .int (mem (3 * j) 3)) rfl dX2_groundPercents_1 ?_
  refine z_if_lt (tgt := 29) E dX2_groundPercents_4 (by decide) (fun c4 => ?_) (fun c4 => ?_)
  · skip
    refine z_iconst (v := 0) E dX2_groundPercents_29 (by decide) ?_
    exact z_iretM E hr hlocks (mem) rfl ⟨(if_pos c4).symm, rfl⟩ (Nat.le_of_ble_eq_true rfl) (Nat.le_of_ble_eq_true rfl) dX2_groundPercents_30
  · skip
    refine z_aload_n E dX2_groundPercents_7 rfl 0 rfl ?_
    refine z_get E (3 * j) (cw_rig hj) (C := RX2) (T := TX2) (N := 10) rfl (fun _ h => List.mem_cons_of_mem _ (List.mem_append_right _ h)) 3 (by decide) (List.mem_of_getElem? (i := 1) (by decide +kernel)) rfl (v := .int (mem (3 * j) 3)) rfl dX2_groundPercents_8 ?_
    refine z_getsN E a1 N1 dX2_groundPercents_11 ?_
    refine z_tlen E b1 (v := 4) (by decide) dX2_groundPercents_14 ?_
    refine z_icmp_ge (tgt := 29) E dX2_groundPercents_15 (by decide) (fun c15 => ?_) (fun c15 => ?_)
    · skip
      refine z_iconst (v := 0) E dX2_groundPercents_29 (by decide) ?_
      exact z_iretM E hr hlocks (mem) rfl ⟨((if_neg c4).trans (if_pos c15)).symm, rfl⟩ (Nat.le_of_ble_eq_true rfl) (Nat.le_of_ble_eq_true rfl) dX2_groundPercents_30
    · skip
      refine z_getsN E a1 N1 dX2_groundPercents_18 ?_
      refine z_aload_n E dX2_groundPercents_21 rfl 0 rfl ?_
      refine z_get E (3 * j) (cw_rig hj) (C := RX2) (T := TX2) (N := 10) rfl (fun _ h => List.mem_cons_of_mem _ (List.mem_append_right _ h)) 3 (by decide) (List.mem_of_getElem? (i := 1) (by decide +kernel)) rfl (v := .int (mem (3 * j) 3)) rfl dX2_groundPercents_22 ?_
      refine z_ti E b1 (zvin4 c4 c15) (v := .int (([5, 25, 40, 60] : List Int32).getD (mem (3 * j) 3).toNatClampNeg 0)) rfl dX2_groundPercents_25 ?_
      refine z_goto (tgt := 30) E dX2_groundPercents_26 (by decide) ?_
      exact z_iretM E hr hlocks (mem) rfl ⟨((if_neg c4).trans (if_neg c15)).symm, rfl⟩ (Nat.le_of_ble_eq_true rfl) (Nat.le_of_ble_eq_true rfl) dX2_groundPercents_30
set_option maxHeartbeats 4000000 in
set_option maxRecDepth 100000 in
theorem k_wallPercents (l : Launch) (D : va_G) (ad : Nat → Nat) (cI cR cS cL : ClassId) (mem : zM) {j : Nat} (hj : j < 29) : zMi l yX2_wallPercents wsX2_wallPercents ({ frames := 0, cells := 0, slots := 0, locals := 0 }) D (cK cI cR cS cL) [.ref (ad (3 * j))] (cw ad cI cR cS mem) (fun r u => r = fWP (rv mem j) ∧ u = mem) (cw ad cI cR cS) 0 0 := by
  refine zMiM.of (cc := cX2_wallPercents) (maxL := 1) (ret := (some .int)) (by decide +kernel) rfl (lv0 := [(0, .ref (ad (3 * j)))]) (Nat.le_of_ble_eq_true rfl) rfl ?_
  intro p e s m args below meth c E hZ hr hlocks hnm
  obtain ⟨⟨t1, a1, b1⟩, ⟨t2, a2, b2⟩, -, -, -, -, -, -, -, -, -, -, -, -, N1, N2, -⟩ := id hZ
  refine z_aload_n E dX2_wallPercents_0 rfl 0 rfl ?_
  refine z_get E (3 * j) (cw_rig hj) (C := RX2) (T := TX2) (N := 10) rfl (fun _ h => List.mem_cons_of_mem _ (List.mem_append_right _ h)) 4 (by decide) (List.mem_of_getElem? (i := 1) (by decide +kernel)) rfl (v := .int (mem (3 * j) 4)) rfl dX2_wallPercents_1 ?_
  refine z_if_lt (tgt := 29) E dX2_wallPercents_4 (by decide) (fun c4 => ?_) (fun c4 => ?_)
  · skip
    refine z_iconst (v := 0) E dX2_wallPercents_29 (by decide) ?_
    exact z_iretM E hr hlocks (mem) rfl ⟨(if_pos c4).symm, rfl⟩ (Nat.le_of_ble_eq_true rfl) (Nat.le_of_ble_eq_true rfl) dX2_wallPercents_30
  · skip
    refine z_aload_n E dX2_wallPercents_7 rfl 0 rfl ?_
    refine z_get E (3 * j) (cw_rig hj) (C := RX2) (T := TX2) (N := 10) rfl (fun _ h => List.mem_cons_of_mem _ (List.mem_append_right _ h)) 4 (by decide) (List.mem_of_getElem? (i := 1) (by decide +kernel)) rfl (v := .int (mem (3 * j) 4)) rfl dX2_wallPercents_8 ?_
    refine z_getsN E a2 N2 dX2_wallPercents_11 ?_
    refine z_tlen E b2 (v := 4) (by decide) dX2_wallPercents_14 ?_
    refine z_icmp_ge (tgt := 29) E dX2_wallPercents_15 (by decide) (fun c15 => ?_) (fun c15 => ?_)
    · skip
      refine z_iconst (v := 0) E dX2_wallPercents_29 (by decide) ?_
      exact z_iretM E hr hlocks (mem) rfl ⟨((if_neg c4).trans (if_pos c15)).symm, rfl⟩ (Nat.le_of_ble_eq_true rfl) (Nat.le_of_ble_eq_true rfl) dX2_wallPercents_30
    · skip
      refine z_getsN E a2 N2 dX2_wallPercents_18 ?_
      refine z_aload_n E dX2_wallPercents_21 rfl 0 rfl ?_
      refine z_get E (3 * j) (cw_rig hj) (C := RX2) (T := TX2) (N := 10) rfl (fun _ h => List.mem_cons_of_mem _ (List.mem_append_right _ h)) 4 (by decide) (List.mem_of_getElem? (i := 1) (by decide +kernel)) rfl (v := .int (mem (3 * j) 4)) rfl dX2_wallPercents_22 ?_
      refine z_ti E b2 (zvin4 c4 c15) (v := .int (([0, 20, 45, 60] : List Int32).getD (mem (3 * j) 4).toNatClampNeg 0)) rfl dX2_wallPercents_25 ?_
      refine z_goto (tgt := 30) E dX2_wallPercents_26 (by decide) ?_
      exact z_iretM E hr hlocks (mem) rfl ⟨((if_neg c4).trans (if_neg c15)).symm, rfl⟩ (Nat.le_of_ble_eq_true rfl) (Nat.le_of_ble_eq_true rfl) dX2_wallPercents_30
set_option maxHeartbeats 4000000 in
set_option maxRecDepth 100000 in
theorem k_leastByWall (l : Launch) (D : va_G) (ad : Nat → Nat) (cI cR cS cL : ClassId) (mem : zM) {j : Nat} (hj : j < 29) : zMi l yX2_leastByWall wsX2_leastByWall ({ frames := 1, cells := 0, slots := 0, locals := 22 }) D (cK cI cR cS cL) [.ref (ad (3 * j))] (cw ad cI cR cS mem) (fun r u => r = fLBW (rv mem j) ∧ u = mem) (cw ad cI cR cS) 0 0 := by
  refine zMiM.of (cc := cX2_leastByWall) (maxL := 3) (ret := (some .int)) (by decide +kernel) rfl (lv0 := [(0, .ref (ad (3 * j)))]) (Nat.le_of_ble_eq_true rfl) rfl ?_
  intro p e s m args below meth c E hZ hr hlocks hnm
  refine z_aload_n E dX2_leastByWall_0 rfl 0 rfl ?_
  refine z_get E (3 * j) (cw_rig hj) (C := RX2) (T := TX2) (N := 10) rfl (fun _ h => List.mem_cons_of_mem _ (List.mem_append_right _ h)) 4 (by decide) (List.mem_of_getElem? (i := 1) (by decide +kernel)) rfl (v := .int (mem (3 * j) 4)) rfl dX2_leastByWall_1 ?_
  refine z_iconst (v := 3) E dX2_leastByWall_4 (by decide) ?_
  refine z_icmp_ne (tgt := 10) E dX2_leastByWall_5 (by decide) (fun c5 => ?_) (fun c5 => ?_)
  · skip
    refine z_aload_n E dX2_leastByWall_10 rfl 0 rfl ?_
    refine z_callVi E hZ (k_wallPercents l D ad cI cR cS cL mem hj) gX2_leastByWall_X2_wallPercents (n := 0) rfl rfl rfl (by decide +kernel) rfl ⟨Nat.le_of_ble_eq_true rfl, Nat.le_of_ble_eq_true rfl⟩  (C := RX2) rfl (3 * j) (cw_rig hj) (As := []) (rest := []) rfl (Nat.le_of_ble_eq_true rfl) ⟨Nat.le_of_ble_eq_true rfl, Nat.le_of_ble_eq_true rfl⟩ dX2_leastByWall_11 (fun r u hp => ?_)
    rw [hp.1, hp.2]
    refine z_istore_n (lv' := [(1, .int (fWP (rv mem j))), (0, .ref (ad (3 * j)))]) E dX2_leastByWall_14 rfl (by decide) rfl ?_
    refine z_sipush (v := 1000) E dX2_leastByWall_15 (by decide) ?_
    refine z_aload_n E dX2_leastByWall_18 rfl 1 rfl ?_
    refine z_get E (3 * j) (cw_rig hj) (C := RX2) (T := TX2) (N := 10) rfl (fun _ h => List.mem_cons_of_mem _ (List.mem_append_right _ h)) 1 (by decide) (List.mem_of_getElem? (i := 2) (by decide +kernel)) rfl (v := .int (mem (3 * j) 1)) rfl dX2_leastByWall_19 ?_
    refine z_imul E dX2_leastByWall_22 ?_
    refine z_bipush (v := 10) E dX2_leastByWall_23 (by decide) ?_
    refine z_aload_n E dX2_leastByWall_25 rfl 1 rfl ?_
    refine z_get E (3 * j) (cw_rig hj) (C := RX2) (T := TX2) (N := 10) rfl (fun _ h => List.mem_cons_of_mem _ (List.mem_append_right _ h)) 0 (by decide) (List.mem_of_getElem? (i := 3) (by decide +kernel)) rfl (v := .int (mem (3 * j) 0)) rfl dX2_leastByWall_26 ?_
    refine z_imul E dX2_leastByWall_29 ?_
    refine z_iload_n E dX2_leastByWall_30 rfl 0 rfl ?_
    refine z_imul E dX2_leastByWall_31 ?_
    refine z_isub E dX2_leastByWall_32 ?_
    refine z_istore_n (lv' := [(2, .int ((1000 * (mem (3 * j) 1)) - ((10 * (mem (3 * j) 0)) * (fWP (rv mem j))))), (1, .int (fWP (rv mem j))), (0, .ref (ad (3 * j)))]) E dX2_leastByWall_33 rfl (by decide) rfl ?_
    refine z_iload_n E dX2_leastByWall_34 rfl 0 rfl ?_
    refine z_if_le (tgt := 52) E dX2_leastByWall_35 (by decide) (fun c35 => ?_) (fun c35 => ?_)
    · skip
      refine z_sipush (v := -1000) E dX2_leastByWall_52 (by decide) ?_
      exact z_iretM E hr hlocks (mem) rfl ⟨((if_neg c5).trans (if_pos c35)).symm, rfl⟩ (Nat.le_of_ble_eq_true rfl) (Nat.le_of_ble_eq_true rfl) dX2_leastByWall_55
    · skip
      refine z_iload_n E dX2_leastByWall_38 rfl 1 rfl ?_
      refine z_aload_n E dX2_leastByWall_39 rfl 2 rfl ?_
      refine z_callVi E hZ (k_moment l D ad cI cR cS cL mem hj) gX2_leastByWall_X2_moment (n := 0) rfl rfl rfl (by decide +kernel) rfl ⟨Nat.le_of_ble_eq_true rfl, Nat.le_of_ble_eq_true rfl⟩  (C := RX2) rfl (3 * j) (cw_rig hj) (As := []) (rest := [.int (fWP (rv mem j))]) rfl (Nat.le_of_ble_eq_true rfl) ⟨Nat.le_of_ble_eq_true rfl, Nat.le_of_ble_eq_true rfl⟩ dX2_leastByWall_40 (fun r u hp => ?_)
      rw [hp.1, hp.2]
      refine z_imul E dX2_leastByWall_43 ?_
      refine z_iload_n E dX2_leastByWall_44 rfl 0 rfl ?_
      refine z_callSi E hZ (k_floorDiv l D (cK cI cR cS cL) (cw ad cI cR cS mem) ((fWP (rv mem j)) * (fMoment (rv mem j))) ((1000 * (mem (3 * j) 1)) - ((10 * (mem (3 * j) 0)) * (fWP (rv mem j)))) (zpos0 c35)) gX2_leastByWall_J9_floorDiv_7cf53 (n := 2) rfl rfl rfl (by decide +kernel) rfl ⟨Nat.le_of_ble_eq_true rfl, Nat.le_of_ble_eq_true rfl⟩ (As := [.int ((fWP (rv mem j)) * (fMoment (rv mem j))), .int ((1000 * (mem (3 * j) 1)) - ((10 * (mem (3 * j) 0)) * (fWP (rv mem j))))]) (rest := []) rfl (Nat.le_of_ble_eq_true rfl) ⟨Nat.le_of_ble_eq_true rfl, Nat.le_of_ble_eq_true rfl⟩ dX2_leastByWall_45 (fun r u hp => ?_)
      rw [hp]
      refine z_ineg E dX2_leastByWall_48 ?_
      refine z_goto (tgt := 55) E dX2_leastByWall_49 (by decide) ?_
      exact z_iretM E hr hlocks (mem) rfl ⟨((if_neg c5).trans (if_neg c35)).symm, rfl⟩ (Nat.le_of_ble_eq_true rfl) (Nat.le_of_ble_eq_true rfl) dX2_leastByWall_55
  · skip
    refine z_iconst (v := 0) E dX2_leastByWall_8 (by decide) ?_
    exact z_iretM E hr hlocks (mem) rfl ⟨(if_pos c5).symm, rfl⟩ (Nat.le_of_ble_eq_true rfl) (Nat.le_of_ble_eq_true rfl) dX2_leastByWall_9
set_option maxHeartbeats 4000000 in
set_option maxRecDepth 100000 in
theorem k_greatestForce (l : Launch) (D : va_G) (ad : Nat → Nat) (cI cR cS cL : ClassId) (mem : zM) {j : Nat} (hj : j < 29) : zMi l yX2_greatestForce wsX2_greatestForce ({ frames := 1, cells := 0, slots := 0, locals := 22 }) D (cK cI cR cS cL) [.ref (ad (3 * j))] (cw ad cI cR cS mem) (fun r u => r = fGreat (rv mem j) ∧ u = mem) (cw ad cI cR cS) 0 0 := by
  refine zMiM.of (cc := cX2_greatestForce) (maxL := 3) (ret := (some .int)) (by decide +kernel) rfl (lv0 := [(0, .ref (ad (3 * j)))]) (Nat.le_of_ble_eq_true rfl) rfl ?_
  intro p e s m args below meth c E hZ hr hlocks hnm
  refine z_aload_n E dX2_greatestForce_0 rfl 0 rfl ?_
  refine z_callVi E hZ (k_wallPercents l D ad cI cR cS cL mem hj) gX2_greatestForce_X2_wallPercents (n := 0) rfl rfl rfl (by decide +kernel) rfl ⟨Nat.le_of_ble_eq_true rfl, Nat.le_of_ble_eq_true rfl⟩  (C := RX2) rfl (3 * j) (cw_rig hj) (As := []) (rest := []) rfl (Nat.le_of_ble_eq_true rfl) ⟨Nat.le_of_ble_eq_true rfl, Nat.le_of_ble_eq_true rfl⟩ dX2_greatestForce_1 (fun r u hp => ?_)
  rw [hp.1, hp.2]
  refine z_istore_n (lv' := [(1, .int (fWP (rv mem j))), (0, .ref (ad (3 * j)))]) E dX2_greatestForce_4 rfl (by decide) rfl ?_
  refine z_sipush (v := 1000) E dX2_greatestForce_5 (by decide) ?_
  refine z_aload_n E dX2_greatestForce_8 rfl 1 rfl ?_
  refine z_get E (3 * j) (cw_rig hj) (C := RX2) (T := TX2) (N := 10) rfl (fun _ h => List.mem_cons_of_mem _ (List.mem_append_right _ h)) 1 (by decide) (List.mem_of_getElem? (i := 1) (by decide +kernel)) rfl (v := .int (mem (3 * j) 1)) rfl dX2_greatestForce_9 ?_
  refine z_imul E dX2_greatestForce_12 ?_
  refine z_bipush (v := 10) E dX2_greatestForce_13 (by decide) ?_
  refine z_aload_n E dX2_greatestForce_15 rfl 1 rfl ?_
  refine z_get E (3 * j) (cw_rig hj) (C := RX2) (T := TX2) (N := 10) rfl (fun _ h => List.mem_cons_of_mem _ (List.mem_append_right _ h)) 0 (by decide) (List.mem_of_getElem? (i := 2) (by decide +kernel)) rfl (v := .int (mem (3 * j) 0)) rfl dX2_greatestForce_16 ?_
  refine z_imul E dX2_greatestForce_19 ?_
  refine z_iload_n E dX2_greatestForce_20 rfl 0 rfl ?_
  refine z_imul E dX2_greatestForce_21 ?_
  refine z_iadd E dX2_greatestForce_22 ?_
  refine z_istore_n (lv' := [(2, .int ((1000 * (mem (3 * j) 1)) + ((10 * (mem (3 * j) 0)) * (fWP (rv mem j))))), (1, .int (fWP (rv mem j))), (0, .ref (ad (3 * j)))]) E dX2_greatestForce_23 rfl (by decide) rfl ?_
  refine z_iload_n E dX2_greatestForce_24 rfl 0 rfl ?_
  refine z_if_le (tgt := 41) E dX2_greatestForce_25 (by decide) (fun c25 => ?_) (fun c25 => ?_)
  · skip
    refine z_iconst (v := 0) E dX2_greatestForce_41 (by decide) ?_
    exact z_iretM E hr hlocks (mem) rfl ⟨(if_pos c25).symm, rfl⟩ (Nat.le_of_ble_eq_true rfl) (Nat.le_of_ble_eq_true rfl) dX2_greatestForce_42
  · skip
    refine z_iload_n E dX2_greatestForce_28 rfl 1 rfl ?_
    refine z_aload_n E dX2_greatestForce_29 rfl 2 rfl ?_
    refine z_callVi E hZ (k_moment l D ad cI cR cS cL mem hj) gX2_greatestForce_X2_moment (n := 0) rfl rfl rfl (by decide +kernel) rfl ⟨Nat.le_of_ble_eq_true rfl, Nat.le_of_ble_eq_true rfl⟩  (C := RX2) rfl (3 * j) (cw_rig hj) (As := []) (rest := [.int (fWP (rv mem j))]) rfl (Nat.le_of_ble_eq_true rfl) ⟨Nat.le_of_ble_eq_true rfl, Nat.le_of_ble_eq_true rfl⟩ dX2_greatestForce_30 (fun r u hp => ?_)
    rw [hp.1, hp.2]
    refine z_imul E dX2_greatestForce_33 ?_
    refine z_iload_n E dX2_greatestForce_34 rfl 0 rfl ?_
    refine z_callSi E hZ (k_floorDiv l D (cK cI cR cS cL) (cw ad cI cR cS mem) ((fWP (rv mem j)) * (fMoment (rv mem j))) ((1000 * (mem (3 * j) 1)) + ((10 * (mem (3 * j) 0)) * (fWP (rv mem j)))) (zpos0 c25)) gX2_greatestForce_J9_floorDiv_7cf53 (n := 2) rfl rfl rfl (by decide +kernel) rfl ⟨Nat.le_of_ble_eq_true rfl, Nat.le_of_ble_eq_true rfl⟩ (As := [.int ((fWP (rv mem j)) * (fMoment (rv mem j))), .int ((1000 * (mem (3 * j) 1)) + ((10 * (mem (3 * j) 0)) * (fWP (rv mem j))))]) (rest := []) rfl (Nat.le_of_ble_eq_true rfl) ⟨Nat.le_of_ble_eq_true rfl, Nat.le_of_ble_eq_true rfl⟩ dX2_greatestForce_35 (fun r u hp => ?_)
    rw [hp]
    refine z_goto (tgt := 42) E dX2_greatestForce_38 (by decide) ?_
    exact z_iretM E hr hlocks (mem) rfl ⟨(if_neg c25).symm, rfl⟩ (Nat.le_of_ble_eq_true rfl) (Nat.le_of_ble_eq_true rfl) dX2_greatestForce_42
set_option maxHeartbeats 4000000 in
set_option maxRecDepth 100000 in
theorem k_leastByGround (l : Launch) (D : va_G) (ad : Nat → Nat) (cI cR cS cL : ClassId) (mem : zM) {j : Nat} (hj : j < 29) : zMi l yX2_leastByGround wsX2_leastByGround ({ frames := 1, cells := 0, slots := 0, locals := 22 }) D (cK cI cR cS cL) [.ref (ad (3 * j))] (cw ad cI cR cS mem) (fun r u => r = fLBG (rv mem j) ∧ u = mem) (cw ad cI cR cS) 0 0 := by
  refine zMiM.of (cc := cX2_leastByGround) (maxL := 3) (ret := (some .int)) (by decide +kernel) rfl (lv0 := [(0, .ref (ad (3 * j)))]) (Nat.le_of_ble_eq_true rfl) rfl ?_
  intro p e s m args below meth c E hZ hr hlocks hnm
  refine z_bipush (v := 10) E dX2_leastByGround_0 (by decide) ?_
  refine z_aload_n E dX2_leastByGround_2 rfl 0 rfl ?_
  refine z_get E (3 * j) (cw_rig hj) (C := RX2) (T := TX2) (N := 10) rfl (fun _ h => List.mem_cons_of_mem _ (List.mem_append_right _ h)) 1 (by decide) (List.mem_of_getElem? (i := 1) (by decide +kernel)) rfl (v := .int (mem (3 * j) 1)) rfl dX2_leastByGround_3 ?_
  refine z_imul E dX2_leastByGround_6 ?_
  refine z_aload_n E dX2_leastByGround_7 rfl 0 rfl ?_
  refine z_callVi E hZ (k_groundPercents l D ad cI cR cS cL mem hj) gX2_leastByGround_X2_groundPercents (n := 0) rfl rfl rfl (by decide +kernel) rfl ⟨Nat.le_of_ble_eq_true rfl, Nat.le_of_ble_eq_true rfl⟩  (C := RX2) rfl (3 * j) (cw_rig hj) (As := []) (rest := [.int (10 * (mem (3 * j) 1))]) rfl (Nat.le_of_ble_eq_true rfl) ⟨Nat.le_of_ble_eq_true rfl, Nat.le_of_ble_eq_true rfl⟩ dX2_leastByGround_8 (fun r u hp => ?_)
  rw [hp.1, hp.2]
  refine z_imul E dX2_leastByGround_11 ?_
  refine z_sipush (v := 1000) E dX2_leastByGround_12 (by decide) ?_
  refine z_aload_n E dX2_leastByGround_15 rfl 0 rfl ?_
  refine z_get E (3 * j) (cw_rig hj) (C := RX2) (T := TX2) (N := 10) rfl (fun _ h => List.mem_cons_of_mem _ (List.mem_append_right _ h)) 0 (by decide) (List.mem_of_getElem? (i := 2) (by decide +kernel)) rfl (v := .int (mem (3 * j) 0)) rfl dX2_leastByGround_16 ?_
  refine z_imul E dX2_leastByGround_19 ?_
  refine z_isub E dX2_leastByGround_20 ?_
  refine z_istore_n (lv' := [(1, .int (((10 * (mem (3 * j) 1)) * (fGP (rv mem j))) - (1000 * (mem (3 * j) 0)))), (0, .ref (ad (3 * j)))]) E dX2_leastByGround_21 rfl (by decide) rfl ?_
  refine z_bipush (v := 10) E dX2_leastByGround_22 (by decide) ?_
  refine z_aload_n E dX2_leastByGround_24 rfl 1 rfl ?_
  refine z_get E (3 * j) (cw_rig hj) (C := RX2) (T := TX2) (N := 10) rfl (fun _ h => List.mem_cons_of_mem _ (List.mem_append_right _ h)) 1 (by decide) (List.mem_of_getElem? (i := 1) (by decide +kernel)) rfl (v := .int (mem (3 * j) 1)) rfl dX2_leastByGround_25 ?_
  refine z_imul E dX2_leastByGround_28 ?_
  refine z_aload_n E dX2_leastByGround_29 rfl 1 rfl ?_
  refine z_callVi E hZ (k_groundPercents l D ad cI cR cS cL mem hj) gX2_leastByGround_X2_groundPercents (n := 0) rfl rfl rfl (by decide +kernel) rfl ⟨Nat.le_of_ble_eq_true rfl, Nat.le_of_ble_eq_true rfl⟩  (C := RX2) rfl (3 * j) (cw_rig hj) (As := []) (rest := [.int (10 * (mem (3 * j) 1))]) rfl (Nat.le_of_ble_eq_true rfl) ⟨Nat.le_of_ble_eq_true rfl, Nat.le_of_ble_eq_true rfl⟩ dX2_leastByGround_30 (fun r u hp => ?_)
  rw [hp.1, hp.2]
  refine z_aload_n E dX2_leastByGround_33 rfl 1 rfl ?_
  refine z_callVi E hZ (k_load l D ad cI cR cS cL mem hj) gX2_leastByGround_X2_load (n := 0) rfl rfl rfl (by decide +kernel) rfl ⟨Nat.le_of_ble_eq_true rfl, Nat.le_of_ble_eq_true rfl⟩  (C := RX2) rfl (3 * j) (cw_rig hj) (As := []) (rest := [.int (fGP (rv mem j)), .int (10 * (mem (3 * j) 1))]) rfl (Nat.le_of_ble_eq_true rfl) ⟨Nat.le_of_ble_eq_true rfl, Nat.le_of_ble_eq_true rfl⟩ dX2_leastByGround_34 (fun r u hp => ?_)
  rw [hp.1, hp.2]
  refine z_imul E dX2_leastByGround_37 ?_
  refine z_bipush (v := 100) E dX2_leastByGround_38 (by decide) ?_
  refine z_aload_n E dX2_leastByGround_40 rfl 1 rfl ?_
  refine z_get E (3 * j) (cw_rig hj) (C := RX2) (T := TX2) (N := 10) rfl (fun _ h => List.mem_cons_of_mem _ (List.mem_append_right _ h)) 5 (by decide) (List.mem_of_getElem? (i := 3) (by decide +kernel)) rfl (v := .int (mem (3 * j) 5)) rfl dX2_leastByGround_41 ?_
  refine z_imul E dX2_leastByGround_44 ?_
  refine z_iadd E dX2_leastByGround_45 ?_
  refine z_imul E dX2_leastByGround_46 ?_
  refine z_bipush (v := 100) E dX2_leastByGround_47 (by decide) ?_
  refine z_aload_n E dX2_leastByGround_49 rfl 1 rfl ?_
  refine z_callVi E hZ (k_moment l D ad cI cR cS cL mem hj) gX2_leastByGround_X2_moment (n := 0) rfl rfl rfl (by decide +kernel) rfl ⟨Nat.le_of_ble_eq_true rfl, Nat.le_of_ble_eq_true rfl⟩  (C := RX2) rfl (3 * j) (cw_rig hj) (As := []) (rest := [.int 100, .int ((10 * (mem (3 * j) 1)) * (((fGP (rv mem j)) * (fLoad (rv mem j))) + (100 * (mem (3 * j) 5))))]) rfl (Nat.le_of_ble_eq_true rfl) ⟨Nat.le_of_ble_eq_true rfl, Nat.le_of_ble_eq_true rfl⟩ dX2_leastByGround_50 (fun r u hp => ?_)
  rw [hp.1, hp.2]
  refine z_imul E dX2_leastByGround_53 ?_
  refine z_isub E dX2_leastByGround_54 ?_
  refine z_istore_n (lv' := [(2, .int (((10 * (mem (3 * j) 1)) * (((fGP (rv mem j)) * (fLoad (rv mem j))) + (100 * (mem (3 * j) 5)))) - (100 * (fMoment (rv mem j))))), (1, .int (((10 * (mem (3 * j) 1)) * (fGP (rv mem j))) - (1000 * (mem (3 * j) 0)))), (0, .ref (ad (3 * j)))]) E dX2_leastByGround_55 rfl (by decide) rfl ?_
  refine z_iload_n E dX2_leastByGround_56 rfl 1 rfl ?_
  refine z_if_ge (tgt := 70) E dX2_leastByGround_57 (by decide) (fun c57 => ?_) (fun c57 => ?_)
  · skip
    refine z_sipush (v := -1000) E dX2_leastByGround_70 (by decide) ?_
    exact z_iretM E hr hlocks (mem) rfl ⟨(if_pos c57).symm, rfl⟩ (Nat.le_of_ble_eq_true rfl) (Nat.le_of_ble_eq_true rfl) dX2_leastByGround_73
  · skip
    refine z_iload_n E dX2_leastByGround_60 rfl 0 rfl ?_
    refine z_iload_n E dX2_leastByGround_61 rfl 1 rfl ?_
    refine z_ineg E dX2_leastByGround_62 ?_
    refine z_callSi E hZ (k_floorDiv l D (cK cI cR cS cL) (cw ad cI cR cS mem) (((10 * (mem (3 * j) 1)) * (((fGP (rv mem j)) * (fLoad (rv mem j))) + (100 * (mem (3 * j) 5)))) - (100 * (fMoment (rv mem j)))) (-(((10 * (mem (3 * j) 1)) * (fGP (rv mem j))) - (1000 * (mem (3 * j) 0)))) (zneg0 c57)) gX2_leastByGround_J9_floorDiv_7cf53 (n := 2) rfl rfl rfl (by decide +kernel) rfl ⟨Nat.le_of_ble_eq_true rfl, Nat.le_of_ble_eq_true rfl⟩ (As := [.int (((10 * (mem (3 * j) 1)) * (((fGP (rv mem j)) * (fLoad (rv mem j))) + (100 * (mem (3 * j) 5)))) - (100 * (fMoment (rv mem j)))), .int (-(((10 * (mem (3 * j) 1)) * (fGP (rv mem j))) - (1000 * (mem (3 * j) 0))))]) (rest := []) rfl (Nat.le_of_ble_eq_true rfl) ⟨Nat.le_of_ble_eq_true rfl, Nat.le_of_ble_eq_true rfl⟩ dX2_leastByGround_63 (fun r u hp => ?_)
    rw [hp]
    refine z_ineg E dX2_leastByGround_66 ?_
    refine z_goto (tgt := 73) E dX2_leastByGround_67 (by decide) ?_
    exact z_iretM E hr hlocks (mem) rfl ⟨(if_neg c57).symm, rfl⟩ (Nat.le_of_ble_eq_true rfl) (Nat.le_of_ble_eq_true rfl) dX2_leastByGround_73
set_option maxHeartbeats 4000000 in
set_option maxRecDepth 100000 in
theorem k_leastForce (l : Launch) (D : va_G) (ad : Nat → Nat) (cI cR cS cL : ClassId) (mem : zM) {j : Nat} (hj : j < 29) : zMi l yX2_leastForce wsX2_leastForce ({ frames := 2, cells := 0, slots := 0, locals := 44 }) D (cK cI cR cS cL) [.ref (ad (3 * j))] (cw ad cI cR cS mem) (fun r u => r = fLeast (rv mem j) ∧ u = mem) (cw ad cI cR cS) 0 0 := by
  refine zMiM.of (cc := cX2_leastForce) (maxL := 1) (ret := (some .int)) (by decide +kernel) rfl (lv0 := [(0, .ref (ad (3 * j)))]) (Nat.le_of_ble_eq_true rfl) rfl ?_
  intro p e s m args below meth c E hZ hr hlocks hnm
  refine z_sipush (v := -1000) E dX2_leastForce_0 (by decide) ?_
  refine z_aload_n E dX2_leastForce_3 rfl 0 rfl ?_
  refine z_callVi E hZ (k_leastByWall l D ad cI cR cS cL mem hj) gX2_leastForce_X2_leastByWall (n := 0) rfl rfl rfl (by decide +kernel) rfl ⟨Nat.le_of_ble_eq_true rfl, Nat.le_of_ble_eq_true rfl⟩  (C := RX2) rfl (3 * j) (cw_rig hj) (As := []) (rest := [.int (-1000)]) rfl (Nat.le_of_ble_eq_true rfl) ⟨Nat.le_of_ble_eq_true rfl, Nat.le_of_ble_eq_true rfl⟩ dX2_leastForce_4 (fun r u hp => ?_)
  rw [hp.1, hp.2]
  refine z_aload_n E dX2_leastForce_7 rfl 0 rfl ?_
  refine z_callVi E hZ (k_leastByGround l D ad cI cR cS cL mem hj) gX2_leastForce_X2_leastByGround (n := 0) rfl rfl rfl (by decide +kernel) rfl ⟨Nat.le_of_ble_eq_true rfl, Nat.le_of_ble_eq_true rfl⟩  (C := RX2) rfl (3 * j) (cw_rig hj) (As := []) (rest := [.int (fLBW (rv mem j)), .int (-1000)]) rfl (Nat.le_of_ble_eq_true rfl) ⟨Nat.le_of_ble_eq_true rfl, Nat.le_of_ble_eq_true rfl⟩ dX2_leastForce_8 (fun r u hp => ?_)
  rw [hp.1, hp.2]
  refine z_mmax E (List.mem_of_getElem? (i := 1) (by decide +kernel)) (List.mem_of_getElem? (i := 2) (by decide +kernel)) (List.mem_of_getElem? (i := 3) (by decide +kernel)) (List.mem_of_getElem? (i := 4) (by decide +kernel)) (Nat.le_of_ble_eq_true rfl) (Nat.le_of_ble_eq_true rfl) (Nat.le_of_ble_eq_true rfl) (Nat.le_of_ble_eq_true rfl) dX2_leastForce_11 ?_
  refine z_mmax E (List.mem_of_getElem? (i := 1) (by decide +kernel)) (List.mem_of_getElem? (i := 2) (by decide +kernel)) (List.mem_of_getElem? (i := 3) (by decide +kernel)) (List.mem_of_getElem? (i := 4) (by decide +kernel)) (Nat.le_of_ble_eq_true rfl) (Nat.le_of_ble_eq_true rfl) (Nat.le_of_ble_eq_true rfl) (Nat.le_of_ble_eq_true rfl) dX2_leastForce_14 ?_
  exact z_iretM E hr hlocks (mem) rfl ⟨rfl, rfl⟩ (Nat.le_of_ble_eq_true rfl) (Nat.le_of_ble_eq_true rfl) dX2_leastForce_17
set_option maxHeartbeats 4000000 in
set_option maxRecDepth 100000 in
theorem k_stands (l : Launch) (D : va_G) (ad : Nat → Nat) (cI cR cS cL : ClassId) (mem : zM) {j : Nat} (hj : j < 29) : zMi l yX2_stands wsX2_stands ({ frames := 3, cells := 0, slots := 0, locals := 64 }) D (cK cI cR cS cL) [.ref (ad (3 * j))] (cw ad cI cR cS mem) (fun r u => r = fStands (rv mem j) ∧ u = mem) (cw ad cI cR cS) 0 0 := by
  refine zMiM.of (cc := cX2_stands) (maxL := 1) (ret := (some .boolean)) (by decide +kernel) rfl (lv0 := [(0, .ref (ad (3 * j)))]) (Nat.le_of_ble_eq_true rfl) rfl ?_
  intro p e s m args below meth c E hZ hr hlocks hnm
  refine z_aload_n E dX2_stands_0 rfl 0 rfl ?_
  refine z_callVi E hZ (k_leastForce l D ad cI cR cS cL mem hj) gX2_stands_X2_leastForce (n := 0) rfl rfl rfl (by decide +kernel) rfl ⟨Nat.le_of_ble_eq_true rfl, Nat.le_of_ble_eq_true rfl⟩  (C := RX2) rfl (3 * j) (cw_rig hj) (As := []) (rest := []) rfl (Nat.le_of_ble_eq_true rfl) ⟨Nat.le_of_ble_eq_true rfl, Nat.le_of_ble_eq_true rfl⟩ dX2_stands_1 (fun r u hp => ?_)
  rw [hp.1, hp.2]
  refine z_aload_n E dX2_stands_4 rfl 0 rfl ?_
  refine z_callVi E hZ (k_greatestForce l D ad cI cR cS cL mem hj) gX2_stands_X2_greatestForce (n := 0) rfl rfl rfl (by decide +kernel) rfl ⟨Nat.le_of_ble_eq_true rfl, Nat.le_of_ble_eq_true rfl⟩  (C := RX2) rfl (3 * j) (cw_rig hj) (As := []) (rest := [.int (fLeast (rv mem j))]) rfl (Nat.le_of_ble_eq_true rfl) ⟨Nat.le_of_ble_eq_true rfl, Nat.le_of_ble_eq_true rfl⟩ dX2_stands_5 (fun r u hp => ?_)
  rw [hp.1, hp.2]
  refine z_icmp_gt (tgt := 15) E dX2_stands_8 (by decide) (fun c8 => ?_) (fun c8 => ?_)
  · skip
    refine z_iconst (v := 0) E dX2_stands_15 (by decide) ?_
    exact z_izretM E hr hlocks (mem) rfl rfl ⟨(if_pos c8).symm, rfl⟩ (Nat.le_of_ble_eq_true rfl) (Nat.le_of_ble_eq_true rfl) dX2_stands_16
  · skip
    refine z_iconst (v := 1) E dX2_stands_11 (by decide) ?_
    refine z_goto (tgt := 16) E dX2_stands_12 (by decide) ?_
    exact z_izretM E hr hlocks (mem) rfl rfl ⟨(if_neg c8).symm, rfl⟩ (Nat.le_of_ble_eq_true rfl) (Nat.le_of_ble_eq_true rfl) dX2_stands_16
set_option maxHeartbeats 4000000 in
set_option maxRecDepth 100000 in
theorem k_forces (l : Launch) (D : va_G) (ad : Nat → Nat) (cI cR cS cL : ClassId) (mem : zM) {j : Nat} (hj : j < 29) : zMi l yX2_forces wsX2_forces ({ frames := 3, cells := 0, slots := 0, locals := 64 }) D (cK cI cR cS cL) [.ref (ad (3 * j))] (cw ad cI cR cS mem) (fun r u => r = fForces (rv mem j) ∧ u = mem) (cw ad cI cR cS) 0 0 := by
  refine zMiM.of (cc := cX2_forces) (maxL := 1) (ret := (some .int)) (by decide +kernel) rfl (lv0 := [(0, .ref (ad (3 * j)))]) (Nat.le_of_ble_eq_true rfl) rfl ?_
  intro p e s m args below meth c E hZ hr hlocks hnm
  refine z_iconst (v := 0) E dX2_forces_0 (by decide) ?_
  refine z_aload_n E dX2_forces_1 rfl 0 rfl ?_
  refine z_callVi E hZ (k_greatestForce l D ad cI cR cS cL mem hj) gX2_forces_X2_greatestForce (n := 0) rfl rfl rfl (by decide +kernel) rfl ⟨Nat.le_of_ble_eq_true rfl, Nat.le_of_ble_eq_true rfl⟩  (C := RX2) rfl (3 * j) (cw_rig hj) (As := []) (rest := [.int 0]) rfl (Nat.le_of_ble_eq_true rfl) ⟨Nat.le_of_ble_eq_true rfl, Nat.le_of_ble_eq_true rfl⟩ dX2_forces_2 (fun r u hp => ?_)
  rw [hp.1, hp.2]
  refine z_aload_n E dX2_forces_5 rfl 0 rfl ?_
  refine z_callVi E hZ (k_leastForce l D ad cI cR cS cL mem hj) gX2_forces_X2_leastForce (n := 0) rfl rfl rfl (by decide +kernel) rfl ⟨Nat.le_of_ble_eq_true rfl, Nat.le_of_ble_eq_true rfl⟩  (C := RX2) rfl (3 * j) (cw_rig hj) (As := []) (rest := [.int (fGreat (rv mem j)), .int 0]) rfl (Nat.le_of_ble_eq_true rfl) ⟨Nat.le_of_ble_eq_true rfl, Nat.le_of_ble_eq_true rfl⟩ dX2_forces_6 (fun r u hp => ?_)
  rw [hp.1, hp.2]
  refine z_isub E dX2_forces_9 ?_
  refine z_iconst (v := 1) E dX2_forces_10 (by decide) ?_
  refine z_iadd E dX2_forces_11 ?_
  refine z_mmax E (List.mem_of_getElem? (i := 1) (by decide +kernel)) (List.mem_of_getElem? (i := 2) (by decide +kernel)) (List.mem_of_getElem? (i := 3) (by decide +kernel)) (List.mem_of_getElem? (i := 4) (by decide +kernel)) (Nat.le_of_ble_eq_true rfl) (Nat.le_of_ble_eq_true rfl) (Nat.le_of_ble_eq_true rfl) (Nat.le_of_ble_eq_true rfl) dX2_forces_12 ?_
  exact z_iretM E hr hlocks (mem) rfl ⟨rfl, rfl⟩ (Nat.le_of_ble_eq_true rfl) (Nat.le_of_ble_eq_true rfl) dX2_forces_15
set_option maxHeartbeats 4000000 in
set_option maxRecDepth 100000 in
theorem k_nearestForce (l : Launch) (D : va_G) (ad : Nat → Nat) (cI cR cS cL : ClassId) (mem : zM) {j : Nat} (hj : j < 29) : zMi l yX2_nearestForce wsX2_nearestForce ({ frames := 3, cells := 0, slots := 0, locals := 64 }) D (cK cI cR cS cL) [.ref (ad (3 * j))] (cw ad cI cR cS mem) (fun r u => r = fNearest (rv mem j) ∧ u = mem) (cw ad cI cR cS) 0 0 := by
  refine zMiM.of (cc := cX2_nearestForce) (maxL := 1) (ret := (some .int)) (by decide +kernel) rfl (lv0 := [(0, .ref (ad (3 * j)))]) (Nat.le_of_ble_eq_true rfl) rfl ?_
  intro p e s m args below meth c E hZ hr hlocks hnm
  refine z_aload_n E dX2_nearestForce_0 rfl 0 rfl ?_
  refine z_callVi E hZ (k_leastForce l D ad cI cR cS cL mem hj) gX2_nearestForce_X2_leastForce (n := 0) rfl rfl rfl (by decide +kernel) rfl ⟨Nat.le_of_ble_eq_true rfl, Nat.le_of_ble_eq_true rfl⟩  (C := RX2) rfl (3 * j) (cw_rig hj) (As := []) (rest := []) rfl (Nat.le_of_ble_eq_true rfl) ⟨Nat.le_of_ble_eq_true rfl, Nat.le_of_ble_eq_true rfl⟩ dX2_nearestForce_1 (fun r u hp => ?_)
  rw [hp.1, hp.2]
  refine z_iconst (v := 0) E dX2_nearestForce_4 (by decide) ?_
  refine z_aload_n E dX2_nearestForce_5 rfl 0 rfl ?_
  refine z_callVi E hZ (k_greatestForce l D ad cI cR cS cL mem hj) gX2_nearestForce_X2_greatestForce (n := 0) rfl rfl rfl (by decide +kernel) rfl ⟨Nat.le_of_ble_eq_true rfl, Nat.le_of_ble_eq_true rfl⟩  (C := RX2) rfl (3 * j) (cw_rig hj) (As := []) (rest := [.int 0, .int (fLeast (rv mem j))]) rfl (Nat.le_of_ble_eq_true rfl) ⟨Nat.le_of_ble_eq_true rfl, Nat.le_of_ble_eq_true rfl⟩ dX2_nearestForce_6 (fun r u hp => ?_)
  rw [hp.1, hp.2]
  refine z_mmin E (List.mem_of_getElem? (i := 1) (by decide +kernel)) (List.mem_of_getElem? (i := 2) (by decide +kernel)) (List.mem_of_getElem? (i := 3) (by decide +kernel)) (List.mem_of_getElem? (i := 4) (by decide +kernel)) (Nat.le_of_ble_eq_true rfl) (Nat.le_of_ble_eq_true rfl) (Nat.le_of_ble_eq_true rfl) (Nat.le_of_ble_eq_true rfl) dX2_nearestForce_9 ?_
  refine z_mmax E (List.mem_of_getElem? (i := 5) (by decide +kernel)) (List.mem_of_getElem? (i := 6) (by decide +kernel)) (List.mem_of_getElem? (i := 3) (by decide +kernel)) (List.mem_of_getElem? (i := 7) (by decide +kernel)) (Nat.le_of_ble_eq_true rfl) (Nat.le_of_ble_eq_true rfl) (Nat.le_of_ble_eq_true rfl) (Nat.le_of_ble_eq_true rfl) dX2_nearestForce_12 ?_
  exact z_iretM E hr hlocks (mem) rfl ⟨rfl, rfl⟩ (Nat.le_of_ble_eq_true rfl) (Nat.le_of_ble_eq_true rfl) dX2_nearestForce_15
set_option maxHeartbeats 4000000 in
set_option maxRecDepth 100000 in
theorem k_whatGivesWay (l : Launch) (D : va_G) (ad : Nat → Nat) (cI cR cS cL : ClassId) (mem : zM) {j : Nat} (hj : j < 29) (f : Int32) : zMi l yX2_whatGivesWay wsX2_whatGivesWay ({ frames := 2, cells := 0, slots := 0, locals := 43 }) D (cK cI cR cS cL) [.ref (ad (3 * j)), .int f] (cw ad cI cR cS mem) (fun r u => r = fWGW (rv mem j) f ∧ u = mem) (cw ad cI cR cS) 0 0 := by
  refine zMiM.of (cc := cX2_whatGivesWay) (maxL := 5) (ret := (some .int)) (by decide +kernel) rfl (lv0 := [(0, .ref (ad (3 * j))), (1, .int f)]) (Nat.le_of_ble_eq_true rfl) rfl ?_
  intro p e s m args below meth c E hZ hr hlocks hnm
  refine z_aload_n E dX2_whatGivesWay_0 rfl 0 rfl ?_
  refine z_iload_n E dX2_whatGivesWay_1 rfl 1 rfl ?_
  refine z_callVi E hZ (k_push l D ad cI cR cS cL mem hj f) gX2_whatGivesWay_X2_push (n := 1) rfl rfl rfl (by decide +kernel) rfl ⟨Nat.le_of_ble_eq_true rfl, Nat.le_of_ble_eq_true rfl⟩  (C := RX2) rfl (3 * j) (cw_rig hj) (As := [.int f]) (rest := []) rfl (Nat.le_of_ble_eq_true rfl) ⟨Nat.le_of_ble_eq_true rfl, Nat.le_of_ble_eq_true rfl⟩ dX2_whatGivesWay_2 (fun r u hp => ?_)
  rw [hp.1, hp.2]
  refine z_istore_n (lv' := [(2, .int (fPush (rv mem j) f)), (0, .ref (ad (3 * j))), (1, .int f)]) E dX2_whatGivesWay_5 rfl (by decide) rfl ?_
  refine z_aload_n E dX2_whatGivesWay_6 rfl 1 rfl ?_
  refine z_callVi E hZ (k_load l D ad cI cR cS cL mem hj) gX2_whatGivesWay_X2_load (n := 0) rfl rfl rfl (by decide +kernel) rfl ⟨Nat.le_of_ble_eq_true rfl, Nat.le_of_ble_eq_true rfl⟩  (C := RX2) rfl (3 * j) (cw_rig hj) (As := []) (rest := []) rfl (Nat.le_of_ble_eq_true rfl) ⟨Nat.le_of_ble_eq_true rfl, Nat.le_of_ble_eq_true rfl⟩ dX2_whatGivesWay_7 (fun r u hp => ?_)
  rw [hp.1, hp.2]
  refine z_istore_n (lv' := [(3, .int (fLoad (rv mem j))), (2, .int (fPush (rv mem j) f)), (0, .ref (ad (3 * j))), (1, .int f)]) E dX2_whatGivesWay_10 rfl (by decide) rfl ?_
  refine z_iload_n E dX2_whatGivesWay_11 rfl 1 rfl ?_
  refine z_join (fun v20 => v20 = fWGW1 (rv mem j) f) (pc2 := 20) (c2 := 0) (s2 := 0) (lv2 := (fun _ => [(3, .int (fLoad (rv mem j))), (2, .int (fPush (rv mem j) f)), (0, .ref (ad (3 * j))), (1, .int f)])) (st2 := (fun v20 => [.int v20])) (fun v20 hv20 => ?_) (fun J20 => ?_)
  · skip
    refine z_istore (lv' := [(4, .int v20), (3, .int (fLoad (rv mem j))), (2, .int (fPush (rv mem j) f)), (0, .ref (ad (3 * j))), (1, .int f)]) E dX2_whatGivesWay_20 (by decide) rfl ?_
    refine z_join (fun v62 => v62 = fWGW2 (rv mem j) f) (pc2 := 62) (c2 := 0) (s2 := 0) (lv2 := (fun v62 => [(4, .int v62), (3, .int (fLoad (rv mem j))), (2, .int (fPush (rv mem j) f)), (0, .ref (ad (3 * j))), (1, .int f)])) (st2 := (fun _ => [])) (fun v62 hv62 => ?_) (fun J62 => ?_)
    · skip
      refine z_join (fun v73 => v73 = fWGW3 (rv mem j) f) (pc2 := 73) (c2 := 0) (s2 := 0) (lv2 := (fun v73 => [(4, .int v73), (3, .int (fLoad (rv mem j))), (2, .int (fPush (rv mem j) f)), (0, .ref (ad (3 * j))), (1, .int f)])) (st2 := (fun _ => [])) (fun v73 hv73 => ?_) (fun J73 => ?_)
      · skip
        refine z_join (fun v111 => v111 = fWGW (rv mem j) f) (pc2 := 111) (c2 := 0) (s2 := 0) (lv2 := (fun v111 => [(4, .int v111), (3, .int (fLoad (rv mem j))), (2, .int (fPush (rv mem j) f)), (0, .ref (ad (3 * j))), (1, .int f)])) (st2 := (fun _ => [])) (fun v111 hv111 => ?_) (fun J111 => ?_)
        · skip
          refine z_iload E dX2_whatGivesWay_111 0 rfl ?_
          exact z_iretM E hr hlocks (mem) rfl ⟨hv111, rfl⟩ (Nat.le_of_ble_eq_true rfl) (Nat.le_of_ble_eq_true rfl) dX2_whatGivesWay_113
        · skip
          refine z_bipush (v := 100) E dX2_whatGivesWay_73 (by decide) ?_
          refine z_iload_n E dX2_whatGivesWay_75 rfl 2 rfl ?_
          refine z_imul E dX2_whatGivesWay_76 ?_
          refine z_bipush (v := 10) E dX2_whatGivesWay_77 (by decide) ?_
          refine z_aload_n E dX2_whatGivesWay_79 rfl 3 rfl ?_
          refine z_get E (3 * j) (cw_rig hj) (C := RX2) (T := TX2) (N := 10) rfl (fun _ h => List.mem_cons_of_mem _ (List.mem_append_right _ h)) 1 (by decide) (List.mem_of_getElem? (i := 1) (by decide +kernel)) rfl (v := .int (mem (3 * j) 1)) rfl dX2_whatGivesWay_80 ?_
          refine z_imul E dX2_whatGivesWay_83 ?_
          refine z_aload_n E dX2_whatGivesWay_84 rfl 3 rfl ?_
          refine z_callVi E hZ (k_groundPercents l D ad cI cR cS cL mem hj) gX2_whatGivesWay_X2_groundPercents (n := 0) rfl rfl rfl (by decide +kernel) rfl ⟨Nat.le_of_ble_eq_true rfl, Nat.le_of_ble_eq_true rfl⟩  (C := RX2) rfl (3 * j) (cw_rig hj) (As := []) (rest := [.int (10 * (mem (3 * j) 1)), .int (100 * (fPush (rv mem j) f))]) rfl (Nat.le_of_ble_eq_true rfl) ⟨Nat.le_of_ble_eq_true rfl, Nat.le_of_ble_eq_true rfl⟩ dX2_whatGivesWay_85 (fun r u hp => ?_)
          rw [hp.1, hp.2]
          refine z_iload_n E dX2_whatGivesWay_88 rfl 1 rfl ?_
          refine z_iload_n E dX2_whatGivesWay_89 rfl 4 rfl ?_
          refine z_isub E dX2_whatGivesWay_90 ?_
          refine z_imul E dX2_whatGivesWay_91 ?_
          refine z_bipush (v := 100) E dX2_whatGivesWay_92 (by decide) ?_
          refine z_aload_n E dX2_whatGivesWay_94 rfl 3 rfl ?_
          refine z_get E (3 * j) (cw_rig hj) (C := RX2) (T := TX2) (N := 10) rfl (fun _ h => List.mem_cons_of_mem _ (List.mem_append_right _ h)) 5 (by decide) (List.mem_of_getElem? (i := 7) (by decide +kernel)) rfl (v := .int (mem (3 * j) 5)) rfl dX2_whatGivesWay_95 ?_
          refine z_imul E dX2_whatGivesWay_98 ?_
          refine z_iadd E dX2_whatGivesWay_99 ?_
          refine z_imul E dX2_whatGivesWay_100 ?_
          refine z_icmp_le (tgt := 111) E dX2_whatGivesWay_101 (by decide) (fun c101 => ?_) (fun c101 => ?_)
          · skip
            exact J111 _ (by rw [hv73]; exact (if_pos c101).symm)
          · skip
            refine z_iload E dX2_whatGivesWay_104 0 rfl ?_
            refine z_bipush (v := 8) E dX2_whatGivesWay_106 (by decide) ?_
            refine z_ior E dX2_whatGivesWay_108 ?_
            refine z_istore (lv' := [(4, .int (v73 ||| 8)), (3, .int (fLoad (rv mem j))), (2, .int (fPush (rv mem j) f)), (0, .ref (ad (3 * j))), (1, .int f)]) E dX2_whatGivesWay_109 (by decide) rfl ?_
            exact J111 _ (by rw [hv73]; exact (if_neg c101).symm)
      · skip
        refine z_iload_n E dX2_whatGivesWay_62 rfl 4 rfl ?_
        refine z_iload_n E dX2_whatGivesWay_63 rfl 1 rfl ?_
        refine z_icmp_le (tgt := 73) E dX2_whatGivesWay_64 (by decide) (fun c64 => ?_) (fun c64 => ?_)
        · skip
          exact J73 _ (by rw [hv62]; exact (if_pos c64).symm)
        · skip
          refine z_iload E dX2_whatGivesWay_67 0 rfl ?_
          refine z_iconst (v := 4) E dX2_whatGivesWay_69 (by decide) ?_
          refine z_ior E dX2_whatGivesWay_70 ?_
          refine z_istore (lv' := [(4, .int (v62 ||| 4)), (3, .int (fLoad (rv mem j))), (2, .int (fPush (rv mem j) f)), (0, .ref (ad (3 * j))), (1, .int f)]) E dX2_whatGivesWay_71 (by decide) rfl ?_
          exact J73 _ (by rw [hv62]; exact (if_neg c64).symm)
    · skip
      refine z_sipush (v := 1000) E dX2_whatGivesWay_22 (by decide) ?_
      refine z_aload_n E dX2_whatGivesWay_25 rfl 3 rfl ?_
      refine z_get E (3 * j) (cw_rig hj) (C := RX2) (T := TX2) (N := 10) rfl (fun _ h => List.mem_cons_of_mem _ (List.mem_append_right _ h)) 1 (by decide) (List.mem_of_getElem? (i := 1) (by decide +kernel)) rfl (v := .int (mem (3 * j) 1)) rfl dX2_whatGivesWay_26 ?_
      refine z_imul E dX2_whatGivesWay_29 ?_
      refine z_iload_n E dX2_whatGivesWay_30 rfl 4 rfl ?_
      refine z_mabs E (List.mem_of_getElem? (i := 2) (by decide +kernel)) (List.mem_of_getElem? (i := 3) (by decide +kernel)) (List.mem_of_getElem? (i := 4) (by decide +kernel)) (List.mem_of_getElem? (i := 5) (by decide +kernel)) (Nat.le_of_ble_eq_true rfl) (Nat.le_of_ble_eq_true rfl) (Nat.le_of_ble_eq_true rfl) (Nat.le_of_ble_eq_true rfl) dX2_whatGivesWay_31 ?_
      refine z_imul E dX2_whatGivesWay_34 ?_
      refine z_aload_n E dX2_whatGivesWay_35 rfl 3 rfl ?_
      refine z_callVi E hZ (k_wallPercents l D ad cI cR cS cL mem hj) gX2_whatGivesWay_X2_wallPercents (n := 0) rfl rfl rfl (by decide +kernel) rfl ⟨Nat.le_of_ble_eq_true rfl, Nat.le_of_ble_eq_true rfl⟩  (C := RX2) rfl (3 * j) (cw_rig hj) (As := []) (rest := [.int ((1000 * (mem (3 * j) 1)) * (if 0 ≤ f then f else 0 - f))]) rfl (Nat.le_of_ble_eq_true rfl) ⟨Nat.le_of_ble_eq_true rfl, Nat.le_of_ble_eq_true rfl⟩ dX2_whatGivesWay_36 (fun r u hp => ?_)
      rw [hp.1, hp.2]
      refine z_iload_n E dX2_whatGivesWay_39 rfl 2 rfl ?_
      refine z_imul E dX2_whatGivesWay_40 ?_
      refine z_icmp_gt (tgt := 56) E dX2_whatGivesWay_41 (by decide) (fun c41 => ?_) (fun c41 => ?_)
      · skip
        refine z_iload E dX2_whatGivesWay_56 0 rfl ?_
        refine z_iconst (v := 2) E dX2_whatGivesWay_58 (by decide) ?_
        refine z_ior E dX2_whatGivesWay_59 ?_
        refine z_istore (lv' := [(4, .int (v20 ||| 2)), (3, .int (fLoad (rv mem j))), (2, .int (fPush (rv mem j) f)), (0, .ref (ad (3 * j))), (1, .int f)]) E dX2_whatGivesWay_60 (by decide) rfl ?_
        exact J62 _ (by rw [hv20]; exact (if_pos (fWallBad_1 (R := rv mem j) c41)).symm)
      · skip
        refine z_aload_n E dX2_whatGivesWay_44 rfl 3 rfl ?_
        refine z_get E (3 * j) (cw_rig hj) (C := RX2) (T := TX2) (N := 10) rfl (fun _ h => List.mem_cons_of_mem _ (List.mem_append_right _ h)) 4 (by decide) (List.mem_of_getElem? (i := 6) (by decide +kernel)) rfl (v := .int (mem (3 * j) 4)) rfl dX2_whatGivesWay_45 ?_
        refine z_iconst (v := 3) E dX2_whatGivesWay_48 (by decide) ?_
        refine z_icmp_ne (tgt := 62) E dX2_whatGivesWay_49 (by decide) (fun c49 => ?_) (fun c49 => ?_)
        · skip
          exact J62 _ (by rw [hv20]; exact (if_neg (fWallBad_3 (R := rv mem j) c41 c49)).symm)
        · skip
          refine z_iload_n E dX2_whatGivesWay_52 rfl 4 rfl ?_
          refine z_if_ge (tgt := 62) E dX2_whatGivesWay_53 (by decide) (fun c53 => ?_) (fun c53 => ?_)
          · skip
            exact J62 _ (by rw [hv20]; exact (if_neg (fWallBad_4 (R := rv mem j) c41 c53)).symm)
          · skip
            refine z_iload E dX2_whatGivesWay_56 0 rfl ?_
            refine z_iconst (v := 2) E dX2_whatGivesWay_58 (by decide) ?_
            refine z_ior E dX2_whatGivesWay_59 ?_
            refine z_istore (lv' := [(4, .int (v20 ||| 2)), (3, .int (fLoad (rv mem j))), (2, .int (fPush (rv mem j) f)), (0, .ref (ad (3 * j))), (1, .int f)]) E dX2_whatGivesWay_60 (by decide) rfl ?_
            exact J62 _ (by rw [hv20]; exact (if_pos (fWallBad_2 (R := rv mem j) c49 c53)).symm)
  · skip
    refine z_if_ge (tgt := 19) E dX2_whatGivesWay_12 (by decide) (fun c12 => ?_) (fun c12 => ?_)
    · skip
      refine z_iconst (v := 0) E dX2_whatGivesWay_19 (by decide) ?_
      exact J20 _ ((if_pos c12).symm)
    · skip
      refine z_iconst (v := 1) E dX2_whatGivesWay_15 (by decide) ?_
      refine z_goto (tgt := 20) E dX2_whatGivesWay_16 (by decide) ?_
      exact J20 _ ((if_neg c12).symm)
set_option maxHeartbeats 4000000 in
set_option maxRecDepth 100000 in
theorem k_add (l : Launch) (D : va_G) (ad : Nat → Nat) (cI cR cS cL : ClassId) (mem : zM) {j : Nat} (hj : j < 29) (w : Int32) : zMv l yX2_add wsX2_add ({ frames := 0, cells := 0, slots := 0, locals := 0 }) D (cK cI cR cS cL) [.ref (ad (3 * j)), .int w] (cw ad cI cR cS mem) (fun u => u = sAdd mem j w) (cw ad cI cR cS) 0 0 := by
  refine zMvM.of (cc := cX2_add) (maxL := 2) (ret := none) (by decide +kernel) rfl (lv0 := [(0, .ref (ad (3 * j))), (1, .int w)]) (Nat.le_of_ble_eq_true rfl) rfl ?_
  intro p e s m args below meth c E hZ hr hlocks hnm
  refine z_aload_n E dX2_add_0 rfl 0 rfl ?_
  refine z_get E (3 * j) (cw_rig hj) (C := RX2) (T := TX2) (N := 10) rfl (fun _ h => List.mem_cons_of_mem _ (List.mem_append_right _ h)) 7 (by decide) (List.mem_of_getElem? (i := 1) (by decide +kernel)) rfl (v := .int (mem (3 * j) 7)) rfl dX2_add_1 ?_
  refine z_if_lt (tgt := 45) E dX2_add_4 (by decide) (fun c4 => ?_) (fun c4 => ?_)
  · skip
    exact z_vretM E hr hlocks (mem) rfl ((if_pos c4).symm) (Nat.le_of_ble_eq_true rfl) (Nat.le_of_ble_eq_true rfl) dX2_add_45
  · skip
    refine z_aload_n E dX2_add_7 rfl 0 rfl ?_
    refine z_get E (3 * j) (cw_rig hj) (C := RX2) (T := TX2) (N := 10) rfl (fun _ h => List.mem_cons_of_mem _ (List.mem_append_right _ h)) 7 (by decide) (List.mem_of_getElem? (i := 1) (by decide +kernel)) rfl (v := .int (mem (3 * j) 7)) rfl dX2_add_8 ?_
    refine z_iconst (v := 3) E dX2_add_11 (by decide) ?_
    refine z_icmp_ge (tgt := 45) E dX2_add_12 (by decide) (fun c12 => ?_) (fun c12 => ?_)
    · skip
      exact z_vretM E hr hlocks (mem) rfl (((if_neg c4).trans (if_pos c12)).symm) (Nat.le_of_ble_eq_true rfl) (Nat.le_of_ble_eq_true rfl) dX2_add_45
    · skip
      refine z_aload_n E dX2_add_15 rfl 0 rfl ?_
      refine z_get E (3 * j) (cw_rig hj) (C := RX2) (T := TX2) (N := 10) rfl (fun _ h => List.mem_cons_of_mem _ (List.mem_append_right _ h)) 8 (by decide) (List.mem_of_getElem? (i := 2) (by decide +kernel)) rfl (v := .ref (ad (3 * j + 1))) rfl dX2_add_16 ?_
      refine z_aload_n E dX2_add_19 rfl 0 rfl ?_
      refine z_get E (3 * j) (cw_rig hj) (C := RX2) (T := TX2) (N := 10) rfl (fun _ h => List.mem_cons_of_mem _ (List.mem_append_right _ h)) 7 (by decide) (List.mem_of_getElem? (i := 1) (by decide +kernel)) rfl (v := .int (mem (3 * j) 7)) rfl dX2_add_20 ?_
      refine z_iload_n E dX2_add_23 rfl 1 rfl ?_
      refine z_iast E (3 * j + 1) 0 (cw_wt hj) rfl (zvin3 c4 c12) (ws' := cw ad cI cR cS (mset mem (3 * j + 1) ((mem (3 * j) 7).toNatClampNeg) w)) (cs_wt hj ((mem (3 * j) 7).toNatClampNeg) w) dX2_add_24 ?_
      refine z_gm (fun m2 hm2 => ?_)
      have Fm2_0 : m2 (3 * j) = mem (3 * j) := by rw [hm2, mset_ne _ _ _ (by omega)]
      refine z_aload_n E dX2_add_25 rfl 0 rfl ?_
      refine z_get E (3 * j) (cw_rig hj) (C := RX2) (T := TX2) (N := 10) rfl (fun _ h => List.mem_cons_of_mem _ (List.mem_append_right _ h)) 9 (by decide) (List.mem_of_getElem? (i := 3) (by decide +kernel)) rfl (v := .ref (ad (3 * j + 2))) rfl dX2_add_26 ?_
      refine z_aload_n E dX2_add_29 rfl 0 rfl ?_
      refine z_get E (3 * j) (cw_rig hj) (C := RX2) (T := TX2) (N := 10) rfl (fun _ h => List.mem_cons_of_mem _ (List.mem_append_right _ h)) 7 (by decide) (List.mem_of_getElem? (i := 1) (by decide +kernel)) rfl (v := .int (mem (3 * j) 7)) (congrArg (fun z : Nat → Int32 => some (Value.int (z 7))) Fm2_0) dX2_add_30 ?_
      refine z_iconst (v := 0) E dX2_add_33 (by decide) ?_
      refine z_iast E (3 * j + 2) 0 (cw_st hj) rfl (zvin3 c4 c12) (ws' := cw ad cI cR cS (mset m2 (3 * j + 2) ((mem (3 * j) 7).toNatClampNeg) 0)) (cs_st hj ((mem (3 * j) 7).toNatClampNeg) 0) dX2_add_34 ?_
      refine z_gm (fun m3 hm3 => ?_)
      have Fm3_0 : m3 (3 * j) = mem (3 * j) := by rw [hm3, mset_ne _ _ _ (by omega)]; exact Fm2_0
      refine z_aload_n E dX2_add_35 rfl 0 rfl ?_
      refine z_dup E dX2_add_36 rfl ?_
      refine z_get E (3 * j) (cw_rig hj) (C := RX2) (T := TX2) (N := 10) rfl (fun _ h => List.mem_cons_of_mem _ (List.mem_append_right _ h)) 7 (by decide) (List.mem_of_getElem? (i := 1) (by decide +kernel)) rfl (v := .int (mem (3 * j) 7)) (congrArg (fun z : Nat → Int32 => some (Value.int (z 7))) Fm3_0) dX2_add_37 ?_
      refine z_iconst (v := 1) E dX2_add_40 (by decide) ?_
      refine z_iadd E dX2_add_41 ?_
      refine z_put E (3 * j) (cw_rig hj) (C := RX2) (T := TX2) (N := 10) rfl (fun _ h => List.mem_cons_of_mem _ (List.mem_append_right _ h)) tyX2 tyX2_ok nmX2 7 (by decide) (List.mem_of_getElem? (i := 1) (by decide +kernel)) rfl rfl rfl rfl (Nat.le_of_ble_eq_true rfl) (ws' := cw ad cI cR cS (mset m3 (3 * j) 7 ((mem (3 * j) 7) + 1))) (cs_rig hj 7 (by decide) rfl) dX2_add_42 ?_
      refine z_gm (fun m4 hm4 => ?_)
      exact z_vretM E hr hlocks (m4) rfl (by rw [hm4, hm3, hm2]; exact ((if_neg c4).trans (if_neg c12)).symm) (Nat.le_of_ble_eq_true rfl) (Nat.le_of_ble_eq_true rfl) dX2_add_45
/-- a person gone: those behind move up -/
def shiftR (f : Nat → Int32) (t : Nat) : Nat → Int32 := fun k => if k = 2 then 0 else if t ≤ k ∧ k < 2 then f (k + 1) else f k
def sRemove (mem : zM) (j : Nat) (q : Int32) : zM := if fBears (rv mem j) q = 0 then mem else fun i k => if i = 3 * j + 1 then shiftR (mem (3 * j + 1)) q.toNatClampNeg k else if i = 3 * j + 2 then shiftR (mem (3 * j + 2)) q.toNatClampNeg k else if i = 3 * j ∧ k = 7 then mem (3 * j) 7 - 1 else mem i k
def sRemoveAll (mem : zM) (j : Nat) : zM := fun i k => if (i = 3 * j + 1 ∨ i = 3 * j + 2) ∧ k < 3 then 0 else if i = 3 * j ∧ k = 7 then 0 else mem i k
def sCopy (mem : zM) (a b : Nat) : zM := fun i k => if i = 3 * a ∧ k < 8 then mem (3 * b) k else if i = 3 * a + 1 ∧ k < 3 then mem (3 * b + 1) k else if i = 3 * a + 2 ∧ k < 3 then mem (3 * b + 2) k else mem i k
theorem fBears_3 {R : Nat → Int32} {q : Int32} (h : ¬ fBears R q = 0) : q = 0 ∨ q = 1 ∨ q = 2 := by
  obtain ⟨k, hk, rfl⟩ := vp_in_of (fBears_in h) (by decide)
  rcases (show k = 0 ∨ k = 1 ∨ k = 2 by omega) with rfl | rfl | rfl
  · exact Or.inl rfl
  · exact Or.inr (Or.inl rfl)
  · exact Or.inr (Or.inr rfl)
theorem sRemove_0 {mem : zM} {j : Nat} (h : ¬ fBears (rv mem j) 0 = 0) : mset (mset (mset (mset (mset (mset (mset mem (3 * j + 1) 0 (mem (3 * j + 1) 1)) (3 * j + 2) 0 (mem (3 * j + 2) 1)) (3 * j + 1) 1 (mem (3 * j + 1) 2)) (3 * j + 2) 1 (mem (3 * j + 2) 2)) (3 * j + 1) 2 0) (3 * j + 2) 2 0) (3 * j) 7 (mem (3 * j) 7 - 1) = sRemove mem j 0 := by
  rw [sRemove, if_neg h]
  funext i k
  by_cases h1 : i = 3 * j + 1
  · subst h1
    rcases (show k = 0 ∨ k = 1 ∨ k = 2 ∨ 3 ≤ k by omega) with rfl | rfl | rfl | hk
    · simp [mset, shiftR]
    · simp [mset, shiftR]
    · simp [mset, shiftR]
    · simp [mset, shiftR, show k ≠ 0 by omega, show k ≠ 1 by omega, show k ≠ 2 by omega, show ¬ k < 2 by omega]
  · by_cases h2 : i = 3 * j + 2
    · subst h2
      rcases (show k = 0 ∨ k = 1 ∨ k = 2 ∨ 3 ≤ k by omega) with rfl | rfl | rfl | hk
      · simp [mset, shiftR]
      · simp [mset, shiftR]
      · simp [mset, shiftR]
      · simp [mset, shiftR, show k ≠ 0 by omega, show k ≠ 1 by omega, show k ≠ 2 by omega, show ¬ k < 2 by omega]
    · simp [mset, h1, h2]
theorem sRemove_1 {mem : zM} {j : Nat} (h : ¬ fBears (rv mem j) 1 = 0) : mset (mset (mset (mset (mset mem (3 * j + 1) 1 (mem (3 * j + 1) 2)) (3 * j + 2) 1 (mem (3 * j + 2) 2)) (3 * j + 1) 2 0) (3 * j + 2) 2 0) (3 * j) 7 (mem (3 * j) 7 - 1) = sRemove mem j 1 := by
  rw [sRemove, if_neg h]
  funext i k
  have e1 : (1 : Int32).toNatClampNeg = 1 := rfl
  by_cases h1 : i = 3 * j + 1
  · subst h1
    rcases (show k = 0 ∨ k = 1 ∨ k = 2 ∨ 3 ≤ k by omega) with rfl | rfl | rfl | hk
    · simp [mset, shiftR, e1]
    · simp [mset, shiftR, e1]
    · simp [mset, shiftR, e1]
    · simp [mset, shiftR, e1, show k ≠ 0 by omega, show k ≠ 1 by omega, show k ≠ 2 by omega, show ¬ k < 2 by omega]
  · by_cases h2 : i = 3 * j + 2
    · subst h2
      rcases (show k = 0 ∨ k = 1 ∨ k = 2 ∨ 3 ≤ k by omega) with rfl | rfl | rfl | hk
      · simp [mset, shiftR, e1]
      · simp [mset, shiftR, e1]
      · simp [mset, shiftR, e1]
      · simp [mset, shiftR, e1, show k ≠ 0 by omega, show k ≠ 1 by omega, show k ≠ 2 by omega, show ¬ k < 2 by omega]
    · simp [mset, h1, h2]
theorem sRemove_2 {mem : zM} {j : Nat} (h : ¬ fBears (rv mem j) 2 = 0) : mset (mset (mset mem (3 * j + 1) 2 0) (3 * j + 2) 2 0) (3 * j) 7 (mem (3 * j) 7 - 1) = sRemove mem j 2 := by
  rw [sRemove, if_neg h]
  funext i k
  have e1 : (2 : Int32).toNatClampNeg = 2 := rfl
  by_cases h1 : i = 3 * j + 1
  · subst h1
    by_cases hk : k = 2
    · simp [mset, shiftR, hk]
    · simp [mset, shiftR, e1, hk, show ¬ (2 ≤ k ∧ k < 2) by omega]
  · by_cases h2 : i = 3 * j + 2
    · subst h2
      by_cases hk : k = 2
      · simp [mset, shiftR, hk]
      · simp [mset, shiftR, e1, hk, show ¬ (2 ≤ k ∧ k < 2) by omega]
    · simp [mset, h1, h2]
theorem sRemoveAll_of {mem : zM} {j : Nat} : mset (mset (mset (mset (mset (mset (mset mem (3 * j + 1) 0 0) (3 * j + 2) 0 0) (3 * j + 1) 1 0) (3 * j + 2) 1 0) (3 * j + 1) 2 0) (3 * j + 2) 2 0) (3 * j) 7 0 = sRemoveAll mem j := by
  funext i k
  by_cases h1 : i = 3 * j + 1
  · subst h1
    rcases (show k = 0 ∨ k = 1 ∨ k = 2 ∨ 3 ≤ k by omega) with rfl | rfl | rfl | hk
    · simp [mset, sRemoveAll]
    · simp [mset, sRemoveAll]
    · simp [mset, sRemoveAll]
    · simp [mset, sRemoveAll, show k ≠ 0 by omega, show k ≠ 1 by omega, show k ≠ 2 by omega, show ¬ k < 3 by omega]
  · by_cases h2 : i = 3 * j + 2
    · subst h2
      rcases (show k = 0 ∨ k = 1 ∨ k = 2 ∨ 3 ≤ k by omega) with rfl | rfl | rfl | hk
      · simp [mset, sRemoveAll]
      · simp [mset, sRemoveAll]
      · simp [mset, sRemoveAll]
      · simp [mset, sRemoveAll, show k ≠ 0 by omega, show k ≠ 1 by omega, show k ≠ 2 by omega, show ¬ k < 3 by omega]
    · simp [mset, sRemoveAll, h1, h2]
theorem sCopy_of {mem : zM} {a b : Nat} (hne : a ≠ b) : mset (mset (mset (mset (mset (mset (mset (mset (mset (mset (mset (mset (mset (mset mem (3 * a) 0 (mem (3 * b) 0)) (3 * a) 1 (mem (3 * b) 1)) (3 * a) 2 (mem (3 * b) 2)) (3 * a) 3 (mem (3 * b) 3)) (3 * a) 4 (mem (3 * b) 4)) (3 * a) 5 (mem (3 * b) 5)) (3 * a) 6 (mem (3 * b) 6)) (3 * a) 7 (mem (3 * b) 7)) (3 * a + 1) 0 (mem (3 * b + 1) 0)) (3 * a + 2) 0 (mem (3 * b + 2) 0)) (3 * a + 1) 1 (mem (3 * b + 1) 1)) (3 * a + 2) 1 (mem (3 * b + 2) 1)) (3 * a + 1) 2 (mem (3 * b + 1) 2)) (3 * a + 2) 2 (mem (3 * b + 2) 2) = sCopy mem a b := by
  funext i k
  by_cases h0 : i = 3 * a
  · subst h0
    rcases (show k = 0 ∨ k = 1 ∨ k = 2 ∨ k = 3 ∨ k = 4 ∨ k = 5 ∨ k = 6 ∨ k = 7 ∨ 8 ≤ k by omega) with rfl | rfl | rfl | rfl | rfl | rfl | rfl | rfl | hk
    · simp [mset, sCopy]
    · simp [mset, sCopy]
    · simp [mset, sCopy]
    · simp [mset, sCopy]
    · simp [mset, sCopy]
    · simp [mset, sCopy]
    · simp [mset, sCopy]
    · simp [mset, sCopy]
    · simp [mset, sCopy, show k ≠ 0 by omega, show k ≠ 1 by omega, show k ≠ 2 by omega, show k ≠ 3 by omega, show k ≠ 4 by omega, show k ≠ 5 by omega, show k ≠ 6 by omega, show k ≠ 7 by omega, show ¬ k < 8 by omega]
  · by_cases h1 : i = 3 * a + 1
    · subst h1
      rcases (show k = 0 ∨ k = 1 ∨ k = 2 ∨ 3 ≤ k by omega) with rfl | rfl | rfl | hk
      · simp [mset, sCopy]
      · simp [mset, sCopy]
      · simp [mset, sCopy]
      · simp [mset, sCopy, show k ≠ 0 by omega, show k ≠ 1 by omega, show k ≠ 2 by omega, show ¬ k < 3 by omega]
    · by_cases h2 : i = 3 * a + 2
      · subst h2
        rcases (show k = 0 ∨ k = 1 ∨ k = 2 ∨ 3 ≤ k by omega) with rfl | rfl | rfl | hk
        · simp [mset, sCopy]
        · simp [mset, sCopy]
        · simp [mset, sCopy]
        · simp [mset, sCopy, show k ≠ 0 by omega, show k ≠ 1 by omega, show k ≠ 2 by omega, show ¬ k < 3 by omega]
      · simp [mset, sCopy, h0, h1, h2]
set_option maxHeartbeats 4000000 in
set_option maxRecDepth 100000 in
theorem k_remove (l : Launch) (D : va_G) (ad : Nat → Nat) (cI cR cS cL : ClassId) (mem : zM) {j : Nat} (hj : j < 29) (q : Int32) : zMv l yX2_remove wsX2_remove ({ frames := 1, cells := 0, slots := 0, locals := 21 }) D (cK cI cR cS cL) [.ref (ad (3 * j)), .int q] (cw ad cI cR cS mem) (fun u => u = sRemove mem j q) (cw ad cI cR cS) 0 0 := by
  refine zMvM.of (cc := cX2_remove) (maxL := 3) (ret := none) (by decide +kernel) rfl (lv0 := [(0, .ref (ad (3 * j))), (1, .int q)]) (Nat.le_of_ble_eq_true rfl) rfl ?_
  intro p e s m args below meth c E hZ hr hlocks hnm
  refine z_aload_n E dX2_remove_0 rfl 0 rfl ?_
  refine z_iload_n E dX2_remove_1 rfl 1 rfl ?_
  refine z_callVi E hZ (k_bears l D ad cI cR cS cL mem hj q) gX2_remove_X2_bears (n := 1) rfl rfl rfl (by decide +kernel) rfl ⟨Nat.le_of_ble_eq_true rfl, Nat.le_of_ble_eq_true rfl⟩  (C := RX2) rfl (3 * j) (cw_rig hj) (As := [.int q]) (rest := []) rfl (Nat.le_of_ble_eq_true rfl) ⟨Nat.le_of_ble_eq_true rfl, Nat.le_of_ble_eq_true rfl⟩ dX2_remove_2 (fun r u hp => ?_)
  rw [hp.1, hp.2]
  refine z_if_ne (tgt := 9) E dX2_remove_5 (by decide) (fun c5 => ?_) (fun c5 => ?_)
  · skip
    rcases fBears_3 c5 with hq | hq | hq
    · subst hq
      refine z_iload_n E dX2_remove_9 rfl 1 rfl ?_
      refine z_istore_n (lv' := [(2, .int 0), (0, .ref (ad (3 * j))), (1, .int 0)]) E dX2_remove_10 rfl (by decide) rfl ?_
      refine z_iload_n E dX2_remove_11 rfl 0 rfl ?_
      refine z_iconst (v := 2) E dX2_remove_12 (by decide) ?_
      refine z_icmp_ge_f (tgt := 50) E dX2_remove_13 (by decide) (by decide) ?_
      refine z_aload_n E dX2_remove_16 rfl 1 rfl ?_
      refine z_get E (3 * j) (cw_rig hj) (C := RX2) (T := TX2) (N := 10) rfl (fun _ h => List.mem_cons_of_mem _ (List.mem_append_right _ h)) 8 (by decide) (List.mem_of_getElem? (i := 1) (by decide +kernel)) rfl (v := .ref (ad (3 * j + 1))) rfl dX2_remove_17 ?_
      refine z_iload_n E dX2_remove_20 rfl 0 rfl ?_
      refine z_aload_n E dX2_remove_21 rfl 1 rfl ?_
      refine z_get E (3 * j) (cw_rig hj) (C := RX2) (T := TX2) (N := 10) rfl (fun _ h => List.mem_cons_of_mem _ (List.mem_append_right _ h)) 8 (by decide) (List.mem_of_getElem? (i := 1) (by decide +kernel)) rfl (v := .ref (ad (3 * j + 1))) rfl dX2_remove_22 ?_
      refine z_iload_n E dX2_remove_25 rfl 0 rfl ?_
      refine z_iconst (v := 1) E dX2_remove_26 (by decide) ?_
      refine z_iaddV (v := 1) E dX2_remove_27 (by decide) ?_
      refine z_iald E (3 * j + 1) 0 (cw_wt hj) rfl (zvin rfl) (v := mem (3 * j + 1) 1) rfl dX2_remove_28 ?_
      refine z_iast E (3 * j + 1) 0 (cw_wt hj) rfl (zvin rfl) (ws' := cw ad cI cR cS (mset mem (3 * j + 1) 0 (mem (3 * j + 1) 1))) (cs_wt hj 0 (mem (3 * j + 1) 1)) dX2_remove_29 ?_
      refine z_gm (fun m5 hm5 => ?_)
      refine z_aload_n E dX2_remove_30 rfl 1 rfl ?_
      refine z_get E (3 * j) (cw_rig hj) (C := RX2) (T := TX2) (N := 10) rfl (fun _ h => List.mem_cons_of_mem _ (List.mem_append_right _ h)) 9 (by decide) (List.mem_of_getElem? (i := 2) (by decide +kernel)) rfl (v := .ref (ad (3 * j + 2))) rfl dX2_remove_31 ?_
      refine z_iload_n E dX2_remove_34 rfl 0 rfl ?_
      refine z_aload_n E dX2_remove_35 rfl 1 rfl ?_
      refine z_get E (3 * j) (cw_rig hj) (C := RX2) (T := TX2) (N := 10) rfl (fun _ h => List.mem_cons_of_mem _ (List.mem_append_right _ h)) 9 (by decide) (List.mem_of_getElem? (i := 2) (by decide +kernel)) rfl (v := .ref (ad (3 * j + 2))) rfl dX2_remove_36 ?_
      refine z_iload_n E dX2_remove_39 rfl 0 rfl ?_
      refine z_iconst (v := 1) E dX2_remove_40 (by decide) ?_
      refine z_iaddV (v := 1) E dX2_remove_41 (by decide) ?_
      refine z_iald E (3 * j + 2) 0 (cw_st hj) rfl (zvin rfl) (v := mem (3 * j + 2) 1) (show m5 (3 * j + 2) 1 = mem (3 * j + 2) 1 from (by simp [hm5, mset])) dX2_remove_42 ?_
      refine z_iast E (3 * j + 2) 0 (cw_st hj) rfl (zvin rfl) (ws' := cw ad cI cR cS (mset m5 (3 * j + 2) 0 (mem (3 * j + 2) 1))) (cs_st hj 0 (mem (3 * j + 2) 1)) dX2_remove_43 ?_
      refine z_gm (fun m6 hm6 => ?_)
      refine z_iinc (v := 1) (lv' := [(2, .int 1), (0, .ref (ad (3 * j))), (1, .int 0)]) E dX2_remove_44 (q := 0) rfl (by decide) (by decide) rfl ?_
      refine z_goto (tgt := 11) E dX2_remove_47 (by decide) ?_
      refine z_iload_n E dX2_remove_11 rfl 0 rfl ?_
      refine z_iconst (v := 2) E dX2_remove_12 (by decide) ?_
      refine z_icmp_ge_f (tgt := 50) E dX2_remove_13 (by decide) (by decide) ?_
      refine z_aload_n E dX2_remove_16 rfl 1 rfl ?_
      refine z_get E (3 * j) (cw_rig hj) (C := RX2) (T := TX2) (N := 10) rfl (fun _ h => List.mem_cons_of_mem _ (List.mem_append_right _ h)) 8 (by decide) (List.mem_of_getElem? (i := 1) (by decide +kernel)) rfl (v := .ref (ad (3 * j + 1))) rfl dX2_remove_17 ?_
      refine z_iload_n E dX2_remove_20 rfl 0 rfl ?_
      refine z_aload_n E dX2_remove_21 rfl 1 rfl ?_
      refine z_get E (3 * j) (cw_rig hj) (C := RX2) (T := TX2) (N := 10) rfl (fun _ h => List.mem_cons_of_mem _ (List.mem_append_right _ h)) 8 (by decide) (List.mem_of_getElem? (i := 1) (by decide +kernel)) rfl (v := .ref (ad (3 * j + 1))) rfl dX2_remove_22 ?_
      refine z_iload_n E dX2_remove_25 rfl 0 rfl ?_
      refine z_iconst (v := 1) E dX2_remove_26 (by decide) ?_
      refine z_iaddV (v := 2) E dX2_remove_27 (by decide) ?_
      refine z_iald E (3 * j + 1) 0 (cw_wt hj) rfl (zvin rfl) (v := mem (3 * j + 1) 2) (show m6 (3 * j + 1) 2 = mem (3 * j + 1) 2 from (by simp [hm6, hm5, mset])) dX2_remove_28 ?_
      refine z_iast E (3 * j + 1) 0 (cw_wt hj) rfl (zvin rfl) (ws' := cw ad cI cR cS (mset m6 (3 * j + 1) 1 (mem (3 * j + 1) 2))) (cs_wt hj 1 (mem (3 * j + 1) 2)) dX2_remove_29 ?_
      refine z_gm (fun m7 hm7 => ?_)
      refine z_aload_n E dX2_remove_30 rfl 1 rfl ?_
      refine z_get E (3 * j) (cw_rig hj) (C := RX2) (T := TX2) (N := 10) rfl (fun _ h => List.mem_cons_of_mem _ (List.mem_append_right _ h)) 9 (by decide) (List.mem_of_getElem? (i := 2) (by decide +kernel)) rfl (v := .ref (ad (3 * j + 2))) rfl dX2_remove_31 ?_
      refine z_iload_n E dX2_remove_34 rfl 0 rfl ?_
      refine z_aload_n E dX2_remove_35 rfl 1 rfl ?_
      refine z_get E (3 * j) (cw_rig hj) (C := RX2) (T := TX2) (N := 10) rfl (fun _ h => List.mem_cons_of_mem _ (List.mem_append_right _ h)) 9 (by decide) (List.mem_of_getElem? (i := 2) (by decide +kernel)) rfl (v := .ref (ad (3 * j + 2))) rfl dX2_remove_36 ?_
      refine z_iload_n E dX2_remove_39 rfl 0 rfl ?_
      refine z_iconst (v := 1) E dX2_remove_40 (by decide) ?_
      refine z_iaddV (v := 2) E dX2_remove_41 (by decide) ?_
      refine z_iald E (3 * j + 2) 0 (cw_st hj) rfl (zvin rfl) (v := mem (3 * j + 2) 2) (show m7 (3 * j + 2) 2 = mem (3 * j + 2) 2 from (by simp [hm7, hm6, hm5, mset])) dX2_remove_42 ?_
      refine z_iast E (3 * j + 2) 0 (cw_st hj) rfl (zvin rfl) (ws' := cw ad cI cR cS (mset m7 (3 * j + 2) 1 (mem (3 * j + 2) 2))) (cs_st hj 1 (mem (3 * j + 2) 2)) dX2_remove_43 ?_
      refine z_gm (fun m8 hm8 => ?_)
      refine z_iinc (v := 2) (lv' := [(2, .int 2), (0, .ref (ad (3 * j))), (1, .int 0)]) E dX2_remove_44 (q := 0) rfl (by decide) (by decide) rfl ?_
      refine z_goto (tgt := 11) E dX2_remove_47 (by decide) ?_
      refine z_iload_n E dX2_remove_11 rfl 0 rfl ?_
      refine z_iconst (v := 2) E dX2_remove_12 (by decide) ?_
      refine z_icmp_ge_t (tgt := 50) E dX2_remove_13 (by decide) (by decide) ?_
      refine z_aload_n E dX2_remove_50 rfl 1 rfl ?_
      refine z_get E (3 * j) (cw_rig hj) (C := RX2) (T := TX2) (N := 10) rfl (fun _ h => List.mem_cons_of_mem _ (List.mem_append_right _ h)) 8 (by decide) (List.mem_of_getElem? (i := 1) (by decide +kernel)) rfl (v := .ref (ad (3 * j + 1))) rfl dX2_remove_51 ?_
      refine z_iconst (v := 2) E dX2_remove_54 (by decide) ?_
      refine z_iconst (v := 0) E dX2_remove_55 (by decide) ?_
      refine z_iast E (3 * j + 1) 0 (cw_wt hj) rfl (zvin rfl) (ws' := cw ad cI cR cS (mset m8 (3 * j + 1) 2 0)) (cs_wt hj 2 0) dX2_remove_56 ?_
      refine z_gm (fun m9 hm9 => ?_)
      refine z_aload_n E dX2_remove_57 rfl 1 rfl ?_
      refine z_get E (3 * j) (cw_rig hj) (C := RX2) (T := TX2) (N := 10) rfl (fun _ h => List.mem_cons_of_mem _ (List.mem_append_right _ h)) 9 (by decide) (List.mem_of_getElem? (i := 2) (by decide +kernel)) rfl (v := .ref (ad (3 * j + 2))) rfl dX2_remove_58 ?_
      refine z_iconst (v := 2) E dX2_remove_61 (by decide) ?_
      refine z_iconst (v := 0) E dX2_remove_62 (by decide) ?_
      refine z_iast E (3 * j + 2) 0 (cw_st hj) rfl (zvin rfl) (ws' := cw ad cI cR cS (mset m9 (3 * j + 2) 2 0)) (cs_st hj 2 0) dX2_remove_63 ?_
      refine z_gm (fun m10 hm10 => ?_)
      refine z_aload_n E dX2_remove_64 rfl 1 rfl ?_
      refine z_dup E dX2_remove_65 rfl ?_
      refine z_get E (3 * j) (cw_rig hj) (C := RX2) (T := TX2) (N := 10) rfl (fun _ h => List.mem_cons_of_mem _ (List.mem_append_right _ h)) 7 (by decide) (List.mem_of_getElem? (i := 3) (by decide +kernel)) rfl (v := .int (mem (3 * j) 7)) (congrArg (fun z : Int32 => some (Value.int z)) (show m10 (3 * j) 7 = mem (3 * j) 7 from (by simp [hm10, hm9, hm8, hm7, hm6, hm5, mset]))) dX2_remove_66 ?_
      refine z_iconst (v := 1) E dX2_remove_69 (by decide) ?_
      refine z_isub E dX2_remove_70 ?_
      refine z_put E (3 * j) (cw_rig hj) (C := RX2) (T := TX2) (N := 10) rfl (fun _ h => List.mem_cons_of_mem _ (List.mem_append_right _ h)) tyX2 tyX2_ok nmX2 7 (by decide) (List.mem_of_getElem? (i := 3) (by decide +kernel)) rfl rfl rfl rfl (Nat.le_of_ble_eq_true rfl) (ws' := cw ad cI cR cS (mset m10 (3 * j) 7 ((mem (3 * j) 7) - 1))) (cs_rig hj 7 (by decide) rfl) dX2_remove_71 ?_
      refine z_gm (fun m11 hm11 => ?_)
      exact z_vretM E hr hlocks (m11) rfl (by rw [hm11, hm10, hm9, hm8, hm7, hm6, hm5]; exact sRemove_0 c5) (Nat.le_of_ble_eq_true rfl) (Nat.le_of_ble_eq_true rfl) dX2_remove_74
    · subst hq
      refine z_iload_n E dX2_remove_9 rfl 1 rfl ?_
      refine z_istore_n (lv' := [(2, .int 1), (0, .ref (ad (3 * j))), (1, .int 1)]) E dX2_remove_10 rfl (by decide) rfl ?_
      refine z_iload_n E dX2_remove_11 rfl 0 rfl ?_
      refine z_iconst (v := 2) E dX2_remove_12 (by decide) ?_
      refine z_icmp_ge_f (tgt := 50) E dX2_remove_13 (by decide) (by decide) ?_
      refine z_aload_n E dX2_remove_16 rfl 1 rfl ?_
      refine z_get E (3 * j) (cw_rig hj) (C := RX2) (T := TX2) (N := 10) rfl (fun _ h => List.mem_cons_of_mem _ (List.mem_append_right _ h)) 8 (by decide) (List.mem_of_getElem? (i := 1) (by decide +kernel)) rfl (v := .ref (ad (3 * j + 1))) rfl dX2_remove_17 ?_
      refine z_iload_n E dX2_remove_20 rfl 0 rfl ?_
      refine z_aload_n E dX2_remove_21 rfl 1 rfl ?_
      refine z_get E (3 * j) (cw_rig hj) (C := RX2) (T := TX2) (N := 10) rfl (fun _ h => List.mem_cons_of_mem _ (List.mem_append_right _ h)) 8 (by decide) (List.mem_of_getElem? (i := 1) (by decide +kernel)) rfl (v := .ref (ad (3 * j + 1))) rfl dX2_remove_22 ?_
      refine z_iload_n E dX2_remove_25 rfl 0 rfl ?_
      refine z_iconst (v := 1) E dX2_remove_26 (by decide) ?_
      refine z_iaddV (v := 2) E dX2_remove_27 (by decide) ?_
      refine z_iald E (3 * j + 1) 0 (cw_wt hj) rfl (zvin rfl) (v := mem (3 * j + 1) 2) rfl dX2_remove_28 ?_
      refine z_iast E (3 * j + 1) 0 (cw_wt hj) rfl (zvin rfl) (ws' := cw ad cI cR cS (mset mem (3 * j + 1) 1 (mem (3 * j + 1) 2))) (cs_wt hj 1 (mem (3 * j + 1) 2)) dX2_remove_29 ?_
      refine z_gm (fun m12 hm12 => ?_)
      refine z_aload_n E dX2_remove_30 rfl 1 rfl ?_
      refine z_get E (3 * j) (cw_rig hj) (C := RX2) (T := TX2) (N := 10) rfl (fun _ h => List.mem_cons_of_mem _ (List.mem_append_right _ h)) 9 (by decide) (List.mem_of_getElem? (i := 2) (by decide +kernel)) rfl (v := .ref (ad (3 * j + 2))) rfl dX2_remove_31 ?_
      refine z_iload_n E dX2_remove_34 rfl 0 rfl ?_
      refine z_aload_n E dX2_remove_35 rfl 1 rfl ?_
      refine z_get E (3 * j) (cw_rig hj) (C := RX2) (T := TX2) (N := 10) rfl (fun _ h => List.mem_cons_of_mem _ (List.mem_append_right _ h)) 9 (by decide) (List.mem_of_getElem? (i := 2) (by decide +kernel)) rfl (v := .ref (ad (3 * j + 2))) rfl dX2_remove_36 ?_
      refine z_iload_n E dX2_remove_39 rfl 0 rfl ?_
      refine z_iconst (v := 1) E dX2_remove_40 (by decide) ?_
      refine z_iaddV (v := 2) E dX2_remove_41 (by decide) ?_
      refine z_iald E (3 * j + 2) 0 (cw_st hj) rfl (zvin rfl) (v := mem (3 * j + 2) 2) (show m12 (3 * j + 2) 2 = mem (3 * j + 2) 2 from (by simp [hm12, mset])) dX2_remove_42 ?_
      refine z_iast E (3 * j + 2) 0 (cw_st hj) rfl (zvin rfl) (ws' := cw ad cI cR cS (mset m12 (3 * j + 2) 1 (mem (3 * j + 2) 2))) (cs_st hj 1 (mem (3 * j + 2) 2)) dX2_remove_43 ?_
      refine z_gm (fun m13 hm13 => ?_)
      refine z_iinc (v := 2) (lv' := [(2, .int 2), (0, .ref (ad (3 * j))), (1, .int 1)]) E dX2_remove_44 (q := 0) rfl (by decide) (by decide) rfl ?_
      refine z_goto (tgt := 11) E dX2_remove_47 (by decide) ?_
      refine z_iload_n E dX2_remove_11 rfl 0 rfl ?_
      refine z_iconst (v := 2) E dX2_remove_12 (by decide) ?_
      refine z_icmp_ge_t (tgt := 50) E dX2_remove_13 (by decide) (by decide) ?_
      refine z_aload_n E dX2_remove_50 rfl 1 rfl ?_
      refine z_get E (3 * j) (cw_rig hj) (C := RX2) (T := TX2) (N := 10) rfl (fun _ h => List.mem_cons_of_mem _ (List.mem_append_right _ h)) 8 (by decide) (List.mem_of_getElem? (i := 1) (by decide +kernel)) rfl (v := .ref (ad (3 * j + 1))) rfl dX2_remove_51 ?_
      refine z_iconst (v := 2) E dX2_remove_54 (by decide) ?_
      refine z_iconst (v := 0) E dX2_remove_55 (by decide) ?_
      refine z_iast E (3 * j + 1) 0 (cw_wt hj) rfl (zvin rfl) (ws' := cw ad cI cR cS (mset m13 (3 * j + 1) 2 0)) (cs_wt hj 2 0) dX2_remove_56 ?_
      refine z_gm (fun m14 hm14 => ?_)
      refine z_aload_n E dX2_remove_57 rfl 1 rfl ?_
      refine z_get E (3 * j) (cw_rig hj) (C := RX2) (T := TX2) (N := 10) rfl (fun _ h => List.mem_cons_of_mem _ (List.mem_append_right _ h)) 9 (by decide) (List.mem_of_getElem? (i := 2) (by decide +kernel)) rfl (v := .ref (ad (3 * j + 2))) rfl dX2_remove_58 ?_
      refine z_iconst (v := 2) E dX2_remove_61 (by decide) ?_
      refine z_iconst (v := 0) E dX2_remove_62 (by decide) ?_
      refine z_iast E (3 * j + 2) 0 (cw_st hj) rfl (zvin rfl) (ws' := cw ad cI cR cS (mset m14 (3 * j + 2) 2 0)) (cs_st hj 2 0) dX2_remove_63 ?_
      refine z_gm (fun m15 hm15 => ?_)
      refine z_aload_n E dX2_remove_64 rfl 1 rfl ?_
      refine z_dup E dX2_remove_65 rfl ?_
      refine z_get E (3 * j) (cw_rig hj) (C := RX2) (T := TX2) (N := 10) rfl (fun _ h => List.mem_cons_of_mem _ (List.mem_append_right _ h)) 7 (by decide) (List.mem_of_getElem? (i := 3) (by decide +kernel)) rfl (v := .int (mem (3 * j) 7)) (congrArg (fun z : Int32 => some (Value.int z)) (show m15 (3 * j) 7 = mem (3 * j) 7 from (by simp [hm15, hm14, hm13, hm12, mset]))) dX2_remove_66 ?_
      refine z_iconst (v := 1) E dX2_remove_69 (by decide) ?_
      refine z_isub E dX2_remove_70 ?_
      refine z_put E (3 * j) (cw_rig hj) (C := RX2) (T := TX2) (N := 10) rfl (fun _ h => List.mem_cons_of_mem _ (List.mem_append_right _ h)) tyX2 tyX2_ok nmX2 7 (by decide) (List.mem_of_getElem? (i := 3) (by decide +kernel)) rfl rfl rfl rfl (Nat.le_of_ble_eq_true rfl) (ws' := cw ad cI cR cS (mset m15 (3 * j) 7 ((mem (3 * j) 7) - 1))) (cs_rig hj 7 (by decide) rfl) dX2_remove_71 ?_
      refine z_gm (fun m16 hm16 => ?_)
      exact z_vretM E hr hlocks (m16) rfl (by rw [hm16, hm15, hm14, hm13, hm12]; exact sRemove_1 c5) (Nat.le_of_ble_eq_true rfl) (Nat.le_of_ble_eq_true rfl) dX2_remove_74
    · subst hq
      refine z_iload_n E dX2_remove_9 rfl 1 rfl ?_
      refine z_istore_n (lv' := [(2, .int 2), (0, .ref (ad (3 * j))), (1, .int 2)]) E dX2_remove_10 rfl (by decide) rfl ?_
      refine z_iload_n E dX2_remove_11 rfl 0 rfl ?_
      refine z_iconst (v := 2) E dX2_remove_12 (by decide) ?_
      refine z_icmp_ge_t (tgt := 50) E dX2_remove_13 (by decide) (by decide) ?_
      refine z_aload_n E dX2_remove_50 rfl 1 rfl ?_
      refine z_get E (3 * j) (cw_rig hj) (C := RX2) (T := TX2) (N := 10) rfl (fun _ h => List.mem_cons_of_mem _ (List.mem_append_right _ h)) 8 (by decide) (List.mem_of_getElem? (i := 1) (by decide +kernel)) rfl (v := .ref (ad (3 * j + 1))) rfl dX2_remove_51 ?_
      refine z_iconst (v := 2) E dX2_remove_54 (by decide) ?_
      refine z_iconst (v := 0) E dX2_remove_55 (by decide) ?_
      refine z_iast E (3 * j + 1) 0 (cw_wt hj) rfl (zvin rfl) (ws' := cw ad cI cR cS (mset mem (3 * j + 1) 2 0)) (cs_wt hj 2 0) dX2_remove_56 ?_
      refine z_gm (fun m17 hm17 => ?_)
      refine z_aload_n E dX2_remove_57 rfl 1 rfl ?_
      refine z_get E (3 * j) (cw_rig hj) (C := RX2) (T := TX2) (N := 10) rfl (fun _ h => List.mem_cons_of_mem _ (List.mem_append_right _ h)) 9 (by decide) (List.mem_of_getElem? (i := 2) (by decide +kernel)) rfl (v := .ref (ad (3 * j + 2))) rfl dX2_remove_58 ?_
      refine z_iconst (v := 2) E dX2_remove_61 (by decide) ?_
      refine z_iconst (v := 0) E dX2_remove_62 (by decide) ?_
      refine z_iast E (3 * j + 2) 0 (cw_st hj) rfl (zvin rfl) (ws' := cw ad cI cR cS (mset m17 (3 * j + 2) 2 0)) (cs_st hj 2 0) dX2_remove_63 ?_
      refine z_gm (fun m18 hm18 => ?_)
      refine z_aload_n E dX2_remove_64 rfl 1 rfl ?_
      refine z_dup E dX2_remove_65 rfl ?_
      refine z_get E (3 * j) (cw_rig hj) (C := RX2) (T := TX2) (N := 10) rfl (fun _ h => List.mem_cons_of_mem _ (List.mem_append_right _ h)) 7 (by decide) (List.mem_of_getElem? (i := 3) (by decide +kernel)) rfl (v := .int (mem (3 * j) 7)) (congrArg (fun z : Int32 => some (Value.int z)) (show m18 (3 * j) 7 = mem (3 * j) 7 from (by simp [hm18, hm17, mset]))) dX2_remove_66 ?_
      refine z_iconst (v := 1) E dX2_remove_69 (by decide) ?_
      refine z_isub E dX2_remove_70 ?_
      refine z_put E (3 * j) (cw_rig hj) (C := RX2) (T := TX2) (N := 10) rfl (fun _ h => List.mem_cons_of_mem _ (List.mem_append_right _ h)) tyX2 tyX2_ok nmX2 7 (by decide) (List.mem_of_getElem? (i := 3) (by decide +kernel)) rfl rfl rfl rfl (Nat.le_of_ble_eq_true rfl) (ws' := cw ad cI cR cS (mset m18 (3 * j) 7 ((mem (3 * j) 7) - 1))) (cs_rig hj 7 (by decide) rfl) dX2_remove_71 ?_
      refine z_gm (fun m19 hm19 => ?_)
      exact z_vretM E hr hlocks (m19) rfl (by rw [hm19, hm18, hm17]; exact sRemove_2 c5) (Nat.le_of_ble_eq_true rfl) (Nat.le_of_ble_eq_true rfl) dX2_remove_74
  · skip
    exact z_vretM E hr hlocks (mem) rfl (if_pos c5).symm (Nat.le_of_ble_eq_true rfl) (Nat.le_of_ble_eq_true rfl) dX2_remove_8
set_option maxHeartbeats 4000000 in
set_option maxRecDepth 100000 in
theorem k_removeAll (l : Launch) (D : va_G) (ad : Nat → Nat) (cI cR cS cL : ClassId) (mem : zM) {j : Nat} (hj : j < 29) : zMv l yX2_removeAll wsX2_removeAll ({ frames := 0, cells := 0, slots := 0, locals := 0 }) D (cK cI cR cS cL) [.ref (ad (3 * j))] (cw ad cI cR cS mem) (fun u => u = sRemoveAll mem j) (cw ad cI cR cS) 0 0 := by
  refine zMvM.of (cc := cX2_removeAll) (maxL := 2) (ret := none) (by decide +kernel) rfl (lv0 := [(0, .ref (ad (3 * j)))]) (Nat.le_of_ble_eq_true rfl) rfl ?_
  intro p e s m args below meth c E hZ hr hlocks hnm
  refine z_iconst (v := 0) E dX2_removeAll_0 (by decide) ?_
  refine z_istore_n (lv' := [(1, .int 0), (0, .ref (ad (3 * j)))]) E dX2_removeAll_1 rfl (by decide) rfl ?_
  refine z_iload_n E dX2_removeAll_2 rfl 0 rfl ?_
  refine z_iconst (v := 3) E dX2_removeAll_3 (by decide) ?_
  refine z_icmp_ge_f (tgt := 27) E dX2_removeAll_4 (by decide) (by decide) ?_
  refine z_aload_n E dX2_removeAll_7 rfl 1 rfl ?_
  refine z_get E (3 * j) (cw_rig hj) (C := RX2) (T := TX2) (N := 10) rfl (fun _ h => List.mem_cons_of_mem _ (List.mem_append_right _ h)) 8 (by decide) (List.mem_of_getElem? (i := 1) (by decide +kernel)) rfl (v := .ref (ad (3 * j + 1))) rfl dX2_removeAll_8 ?_
  refine z_iload_n E dX2_removeAll_11 rfl 0 rfl ?_
  refine z_iconst (v := 0) E dX2_removeAll_12 (by decide) ?_
  refine z_iast E (3 * j + 1) 0 (cw_wt hj) rfl (zvin rfl) (ws' := cw ad cI cR cS (mset mem (3 * j + 1) 0 0)) (cs_wt hj 0 0) dX2_removeAll_13 ?_
  refine z_gm (fun m20 hm20 => ?_)
  refine z_aload_n E dX2_removeAll_14 rfl 1 rfl ?_
  refine z_get E (3 * j) (cw_rig hj) (C := RX2) (T := TX2) (N := 10) rfl (fun _ h => List.mem_cons_of_mem _ (List.mem_append_right _ h)) 9 (by decide) (List.mem_of_getElem? (i := 2) (by decide +kernel)) rfl (v := .ref (ad (3 * j + 2))) rfl dX2_removeAll_15 ?_
  refine z_iload_n E dX2_removeAll_18 rfl 0 rfl ?_
  refine z_iconst (v := 0) E dX2_removeAll_19 (by decide) ?_
  refine z_iast E (3 * j + 2) 0 (cw_st hj) rfl (zvin rfl) (ws' := cw ad cI cR cS (mset m20 (3 * j + 2) 0 0)) (cs_st hj 0 0) dX2_removeAll_20 ?_
  refine z_gm (fun m21 hm21 => ?_)
  refine z_iinc (v := 1) (lv' := [(1, .int 1), (0, .ref (ad (3 * j)))]) E dX2_removeAll_21 (q := 0) rfl (by decide) (by decide) rfl ?_
  refine z_goto (tgt := 2) E dX2_removeAll_24 (by decide) ?_
  refine z_iload_n E dX2_removeAll_2 rfl 0 rfl ?_
  refine z_iconst (v := 3) E dX2_removeAll_3 (by decide) ?_
  refine z_icmp_ge_f (tgt := 27) E dX2_removeAll_4 (by decide) (by decide) ?_
  refine z_aload_n E dX2_removeAll_7 rfl 1 rfl ?_
  refine z_get E (3 * j) (cw_rig hj) (C := RX2) (T := TX2) (N := 10) rfl (fun _ h => List.mem_cons_of_mem _ (List.mem_append_right _ h)) 8 (by decide) (List.mem_of_getElem? (i := 1) (by decide +kernel)) rfl (v := .ref (ad (3 * j + 1))) rfl dX2_removeAll_8 ?_
  refine z_iload_n E dX2_removeAll_11 rfl 0 rfl ?_
  refine z_iconst (v := 0) E dX2_removeAll_12 (by decide) ?_
  refine z_iast E (3 * j + 1) 0 (cw_wt hj) rfl (zvin rfl) (ws' := cw ad cI cR cS (mset m21 (3 * j + 1) 1 0)) (cs_wt hj 1 0) dX2_removeAll_13 ?_
  refine z_gm (fun m22 hm22 => ?_)
  refine z_aload_n E dX2_removeAll_14 rfl 1 rfl ?_
  refine z_get E (3 * j) (cw_rig hj) (C := RX2) (T := TX2) (N := 10) rfl (fun _ h => List.mem_cons_of_mem _ (List.mem_append_right _ h)) 9 (by decide) (List.mem_of_getElem? (i := 2) (by decide +kernel)) rfl (v := .ref (ad (3 * j + 2))) rfl dX2_removeAll_15 ?_
  refine z_iload_n E dX2_removeAll_18 rfl 0 rfl ?_
  refine z_iconst (v := 0) E dX2_removeAll_19 (by decide) ?_
  refine z_iast E (3 * j + 2) 0 (cw_st hj) rfl (zvin rfl) (ws' := cw ad cI cR cS (mset m22 (3 * j + 2) 1 0)) (cs_st hj 1 0) dX2_removeAll_20 ?_
  refine z_gm (fun m23 hm23 => ?_)
  refine z_iinc (v := 2) (lv' := [(1, .int 2), (0, .ref (ad (3 * j)))]) E dX2_removeAll_21 (q := 0) rfl (by decide) (by decide) rfl ?_
  refine z_goto (tgt := 2) E dX2_removeAll_24 (by decide) ?_
  refine z_iload_n E dX2_removeAll_2 rfl 0 rfl ?_
  refine z_iconst (v := 3) E dX2_removeAll_3 (by decide) ?_
  refine z_icmp_ge_f (tgt := 27) E dX2_removeAll_4 (by decide) (by decide) ?_
  refine z_aload_n E dX2_removeAll_7 rfl 1 rfl ?_
  refine z_get E (3 * j) (cw_rig hj) (C := RX2) (T := TX2) (N := 10) rfl (fun _ h => List.mem_cons_of_mem _ (List.mem_append_right _ h)) 8 (by decide) (List.mem_of_getElem? (i := 1) (by decide +kernel)) rfl (v := .ref (ad (3 * j + 1))) rfl dX2_removeAll_8 ?_
  refine z_iload_n E dX2_removeAll_11 rfl 0 rfl ?_
  refine z_iconst (v := 0) E dX2_removeAll_12 (by decide) ?_
  refine z_iast E (3 * j + 1) 0 (cw_wt hj) rfl (zvin rfl) (ws' := cw ad cI cR cS (mset m23 (3 * j + 1) 2 0)) (cs_wt hj 2 0) dX2_removeAll_13 ?_
  refine z_gm (fun m24 hm24 => ?_)
  refine z_aload_n E dX2_removeAll_14 rfl 1 rfl ?_
  refine z_get E (3 * j) (cw_rig hj) (C := RX2) (T := TX2) (N := 10) rfl (fun _ h => List.mem_cons_of_mem _ (List.mem_append_right _ h)) 9 (by decide) (List.mem_of_getElem? (i := 2) (by decide +kernel)) rfl (v := .ref (ad (3 * j + 2))) rfl dX2_removeAll_15 ?_
  refine z_iload_n E dX2_removeAll_18 rfl 0 rfl ?_
  refine z_iconst (v := 0) E dX2_removeAll_19 (by decide) ?_
  refine z_iast E (3 * j + 2) 0 (cw_st hj) rfl (zvin rfl) (ws' := cw ad cI cR cS (mset m24 (3 * j + 2) 2 0)) (cs_st hj 2 0) dX2_removeAll_20 ?_
  refine z_gm (fun m25 hm25 => ?_)
  refine z_iinc (v := 3) (lv' := [(1, .int 3), (0, .ref (ad (3 * j)))]) E dX2_removeAll_21 (q := 0) rfl (by decide) (by decide) rfl ?_
  refine z_goto (tgt := 2) E dX2_removeAll_24 (by decide) ?_
  refine z_iload_n E dX2_removeAll_2 rfl 0 rfl ?_
  refine z_iconst (v := 3) E dX2_removeAll_3 (by decide) ?_
  refine z_icmp_ge_t (tgt := 27) E dX2_removeAll_4 (by decide) (by decide) ?_
  refine z_aload_n E dX2_removeAll_27 rfl 1 rfl ?_
  refine z_iconst (v := 0) E dX2_removeAll_28 (by decide) ?_
  refine z_put E (3 * j) (cw_rig hj) (C := RX2) (T := TX2) (N := 10) rfl (fun _ h => List.mem_cons_of_mem _ (List.mem_append_right _ h)) tyX2 tyX2_ok nmX2 7 (by decide) (List.mem_of_getElem? (i := 3) (by decide +kernel)) rfl rfl rfl rfl (Nat.le_of_ble_eq_true rfl) (ws' := cw ad cI cR cS (mset m25 (3 * j) 7 0)) (cs_rig hj 7 (by decide) rfl) dX2_removeAll_29 ?_
  refine z_gm (fun m26 hm26 => ?_)
  exact z_vretM E hr hlocks (m26) rfl (by rw [hm26, hm25, hm24, hm23, hm22, hm21, hm20]; exact sRemoveAll_of) (Nat.le_of_ble_eq_true rfl) (Nat.le_of_ble_eq_true rfl) dX2_removeAll_32
set_option maxHeartbeats 4000000 in
set_option maxRecDepth 100000 in
theorem k_rigCopy (l : Launch) (D : va_G) (ad : Nat → Nat) (cI cR cS cL : ClassId) (mem : zM) {a b : Nat} (ha : a < 29) (hb : b < 29) (hne : a ≠ b) : zMv l yX2_copyFrom wsX2_copyFrom ({ frames := 0, cells := 0, slots := 0, locals := 0 }) D (cK cI cR cS cL) [.ref (ad (3 * a)), .ref (ad (3 * b))] (cw ad cI cR cS mem) (fun u => u = sCopy mem a b) (cw ad cI cR cS) 0 0 := by
  refine zMvM.of (cc := cX2_copyFrom) (maxL := 3) (ret := none) (by decide +kernel) rfl (lv0 := [(0, .ref (ad (3 * a))), (1, .ref (ad (3 * b)))]) (Nat.le_of_ble_eq_true rfl) rfl ?_
  intro p e s m args below meth c E hZ hr hlocks hnm
  refine z_aload_n E dX2_copyFrom_0 rfl 0 rfl ?_
  refine z_aload_n E dX2_copyFrom_1 rfl 1 rfl ?_
  refine z_get E (3 * b) (cw_rig hb) (C := RX2) (T := TX2) (N := 10) rfl (fun _ h => List.mem_cons_of_mem _ (List.mem_append_right _ h)) 0 (by decide) (List.mem_of_getElem? (i := 1) (by decide +kernel)) rfl (v := .int (mem (3 * b) 0)) rfl dX2_copyFrom_2 ?_
  refine z_put E (3 * a) (cw_rig ha) (C := RX2) (T := TX2) (N := 10) rfl (fun _ h => List.mem_cons_of_mem _ (List.mem_append_right _ h)) tyX2 tyX2_ok nmX2 0 (by decide) (List.mem_of_getElem? (i := 1) (by decide +kernel)) rfl rfl rfl rfl (Nat.le_of_ble_eq_true rfl) (ws' := cw ad cI cR cS (mset mem (3 * a) 0 (mem (3 * b) 0))) (cs_rig ha 0 (by decide) rfl) dX2_copyFrom_5 ?_
  refine z_gm (fun m27 hm27 => ?_)
  have Fm27_0 : m27 (3 * b) = mem (3 * b) := by rw [hm27, mset_ne _ _ _ (by omega)]
  have Fm27_1 : m27 (3 * b + 1) = mem (3 * b + 1) := by rw [hm27, mset_ne _ _ _ (by omega)]
  have Fm27_2 : m27 (3 * b + 2) = mem (3 * b + 2) := by rw [hm27, mset_ne _ _ _ (by omega)]
  refine z_aload_n E dX2_copyFrom_8 rfl 0 rfl ?_
  refine z_aload_n E dX2_copyFrom_9 rfl 1 rfl ?_
  refine z_get E (3 * b) (cw_rig hb) (C := RX2) (T := TX2) (N := 10) rfl (fun _ h => List.mem_cons_of_mem _ (List.mem_append_right _ h)) 1 (by decide) (List.mem_of_getElem? (i := 2) (by decide +kernel)) rfl (v := .int (mem (3 * b) 1)) (congrArg (fun z : Nat → Int32 => some (Value.int (z 1))) Fm27_0) dX2_copyFrom_10 ?_
  refine z_put E (3 * a) (cw_rig ha) (C := RX2) (T := TX2) (N := 10) rfl (fun _ h => List.mem_cons_of_mem _ (List.mem_append_right _ h)) tyX2 tyX2_ok nmX2 1 (by decide) (List.mem_of_getElem? (i := 2) (by decide +kernel)) rfl rfl rfl rfl (Nat.le_of_ble_eq_true rfl) (ws' := cw ad cI cR cS (mset m27 (3 * a) 1 (mem (3 * b) 1))) (cs_rig ha 1 (by decide) rfl) dX2_copyFrom_13 ?_
  refine z_gm (fun m28 hm28 => ?_)
  have Fm28_0 : m28 (3 * b) = mem (3 * b) := by rw [hm28, mset_ne _ _ _ (by omega)]; exact Fm27_0
  have Fm28_1 : m28 (3 * b + 1) = mem (3 * b + 1) := by rw [hm28, mset_ne _ _ _ (by omega)]; exact Fm27_1
  have Fm28_2 : m28 (3 * b + 2) = mem (3 * b + 2) := by rw [hm28, mset_ne _ _ _ (by omega)]; exact Fm27_2
  refine z_aload_n E dX2_copyFrom_16 rfl 0 rfl ?_
  refine z_aload_n E dX2_copyFrom_17 rfl 1 rfl ?_
  refine z_get E (3 * b) (cw_rig hb) (C := RX2) (T := TX2) (N := 10) rfl (fun _ h => List.mem_cons_of_mem _ (List.mem_append_right _ h)) 2 (by decide) (List.mem_of_getElem? (i := 3) (by decide +kernel)) rfl (v := .int (mem (3 * b) 2)) (congrArg (fun z : Nat → Int32 => some (Value.int (z 2))) Fm28_0) dX2_copyFrom_18 ?_
  refine z_put E (3 * a) (cw_rig ha) (C := RX2) (T := TX2) (N := 10) rfl (fun _ h => List.mem_cons_of_mem _ (List.mem_append_right _ h)) tyX2 tyX2_ok nmX2 2 (by decide) (List.mem_of_getElem? (i := 3) (by decide +kernel)) rfl rfl rfl rfl (Nat.le_of_ble_eq_true rfl) (ws' := cw ad cI cR cS (mset m28 (3 * a) 2 (mem (3 * b) 2))) (cs_rig ha 2 (by decide) rfl) dX2_copyFrom_21 ?_
  refine z_gm (fun m29 hm29 => ?_)
  have Fm29_0 : m29 (3 * b) = mem (3 * b) := by rw [hm29, mset_ne _ _ _ (by omega)]; exact Fm28_0
  have Fm29_1 : m29 (3 * b + 1) = mem (3 * b + 1) := by rw [hm29, mset_ne _ _ _ (by omega)]; exact Fm28_1
  have Fm29_2 : m29 (3 * b + 2) = mem (3 * b + 2) := by rw [hm29, mset_ne _ _ _ (by omega)]; exact Fm28_2
  refine z_aload_n E dX2_copyFrom_24 rfl 0 rfl ?_
  refine z_aload_n E dX2_copyFrom_25 rfl 1 rfl ?_
  refine z_get E (3 * b) (cw_rig hb) (C := RX2) (T := TX2) (N := 10) rfl (fun _ h => List.mem_cons_of_mem _ (List.mem_append_right _ h)) 3 (by decide) (List.mem_of_getElem? (i := 4) (by decide +kernel)) rfl (v := .int (mem (3 * b) 3)) (congrArg (fun z : Nat → Int32 => some (Value.int (z 3))) Fm29_0) dX2_copyFrom_26 ?_
  refine z_put E (3 * a) (cw_rig ha) (C := RX2) (T := TX2) (N := 10) rfl (fun _ h => List.mem_cons_of_mem _ (List.mem_append_right _ h)) tyX2 tyX2_ok nmX2 3 (by decide) (List.mem_of_getElem? (i := 4) (by decide +kernel)) rfl rfl rfl rfl (Nat.le_of_ble_eq_true rfl) (ws' := cw ad cI cR cS (mset m29 (3 * a) 3 (mem (3 * b) 3))) (cs_rig ha 3 (by decide) rfl) dX2_copyFrom_29 ?_
  refine z_gm (fun m30 hm30 => ?_)
  have Fm30_0 : m30 (3 * b) = mem (3 * b) := by rw [hm30, mset_ne _ _ _ (by omega)]; exact Fm29_0
  have Fm30_1 : m30 (3 * b + 1) = mem (3 * b + 1) := by rw [hm30, mset_ne _ _ _ (by omega)]; exact Fm29_1
  have Fm30_2 : m30 (3 * b + 2) = mem (3 * b + 2) := by rw [hm30, mset_ne _ _ _ (by omega)]; exact Fm29_2
  refine z_aload_n E dX2_copyFrom_32 rfl 0 rfl ?_
  refine z_aload_n E dX2_copyFrom_33 rfl 1 rfl ?_
  refine z_get E (3 * b) (cw_rig hb) (C := RX2) (T := TX2) (N := 10) rfl (fun _ h => List.mem_cons_of_mem _ (List.mem_append_right _ h)) 4 (by decide) (List.mem_of_getElem? (i := 5) (by decide +kernel)) rfl (v := .int (mem (3 * b) 4)) (congrArg (fun z : Nat → Int32 => some (Value.int (z 4))) Fm30_0) dX2_copyFrom_34 ?_
  refine z_put E (3 * a) (cw_rig ha) (C := RX2) (T := TX2) (N := 10) rfl (fun _ h => List.mem_cons_of_mem _ (List.mem_append_right _ h)) tyX2 tyX2_ok nmX2 4 (by decide) (List.mem_of_getElem? (i := 5) (by decide +kernel)) rfl rfl rfl rfl (Nat.le_of_ble_eq_true rfl) (ws' := cw ad cI cR cS (mset m30 (3 * a) 4 (mem (3 * b) 4))) (cs_rig ha 4 (by decide) rfl) dX2_copyFrom_37 ?_
  refine z_gm (fun m31 hm31 => ?_)
  have Fm31_0 : m31 (3 * b) = mem (3 * b) := by rw [hm31, mset_ne _ _ _ (by omega)]; exact Fm30_0
  have Fm31_1 : m31 (3 * b + 1) = mem (3 * b + 1) := by rw [hm31, mset_ne _ _ _ (by omega)]; exact Fm30_1
  have Fm31_2 : m31 (3 * b + 2) = mem (3 * b + 2) := by rw [hm31, mset_ne _ _ _ (by omega)]; exact Fm30_2
  refine z_aload_n E dX2_copyFrom_40 rfl 0 rfl ?_
  refine z_aload_n E dX2_copyFrom_41 rfl 1 rfl ?_
  refine z_get E (3 * b) (cw_rig hb) (C := RX2) (T := TX2) (N := 10) rfl (fun _ h => List.mem_cons_of_mem _ (List.mem_append_right _ h)) 5 (by decide) (List.mem_of_getElem? (i := 6) (by decide +kernel)) rfl (v := .int (mem (3 * b) 5)) (congrArg (fun z : Nat → Int32 => some (Value.int (z 5))) Fm31_0) dX2_copyFrom_42 ?_
  refine z_put E (3 * a) (cw_rig ha) (C := RX2) (T := TX2) (N := 10) rfl (fun _ h => List.mem_cons_of_mem _ (List.mem_append_right _ h)) tyX2 tyX2_ok nmX2 5 (by decide) (List.mem_of_getElem? (i := 6) (by decide +kernel)) rfl rfl rfl rfl (Nat.le_of_ble_eq_true rfl) (ws' := cw ad cI cR cS (mset m31 (3 * a) 5 (mem (3 * b) 5))) (cs_rig ha 5 (by decide) rfl) dX2_copyFrom_45 ?_
  refine z_gm (fun m32 hm32 => ?_)
  have Fm32_0 : m32 (3 * b) = mem (3 * b) := by rw [hm32, mset_ne _ _ _ (by omega)]; exact Fm31_0
  have Fm32_1 : m32 (3 * b + 1) = mem (3 * b + 1) := by rw [hm32, mset_ne _ _ _ (by omega)]; exact Fm31_1
  have Fm32_2 : m32 (3 * b + 2) = mem (3 * b + 2) := by rw [hm32, mset_ne _ _ _ (by omega)]; exact Fm31_2
  refine z_aload_n E dX2_copyFrom_48 rfl 0 rfl ?_
  refine z_aload_n E dX2_copyFrom_49 rfl 1 rfl ?_
  refine z_get E (3 * b) (cw_rig hb) (C := RX2) (T := TX2) (N := 10) rfl (fun _ h => List.mem_cons_of_mem _ (List.mem_append_right _ h)) 6 (by decide) (List.mem_of_getElem? (i := 7) (by decide +kernel)) rfl (v := .int (mem (3 * b) 6)) (congrArg (fun z : Nat → Int32 => some (Value.int (z 6))) Fm32_0) dX2_copyFrom_50 ?_
  refine z_put E (3 * a) (cw_rig ha) (C := RX2) (T := TX2) (N := 10) rfl (fun _ h => List.mem_cons_of_mem _ (List.mem_append_right _ h)) tyX2 tyX2_ok nmX2 6 (by decide) (List.mem_of_getElem? (i := 7) (by decide +kernel)) rfl rfl rfl rfl (Nat.le_of_ble_eq_true rfl) (ws' := cw ad cI cR cS (mset m32 (3 * a) 6 (mem (3 * b) 6))) (cs_rig ha 6 (by decide) rfl) dX2_copyFrom_53 ?_
  refine z_gm (fun m33 hm33 => ?_)
  have Fm33_0 : m33 (3 * b) = mem (3 * b) := by rw [hm33, mset_ne _ _ _ (by omega)]; exact Fm32_0
  have Fm33_1 : m33 (3 * b + 1) = mem (3 * b + 1) := by rw [hm33, mset_ne _ _ _ (by omega)]; exact Fm32_1
  have Fm33_2 : m33 (3 * b + 2) = mem (3 * b + 2) := by rw [hm33, mset_ne _ _ _ (by omega)]; exact Fm32_2
  refine z_aload_n E dX2_copyFrom_56 rfl 0 rfl ?_
  refine z_aload_n E dX2_copyFrom_57 rfl 1 rfl ?_
  refine z_get E (3 * b) (cw_rig hb) (C := RX2) (T := TX2) (N := 10) rfl (fun _ h => List.mem_cons_of_mem _ (List.mem_append_right _ h)) 7 (by decide) (List.mem_of_getElem? (i := 8) (by decide +kernel)) rfl (v := .int (mem (3 * b) 7)) (congrArg (fun z : Nat → Int32 => some (Value.int (z 7))) Fm33_0) dX2_copyFrom_58 ?_
  refine z_put E (3 * a) (cw_rig ha) (C := RX2) (T := TX2) (N := 10) rfl (fun _ h => List.mem_cons_of_mem _ (List.mem_append_right _ h)) tyX2 tyX2_ok nmX2 7 (by decide) (List.mem_of_getElem? (i := 8) (by decide +kernel)) rfl rfl rfl rfl (Nat.le_of_ble_eq_true rfl) (ws' := cw ad cI cR cS (mset m33 (3 * a) 7 (mem (3 * b) 7))) (cs_rig ha 7 (by decide) rfl) dX2_copyFrom_61 ?_
  refine z_gm (fun m34 hm34 => ?_)
  have Fm34_0 : m34 (3 * b) = mem (3 * b) := by rw [hm34, mset_ne _ _ _ (by omega)]; exact Fm33_0
  have Fm34_1 : m34 (3 * b + 1) = mem (3 * b + 1) := by rw [hm34, mset_ne _ _ _ (by omega)]; exact Fm33_1
  have Fm34_2 : m34 (3 * b + 2) = mem (3 * b + 2) := by rw [hm34, mset_ne _ _ _ (by omega)]; exact Fm33_2
  refine z_iconst (v := 0) E dX2_copyFrom_64 (by decide) ?_
  refine z_istore_n (lv' := [(2, .int 0), (0, .ref (ad (3 * a))), (1, .ref (ad (3 * b)))]) E dX2_copyFrom_65 rfl (by decide) rfl ?_
  refine z_iload_n E dX2_copyFrom_66 rfl 0 rfl ?_
  refine z_iconst (v := 3) E dX2_copyFrom_67 (by decide) ?_
  refine z_icmp_ge_f (tgt := 101) E dX2_copyFrom_68 (by decide) (by decide) ?_
  refine z_aload_n E dX2_copyFrom_71 rfl 1 rfl ?_
  refine z_get E (3 * a) (cw_rig ha) (C := RX2) (T := TX2) (N := 10) rfl (fun _ h => List.mem_cons_of_mem _ (List.mem_append_right _ h)) 8 (by decide) (List.mem_of_getElem? (i := 9) (by decide +kernel)) rfl (v := .ref (ad (3 * a + 1))) rfl dX2_copyFrom_72 ?_
  refine z_iload_n E dX2_copyFrom_75 rfl 0 rfl ?_
  refine z_aload_n E dX2_copyFrom_76 rfl 2 rfl ?_
  refine z_get E (3 * b) (cw_rig hb) (C := RX2) (T := TX2) (N := 10) rfl (fun _ h => List.mem_cons_of_mem _ (List.mem_append_right _ h)) 8 (by decide) (List.mem_of_getElem? (i := 9) (by decide +kernel)) rfl (v := .ref (ad (3 * b + 1))) rfl dX2_copyFrom_77 ?_
  refine z_iload_n E dX2_copyFrom_80 rfl 0 rfl ?_
  refine z_iald E (3 * b + 1) 0 (cw_wt hb) rfl (zvin rfl) (v := mem (3 * b + 1) 0) (congrFun Fm34_1 _) dX2_copyFrom_81 ?_
  refine z_iast E (3 * a + 1) 0 (cw_wt ha) rfl (zvin rfl) (ws' := cw ad cI cR cS (mset m34 (3 * a + 1) 0 (mem (3 * b + 1) 0))) (cs_wt ha 0 (mem (3 * b + 1) 0)) dX2_copyFrom_82 ?_
  refine z_gm (fun m35 hm35 => ?_)
  have Fm35_0 : m35 (3 * b) = mem (3 * b) := by rw [hm35, mset_ne _ _ _ (by omega)]; exact Fm34_0
  have Fm35_1 : m35 (3 * b + 1) = mem (3 * b + 1) := by rw [hm35, mset_ne _ _ _ (by omega)]; exact Fm34_1
  have Fm35_2 : m35 (3 * b + 2) = mem (3 * b + 2) := by rw [hm35, mset_ne _ _ _ (by omega)]; exact Fm34_2
  refine z_aload_n E dX2_copyFrom_83 rfl 1 rfl ?_
  refine z_get E (3 * a) (cw_rig ha) (C := RX2) (T := TX2) (N := 10) rfl (fun _ h => List.mem_cons_of_mem _ (List.mem_append_right _ h)) 9 (by decide) (List.mem_of_getElem? (i := 10) (by decide +kernel)) rfl (v := .ref (ad (3 * a + 2))) rfl dX2_copyFrom_84 ?_
  refine z_iload_n E dX2_copyFrom_87 rfl 0 rfl ?_
  refine z_aload_n E dX2_copyFrom_88 rfl 2 rfl ?_
  refine z_get E (3 * b) (cw_rig hb) (C := RX2) (T := TX2) (N := 10) rfl (fun _ h => List.mem_cons_of_mem _ (List.mem_append_right _ h)) 9 (by decide) (List.mem_of_getElem? (i := 10) (by decide +kernel)) rfl (v := .ref (ad (3 * b + 2))) rfl dX2_copyFrom_89 ?_
  refine z_iload_n E dX2_copyFrom_92 rfl 0 rfl ?_
  refine z_iald E (3 * b + 2) 0 (cw_st hb) rfl (zvin rfl) (v := mem (3 * b + 2) 0) (congrFun Fm35_2 _) dX2_copyFrom_93 ?_
  refine z_iast E (3 * a + 2) 0 (cw_st ha) rfl (zvin rfl) (ws' := cw ad cI cR cS (mset m35 (3 * a + 2) 0 (mem (3 * b + 2) 0))) (cs_st ha 0 (mem (3 * b + 2) 0)) dX2_copyFrom_94 ?_
  refine z_gm (fun m36 hm36 => ?_)
  have Fm36_0 : m36 (3 * b) = mem (3 * b) := by rw [hm36, mset_ne _ _ _ (by omega)]; exact Fm35_0
  have Fm36_1 : m36 (3 * b + 1) = mem (3 * b + 1) := by rw [hm36, mset_ne _ _ _ (by omega)]; exact Fm35_1
  have Fm36_2 : m36 (3 * b + 2) = mem (3 * b + 2) := by rw [hm36, mset_ne _ _ _ (by omega)]; exact Fm35_2
  refine z_iinc (v := 1) (lv' := [(2, .int 1), (0, .ref (ad (3 * a))), (1, .ref (ad (3 * b)))]) E dX2_copyFrom_95 (q := 0) rfl (by decide) (by decide) rfl ?_
  refine z_goto (tgt := 66) E dX2_copyFrom_98 (by decide) ?_
  refine z_iload_n E dX2_copyFrom_66 rfl 0 rfl ?_
  refine z_iconst (v := 3) E dX2_copyFrom_67 (by decide) ?_
  refine z_icmp_ge_f (tgt := 101) E dX2_copyFrom_68 (by decide) (by decide) ?_
  refine z_aload_n E dX2_copyFrom_71 rfl 1 rfl ?_
  refine z_get E (3 * a) (cw_rig ha) (C := RX2) (T := TX2) (N := 10) rfl (fun _ h => List.mem_cons_of_mem _ (List.mem_append_right _ h)) 8 (by decide) (List.mem_of_getElem? (i := 9) (by decide +kernel)) rfl (v := .ref (ad (3 * a + 1))) rfl dX2_copyFrom_72 ?_
  refine z_iload_n E dX2_copyFrom_75 rfl 0 rfl ?_
  refine z_aload_n E dX2_copyFrom_76 rfl 2 rfl ?_
  refine z_get E (3 * b) (cw_rig hb) (C := RX2) (T := TX2) (N := 10) rfl (fun _ h => List.mem_cons_of_mem _ (List.mem_append_right _ h)) 8 (by decide) (List.mem_of_getElem? (i := 9) (by decide +kernel)) rfl (v := .ref (ad (3 * b + 1))) rfl dX2_copyFrom_77 ?_
  refine z_iload_n E dX2_copyFrom_80 rfl 0 rfl ?_
  refine z_iald E (3 * b + 1) 0 (cw_wt hb) rfl (zvin rfl) (v := mem (3 * b + 1) 1) (congrFun Fm36_1 _) dX2_copyFrom_81 ?_
  refine z_iast E (3 * a + 1) 0 (cw_wt ha) rfl (zvin rfl) (ws' := cw ad cI cR cS (mset m36 (3 * a + 1) 1 (mem (3 * b + 1) 1))) (cs_wt ha 1 (mem (3 * b + 1) 1)) dX2_copyFrom_82 ?_
  refine z_gm (fun m37 hm37 => ?_)
  have Fm37_0 : m37 (3 * b) = mem (3 * b) := by rw [hm37, mset_ne _ _ _ (by omega)]; exact Fm36_0
  have Fm37_1 : m37 (3 * b + 1) = mem (3 * b + 1) := by rw [hm37, mset_ne _ _ _ (by omega)]; exact Fm36_1
  have Fm37_2 : m37 (3 * b + 2) = mem (3 * b + 2) := by rw [hm37, mset_ne _ _ _ (by omega)]; exact Fm36_2
  refine z_aload_n E dX2_copyFrom_83 rfl 1 rfl ?_
  refine z_get E (3 * a) (cw_rig ha) (C := RX2) (T := TX2) (N := 10) rfl (fun _ h => List.mem_cons_of_mem _ (List.mem_append_right _ h)) 9 (by decide) (List.mem_of_getElem? (i := 10) (by decide +kernel)) rfl (v := .ref (ad (3 * a + 2))) rfl dX2_copyFrom_84 ?_
  refine z_iload_n E dX2_copyFrom_87 rfl 0 rfl ?_
  refine z_aload_n E dX2_copyFrom_88 rfl 2 rfl ?_
  refine z_get E (3 * b) (cw_rig hb) (C := RX2) (T := TX2) (N := 10) rfl (fun _ h => List.mem_cons_of_mem _ (List.mem_append_right _ h)) 9 (by decide) (List.mem_of_getElem? (i := 10) (by decide +kernel)) rfl (v := .ref (ad (3 * b + 2))) rfl dX2_copyFrom_89 ?_
  refine z_iload_n E dX2_copyFrom_92 rfl 0 rfl ?_
  refine z_iald E (3 * b + 2) 0 (cw_st hb) rfl (zvin rfl) (v := mem (3 * b + 2) 1) (congrFun Fm37_2 _) dX2_copyFrom_93 ?_
  refine z_iast E (3 * a + 2) 0 (cw_st ha) rfl (zvin rfl) (ws' := cw ad cI cR cS (mset m37 (3 * a + 2) 1 (mem (3 * b + 2) 1))) (cs_st ha 1 (mem (3 * b + 2) 1)) dX2_copyFrom_94 ?_
  refine z_gm (fun m38 hm38 => ?_)
  have Fm38_0 : m38 (3 * b) = mem (3 * b) := by rw [hm38, mset_ne _ _ _ (by omega)]; exact Fm37_0
  have Fm38_1 : m38 (3 * b + 1) = mem (3 * b + 1) := by rw [hm38, mset_ne _ _ _ (by omega)]; exact Fm37_1
  have Fm38_2 : m38 (3 * b + 2) = mem (3 * b + 2) := by rw [hm38, mset_ne _ _ _ (by omega)]; exact Fm37_2
  refine z_iinc (v := 2) (lv' := [(2, .int 2), (0, .ref (ad (3 * a))), (1, .ref (ad (3 * b)))]) E dX2_copyFrom_95 (q := 0) rfl (by decide) (by decide) rfl ?_
  refine z_goto (tgt := 66) E dX2_copyFrom_98 (by decide) ?_
  refine z_iload_n E dX2_copyFrom_66 rfl 0 rfl ?_
  refine z_iconst (v := 3) E dX2_copyFrom_67 (by decide) ?_
  refine z_icmp_ge_f (tgt := 101) E dX2_copyFrom_68 (by decide) (by decide) ?_
  refine z_aload_n E dX2_copyFrom_71 rfl 1 rfl ?_
  refine z_get E (3 * a) (cw_rig ha) (C := RX2) (T := TX2) (N := 10) rfl (fun _ h => List.mem_cons_of_mem _ (List.mem_append_right _ h)) 8 (by decide) (List.mem_of_getElem? (i := 9) (by decide +kernel)) rfl (v := .ref (ad (3 * a + 1))) rfl dX2_copyFrom_72 ?_
  refine z_iload_n E dX2_copyFrom_75 rfl 0 rfl ?_
  refine z_aload_n E dX2_copyFrom_76 rfl 2 rfl ?_
  refine z_get E (3 * b) (cw_rig hb) (C := RX2) (T := TX2) (N := 10) rfl (fun _ h => List.mem_cons_of_mem _ (List.mem_append_right _ h)) 8 (by decide) (List.mem_of_getElem? (i := 9) (by decide +kernel)) rfl (v := .ref (ad (3 * b + 1))) rfl dX2_copyFrom_77 ?_
  refine z_iload_n E dX2_copyFrom_80 rfl 0 rfl ?_
  refine z_iald E (3 * b + 1) 0 (cw_wt hb) rfl (zvin rfl) (v := mem (3 * b + 1) 2) (congrFun Fm38_1 _) dX2_copyFrom_81 ?_
  refine z_iast E (3 * a + 1) 0 (cw_wt ha) rfl (zvin rfl) (ws' := cw ad cI cR cS (mset m38 (3 * a + 1) 2 (mem (3 * b + 1) 2))) (cs_wt ha 2 (mem (3 * b + 1) 2)) dX2_copyFrom_82 ?_
  refine z_gm (fun m39 hm39 => ?_)
  have Fm39_0 : m39 (3 * b) = mem (3 * b) := by rw [hm39, mset_ne _ _ _ (by omega)]; exact Fm38_0
  have Fm39_1 : m39 (3 * b + 1) = mem (3 * b + 1) := by rw [hm39, mset_ne _ _ _ (by omega)]; exact Fm38_1
  have Fm39_2 : m39 (3 * b + 2) = mem (3 * b + 2) := by rw [hm39, mset_ne _ _ _ (by omega)]; exact Fm38_2
  refine z_aload_n E dX2_copyFrom_83 rfl 1 rfl ?_
  refine z_get E (3 * a) (cw_rig ha) (C := RX2) (T := TX2) (N := 10) rfl (fun _ h => List.mem_cons_of_mem _ (List.mem_append_right _ h)) 9 (by decide) (List.mem_of_getElem? (i := 10) (by decide +kernel)) rfl (v := .ref (ad (3 * a + 2))) rfl dX2_copyFrom_84 ?_
  refine z_iload_n E dX2_copyFrom_87 rfl 0 rfl ?_
  refine z_aload_n E dX2_copyFrom_88 rfl 2 rfl ?_
  refine z_get E (3 * b) (cw_rig hb) (C := RX2) (T := TX2) (N := 10) rfl (fun _ h => List.mem_cons_of_mem _ (List.mem_append_right _ h)) 9 (by decide) (List.mem_of_getElem? (i := 10) (by decide +kernel)) rfl (v := .ref (ad (3 * b + 2))) rfl dX2_copyFrom_89 ?_
  refine z_iload_n E dX2_copyFrom_92 rfl 0 rfl ?_
  refine z_iald E (3 * b + 2) 0 (cw_st hb) rfl (zvin rfl) (v := mem (3 * b + 2) 2) (congrFun Fm39_2 _) dX2_copyFrom_93 ?_
  refine z_iast E (3 * a + 2) 0 (cw_st ha) rfl (zvin rfl) (ws' := cw ad cI cR cS (mset m39 (3 * a + 2) 2 (mem (3 * b + 2) 2))) (cs_st ha 2 (mem (3 * b + 2) 2)) dX2_copyFrom_94 ?_
  refine z_gm (fun m40 hm40 => ?_)
  have Fm40_0 : m40 (3 * b) = mem (3 * b) := by rw [hm40, mset_ne _ _ _ (by omega)]; exact Fm39_0
  have Fm40_1 : m40 (3 * b + 1) = mem (3 * b + 1) := by rw [hm40, mset_ne _ _ _ (by omega)]; exact Fm39_1
  have Fm40_2 : m40 (3 * b + 2) = mem (3 * b + 2) := by rw [hm40, mset_ne _ _ _ (by omega)]; exact Fm39_2
  refine z_iinc (v := 3) (lv' := [(2, .int 3), (0, .ref (ad (3 * a))), (1, .ref (ad (3 * b)))]) E dX2_copyFrom_95 (q := 0) rfl (by decide) (by decide) rfl ?_
  refine z_goto (tgt := 66) E dX2_copyFrom_98 (by decide) ?_
  refine z_iload_n E dX2_copyFrom_66 rfl 0 rfl ?_
  refine z_iconst (v := 3) E dX2_copyFrom_67 (by decide) ?_
  refine z_icmp_ge_t (tgt := 101) E dX2_copyFrom_68 (by decide) (by decide) ?_
  exact z_vretM E hr hlocks (m40) rfl (by rw [hm40, hm39, hm38, hm37, hm36, hm35, hm34, hm33, hm32, hm31, hm30, hm29, hm28, hm27]; exact sCopy_of hne) (Nat.le_of_ble_eq_true rfl) (Nat.le_of_ble_eq_true rfl) dX2_copyFrom_101
end
