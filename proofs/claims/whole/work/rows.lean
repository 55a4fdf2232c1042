section
-- ===== PART A: goes FIRST, ahead of the names: the tables' words, and 'selects' of the private methods out of them =====
/-- a private method of a class that the tables say can be made, by its rows of tables_1 -/
def lw_okq (q : MethodName × Nat) : Prop := (q.1.cls ≠ "java/lang/invoke/MethodHandle" ∧ q.1.cls ≠ "java/lang/invoke/VarHandle") ∧ Cond.instantiable q.1.cls q.2 ∈ tables_1 ∧ Cond.privateMethod q.1 ∈ tables_1 ∧ Cond.instanceMethod q.1 ∈ tables_1
theorem lw_p0 : lw_okq (⟨"BallTown$Turnings", "lay", "(II)V"⟩, 2) := ⟨⟨by decide +kernel, by decide +kernel⟩, List.mem_of_getElem? (i := 56) (by decide +kernel), List.mem_of_getElem? (i := 62) (by decide +kernel), List.mem_of_getElem? (i := 63) (by decide +kernel)⟩
theorem lw_p1 : lw_okq (⟨"BallTown$Turnings", "setGoal", "(III)V"⟩, 2) := ⟨⟨by decide +kernel, by decide +kernel⟩, List.mem_of_getElem? (i := 56) (by decide +kernel), List.mem_of_getElem? (i := 69) (by decide +kernel), List.mem_of_getElem? (i := 70) (by decide +kernel)⟩
theorem lw_p2 : lw_okq (⟨"BallTown$Walls", "forgetFound", "()V"⟩, 9) := ⟨⟨by decide +kernel, by decide +kernel⟩, List.mem_of_getElem? (i := 109) (by decide +kernel), List.mem_of_getElem? (i := 122) (by decide +kernel), List.mem_of_getElem? (i := 123) (by decide +kernel)⟩
theorem lw_p3 : lw_okq (⟨"BallTown$Text", "readLine", "(I)Z"⟩, 8) := ⟨⟨by decide +kernel, by decide +kernel⟩, List.mem_of_getElem? (i := 24) (by decide +kernel), List.mem_of_getElem? (i := 247) (by decide +kernel), List.mem_of_getElem? (i := 248) (by decide +kernel)⟩
theorem lw_p4 : lw_okq (⟨"BallTown$Text", "nextToken", "()V"⟩, 8) := ⟨⟨by decide +kernel, by decide +kernel⟩, List.mem_of_getElem? (i := 24) (by decide +kernel), List.mem_of_getElem? (i := 251) (by decide +kernel), List.mem_of_getElem? (i := 252) (by decide +kernel)⟩
theorem lw_p5 : lw_okq (⟨"BallTown$Text", "signAt", "(I)I"⟩, 8) := ⟨⟨by decide +kernel, by decide +kernel⟩, List.mem_of_getElem? (i := 24) (by decide +kernel), List.mem_of_getElem? (i := 255) (by decide +kernel), List.mem_of_getElem? (i := 256) (by decide +kernel)⟩
theorem lw_p6 : lw_okq (⟨"BallTown$Text", "wordHere", "()I"⟩, 8) := ⟨⟨by decide +kernel, by decide +kernel⟩, List.mem_of_getElem? (i := 24) (by decide +kernel), List.mem_of_getElem? (i := 262) (by decide +kernel), List.mem_of_getElem? (i := 263) (by decide +kernel)⟩
theorem lw_p7 : lw_okq (⟨"BallTown$Text", "spells", "(Ljava/lang/String;)Z"⟩, 8) := ⟨⟨by decide +kernel, by decide +kernel⟩, List.mem_of_getElem? (i := 24) (by decide +kernel), List.mem_of_getElem? (i := 267) (by decide +kernel), List.mem_of_getElem? (i := 268) (by decide +kernel)⟩
theorem lw_p8 : lw_okq (⟨"BallTown$Text", "nextNumber", "(I)I"⟩, 8) := ⟨⟨by decide +kernel, by decide +kernel⟩, List.mem_of_getElem? (i := 24) (by decide +kernel), List.mem_of_getElem? (i := 326) (by decide +kernel), List.mem_of_getElem? (i := 327) (by decide +kernel)⟩
theorem lw_p9 : lw_okq (⟨"BallTown$Text", "setLine", "(IIII)V"⟩, 8) := ⟨⟨by decide +kernel, by decide +kernel⟩, List.mem_of_getElem? (i := 24) (by decide +kernel), List.mem_of_getElem? (i := 331) (by decide +kernel), List.mem_of_getElem? (i := 332) (by decide +kernel)⟩
theorem lw_p10 : lw_okq (⟨"BallTown", "doLine", "(III)V"⟩, 8) := ⟨⟨by decide +kernel, by decide +kernel⟩, List.mem_of_getElem? (i := 16) (by decide +kernel), List.mem_of_getElem? (i := 359) (by decide +kernel), List.mem_of_getElem? (i := 360) (by decide +kernel)⟩
theorem lw_p11 : lw_okq (⟨"BallTown$Walls", "setOpen", "(II)V"⟩, 9) := ⟨⟨by decide +kernel, by decide +kernel⟩, List.mem_of_getElem? (i := 109) (by decide +kernel), List.mem_of_getElem? (i := 381) (by decide +kernel), List.mem_of_getElem? (i := 382) (by decide +kernel)⟩
theorem lw_p12 : lw_okq (⟨"BallTown", "taxOf", "(I)I"⟩, 8) := ⟨⟨by decide +kernel, by decide +kernel⟩, List.mem_of_getElem? (i := 16) (by decide +kernel), List.mem_of_getElem? (i := 461) (by decide +kernel), List.mem_of_getElem? (i := 462) (by decide +kernel)⟩
theorem lw_p13 : lw_okq (⟨"BallTown", "openOfKind", "(II)I"⟩, 8) := ⟨⟨by decide +kernel, by decide +kernel⟩, List.mem_of_getElem? (i := 16) (by decide +kernel), List.mem_of_getElem? (i := 465) (by decide +kernel), List.mem_of_getElem? (i := 466) (by decide +kernel)⟩
theorem lw_p14 : lw_okq (⟨"BallTown", "keptAt", "(I)LBallTown$Scene;"⟩, 8) := ⟨⟨by decide +kernel, by decide +kernel⟩, List.mem_of_getElem? (i := 16) (by decide +kernel), List.mem_of_getElem? (i := 530) (by decide +kernel), List.mem_of_getElem? (i := 531) (by decide +kernel)⟩
theorem lw_p15 : lw_okq (⟨"BallTown$Turnings", "brings", "(ILBallTown$Scene;LBallTown$Scene;)Z"⟩, 2) := ⟨⟨by decide +kernel, by decide +kernel⟩, List.mem_of_getElem? (i := 56) (by decide +kernel), List.mem_of_getElem? (i := 554) (by decide +kernel), List.mem_of_getElem? (i := 555) (by decide +kernel)⟩
def lw_privs_1 : List (MethodName × Nat) := [(⟨"BallTown$Turnings", "lay", "(II)V"⟩, 2), (⟨"BallTown$Turnings", "setGoal", "(III)V"⟩, 2), (⟨"BallTown$Walls", "forgetFound", "()V"⟩, 9), (⟨"BallTown$Text", "readLine", "(I)Z"⟩, 8), (⟨"BallTown$Text", "nextToken", "()V"⟩, 8), (⟨"BallTown$Text", "signAt", "(I)I"⟩, 8), (⟨"BallTown$Text", "wordHere", "()I"⟩, 8), (⟨"BallTown$Text", "spells", "(Ljava/lang/String;)Z"⟩, 8), (⟨"BallTown$Text", "nextNumber", "(I)I"⟩, 8), (⟨"BallTown$Text", "setLine", "(IIII)V"⟩, 8), (⟨"BallTown", "doLine", "(III)V"⟩, 8), (⟨"BallTown$Walls", "setOpen", "(II)V"⟩, 9), (⟨"BallTown", "taxOf", "(I)I"⟩, 8), (⟨"BallTown", "openOfKind", "(II)I"⟩, 8), (⟨"BallTown", "keptAt", "(I)LBallTown$Scene;"⟩, 8), (⟨"BallTown$Turnings", "brings", "(ILBallTown$Scene;LBallTown$Scene;)Z"⟩, 2)]
theorem lw_r1 : ∀ q ∈ lw_privs_1, lw_okq q := List.forall_mem_cons.mpr ⟨lw_p0, List.forall_mem_cons.mpr ⟨lw_p1, List.forall_mem_cons.mpr ⟨lw_p2, List.forall_mem_cons.mpr ⟨lw_p3, List.forall_mem_cons.mpr ⟨lw_p4, List.forall_mem_cons.mpr ⟨lw_p5, List.forall_mem_cons.mpr ⟨lw_p6, List.forall_mem_cons.mpr ⟨lw_p7, List.forall_mem_cons.mpr ⟨lw_p8, List.forall_mem_cons.mpr ⟨lw_p9, List.forall_mem_cons.mpr ⟨lw_p10, List.forall_mem_cons.mpr ⟨lw_p11, List.forall_mem_cons.mpr ⟨lw_p12, List.forall_mem_cons.mpr ⟨lw_p13, List.forall_mem_cons.mpr ⟨lw_p14, List.forall_mem_cons.mpr ⟨lw_p15, fun _ h => absurd h List.not_mem_nil⟩⟩⟩⟩⟩⟩⟩⟩⟩⟩⟩⟩⟩⟩⟩⟩
theorem lw_p16 : lw_okq (⟨"BallTown$Turnings", "ringOf", "(II)I"⟩, 2) := ⟨⟨by decide +kernel, by decide +kernel⟩, List.mem_of_getElem? (i := 56) (by decide +kernel), List.mem_of_getElem? (i := 574) (by decide +kernel), List.mem_of_getElem? (i := 575) (by decide +kernel)⟩
theorem lw_p17 : lw_okq (⟨"BallTown$Walls", "findWardens", "()V"⟩, 9) := ⟨⟨by decide +kernel, by decide +kernel⟩, List.mem_of_getElem? (i := 109) (by decide +kernel), List.mem_of_getElem? (i := 596) (by decide +kernel), List.mem_of_getElem? (i := 597) (by decide +kernel)⟩
theorem lw_p18 : lw_okq (⟨"BallTown$Walls", "wardsAll", "(I)Z"⟩, 9) := ⟨⟨by decide +kernel, by decide +kernel⟩, List.mem_of_getElem? (i := 109) (by decide +kernel), List.mem_of_getElem? (i := 601) (by decide +kernel), List.mem_of_getElem? (i := 602) (by decide +kernel)⟩
theorem lw_p19 : lw_okq (⟨"BallTown$Walls", "openToAny", "(I)I"⟩, 9) := ⟨⟨by decide +kernel, by decide +kernel⟩, List.mem_of_getElem? (i := 109) (by decide +kernel), List.mem_of_getElem? (i := 621) (by decide +kernel), List.mem_of_getElem? (i := 622) (by decide +kernel)⟩
theorem lw_p20 : lw_okq (⟨"BallTown$Walls", "findRounds", "()V"⟩, 9) := ⟨⟨by decide +kernel, by decide +kernel⟩, List.mem_of_getElem? (i := 109) (by decide +kernel), List.mem_of_getElem? (i := 633) (by decide +kernel), List.mem_of_getElem? (i := 634) (by decide +kernel)⟩
theorem lw_p21 : lw_okq (⟨"BallTown$Walls", "endRound", "(I)V"⟩, 9) := ⟨⟨by decide +kernel, by decide +kernel⟩, List.mem_of_getElem? (i := 109) (by decide +kernel), List.mem_of_getElem? (i := 640) (by decide +kernel), List.mem_of_getElem? (i := 641) (by decide +kernel)⟩
theorem lw_p22 : lw_okq (⟨"BallTown$Shares", "setOut", "(I)V"⟩, 2) := ⟨⟨by decide +kernel, by decide +kernel⟩, List.mem_of_getElem? (i := 154) (by decide +kernel), List.mem_of_getElem? (i := 656) (by decide +kernel), List.mem_of_getElem? (i := 657) (by decide +kernel)⟩
theorem lw_p23 : lw_okq (⟨"BallTown$Shares", "giveAll", "(IJ)V"⟩, 2) := ⟨⟨by decide +kernel, by decide +kernel⟩, List.mem_of_getElem? (i := 154) (by decide +kernel), List.mem_of_getElem? (i := 661) (by decide +kernel), List.mem_of_getElem? (i := 662) (by decide +kernel)⟩
theorem lw_p24 : lw_okq (⟨"BallTown$Shares", "arrive", "()V"⟩, 2) := ⟨⟨by decide +kernel, by decide +kernel⟩, List.mem_of_getElem? (i := 154) (by decide +kernel), List.mem_of_getElem? (i := 666) (by decide +kernel), List.mem_of_getElem? (i := 667) (by decide +kernel)⟩
theorem lw_p25 : lw_okq (⟨"BallTown$Shares", "hereAt", "(I)J"⟩, 2) := ⟨⟨by decide +kernel, by decide +kernel⟩, List.mem_of_getElem? (i := 154) (by decide +kernel), List.mem_of_getElem? (i := 670) (by decide +kernel), List.mem_of_getElem? (i := 671) (by decide +kernel)⟩
theorem lw_p26 : lw_okq (⟨"BallTown", "taxOfAll", "()I"⟩, 8) := ⟨⟨by decide +kernel, by decide +kernel⟩, List.mem_of_getElem? (i := 16) (by decide +kernel), List.mem_of_getElem? (i := 699) (by decide +kernel), List.mem_of_getElem? (i := 700) (by decide +kernel)⟩
theorem lw_p27 : lw_okq (⟨"BallTownModel", "lay", "(II)V"⟩, 27) := ⟨⟨by decide +kernel, by decide +kernel⟩, List.mem_of_getElem? (i := 712) (by decide +kernel), List.mem_of_getElem? (i := 719) (by decide +kernel), List.mem_of_getElem? (i := 720) (by decide +kernel)⟩
theorem lw_p28 : lw_okq (⟨"BallTownModel", "isRead", "()Z"⟩, 27) := ⟨⟨by decide +kernel, by decide +kernel⟩, List.mem_of_getElem? (i := 712) (by decide +kernel), List.mem_of_getElem? (i := 828) (by decide +kernel), List.mem_of_getElem? (i := 829) (by decide +kernel)⟩
theorem lw_p29 : lw_okq (⟨"BallTownModel", "isLine", "(I)Z"⟩, 27) := ⟨⟨by decide +kernel, by decide +kernel⟩, List.mem_of_getElem? (i := 712) (by decide +kernel), List.mem_of_getElem? (i := 832) (by decide +kernel), List.mem_of_getElem? (i := 833) (by decide +kernel)⟩
theorem lw_p30 : lw_okq (⟨"BallTownModel", "nextToken", "()V"⟩, 27) := ⟨⟨by decide +kernel, by decide +kernel⟩, List.mem_of_getElem? (i := 712) (by decide +kernel), List.mem_of_getElem? (i := 836) (by decide +kernel), List.mem_of_getElem? (i := 837) (by decide +kernel)⟩
theorem lw_p31 : lw_okq (⟨"BallTownModel", "isNumber", "(II)Z"⟩, 27) := ⟨⟨by decide +kernel, by decide +kernel⟩, List.mem_of_getElem? (i := 712) (by decide +kernel), List.mem_of_getElem? (i := 854) (by decide +kernel), List.mem_of_getElem? (i := 855) (by decide +kernel)⟩
def lw_privs_2 : List (MethodName × Nat) := [(⟨"BallTown$Turnings", "ringOf", "(II)I"⟩, 2), (⟨"BallTown$Walls", "findWardens", "()V"⟩, 9), (⟨"BallTown$Walls", "wardsAll", "(I)Z"⟩, 9), (⟨"BallTown$Walls", "openToAny", "(I)I"⟩, 9), (⟨"BallTown$Walls", "findRounds", "()V"⟩, 9), (⟨"BallTown$Walls", "endRound", "(I)V"⟩, 9), (⟨"BallTown$Shares", "setOut", "(I)V"⟩, 2), (⟨"BallTown$Shares", "giveAll", "(IJ)V"⟩, 2), (⟨"BallTown$Shares", "arrive", "()V"⟩, 2), (⟨"BallTown$Shares", "hereAt", "(I)J"⟩, 2), (⟨"BallTown", "taxOfAll", "()I"⟩, 8), (⟨"BallTownModel", "lay", "(II)V"⟩, 27), (⟨"BallTownModel", "isRead", "()Z"⟩, 27), (⟨"BallTownModel", "isLine", "(I)Z"⟩, 27), (⟨"BallTownModel", "nextToken", "()V"⟩, 27), (⟨"BallTownModel", "isNumber", "(II)Z"⟩, 27)]
theorem lw_r2 : ∀ q ∈ lw_privs_2, lw_okq q := List.forall_mem_cons.mpr ⟨lw_p16, List.forall_mem_cons.mpr ⟨lw_p17, List.forall_mem_cons.mpr ⟨lw_p18, List.forall_mem_cons.mpr ⟨lw_p19, List.forall_mem_cons.mpr ⟨lw_p20, List.forall_mem_cons.mpr ⟨lw_p21, List.forall_mem_cons.mpr ⟨lw_p22, List.forall_mem_cons.mpr ⟨lw_p23, List.forall_mem_cons.mpr ⟨lw_p24, List.forall_mem_cons.mpr ⟨lw_p25, List.forall_mem_cons.mpr ⟨lw_p26, List.forall_mem_cons.mpr ⟨lw_p27, List.forall_mem_cons.mpr ⟨lw_p28, List.forall_mem_cons.mpr ⟨lw_p29, List.forall_mem_cons.mpr ⟨lw_p30, List.forall_mem_cons.mpr ⟨lw_p31, fun _ h => absurd h List.not_mem_nil⟩⟩⟩⟩⟩⟩⟩⟩⟩⟩⟩⟩⟩⟩⟩⟩
theorem lw_p32 : lw_okq (⟨"BallTownModel", "fails", "()Z"⟩, 27) := ⟨⟨by decide +kernel, by decide +kernel⟩, List.mem_of_getElem? (i := 712) (by decide +kernel), List.mem_of_getElem? (i := 858) (by decide +kernel), List.mem_of_getElem? (i := 859) (by decide +kernel)⟩
theorem lw_p33 : lw_okq (⟨"BallTownModel", "arePair", "(I)Z"⟩, 27) := ⟨⟨by decide +kernel, by decide +kernel⟩, List.mem_of_getElem? (i := 712) (by decide +kernel), List.mem_of_getElem? (i := 862) (by decide +kernel), List.mem_of_getElem? (i := 863) (by decide +kernel)⟩
theorem lw_p34 : lw_okq (⟨"BallTownModel", "sideOf", "(II)I"⟩, 27) := ⟨⟨by decide +kernel, by decide +kernel⟩, List.mem_of_getElem? (i := 712) (by decide +kernel), List.mem_of_getElem? (i := 866) (by decide +kernel), List.mem_of_getElem? (i := 867) (by decide +kernel)⟩
theorem lw_p35 : lw_okq (⟨"BallTownModel", "doLine", "(I)V"⟩, 27) := ⟨⟨by decide +kernel, by decide +kernel⟩, List.mem_of_getElem? (i := 712) (by decide +kernel), List.mem_of_getElem? (i := 874) (by decide +kernel), List.mem_of_getElem? (i := 875) (by decide +kernel)⟩
theorem lw_p36 : lw_okq (⟨"BallTownModel", "farOf", "(II)I"⟩, 27) := ⟨⟨by decide +kernel, by decide +kernel⟩, List.mem_of_getElem? (i := 712) (by decide +kernel), List.mem_of_getElem? (i := 896) (by decide +kernel), List.mem_of_getElem? (i := 897) (by decide +kernel)⟩
theorem lw_p37 : lw_okq (⟨"BallTownModel", "layTurning", "(II)V"⟩, 27) := ⟨⟨by decide +kernel, by decide +kernel⟩, List.mem_of_getElem? (i := 712) (by decide +kernel), List.mem_of_getElem? (i := 911) (by decide +kernel), List.mem_of_getElem? (i := 912) (by decide +kernel)⟩
theorem lw_p38 : lw_okq (⟨"BallTownModel", "taxOf", "(I)I"⟩, 27) := ⟨⟨by decide +kernel, by decide +kernel⟩, List.mem_of_getElem? (i := 712) (by decide +kernel), List.mem_of_getElem? (i := 919) (by decide +kernel), List.mem_of_getElem? (i := 920) (by decide +kernel)⟩
theorem lw_p39 : lw_okq (⟨"BallTownModel", "openOfKind", "(II)I"⟩, 27) := ⟨⟨by decide +kernel, by decide +kernel⟩, List.mem_of_getElem? (i := 712) (by decide +kernel), List.mem_of_getElem? (i := 923) (by decide +kernel), List.mem_of_getElem? (i := 924) (by decide +kernel)⟩
theorem lw_p40 : lw_okq (⟨"BallTownModel", "openOf", "(I)I"⟩, 27) := ⟨⟨by decide +kernel, by decide +kernel⟩, List.mem_of_getElem? (i := 712) (by decide +kernel), List.mem_of_getElem? (i := 927) (by decide +kernel), List.mem_of_getElem? (i := 928) (by decide +kernel)⟩
theorem lw_p41 : lw_okq (⟨"BallTownModel", "fixedOf", "(III)J"⟩, 27) := ⟨⟨by decide +kernel, by decide +kernel⟩, List.mem_of_getElem? (i := 712) (by decide +kernel), List.mem_of_getElem? (i := 971) (by decide +kernel), List.mem_of_getElem? (i := 972) (by decide +kernel)⟩
theorem lw_p42 : lw_okq (⟨"BallTownModel", "insideOf", "(I)I"⟩, 27) := ⟨⟨by decide +kernel, by decide +kernel⟩, List.mem_of_getElem? (i := 712) (by decide +kernel), List.mem_of_getElem? (i := 991) (by decide +kernel), List.mem_of_getElem? (i := 992) (by decide +kernel)⟩
theorem lw_p43 : lw_okq (⟨"BallTownModel", "layRounds", "()I"⟩, 27) := ⟨⟨by decide +kernel, by decide +kernel⟩, List.mem_of_getElem? (i := 712) (by decide +kernel), List.mem_of_getElem? (i := 999) (by decide +kernel), List.mem_of_getElem? (i := 1000) (by decide +kernel)⟩
theorem lw_p44 : lw_okq (⟨"BallTownModel", "spread", "(IIZ)V"⟩, 27) := ⟨⟨by decide +kernel, by decide +kernel⟩, List.mem_of_getElem? (i := 712) (by decide +kernel), List.mem_of_getElem? (i := 1007) (by decide +kernel), List.mem_of_getElem? (i := 1008) (by decide +kernel)⟩
def lw_privs_3 : List (MethodName × Nat) := [(⟨"BallTownModel", "fails", "()Z"⟩, 27), (⟨"BallTownModel", "arePair", "(I)Z"⟩, 27), (⟨"BallTownModel", "sideOf", "(II)I"⟩, 27), (⟨"BallTownModel", "doLine", "(I)V"⟩, 27), (⟨"BallTownModel", "farOf", "(II)I"⟩, 27), (⟨"BallTownModel", "layTurning", "(II)V"⟩, 27), (⟨"BallTownModel", "taxOf", "(I)I"⟩, 27), (⟨"BallTownModel", "openOfKind", "(II)I"⟩, 27), (⟨"BallTownModel", "openOf", "(I)I"⟩, 27), (⟨"BallTownModel", "fixedOf", "(III)J"⟩, 27), (⟨"BallTownModel", "insideOf", "(I)I"⟩, 27), (⟨"BallTownModel", "layRounds", "()I"⟩, 27), (⟨"BallTownModel", "spread", "(IIZ)V"⟩, 27)]
theorem lw_r3 : ∀ q ∈ lw_privs_3, lw_okq q := List.forall_mem_cons.mpr ⟨lw_p32, List.forall_mem_cons.mpr ⟨lw_p33, List.forall_mem_cons.mpr ⟨lw_p34, List.forall_mem_cons.mpr ⟨lw_p35, List.forall_mem_cons.mpr ⟨lw_p36, List.forall_mem_cons.mpr ⟨lw_p37, List.forall_mem_cons.mpr ⟨lw_p38, List.forall_mem_cons.mpr ⟨lw_p39, List.forall_mem_cons.mpr ⟨lw_p40, List.forall_mem_cons.mpr ⟨lw_p41, List.forall_mem_cons.mpr ⟨lw_p42, List.forall_mem_cons.mpr ⟨lw_p43, List.forall_mem_cons.mpr ⟨lw_p44, fun _ h => absurd h List.not_mem_nil⟩⟩⟩⟩⟩⟩⟩⟩⟩⟩⟩⟩⟩
def lw_privs : List (MethodName × Nat) := lw_privs_1 ++ (lw_privs_2 ++ (lw_privs_3))
def lw_tbl : List Cond := k2_sels lw_privs ++ tables_1
theorem lw_privs_ok : ∀ q ∈ lw_privs, lw_okq q := by
  show ∀ q ∈ lw_privs_1 ++ (lw_privs_2 ++ (lw_privs_3)), lw_okq q
  exact List.forall_mem_append.mpr ⟨lw_r1, List.forall_mem_append.mpr ⟨lw_r2, lw_r3⟩⟩
-- ===== end of PART A; then your names; then what follows =====
end
section
/-! ===== BEGIN printed: names, fields, word lists, decode rows ===== -/
def RX0 : String := "BallTown$Ball"
def TX0 : u_T := fun k => match k with
  | _ => ("", "", "", false)
def tyX0 : Nat → FieldType := fun k => match k with
  | _ => .int
abbrev wsX00 : List Cond := u_ws RX0 TX0 0
theorem nmX0 : ∀ a, a < 0 → ∀ b, b < 0 → a ≠ b → (TX0 a).2.1 ≠ (TX0 b).2.1 := by decide +kernel
theorem tyX0_ok : ∀ k, k < 0 → parseFieldDescriptor (TX0 k).2.2.1 = some (tyX0 k) := by decide +kernel
abbrev cX0_isField : ByteArray := prog_2_method_2_code
def yX0_isField : MethodName := ⟨RX0, "isField", "(I)Z"⟩
abbrev cX0_isSide : ByteArray := prog_2_method_3_code
def yX0_isSide : MethodName := ⟨RX0, "isSide", "(I)Z"⟩
abbrev cX0_holds : ByteArray := prog_2_method_4_code
def yX0_holds : MethodName := ⟨RX0, "holds", "(II)Z"⟩
abbrev cX0_on : ByteArray := prog_2_method_5_code
def yX0_on : MethodName := ⟨RX0, "on", "(II)I"⟩
abbrev cX0_across : ByteArray := prog_2_method_6_code
def yX0_across : MethodName := ⟨RX0, "across", "(II)I"⟩
abbrev cX0_sideTo : ByteArray := prog_2_method_7_code
def yX0_sideTo : MethodName := ⟨RX0, "sideTo", "(II)I"⟩
abbrev cX0_allBeside : ByteArray := prog_2_method_8_code
def yX0_allBeside : MethodName := ⟨RX0, "allBeside", "(I)I"⟩
abbrev cX0_distance : ByteArray := prog_2_method_9_code
def yX0_distance : MethodName := ⟨RX0, "distance", "(II)I"⟩
abbrev cX0_withThoseBeside : ByteArray := prog_2_method_10_code
def yX0_withThoseBeside : MethodName := ⟨RX0, "withThoseBeside", "(I)I"⟩
abbrev cX0_opposite : ByteArray := prog_2_method_11_code
def yX0_opposite : MethodName := ⟨RX0, "opposite", "(I)I"⟩
def RX1 : String := "BallTown$Scene"
def TX1 : u_T := fun k => match k with
  | 0 => ("BallTown$Scene", "kinds", "[I", true)
  | 1 => ("BallTown$Scene", "turned", "[I", true)
  | 2 => ("BallTown$Scene", "place", "I", false)
  | 3 => ("BallTown$Scene", "entry", "I", false)
  | 4 => ("BallTown$Scene", "steps", "I", false)
  | _ => ("BallTown$Scene", "taken", "Z", false)
def tyX1 : Nat → FieldType := fun k => match k with
  | 0 => .array .int
  | 1 => .array .int
  | 2 => .int
  | 3 => .int
  | 4 => .int
  | _ => .boolean
abbrev wsX10 : List Cond := u_ws RX1 TX1 6
theorem nmX1 : ∀ a, a < 6 → ∀ b, b < 6 → a ≠ b → (TX1 a).2.1 ≠ (TX1 b).2.1 := by decide +kernel
theorem tyX1_ok : ∀ k, k < 6 → parseFieldDescriptor (TX1 k).2.2.1 = some (tyX1 k) := by decide +kernel
abbrev cX1_init : ByteArray := prog_3_method_1_code
def yX1_init : MethodName := ⟨RX1, "<init>", "()V"⟩
abbrev cX1_begin : ByteArray := prog_3_method_2_code
def yX1_begin : MethodName := ⟨RX1, "begin", "()V"⟩
abbrev cX1_take : ByteArray := prog_3_method_3_code
def yX1_take : MethodName := ⟨RX1, "take", "(LBallTown$Scene;)V"⟩
abbrev cX1_forget : ByteArray := prog_3_method_4_code
def yX1_forget : MethodName := ⟨RX1, "forget", "()V"⟩
abbrev cX1_isTaken : ByteArray := prog_3_method_5_code
def yX1_isTaken : MethodName := ⟨RX1, "isTaken", "()Z"⟩
abbrev cX1_kindOf : ByteArray := prog_3_method_6_code
def yX1_kindOf : MethodName := ⟨RX1, "kindOf", "(I)I"⟩
abbrev cX1_allOfKind : ByteArray := prog_3_method_7_code
def yX1_allOfKind : MethodName := ⟨RX1, "allOfKind", "(I)I"⟩
abbrev cX1_plant : ByteArray := prog_3_method_8_code
def yX1_plant : MethodName := ⟨RX1, "plant", "(II)V"⟩
abbrev cX1_turn : ByteArray := prog_3_method_9_code
def yX1_turn : MethodName := ⟨RX1, "turn", "(LBallTown$Turnings;I)I"⟩
abbrev cX1_stand : ByteArray := prog_3_method_10_code
def yX1_stand : MethodName := ⟨RX1, "stand", "(II)V"⟩
abbrev cX1_move : ByteArray := prog_3_method_11_code
def yX1_move : MethodName := ⟨RX1, "move", "(II)V"⟩
abbrev cX1_place : ByteArray := prog_3_method_12_code
def yX1_place : MethodName := ⟨RX1, "place", "()I"⟩
abbrev cX1_entry : ByteArray := prog_3_method_13_code
def yX1_entry : MethodName := ⟨RX1, "entry", "()I"⟩
abbrev cX1_steps : ByteArray := prog_3_method_14_code
def yX1_steps : MethodName := ⟨RX1, "steps", "()I"⟩
def RX2 : String := "BallTown$Shares"
def TX2 : u_T := fun k => match k with
  | 0 => ("BallTown$Shares", "here", "[J", true)
  | _ => ("BallTown$Shares", "then", "[J", true)
def tyX2 : Nat → FieldType := fun k => match k with
  | 0 => .array .long
  | _ => .array .long
abbrev wsX20 : List Cond := u_ws RX2 TX2 2
theorem nmX2 : ∀ a, a < 2 → ∀ b, b < 2 → a ≠ b → (TX2 a).2.1 ≠ (TX2 b).2.1 := by decide +kernel
theorem tyX2_ok : ∀ k, k < 2 → parseFieldDescriptor (TX2 k).2.2.1 = some (tyX2 k) := by decide +kernel
abbrev cX2_init : ByteArray := prog_4_method_1_code
def yX2_init : MethodName := ⟨RX2, "<init>", "()V"⟩
abbrev cX2_walkCount : ByteArray := prog_4_method_2_code
def yX2_walkCount : MethodName := ⟨RX2, "walkCount", "(LBallTown$Walls;III)J"⟩
abbrev cX2_oddsPart : ByteArray := prog_4_method_3_code
def yX2_oddsPart : MethodName := ⟨RX2, "oddsPart", "(LBallTown$Walls;IIII)J"⟩
abbrev cX2_sharesOf : ByteArray := prog_4_method_4_code
def yX2_sharesOf : MethodName := ⟨RX2, "sharesOf", "(I)I"⟩
abbrev cX2_setOut : ByteArray := prog_4_method_5_code
def yX2_setOut : MethodName := ⟨RX2, "setOut", "(I)V"⟩
abbrev cX2_giveAll : ByteArray := prog_4_method_6_code
def yX2_giveAll : MethodName := ⟨RX2, "giveAll", "(IJ)V"⟩
abbrev cX2_arrive : ByteArray := prog_4_method_7_code
def yX2_arrive : MethodName := ⟨RX2, "arrive", "()V"⟩
abbrev cX2_hereAt : ByteArray := prog_4_method_8_code
def yX2_hereAt : MethodName := ⟨RX2, "hereAt", "(I)J"⟩
abbrev cX2_commonDivisor : ByteArray := prog_4_method_9_code
def yX2_commonDivisor : MethodName := ⟨RX2, "commonDivisor", "(JJ)J"⟩
def RX3 : String := "BallTown$Text"
def TX3 : u_T := fun k => match k with
  | 0 => ("BallTown$Text", "signs", "[I", true)
  | 1 => ("BallTown$Text", "length", "I", false)
  | 2 => ("BallTown$Text", "tokenStart", "I", false)
  | 3 => ("BallTown$Text", "tokenEnd", "I", false)
  | 4 => ("BallTown$Text", "words", "[I", true)
  | 5 => ("BallTown$Text", "firsts", "[I", true)
  | 6 => ("BallTown$Text", "seconds", "[I", true)
  | _ => ("BallTown$Text", "lineCount", "I", false)
def tyX3 : Nat → FieldType := fun k => match k with
  | 0 => .array .int
  | 1 => .int
  | 2 => .int
  | 3 => .int
  | 4 => .array .int
  | 5 => .array .int
  | 6 => .array .int
  | _ => .int
abbrev wsX30 : List Cond := u_ws RX3 TX3 8
theorem nmX3 : ∀ a, a < 8 → ∀ b, b < 8 → a ≠ b → (TX3 a).2.1 ≠ (TX3 b).2.1 := by decide +kernel
theorem tyX3_ok : ∀ k, k < 8 → parseFieldDescriptor (TX3 k).2.2.1 = some (tyX3 k) := by decide +kernel
abbrev cX3_init : ByteArray := prog_5_method_1_code
def yX3_init : MethodName := ⟨RX3, "<init>", "()V"⟩
abbrev cX3_length : ByteArray := prog_5_method_2_code
def yX3_length : MethodName := ⟨RX3, "length", "()I"⟩
abbrev cX3_hasRoomFor : ByteArray := prog_5_method_3_code
def yX3_hasRoomFor : MethodName := ⟨RX3, "hasRoomFor", "(I)Z"⟩
abbrev cX3_append : ByteArray := prog_5_method_4_code
def yX3_append : MethodName := ⟨RX3, "append", "(JI)I"⟩
abbrev cX3_clear : ByteArray := prog_5_method_5_code
def yX3_clear : MethodName := ⟨RX3, "clear", "()I"⟩
abbrev cX3_lineCount : ByteArray := prog_5_method_6_code
def yX3_lineCount : MethodName := ⟨RX3, "lineCount", "()I"⟩
abbrev cX3_wordOf : ByteArray := prog_5_method_7_code
def yX3_wordOf : MethodName := ⟨RX3, "wordOf", "(I)I"⟩
abbrev cX3_firstOf : ByteArray := prog_5_method_8_code
def yX3_firstOf : MethodName := ⟨RX3, "firstOf", "(I)I"⟩
abbrev cX3_secondOf : ByteArray := prog_5_method_9_code
def yX3_secondOf : MethodName := ⟨RX3, "secondOf", "(I)I"⟩
abbrev cX3_inLine : ByteArray := prog_5_method_10_code
def yX3_inLine : MethodName := ⟨RX3, "inLine", "([II)I"⟩
abbrev cX3_read : ByteArray := prog_5_method_11_code
def yX3_read : MethodName := ⟨RX3, "read", "()I"⟩
abbrev cX3_readLine : ByteArray := prog_5_method_12_code
def yX3_readLine : MethodName := ⟨RX3, "readLine", "(I)Z"⟩
abbrev cX3_setLine : ByteArray := prog_5_method_13_code
def yX3_setLine : MethodName := ⟨RX3, "setLine", "(IIII)V"⟩
abbrev cX3_nextToken : ByteArray := prog_5_method_14_code
def yX3_nextToken : MethodName := ⟨RX3, "nextToken", "()V"⟩
abbrev cX3_signAt : ByteArray := prog_5_method_15_code
def yX3_signAt : MethodName := ⟨RX3, "signAt", "(I)I"⟩
abbrev cX3_sortOf : ByteArray := prog_5_method_16_code
def yX3_sortOf : MethodName := ⟨RX3, "sortOf", "(I)I"⟩
abbrev cX3_wordHere : ByteArray := prog_5_method_17_code
def yX3_wordHere : MethodName := ⟨RX3, "wordHere", "()I"⟩
abbrev cX3_spells : ByteArray := prog_5_method_18_code
def yX3_spells : MethodName := ⟨RX3, "spells", "(Ljava/lang/String;)Z"⟩
abbrev cX3_nextNumber : ByteArray := prog_5_method_19_code
def yX3_nextNumber : MethodName := ⟨RX3, "nextNumber", "(I)I"⟩
def RX4 : String := "BallTown$Turnings"
def TX4 : u_T := fun k => match k with
  | 0 => ("BallTown$Turnings", "goals", "[I", true)
  | _ => ("BallTown$Turnings", "ahead", "[I", true)
def tyX4 : Nat → FieldType := fun k => match k with
  | 0 => .array .int
  | _ => .array .int
abbrev wsX40 : List Cond := u_ws RX4 TX4 2
theorem nmX4 : ∀ a, a < 2 → ∀ b, b < 2 → a ≠ b → (TX4 a).2.1 ≠ (TX4 b).2.1 := by decide +kernel
theorem tyX4_ok : ∀ k, k < 2 → parseFieldDescriptor (TX4 k).2.2.1 = some (tyX4 k) := by decide +kernel
abbrev cX4_init : ByteArray := prog_6_method_1_code
def yX4_init : MethodName := ⟨RX4, "<init>", "()V"⟩
abbrev cX4_number : ByteArray := prog_6_method_2_code
def yX4_number : MethodName := ⟨RX4, "number", "(II)I"⟩
abbrev cX4_lay : ByteArray := prog_6_method_3_code
def yX4_lay : MethodName := ⟨RX4, "lay", "(II)V"⟩
abbrev cX4_setGoal : ByteArray := prog_6_method_4_code
def yX4_setGoal : MethodName := ⟨RX4, "setGoal", "(III)V"⟩
abbrev cX4_isTurning : ByteArray := prog_6_method_5_code
def yX4_isTurning : MethodName := ⟨RX4, "isTurning", "(I)Z"⟩
abbrev cX4_goal : ByteArray := prog_6_method_6_code
def yX4_goal : MethodName := ⟨RX4, "goal", "(II)I"⟩
abbrev cX4_bringing : ByteArray := prog_6_method_7_code
def yX4_bringing : MethodName := ⟨RX4, "bringing", "(LBallTown$Scene;LBallTown$Scene;)I"⟩
abbrev cX4_brings : ByteArray := prog_6_method_8_code
def yX4_brings : MethodName := ⟨RX4, "brings", "(ILBallTown$Scene;LBallTown$Scene;)Z"⟩
abbrev cX4_fixedWays : ByteArray := prog_6_method_9_code
def yX4_fixedWays : MethodName := ⟨RX4, "fixedWays", "(II)J"⟩
abbrev cX4_ringOf : ByteArray := prog_6_method_10_code
def yX4_ringOf : MethodName := ⟨RX4, "ringOf", "(II)I"⟩
abbrev cX4_unlikeWays : ByteArray := prog_6_method_11_code
def yX4_unlikeWays : MethodName := ⟨RX4, "unlikeWays", "(I)J"⟩
def RX5 : String := "BallTown$Walls"
def TX5 : u_T := fun k => match k with
  | 0 => ("BallTown$Walls", "open", "[I", true)
  | 1 => ("BallTown$Walls", "row", "[I", true)
  | 2 => ("BallTown$Walls", "firstRound", "[I", true)
  | 3 => ("BallTown$Walls", "roundCount", "I", false)
  | 4 => ("BallTown$Walls", "wardenCount", "I", false)
  | 5 => ("BallTown$Walls", "wardenSet", "I", false)
  | 6 => ("BallTown$Walls", "wardenSets", "I", false)
  | 7 => ("BallTown$Walls", "roundsFound", "Z", false)
  | _ => ("BallTown$Walls", "wardensFound", "Z", false)
def tyX5 : Nat → FieldType := fun k => match k with
  | 0 => .array .int
  | 1 => .array .int
  | 2 => .array .int
  | 3 => .int
  | 4 => .int
  | 5 => .int
  | 6 => .int
  | 7 => .boolean
  | _ => .boolean
abbrev wsX50 : List Cond := u_ws RX5 TX5 9
theorem nmX5 : ∀ a, a < 9 → ∀ b, b < 9 → a ≠ b → (TX5 a).2.1 ≠ (TX5 b).2.1 := by decide +kernel
theorem tyX5_ok : ∀ k, k < 9 → parseFieldDescriptor (TX5 k).2.2.1 = some (tyX5 k) := by decide +kernel
abbrev cX5_init : ByteArray := prog_7_method_1_code
def yX5_init : MethodName := ⟨RX5, "<init>", "()V"⟩
abbrev cX5_clear : ByteArray := prog_7_method_2_code
def yX5_clear : MethodName := ⟨RX5, "clear", "()V"⟩
abbrev cX5_forgetFound : ByteArray := prog_7_method_3_code
def yX5_forgetFound : MethodName := ⟨RX5, "forgetFound", "()V"⟩
abbrev cX5_openTo : ByteArray := prog_7_method_4_code
def yX5_openTo : MethodName := ⟨RX5, "openTo", "(I)I"⟩
abbrev cX5_close : ByteArray := prog_7_method_5_code
def yX5_close : MethodName := ⟨RX5, "close", "(II)V"⟩
abbrev cX5_open : ByteArray := prog_7_method_6_code
def yX5_open : MethodName := ⟨RX5, "open", "(II)V"⟩
abbrev cX5_setOpen : ByteArray := prog_7_method_7_code
def yX5_setOpen : MethodName := ⟨RX5, "setOpen", "(II)V"⟩
abbrev cX5_through : ByteArray := prog_7_method_8_code
def yX5_through : MethodName := ⟨RX5, "through", "(II)I"⟩
abbrev cX5_sidesClosed : ByteArray := prog_7_method_9_code
def yX5_sidesClosed : MethodName := ⟨RX5, "sidesClosed", "(I)I"⟩
abbrev cX5_wallCount : ByteArray := prog_7_method_10_code
def yX5_wallCount : MethodName := ⟨RX5, "wallCount", "()I"⟩
abbrev cX5_insideOf : ByteArray := prog_7_method_11_code
def yX5_insideOf : MethodName := ⟨RX5, "insideOf", "(I)I"⟩
abbrev cX5_openToAny : ByteArray := prog_7_method_12_code
def yX5_openToAny : MethodName := ⟨RX5, "openToAny", "(I)I"⟩
abbrev cX5_insideCount : ByteArray := prog_7_method_13_code
def yX5_insideCount : MethodName := ⟨RX5, "insideCount", "()I"⟩
abbrev cX5_wardenCount : ByteArray := prog_7_method_14_code
def yX5_wardenCount : MethodName := ⟨RX5, "wardenCount", "()I"⟩
abbrev cX5_wardenSet : ByteArray := prog_7_method_15_code
def yX5_wardenSet : MethodName := ⟨RX5, "wardenSet", "()I"⟩
abbrev cX5_wardenSets : ByteArray := prog_7_method_16_code
def yX5_wardenSets : MethodName := ⟨RX5, "wardenSets", "()I"⟩
abbrev cX5_findWardens : ByteArray := prog_7_method_17_code
def yX5_findWardens : MethodName := ⟨RX5, "findWardens", "()V"⟩
abbrev cX5_wardsAll : ByteArray := prog_7_method_18_code
def yX5_wardsAll : MethodName := ⟨RX5, "wardsAll", "(I)Z"⟩
abbrev cX5_roundCount : ByteArray := prog_7_method_19_code
def yX5_roundCount : MethodName := ⟨RX5, "roundCount", "()I"⟩
abbrev cX5_inFirstRound : ByteArray := prog_7_method_20_code
def yX5_inFirstRound : MethodName := ⟨RX5, "inFirstRound", "(I)I"⟩
abbrev cX5_findRounds : ByteArray := prog_7_method_21_code
def yX5_findRounds : MethodName := ⟨RX5, "findRounds", "()V"⟩
abbrev cX5_goRound : ByteArray := prog_7_method_22_code
def yX5_goRound : MethodName := ⟨RX5, "goRound", "(LBallTown$Walls;III)V"⟩
abbrev cX5_endRound : ByteArray := prog_7_method_23_code
def yX5_endRound : MethodName := ⟨RX5, "endRound", "(I)V"⟩
def RX6 : String := "BallTown"
def TX6 : u_T := fun k => match k with
  | 0 => ("BallTown", "text", "LBallTown$Text;", true)
  | 1 => ("BallTown", "turnings", "LBallTown$Turnings;", true)
  | 2 => ("BallTown", "walls", "LBallTown$Walls;", true)
  | 3 => ("BallTown", "shares", "LBallTown$Shares;", true)
  | 4 => ("BallTown", "told", "LBallTown$Scene;", true)
  | 5 => ("BallTown", "now", "LBallTown$Scene;", true)
  | 6 => ("BallTown", "firstKept", "LBallTown$Scene;", true)
  | _ => ("BallTown", "secondKept", "LBallTown$Scene;", true)
def tyX6 : Nat → FieldType := fun k => match k with
  | 0 => .object "BallTown$Text"
  | 1 => .object "BallTown$Turnings"
  | 2 => .object "BallTown$Walls"
  | 3 => .object "BallTown$Shares"
  | 4 => .object "BallTown$Scene"
  | 5 => .object "BallTown$Scene"
  | 6 => .object "BallTown$Scene"
  | _ => .object "BallTown$Scene"
abbrev wsX60 : List Cond := u_ws RX6 TX6 8
theorem nmX6 : ∀ a, a < 8 → ∀ b, b < 8 → a ≠ b → (TX6 a).2.1 ≠ (TX6 b).2.1 := by decide +kernel
theorem tyX6_ok : ∀ k, k < 8 → parseFieldDescriptor (TX6 k).2.2.1 = some (tyX6 k) := by decide +kernel
abbrev cX6_init : ByteArray := prog_1_method_1_code
def yX6_init : MethodName := ⟨RX6, "<init>", "()V"⟩
abbrev cX6_write : ByteArray := prog_1_method_2_code
def yX6_write : MethodName := ⟨RX6, "write", "(JI)I"⟩
abbrev cX6_erase : ByteArray := prog_1_method_3_code
def yX6_erase : MethodName := ⟨RX6, "erase", "()I"⟩
abbrev cX6_fault : ByteArray := prog_1_method_4_code
def yX6_fault : MethodName := ⟨RX6, "fault", "()I"⟩
abbrev cX6_town : ByteArray := prog_1_method_5_code
def yX6_town : MethodName := ⟨RX6, "town", "()I"⟩
abbrev cX6_doLine : ByteArray := prog_1_method_6_code
def yX6_doLine : MethodName := ⟨RX6, "doLine", "(III)V"⟩
abbrev cX6_beside : ByteArray := prog_1_method_7_code
def yX6_beside : MethodName := ⟨RX6, "beside", "(II)I"⟩
abbrev cX6_side : ByteArray := prog_1_method_8_code
def yX6_side : MethodName := ⟨RX6, "side", "(II)I"⟩
abbrev cX6_far : ByteArray := prog_1_method_9_code
def yX6_far : MethodName := ⟨RX6, "far", "(II)I"⟩
abbrev cX6_other : ByteArray := prog_1_method_10_code
def yX6_other : MethodName := ⟨RX6, "other", "(I)I"⟩
abbrev cX6_goes : ByteArray := prog_1_method_11_code
def yX6_goes : MethodName := ⟨RX6, "goes", "(III)I"⟩
abbrev cX6_field : ByteArray := prog_1_method_12_code
def yX6_field : MethodName := ⟨RX6, "field", "(II)I"⟩
abbrev cX6_as : ByteArray := prog_1_method_13_code
def yX6_as : MethodName := ⟨RX6, "as", "(II)I"⟩
abbrev cX6_isSuch : ByteArray := prog_1_method_14_code
def yX6_isSuch : MethodName := ⟨RX6, "isSuch", "(II)Z"⟩
abbrev cX6_taxOf : ByteArray := prog_1_method_15_code
def yX6_taxOf : MethodName := ⟨RX6, "taxOf", "(I)I"⟩
abbrev cX6_openOfKind : ByteArray := prog_1_method_16_code
def yX6_openOfKind : MethodName := ⟨RX6, "openOfKind", "(II)I"⟩
abbrev cX6_rotate : ByteArray := prog_1_method_17_code
def yX6_rotate : MethodName := ⟨RX6, "rotate", "(II)I"⟩
abbrev cX6_step : ByteArray := prog_1_method_18_code
def yX6_step : MethodName := ⟨RX6, "step", "(I)I"⟩
abbrev cX6_walker : ByteArray := prog_1_method_19_code
def yX6_walker : MethodName := ⟨RX6, "walker", "(I)I"⟩
abbrev cX6_keep : ByteArray := prog_1_method_20_code
def yX6_keep : MethodName := ⟨RX6, "keep", "(I)I"⟩
abbrev cX6_back : ByteArray := prog_1_method_21_code
def yX6_back : MethodName := ⟨RX6, "back", "(I)I"⟩
abbrev cX6_keptAt : ByteArray := prog_1_method_22_code
def yX6_keptAt : MethodName := ⟨RX6, "keptAt", "(I)LBallTown$Scene;"⟩
abbrev cX6_home : ByteArray := prog_1_method_23_code
def yX6_home : MethodName := ⟨RX6, "home", "(I)I"⟩
abbrev cX6_alike : ByteArray := prog_1_method_24_code
def yX6_alike : MethodName := ⟨RX6, "alike", "()I"⟩
abbrev cX6_like : ByteArray := prog_1_method_25_code
def yX6_like : MethodName := ⟨RX6, "like", "(I)I"⟩
abbrev cX6_fixed : ByteArray := prog_1_method_26_code
def yX6_fixed : MethodName := ⟨RX6, "fixed", "(III)J"⟩
abbrev cX6_unlike : ByteArray := prog_1_method_27_code
def yX6_unlike : MethodName := ⟨RX6, "unlike", "(I)J"⟩
abbrev cX6_wardens : ByteArray := prog_1_method_28_code
def yX6_wardens : MethodName := ⟨RX6, "wardens", "(I)I"⟩
abbrev cX6_inside : ByteArray := prog_1_method_29_code
def yX6_inside : MethodName := ⟨RX6, "inside", "(I)I"⟩
abbrev cX6_rounds : ByteArray := prog_1_method_30_code
def yX6_rounds : MethodName := ⟨RX6, "rounds", "(I)I"⟩
abbrev cX6_walks : ByteArray := prog_1_method_31_code
def yX6_walks : MethodName := ⟨RX6, "walks", "(III)J"⟩
abbrev cX6_odds : ByteArray := prog_1_method_32_code
def yX6_odds : MethodName := ⟨RX6, "odds", "(IIII)J"⟩
abbrev cX6_count : ByteArray := prog_1_method_33_code
def yX6_count : MethodName := ⟨RX6, "count", "(I)I"⟩
abbrev cX6_taxOfAll : ByteArray := prog_1_method_34_code
def yX6_taxOfAll : MethodName := ⟨RX6, "taxOfAll", "()I"⟩
def RX7 : String := "BallTownModel"
def TX7 : u_T := fun k => match k with
  | 0 => ("BallTownModel", "ball", "[I", true)
  | 1 => ("BallTownModel", "wall", "[Z", true)
  | 2 => ("BallTownModel", "told", "[I", true)
  | 3 => ("BallTownModel", "kind", "[I", true)
  | 4 => ("BallTownModel", "toldField", "I", false)
  | 5 => ("BallTownModel", "toldSide", "I", false)
  | 6 => ("BallTownModel", "field", "I", false)
  | 7 => ("BallTownModel", "side", "I", false)
  | 8 => ("BallTownModel", "steps", "I", false)
  | 9 => ("BallTownModel", "bytes", "I", false)
  | 10 => ("BallTownModel", "text", "[I", true)
  | 11 => ("BallTownModel", "position", "I", false)
  | 12 => ("BallTownModel", "tokenAt", "I", false)
  | 13 => ("BallTownModel", "token", "J", false)
  | 14 => ("BallTownModel", "digits", "I", false)
  | 15 => ("BallTownModel", "number", "I", false)
  | 16 => ("BallTownModel", "faultAt", "I", false)
  | 17 => ("BallTownModel", "readMany", "I", false)
  | 18 => ("BallTownModel", "read", "[I", true)
  | 19 => ("BallTownModel", "image", "[I", true)
  | 20 => ("BallTownModel", "isKept", "[Z", true)
  | 21 => ("BallTownModel", "to", "[I", true)
  | 22 => ("BallTownModel", "on", "[I", true)
  | 23 => ("BallTownModel", "row", "[I", true)
  | 24 => ("BallTownModel", "now", "[J", true)
  | 25 => ("BallTownModel", "then", "[J", true)
  | _ => ("BallTownModel", "first", "[I", true)
def tyX7 : Nat → FieldType := fun k => match k with
  | 0 => .array .int
  | 1 => .array .boolean
  | 2 => .array .int
  | 3 => .array .int
  | 4 => .int
  | 5 => .int
  | 6 => .int
  | 7 => .int
  | 8 => .int
  | 9 => .int
  | 10 => .array .int
  | 11 => .int
  | 12 => .int
  | 13 => .long
  | 14 => .int
  | 15 => .int
  | 16 => .int
  | 17 => .int
  | 18 => .array .int
  | 19 => .array .int
  | 20 => .array .boolean
  | 21 => .array .int
  | 22 => .array .int
  | 23 => .array .int
  | 24 => .array .long
  | 25 => .array .long
  | _ => .array .int
abbrev wsX70 : List Cond := u_ws RX7 TX7 27
theorem nmX7 : ∀ a, a < 27 → ∀ b, b < 27 → a ≠ b → (TX7 a).2.1 ≠ (TX7 b).2.1 := by decide +kernel
theorem tyX7_ok : ∀ k, k < 27 → parseFieldDescriptor (TX7 k).2.2.1 = some (tyX7 k) := by decide +kernel
abbrev cX7_init : ByteArray := prog_9_method_1_code
def yX7_init : MethodName := ⟨RX7, "<init>", "()V"⟩
abbrev cX7_lay : ByteArray := prog_9_method_2_code
def yX7_lay : MethodName := ⟨RX7, "lay", "(II)V"⟩
abbrev cX7_in : ByteArray := prog_9_method_3_code
def yX7_in : MethodName := ⟨RX7, "in", "(III)Z"⟩
abbrev cX7_has : ByteArray := prog_9_method_4_code
def yX7_has : MethodName := ⟨RX7, "has", "(II)Z"⟩
abbrev cX7_isField : ByteArray := prog_9_method_5_code
def yX7_isField : MethodName := ⟨RX7, "isField", "(I)Z"⟩
abbrev cX7_isSide : ByteArray := prog_9_method_6_code
def yX7_isSide : MethodName := ⟨RX7, "isSide", "(I)Z"⟩
abbrev cX7_sideOf : ByteArray := prog_9_method_7_code
def yX7_sideOf : MethodName := ⟨RX7, "sideOf", "(II)I"⟩
abbrev cX7_write : ByteArray := prog_9_method_8_code
def yX7_write : MethodName := ⟨RX7, "write", "(JI)I"⟩
abbrev cX7_erase : ByteArray := prog_9_method_9_code
def yX7_erase : MethodName := ⟨RX7, "erase", "()I"⟩
abbrev cX7_nextToken : ByteArray := prog_9_method_10_code
def yX7_nextToken : MethodName := ⟨RX7, "nextToken", "()V"⟩
abbrev cX7_fails : ByteArray := prog_9_method_11_code
def yX7_fails : MethodName := ⟨RX7, "fails", "()Z"⟩
abbrev cX7_isNumber : ByteArray := prog_9_method_12_code
def yX7_isNumber : MethodName := ⟨RX7, "isNumber", "(II)Z"⟩
abbrev cX7_arePair : ByteArray := prog_9_method_13_code
def yX7_arePair : MethodName := ⟨RX7, "arePair", "(I)Z"⟩
abbrev cX7_isLine : ByteArray := prog_9_method_14_code
def yX7_isLine : MethodName := ⟨RX7, "isLine", "(I)Z"⟩
abbrev cX7_isRead : ByteArray := prog_9_method_15_code
def yX7_isRead : MethodName := ⟨RX7, "isRead", "()Z"⟩
abbrev cX7_fault : ByteArray := prog_9_method_16_code
def yX7_fault : MethodName := ⟨RX7, "fault", "()I"⟩
abbrev cX7_doLine : ByteArray := prog_9_method_17_code
def yX7_doLine : MethodName := ⟨RX7, "doLine", "(I)V"⟩
abbrev cX7_town : ByteArray := prog_9_method_18_code
def yX7_town : MethodName := ⟨RX7, "town", "()I"⟩
abbrev cX7_beside : ByteArray := prog_9_method_19_code
def yX7_beside : MethodName := ⟨RX7, "beside", "(II)I"⟩
abbrev cX7_side : ByteArray := prog_9_method_20_code
def yX7_side : MethodName := ⟨RX7, "side", "(II)I"⟩
abbrev cX7_farOf : ByteArray := prog_9_method_21_code
def yX7_farOf : MethodName := ⟨RX7, "farOf", "(II)I"⟩
abbrev cX7_far : ByteArray := prog_9_method_22_code
def yX7_far : MethodName := ⟨RX7, "far", "(II)I"⟩
abbrev cX7_other : ByteArray := prog_9_method_23_code
def yX7_other : MethodName := ⟨RX7, "other", "(I)I"⟩
abbrev cX7_layTurning : ByteArray := prog_9_method_24_code
def yX7_layTurning : MethodName := ⟨RX7, "layTurning", "(II)V"⟩
abbrev cX7_goes : ByteArray := prog_9_method_25_code
def yX7_goes : MethodName := ⟨RX7, "goes", "(III)I"⟩
abbrev cX7_openOf : ByteArray := prog_9_method_26_code
def yX7_openOf : MethodName := ⟨RX7, "openOf", "(I)I"⟩
abbrev cX7_openOfKind : ByteArray := prog_9_method_27_code
def yX7_openOfKind : MethodName := ⟨RX7, "openOfKind", "(II)I"⟩
abbrev cX7_taxOf : ByteArray := prog_9_method_28_code
def yX7_taxOf : MethodName := ⟨RX7, "taxOf", "(I)I"⟩
abbrev cX7_field : ByteArray := prog_9_method_29_code
def yX7_field : MethodName := ⟨RX7, "field", "(II)I"⟩
abbrev cX7_as : ByteArray := prog_9_method_30_code
def yX7_as : MethodName := ⟨RX7, "as", "(II)I"⟩
abbrev cX7_rotate : ByteArray := prog_9_method_31_code
def yX7_rotate : MethodName := ⟨RX7, "rotate", "(II)I"⟩
abbrev cX7_step : ByteArray := prog_9_method_32_code
def yX7_step : MethodName := ⟨RX7, "step", "(I)I"⟩
abbrev cX7_walker : ByteArray := prog_9_method_33_code
def yX7_walker : MethodName := ⟨RX7, "walker", "(I)I"⟩
abbrev cX7_keep : ByteArray := prog_9_method_34_code
def yX7_keep : MethodName := ⟨RX7, "keep", "(I)I"⟩
abbrev cX7_back : ByteArray := prog_9_method_35_code
def yX7_back : MethodName := ⟨RX7, "back", "(I)I"⟩
abbrev cX7_home : ByteArray := prog_9_method_36_code
def yX7_home : MethodName := ⟨RX7, "home", "(I)I"⟩
abbrev cX7_alike : ByteArray := prog_9_method_37_code
def yX7_alike : MethodName := ⟨RX7, "alike", "()I"⟩
abbrev cX7_like : ByteArray := prog_9_method_38_code
def yX7_like : MethodName := ⟨RX7, "like", "(I)I"⟩
abbrev cX7_fixedOf : ByteArray := prog_9_method_39_code
def yX7_fixedOf : MethodName := ⟨RX7, "fixedOf", "(III)J"⟩
abbrev cX7_fixed : ByteArray := prog_9_method_40_code
def yX7_fixed : MethodName := ⟨RX7, "fixed", "(III)J"⟩
abbrev cX7_unlike : ByteArray := prog_9_method_41_code
def yX7_unlike : MethodName := ⟨RX7, "unlike", "(I)J"⟩
abbrev cX7_bits : ByteArray := prog_9_method_42_code
def yX7_bits : MethodName := ⟨RX7, "bits", "(I)I"⟩
abbrev cX7_wardens : ByteArray := prog_9_method_43_code
def yX7_wardens : MethodName := ⟨RX7, "wardens", "(I)I"⟩
abbrev cX7_insideOf : ByteArray := prog_9_method_44_code
def yX7_insideOf : MethodName := ⟨RX7, "insideOf", "(I)I"⟩
abbrev cX7_inside : ByteArray := prog_9_method_45_code
def yX7_inside : MethodName := ⟨RX7, "inside", "(I)I"⟩
abbrev cX7_layRounds : ByteArray := prog_9_method_46_code
def yX7_layRounds : MethodName := ⟨RX7, "layRounds", "()I"⟩
abbrev cX7_rounds : ByteArray := prog_9_method_47_code
def yX7_rounds : MethodName := ⟨RX7, "rounds", "(I)I"⟩
abbrev cX7_walks : ByteArray := prog_9_method_48_code
def yX7_walks : MethodName := ⟨RX7, "walks", "(III)J"⟩
abbrev cX7_spread : ByteArray := prog_9_method_49_code
def yX7_spread : MethodName := ⟨RX7, "spread", "(IIZ)V"⟩
abbrev cX7_odds : ByteArray := prog_9_method_50_code
def yX7_odds : MethodName := ⟨RX7, "odds", "(IIII)J"⟩
abbrev cX7_count : ByteArray := prog_9_method_51_code
def yX7_count : MethodName := ⟨RX7, "count", "(I)I"⟩
def RJ6 : String := "java/lang/Integer"
def TJ6 : u_T := fun k => match k with
  | _ => ("", "", "", false)
def tyJ6 : Nat → FieldType := fun k => match k with
  | _ => .int
theorem nmJ6 : ∀ a, a < 0 → ∀ b, b < 0 → a ≠ b → (TJ6 a).2.1 ≠ (TJ6 b).2.1 := by decide +kernel
theorem tyJ6_ok : ∀ k, k < 0 → parseFieldDescriptor (TJ6 k).2.2.1 = some (tyJ6 k) := by decide +kernel
abbrev cJ6_bitCount_0f7a4 : ByteArray := prog_10_method_49_code
def yJ6_bitCount_0f7a4 : MethodName := ⟨RJ6, "bitCount", "(I)I"⟩
def RJ9 : String := "java/lang/Math"
def TJ9 : u_T := fun k => match k with
  | _ => ("", "", "", false)
def tyJ9 : Nat → FieldType := fun k => match k with
  | _ => .int
theorem nmJ9 : ∀ a, a < 0 → ∀ b, b < 0 → a ≠ b → (TJ9 a).2.1 ≠ (TJ9 b).2.1 := by decide +kernel
theorem tyJ9_ok : ∀ k, k < 0 → parseFieldDescriptor (TJ9 k).2.2.1 = some (tyJ9 k) := by decide +kernel
abbrev cJ9_floorMod_7cf53 : ByteArray := prog_11_method_50_code
def yJ9_floorMod_7cf53 : MethodName := ⟨RJ9, "floorMod", "(II)I"⟩
abbrev cJ9_max_7cf53 : ByteArray := prog_11_method_65_code
def yJ9_max_7cf53 : MethodName := ⟨RJ9, "max", "(II)I"⟩
def RJ0 : String := "java/lang/String"
def TJ0 : u_T := fun k => match k with
  | _ => ("", "", "", false)
def tyJ0 : Nat → FieldType := fun k => match k with
  | _ => .int
theorem nmJ0 : ∀ a, a < 0 → ∀ b, b < 0 → a ≠ b → (TJ0 a).2.1 ≠ (TJ0 b).2.1 := by decide +kernel
theorem tyJ0_ok : ∀ k, k < 0 → parseFieldDescriptor (TJ0 k).2.2.1 = some (tyJ0 k) := by decide +kernel
abbrev cJ0_length_8abf5 : ByteArray := prog_12_method_54_code
def yJ0_length_8abf5 : MethodName := ⟨RJ0, "length", "()I"⟩
abbrev cJ0_charAt_5068e : ByteArray := prog_12_method_56_code
def yJ0_charAt_5068e : MethodName := ⟨RJ0, "charAt", "(I)C"⟩
abbrev cJ0_coder_7d493 : ByteArray := prog_12_method_152_code
def yJ0_coder_7d493 : MethodName := ⟨RJ0, "coder", "()B"⟩
abbrev cJ0_isLatin1_aae02 : ByteArray := prog_12_method_154_code
def yJ0_isLatin1_aae02 : MethodName := ⟨RJ0, "isLatin1", "()Z"⟩
abbrev cJ0_checkIndex_df160 : ByteArray := prog_12_method_155_code
def yJ0_checkIndex_df160 : MethodName := ⟨RJ0, "checkIndex", "(II)V"⟩
def RJ1 : String := "java/lang/StringLatin1"
def TJ1 : u_T := fun k => match k with
  | _ => ("", "", "", false)
def tyJ1 : Nat → FieldType := fun k => match k with
  | _ => .int
theorem nmJ1 : ∀ a, a < 0 → ∀ b, b < 0 → a ≠ b → (TJ1 a).2.1 ≠ (TJ1 b).2.1 := by decide +kernel
theorem tyJ1_ok : ∀ k, k < 0 → parseFieldDescriptor (TJ1 k).2.2.1 = some (tyJ1 k) := by decide +kernel
abbrev cJ1_charAt_3b067 : ByteArray := prog_13_method_2_code
def yJ1_charAt_3b067 : MethodName := ⟨RJ1, "charAt", "([BI)C"⟩
def RJ2 : String := "java/lang/StringUTF16"
def TJ2 : u_T := fun k => match k with
  | _ => ("", "", "", false)
def tyJ2 : Nat → FieldType := fun k => match k with
  | _ => .int
theorem nmJ2 : ∀ a, a < 0 → ∀ b, b < 0 → a ≠ b → (TJ2 a).2.1 ≠ (TJ2 b).2.1 := by decide +kernel
theorem tyJ2_ok : ∀ k, k < 0 → parseFieldDescriptor (TJ2 k).2.2.1 = some (tyJ2 k) := by decide +kernel
abbrev cJ2_getChar_3b067 : ByteArray := prog_14_method_5_code
def yJ2_getChar_3b067 : MethodName := ⟨RJ2, "getChar", "([BI)C"⟩
abbrev cJ2_length_9d52b : ByteArray := prog_14_method_6_code
def yJ2_length_9d52b : MethodName := ⟨RJ2, "length", "([B)I"⟩
abbrev cJ2_charAt_3b067 : ByteArray := prog_14_method_83_code
def yJ2_charAt_3b067 : MethodName := ⟨RJ2, "charAt", "([BI)C"⟩
abbrev cJ2_checkIndex_2214a : ByteArray := prog_14_method_91_code
def yJ2_checkIndex_2214a : MethodName := ⟨RJ2, "checkIndex", "(I[B)V"⟩
def RJ3 : String := "jdk/internal/util/Preconditions"
def TJ3 : u_T := fun k => match k with
  | _ => ("", "", "", false)
def tyJ3 : Nat → FieldType := fun k => match k with
  | _ => .int
theorem nmJ3 : ∀ a, a < 0 → ∀ b, b < 0 → a ≠ b → (TJ3 a).2.1 ≠ (TJ3 b).2.1 := by decide +kernel
theorem tyJ3_ok : ∀ k, k < 0 → parseFieldDescriptor (TJ3 k).2.2.1 = some (tyJ3 k) := by decide +kernel
abbrev cJ3_checkIndex_8e157 : ByteArray := prog_15_method_11_code
def yJ3_checkIndex_8e157 : MethodName := ⟨RJ3, "checkIndex", "(IILjava/util/function/BiFunction;)I"⟩
def RL : String := "BallTownLaw"
abbrev cL_law : ByteArray := code
def yL_law : MethodName := ⟨RL, "law", "([I)Z"⟩
abbrev vwCl : List vw_C := [(RX1, TX1, 6), (RX2, TX2, 2), (RX3, TX3, 8), (RX4, TX4, 2), (RX5, TX5, 9), (RX6, TX6, 8), (RX7, TX7, 27)]
end
section
theorem dX0_isField_0 : decode cX0_isField 0 = .ok (.iload_n 0, 1) := by decide +kernel
theorem dX0_isField_1 : decode cX0_isField 1 = .ok (.ifCond .lt 13, 3) := by decide +kernel
theorem dX0_isField_4 : decode cX0_isField 4 = .ok (.iload_n 0, 1) := by decide +kernel
theorem dX0_isField_5 : decode cX0_isField 5 = .ok (.bipush 12, 2) := by decide +kernel
theorem dX0_isField_7 : decode cX0_isField 7 = .ok (.if_icmp .ge 7, 3) := by decide +kernel
theorem dX0_isField_10 : decode cX0_isField 10 = .ok (.iconst 1, 1) := by decide +kernel
theorem dX0_isField_11 : decode cX0_isField 11 = .ok (.goto 4, 3) := by decide +kernel
theorem dX0_isField_14 : decode cX0_isField 14 = .ok (.iconst 0, 1) := by decide +kernel
theorem dX0_isField_15 : decode cX0_isField 15 = .ok (.ireturn, 1) := by decide +kernel
theorem dX0_isSide_0 : decode cX0_isSide 0 = .ok (.iload_n 0, 1) := by decide +kernel
theorem dX0_isSide_1 : decode cX0_isSide 1 = .ok (.ifCond .lt 12, 3) := by decide +kernel
theorem dX0_isSide_4 : decode cX0_isSide 4 = .ok (.iload_n 0, 1) := by decide +kernel
theorem dX0_isSide_5 : decode cX0_isSide 5 = .ok (.iconst 5, 1) := by decide +kernel
theorem dX0_isSide_6 : decode cX0_isSide 6 = .ok (.if_icmp .ge 7, 3) := by decide +kernel
theorem dX0_isSide_9 : decode cX0_isSide 9 = .ok (.iconst 1, 1) := by decide +kernel
theorem dX0_isSide_10 : decode cX0_isSide 10 = .ok (.goto 4, 3) := by decide +kernel
theorem dX0_isSide_13 : decode cX0_isSide 13 = .ok (.iconst 0, 1) := by decide +kernel
theorem dX0_isSide_14 : decode cX0_isSide 14 = .ok (.ireturn, 1) := by decide +kernel
theorem dX0_holds_0 : decode cX0_holds 0 = .ok (.iload_n 1, 1) := by decide +kernel
theorem dX0_holds_1 : decode cX0_holds 1 = .ok (.invokestatic 9, 3) := by decide +kernel
theorem dX0_holds_4 : decode cX0_holds 4 = .ok (.ifCond .eq 15, 3) := by decide +kernel
theorem dX0_holds_7 : decode cX0_holds 7 = .ok (.iload_n 0, 1) := by decide +kernel
theorem dX0_holds_8 : decode cX0_holds 8 = .ok (.iload_n 1, 1) := by decide +kernel
theorem dX0_holds_9 : decode cX0_holds 9 = .ok (.ishr, 1) := by decide +kernel
theorem dX0_holds_10 : decode cX0_holds 10 = .ok (.iconst 1, 1) := by decide +kernel
theorem dX0_holds_11 : decode cX0_holds 11 = .ok (.iand, 1) := by decide +kernel
theorem dX0_holds_12 : decode cX0_holds 12 = .ok (.ifCond .eq 7, 3) := by decide +kernel
theorem dX0_holds_15 : decode cX0_holds 15 = .ok (.iconst 1, 1) := by decide +kernel
theorem dX0_holds_16 : decode cX0_holds 16 = .ok (.goto 4, 3) := by decide +kernel
theorem dX0_holds_19 : decode cX0_holds 19 = .ok (.iconst 0, 1) := by decide +kernel
theorem dX0_holds_20 : decode cX0_holds 20 = .ok (.ireturn, 1) := by decide +kernel
theorem dX0_on_0 : decode cX0_on 0 = .ok (.iload_n 0, 1) := by decide +kernel
theorem dX0_on_1 : decode cX0_on 1 = .ok (.iload_n 1, 1) := by decide +kernel
theorem dX0_on_2 : decode cX0_on 2 = .ok (.iadd, 1) := by decide +kernel
theorem dX0_on_3 : decode cX0_on 3 = .ok (.iconst 5, 1) := by decide +kernel
theorem dX0_on_4 : decode cX0_on 4 = .ok (.invokestatic 15, 3) := by decide +kernel
theorem dX0_on_7 : decode cX0_on 7 = .ok (.ireturn, 1) := by decide +kernel
theorem dX0_across_0 : decode cX0_across 0 = .ok (.iload_n 0, 1) := by decide +kernel
theorem dX0_across_1 : decode cX0_across 1 = .ok (.invokestatic 9, 3) := by decide +kernel
theorem dX0_across_4 : decode cX0_across 4 = .ok (.ifCond .eq 10, 3) := by decide +kernel
theorem dX0_across_7 : decode cX0_across 7 = .ok (.iload_n 1, 1) := by decide +kernel
theorem dX0_across_8 : decode cX0_across 8 = .ok (.invokestatic 21, 3) := by decide +kernel
theorem dX0_across_11 : decode cX0_across 11 = .ok (.ifCond .ne 6, 3) := by decide +kernel
theorem dX0_across_14 : decode cX0_across 14 = .ok (.bipush (-2), 2) := by decide +kernel
theorem dX0_across_16 : decode cX0_across 16 = .ok (.ireturn, 1) := by decide +kernel
theorem dX0_across_17 : decode cX0_across 17 = .ok (.getstatic 24, 3) := by decide +kernel
theorem dX0_across_20 : decode cX0_across 20 = .ok (.iload_n 0, 1) := by decide +kernel
theorem dX0_across_21 : decode cX0_across 21 = .ok (.iconst 5, 1) := by decide +kernel
theorem dX0_across_22 : decode cX0_across 22 = .ok (.imul, 1) := by decide +kernel
theorem dX0_across_23 : decode cX0_across 23 = .ok (.iload_n 1, 1) := by decide +kernel
theorem dX0_across_24 : decode cX0_across 24 = .ok (.iadd, 1) := by decide +kernel
theorem dX0_across_25 : decode cX0_across 25 = .ok (.iaload, 1) := by decide +kernel
theorem dX0_across_26 : decode cX0_across 26 = .ok (.ireturn, 1) := by decide +kernel
theorem dX0_sideTo_0 : decode cX0_sideTo 0 = .ok (.iconst 0, 1) := by decide +kernel
theorem dX0_sideTo_1 : decode cX0_sideTo 1 = .ok (.istore_n 2, 1) := by decide +kernel
theorem dX0_sideTo_2 : decode cX0_sideTo 2 = .ok (.iload_n 2, 1) := by decide +kernel
theorem dX0_sideTo_3 : decode cX0_sideTo 3 = .ok (.iconst 5, 1) := by decide +kernel
theorem dX0_sideTo_4 : decode cX0_sideTo 4 = .ok (.if_icmp .ge 27, 3) := by decide +kernel
theorem dX0_sideTo_7 : decode cX0_sideTo 7 = .ok (.iload_n 1, 1) := by decide +kernel
theorem dX0_sideTo_8 : decode cX0_sideTo 8 = .ok (.invokestatic 9, 3) := by decide +kernel
theorem dX0_sideTo_11 : decode cX0_sideTo 11 = .ok (.ifCond .eq 14, 3) := by decide +kernel
theorem dX0_sideTo_14 : decode cX0_sideTo 14 = .ok (.iload_n 0, 1) := by decide +kernel
theorem dX0_sideTo_15 : decode cX0_sideTo 15 = .ok (.iload_n 2, 1) := by decide +kernel
theorem dX0_sideTo_16 : decode cX0_sideTo 16 = .ok (.invokestatic 28, 3) := by decide +kernel
theorem dX0_sideTo_19 : decode cX0_sideTo 19 = .ok (.iload_n 1, 1) := by decide +kernel
theorem dX0_sideTo_20 : decode cX0_sideTo 20 = .ok (.if_icmp .ne 5, 3) := by decide +kernel
theorem dX0_sideTo_23 : decode cX0_sideTo 23 = .ok (.iload_n 2, 1) := by decide +kernel
theorem dX0_sideTo_24 : decode cX0_sideTo 24 = .ok (.ireturn, 1) := by decide +kernel
theorem dX0_sideTo_25 : decode cX0_sideTo 25 = .ok (.iinc 2 1, 3) := by decide +kernel
theorem dX0_sideTo_28 : decode cX0_sideTo 28 = .ok (.goto (-26), 3) := by decide +kernel
theorem dX0_sideTo_31 : decode cX0_sideTo 31 = .ok (.iconst (-1), 1) := by decide +kernel
theorem dX0_sideTo_32 : decode cX0_sideTo 32 = .ok (.ireturn, 1) := by decide +kernel
theorem dX0_allBeside_0 : decode cX0_allBeside 0 = .ok (.iconst 0, 1) := by decide +kernel
theorem dX0_allBeside_1 : decode cX0_allBeside 1 = .ok (.istore_n 1, 1) := by decide +kernel
theorem dX0_allBeside_2 : decode cX0_allBeside 2 = .ok (.iconst 0, 1) := by decide +kernel
theorem dX0_allBeside_3 : decode cX0_allBeside 3 = .ok (.istore_n 2, 1) := by decide +kernel
theorem dX0_allBeside_4 : decode cX0_allBeside 4 = .ok (.iload_n 2, 1) := by decide +kernel
theorem dX0_allBeside_5 : decode cX0_allBeside 5 = .ok (.iconst 5, 1) := by decide +kernel
theorem dX0_allBeside_6 : decode cX0_allBeside 6 = .ok (.if_icmp .ge 26, 3) := by decide +kernel
theorem dX0_allBeside_9 : decode cX0_allBeside 9 = .ok (.iload_n 0, 1) := by decide +kernel
theorem dX0_allBeside_10 : decode cX0_allBeside 10 = .ok (.invokestatic 9, 3) := by decide +kernel
theorem dX0_allBeside_13 : decode cX0_allBeside 13 = .ok (.ifCond .eq 19, 3) := by decide +kernel
theorem dX0_allBeside_16 : decode cX0_allBeside 16 = .ok (.iload_n 1, 1) := by decide +kernel
theorem dX0_allBeside_17 : decode cX0_allBeside 17 = .ok (.iconst 1, 1) := by decide +kernel
theorem dX0_allBeside_18 : decode cX0_allBeside 18 = .ok (.iload_n 0, 1) := by decide +kernel
theorem dX0_allBeside_19 : decode cX0_allBeside 19 = .ok (.iload_n 2, 1) := by decide +kernel
theorem dX0_allBeside_20 : decode cX0_allBeside 20 = .ok (.invokestatic 28, 3) := by decide +kernel
theorem dX0_allBeside_23 : decode cX0_allBeside 23 = .ok (.ishl, 1) := by decide +kernel
theorem dX0_allBeside_24 : decode cX0_allBeside 24 = .ok (.ior, 1) := by decide +kernel
theorem dX0_allBeside_25 : decode cX0_allBeside 25 = .ok (.istore_n 1, 1) := by decide +kernel
theorem dX0_allBeside_26 : decode cX0_allBeside 26 = .ok (.iinc 2 1, 3) := by decide +kernel
theorem dX0_allBeside_29 : decode cX0_allBeside 29 = .ok (.goto (-25), 3) := by decide +kernel
theorem dX0_allBeside_32 : decode cX0_allBeside 32 = .ok (.iload_n 1, 1) := by decide +kernel
theorem dX0_allBeside_33 : decode cX0_allBeside 33 = .ok (.ireturn, 1) := by decide +kernel
theorem dX0_distance_0 : decode cX0_distance 0 = .ok (.iconst 1, 1) := by decide +kernel
theorem dX0_distance_1 : decode cX0_distance 1 = .ok (.iload_n 0, 1) := by decide +kernel
theorem dX0_distance_2 : decode cX0_distance 2 = .ok (.ishl, 1) := by decide +kernel
theorem dX0_distance_3 : decode cX0_distance 3 = .ok (.istore_n 2, 1) := by decide +kernel
theorem dX0_distance_4 : decode cX0_distance 4 = .ok (.iconst 0, 1) := by decide +kernel
theorem dX0_distance_5 : decode cX0_distance 5 = .ok (.istore_n 3, 1) := by decide +kernel
theorem dX0_distance_6 : decode cX0_distance 6 = .ok (.iload_n 3, 1) := by decide +kernel
theorem dX0_distance_7 : decode cX0_distance 7 = .ok (.bipush 12, 2) := by decide +kernel
theorem dX0_distance_9 : decode cX0_distance 9 = .ok (.if_icmp .ge 24, 3) := by decide +kernel
theorem dX0_distance_12 : decode cX0_distance 12 = .ok (.iload_n 2, 1) := by decide +kernel
theorem dX0_distance_13 : decode cX0_distance 13 = .ok (.iload_n 1, 1) := by decide +kernel
theorem dX0_distance_14 : decode cX0_distance 14 = .ok (.invokestatic 31, 3) := by decide +kernel
theorem dX0_distance_17 : decode cX0_distance 17 = .ok (.ifCond .eq 5, 3) := by decide +kernel
theorem dX0_distance_20 : decode cX0_distance 20 = .ok (.iload_n 3, 1) := by decide +kernel
theorem dX0_distance_21 : decode cX0_distance 21 = .ok (.ireturn, 1) := by decide +kernel
theorem dX0_distance_22 : decode cX0_distance 22 = .ok (.iload_n 2, 1) := by decide +kernel
theorem dX0_distance_23 : decode cX0_distance 23 = .ok (.invokestatic 35, 3) := by decide +kernel
theorem dX0_distance_26 : decode cX0_distance 26 = .ok (.istore_n 2, 1) := by decide +kernel
theorem dX0_distance_27 : decode cX0_distance 27 = .ok (.iinc 3 1, 3) := by decide +kernel
theorem dX0_distance_30 : decode cX0_distance 30 = .ok (.goto (-24), 3) := by decide +kernel
theorem dX0_distance_33 : decode cX0_distance 33 = .ok (.iconst (-1), 1) := by decide +kernel
theorem dX0_distance_34 : decode cX0_distance 34 = .ok (.ireturn, 1) := by decide +kernel
theorem dX0_withThoseBeside_0 : decode cX0_withThoseBeside 0 = .ok (.iload_n 0, 1) := by decide +kernel
theorem dX0_withThoseBeside_1 : decode cX0_withThoseBeside 1 = .ok (.istore_n 1, 1) := by decide +kernel
theorem dX0_withThoseBeside_2 : decode cX0_withThoseBeside 2 = .ok (.iconst 0, 1) := by decide +kernel
theorem dX0_withThoseBeside_3 : decode cX0_withThoseBeside 3 = .ok (.istore_n 2, 1) := by decide +kernel
theorem dX0_withThoseBeside_4 : decode cX0_withThoseBeside 4 = .ok (.iload_n 2, 1) := by decide +kernel
theorem dX0_withThoseBeside_5 : decode cX0_withThoseBeside 5 = .ok (.bipush 12, 2) := by decide +kernel
theorem dX0_withThoseBeside_7 : decode cX0_withThoseBeside 7 = .ok (.if_icmp .ge 24, 3) := by decide +kernel
theorem dX0_withThoseBeside_10 : decode cX0_withThoseBeside 10 = .ok (.iload_n 0, 1) := by decide +kernel
theorem dX0_withThoseBeside_11 : decode cX0_withThoseBeside 11 = .ok (.iload_n 2, 1) := by decide +kernel
theorem dX0_withThoseBeside_12 : decode cX0_withThoseBeside 12 = .ok (.invokestatic 31, 3) := by decide +kernel
theorem dX0_withThoseBeside_15 : decode cX0_withThoseBeside 15 = .ok (.ifCond .eq 10, 3) := by decide +kernel
theorem dX0_withThoseBeside_18 : decode cX0_withThoseBeside 18 = .ok (.iload_n 1, 1) := by decide +kernel
theorem dX0_withThoseBeside_19 : decode cX0_withThoseBeside 19 = .ok (.iload_n 2, 1) := by decide +kernel
theorem dX0_withThoseBeside_20 : decode cX0_withThoseBeside 20 = .ok (.invokestatic 39, 3) := by decide +kernel
theorem dX0_withThoseBeside_23 : decode cX0_withThoseBeside 23 = .ok (.ior, 1) := by decide +kernel
theorem dX0_withThoseBeside_24 : decode cX0_withThoseBeside 24 = .ok (.istore_n 1, 1) := by decide +kernel
theorem dX0_withThoseBeside_25 : decode cX0_withThoseBeside 25 = .ok (.iinc 2 1, 3) := by decide +kernel
theorem dX0_withThoseBeside_28 : decode cX0_withThoseBeside 28 = .ok (.goto (-24), 3) := by decide +kernel
theorem dX0_withThoseBeside_31 : decode cX0_withThoseBeside 31 = .ok (.iload_n 1, 1) := by decide +kernel
theorem dX0_withThoseBeside_32 : decode cX0_withThoseBeside 32 = .ok (.ireturn, 1) := by decide +kernel
theorem dX0_opposite_0 : decode cX0_opposite 0 = .ok (.iconst 0, 1) := by decide +kernel
theorem dX0_opposite_1 : decode cX0_opposite 1 = .ok (.istore_n 1, 1) := by decide +kernel
theorem dX0_opposite_2 : decode cX0_opposite 2 = .ok (.iload_n 1, 1) := by decide +kernel
theorem dX0_opposite_3 : decode cX0_opposite 3 = .ok (.bipush 12, 2) := by decide +kernel
theorem dX0_opposite_5 : decode cX0_opposite 5 = .ok (.if_icmp .ge 20, 3) := by decide +kernel
theorem dX0_opposite_8 : decode cX0_opposite 8 = .ok (.iload_n 0, 1) := by decide +kernel
theorem dX0_opposite_9 : decode cX0_opposite 9 = .ok (.iload_n 1, 1) := by decide +kernel
theorem dX0_opposite_10 : decode cX0_opposite 10 = .ok (.invokestatic 42, 3) := by decide +kernel
theorem dX0_opposite_13 : decode cX0_opposite 13 = .ok (.iconst 3, 1) := by decide +kernel
theorem dX0_opposite_14 : decode cX0_opposite 14 = .ok (.if_icmp .ne 5, 3) := by decide +kernel
theorem dX0_opposite_17 : decode cX0_opposite 17 = .ok (.iload_n 1, 1) := by decide +kernel
theorem dX0_opposite_18 : decode cX0_opposite 18 = .ok (.ireturn, 1) := by decide +kernel
theorem dX0_opposite_19 : decode cX0_opposite 19 = .ok (.iinc 1 1, 3) := by decide +kernel
theorem dX0_opposite_22 : decode cX0_opposite 22 = .ok (.goto (-20), 3) := by decide +kernel
theorem dX0_opposite_25 : decode cX0_opposite 25 = .ok (.iconst (-1), 1) := by decide +kernel
theorem dX0_opposite_26 : decode cX0_opposite 26 = .ok (.ireturn, 1) := by decide +kernel
theorem dX1_init_0 : decode cX1_init 0 = .ok (.aload_n 0, 1) := by decide +kernel
theorem dX1_init_1 : decode cX1_init 1 = .ok (.invokespecial 3, 3) := by decide +kernel
theorem dX1_init_4 : decode cX1_init 4 = .ok (.aload_n 0, 1) := by decide +kernel
theorem dX1_init_5 : decode cX1_init 5 = .ok (.bipush 12, 2) := by decide +kernel
theorem dX1_init_7 : decode cX1_init 7 = .ok (.newarray .int, 2) := by decide +kernel
theorem dX1_init_9 : decode cX1_init 9 = .ok (.putfield 9, 3) := by decide +kernel
theorem dX1_init_12 : decode cX1_init 12 = .ok (.aload_n 0, 1) := by decide +kernel
theorem dX1_init_13 : decode cX1_init 13 = .ok (.bipush 12, 2) := by decide +kernel
theorem dX1_init_15 : decode cX1_init 15 = .ok (.newarray .int, 2) := by decide +kernel
theorem dX1_init_17 : decode cX1_init 17 = .ok (.putfield 15, 3) := by decide +kernel
theorem dX1_init_20 : decode cX1_init 20 = .ok (.return_, 1) := by decide +kernel
theorem dX1_begin_0 : decode cX1_begin 0 = .ok (.iconst 0, 1) := by decide +kernel
theorem dX1_begin_1 : decode cX1_begin 1 = .ok (.istore_n 1, 1) := by decide +kernel
theorem dX1_begin_2 : decode cX1_begin 2 = .ok (.iload_n 1, 1) := by decide +kernel
theorem dX1_begin_3 : decode cX1_begin 3 = .ok (.aload_n 0, 1) := by decide +kernel
theorem dX1_begin_4 : decode cX1_begin 4 = .ok (.getfield 9, 3) := by decide +kernel
theorem dX1_begin_7 : decode cX1_begin 7 = .ok (.arraylength, 1) := by decide +kernel
theorem dX1_begin_8 : decode cX1_begin 8 = .ok (.if_icmp .ge 16, 3) := by decide +kernel
theorem dX1_begin_11 : decode cX1_begin 11 = .ok (.aload_n 0, 1) := by decide +kernel
theorem dX1_begin_12 : decode cX1_begin 12 = .ok (.getfield 9, 3) := by decide +kernel
theorem dX1_begin_15 : decode cX1_begin 15 = .ok (.iload_n 1, 1) := by decide +kernel
theorem dX1_begin_16 : decode cX1_begin 16 = .ok (.iconst 0, 1) := by decide +kernel
theorem dX1_begin_17 : decode cX1_begin 17 = .ok (.iastore, 1) := by decide +kernel
theorem dX1_begin_18 : decode cX1_begin 18 = .ok (.iinc 1 1, 3) := by decide +kernel
theorem dX1_begin_21 : decode cX1_begin 21 = .ok (.goto (-19), 3) := by decide +kernel
theorem dX1_begin_24 : decode cX1_begin 24 = .ok (.aload_n 0, 1) := by decide +kernel
theorem dX1_begin_25 : decode cX1_begin 25 = .ok (.iconst 0, 1) := by decide +kernel
theorem dX1_begin_26 : decode cX1_begin 26 = .ok (.iconst 0, 1) := by decide +kernel
theorem dX1_begin_27 : decode cX1_begin 27 = .ok (.invokevirtual 18, 3) := by decide +kernel
theorem dX1_begin_30 : decode cX1_begin 30 = .ok (.return_, 1) := by decide +kernel
theorem dX1_take_0 : decode cX1_take 0 = .ok (.iconst 0, 1) := by decide +kernel
theorem dX1_take_1 : decode cX1_take 1 = .ok (.istore_n 2, 1) := by decide +kernel
theorem dX1_take_2 : decode cX1_take 2 = .ok (.iload_n 2, 1) := by decide +kernel
theorem dX1_take_3 : decode cX1_take 3 = .ok (.aload_n 0, 1) := by decide +kernel
theorem dX1_take_4 : decode cX1_take 4 = .ok (.getfield 9, 3) := by decide +kernel
theorem dX1_take_7 : decode cX1_take 7 = .ok (.arraylength, 1) := by decide +kernel
theorem dX1_take_8 : decode cX1_take 8 = .ok (.if_icmp .ge 20, 3) := by decide +kernel
theorem dX1_take_11 : decode cX1_take 11 = .ok (.aload_n 0, 1) := by decide +kernel
theorem dX1_take_12 : decode cX1_take 12 = .ok (.getfield 9, 3) := by decide +kernel
theorem dX1_take_15 : decode cX1_take 15 = .ok (.iload_n 2, 1) := by decide +kernel
theorem dX1_take_16 : decode cX1_take 16 = .ok (.aload_n 1, 1) := by decide +kernel
theorem dX1_take_17 : decode cX1_take 17 = .ok (.iload_n 2, 1) := by decide +kernel
theorem dX1_take_18 : decode cX1_take 18 = .ok (.invokevirtual 22, 3) := by decide +kernel
theorem dX1_take_21 : decode cX1_take 21 = .ok (.iastore, 1) := by decide +kernel
theorem dX1_take_22 : decode cX1_take 22 = .ok (.iinc 2 1, 3) := by decide +kernel
theorem dX1_take_25 : decode cX1_take 25 = .ok (.goto (-23), 3) := by decide +kernel
theorem dX1_take_28 : decode cX1_take 28 = .ok (.aload_n 0, 1) := by decide +kernel
theorem dX1_take_29 : decode cX1_take 29 = .ok (.aload_n 1, 1) := by decide +kernel
theorem dX1_take_30 : decode cX1_take 30 = .ok (.getfield 26, 3) := by decide +kernel
theorem dX1_take_33 : decode cX1_take 33 = .ok (.putfield 26, 3) := by decide +kernel
theorem dX1_take_36 : decode cX1_take 36 = .ok (.aload_n 0, 1) := by decide +kernel
theorem dX1_take_37 : decode cX1_take 37 = .ok (.aload_n 1, 1) := by decide +kernel
theorem dX1_take_38 : decode cX1_take 38 = .ok (.getfield 30, 3) := by decide +kernel
theorem dX1_take_41 : decode cX1_take 41 = .ok (.putfield 30, 3) := by decide +kernel
theorem dX1_take_44 : decode cX1_take 44 = .ok (.aload_n 0, 1) := by decide +kernel
theorem dX1_take_45 : decode cX1_take 45 = .ok (.aload_n 1, 1) := by decide +kernel
theorem dX1_take_46 : decode cX1_take 46 = .ok (.getfield 33, 3) := by decide +kernel
theorem dX1_take_49 : decode cX1_take 49 = .ok (.putfield 33, 3) := by decide +kernel
theorem dX1_take_52 : decode cX1_take 52 = .ok (.aload_n 0, 1) := by decide +kernel
theorem dX1_take_53 : decode cX1_take 53 = .ok (.iconst 1, 1) := by decide +kernel
theorem dX1_take_54 : decode cX1_take 54 = .ok (.putfield 36, 3) := by decide +kernel
theorem dX1_take_57 : decode cX1_take 57 = .ok (.return_, 1) := by decide +kernel
theorem dX1_forget_0 : decode cX1_forget 0 = .ok (.aload_n 0, 1) := by decide +kernel
theorem dX1_forget_1 : decode cX1_forget 1 = .ok (.iconst 0, 1) := by decide +kernel
theorem dX1_forget_2 : decode cX1_forget 2 = .ok (.putfield 36, 3) := by decide +kernel
theorem dX1_forget_5 : decode cX1_forget 5 = .ok (.return_, 1) := by decide +kernel
theorem dX1_isTaken_0 : decode cX1_isTaken 0 = .ok (.aload_n 0, 1) := by decide +kernel
theorem dX1_isTaken_1 : decode cX1_isTaken 1 = .ok (.getfield 36, 3) := by decide +kernel
theorem dX1_isTaken_4 : decode cX1_isTaken 4 = .ok (.ireturn, 1) := by decide +kernel
theorem dX1_kindOf_0 : decode cX1_kindOf 0 = .ok (.iload_n 1, 1) := by decide +kernel
theorem dX1_kindOf_1 : decode cX1_kindOf 1 = .ok (.ifCond .lt 21, 3) := by decide +kernel
theorem dX1_kindOf_4 : decode cX1_kindOf 4 = .ok (.iload_n 1, 1) := by decide +kernel
theorem dX1_kindOf_5 : decode cX1_kindOf 5 = .ok (.aload_n 0, 1) := by decide +kernel
theorem dX1_kindOf_6 : decode cX1_kindOf 6 = .ok (.getfield 9, 3) := by decide +kernel
theorem dX1_kindOf_9 : decode cX1_kindOf 9 = .ok (.arraylength, 1) := by decide +kernel
theorem dX1_kindOf_10 : decode cX1_kindOf 10 = .ok (.if_icmp .ge 12, 3) := by decide +kernel
theorem dX1_kindOf_13 : decode cX1_kindOf 13 = .ok (.aload_n 0, 1) := by decide +kernel
theorem dX1_kindOf_14 : decode cX1_kindOf 14 = .ok (.getfield 9, 3) := by decide +kernel
theorem dX1_kindOf_17 : decode cX1_kindOf 17 = .ok (.iload_n 1, 1) := by decide +kernel
theorem dX1_kindOf_18 : decode cX1_kindOf 18 = .ok (.iaload, 1) := by decide +kernel
theorem dX1_kindOf_19 : decode cX1_kindOf 19 = .ok (.goto 4, 3) := by decide +kernel
theorem dX1_kindOf_22 : decode cX1_kindOf 22 = .ok (.iconst 0, 1) := by decide +kernel
theorem dX1_kindOf_23 : decode cX1_kindOf 23 = .ok (.ireturn, 1) := by decide +kernel
theorem dX1_allOfKind_0 : decode cX1_allOfKind 0 = .ok (.iconst 0, 1) := by decide +kernel
theorem dX1_allOfKind_1 : decode cX1_allOfKind 1 = .ok (.istore_n 2, 1) := by decide +kernel
theorem dX1_allOfKind_2 : decode cX1_allOfKind 2 = .ok (.iconst 0, 1) := by decide +kernel
theorem dX1_allOfKind_3 : decode cX1_allOfKind 3 = .ok (.istore_n 3, 1) := by decide +kernel
theorem dX1_allOfKind_4 : decode cX1_allOfKind 4 = .ok (.iload_n 3, 1) := by decide +kernel
theorem dX1_allOfKind_5 : decode cX1_allOfKind 5 = .ok (.aload_n 0, 1) := by decide +kernel
theorem dX1_allOfKind_6 : decode cX1_allOfKind 6 = .ok (.getfield 9, 3) := by decide +kernel
theorem dX1_allOfKind_9 : decode cX1_allOfKind 9 = .ok (.arraylength, 1) := by decide +kernel
theorem dX1_allOfKind_10 : decode cX1_allOfKind 10 = .ok (.if_icmp .ge 25, 3) := by decide +kernel
theorem dX1_allOfKind_13 : decode cX1_allOfKind 13 = .ok (.aload_n 0, 1) := by decide +kernel
theorem dX1_allOfKind_14 : decode cX1_allOfKind 14 = .ok (.getfield 9, 3) := by decide +kernel
theorem dX1_allOfKind_17 : decode cX1_allOfKind 17 = .ok (.iload_n 3, 1) := by decide +kernel
theorem dX1_allOfKind_18 : decode cX1_allOfKind 18 = .ok (.iaload, 1) := by decide +kernel
theorem dX1_allOfKind_19 : decode cX1_allOfKind 19 = .ok (.iload_n 1, 1) := by decide +kernel
theorem dX1_allOfKind_20 : decode cX1_allOfKind 20 = .ok (.if_icmp .ne 9, 3) := by decide +kernel
theorem dX1_allOfKind_23 : decode cX1_allOfKind 23 = .ok (.iload_n 2, 1) := by decide +kernel
theorem dX1_allOfKind_24 : decode cX1_allOfKind 24 = .ok (.iconst 1, 1) := by decide +kernel
theorem dX1_allOfKind_25 : decode cX1_allOfKind 25 = .ok (.iload_n 3, 1) := by decide +kernel
theorem dX1_allOfKind_26 : decode cX1_allOfKind 26 = .ok (.ishl, 1) := by decide +kernel
theorem dX1_allOfKind_27 : decode cX1_allOfKind 27 = .ok (.ior, 1) := by decide +kernel
theorem dX1_allOfKind_28 : decode cX1_allOfKind 28 = .ok (.istore_n 2, 1) := by decide +kernel
theorem dX1_allOfKind_29 : decode cX1_allOfKind 29 = .ok (.iinc 3 1, 3) := by decide +kernel
theorem dX1_allOfKind_32 : decode cX1_allOfKind 32 = .ok (.goto (-28), 3) := by decide +kernel
theorem dX1_allOfKind_35 : decode cX1_allOfKind 35 = .ok (.iload_n 2, 1) := by decide +kernel
theorem dX1_allOfKind_36 : decode cX1_allOfKind 36 = .ok (.ireturn, 1) := by decide +kernel
theorem dX1_plant_0 : decode cX1_plant 0 = .ok (.iload_n 1, 1) := by decide +kernel
theorem dX1_plant_1 : decode cX1_plant 1 = .ok (.ifCond .lt 19, 3) := by decide +kernel
theorem dX1_plant_4 : decode cX1_plant 4 = .ok (.iload_n 1, 1) := by decide +kernel
theorem dX1_plant_5 : decode cX1_plant 5 = .ok (.aload_n 0, 1) := by decide +kernel
theorem dX1_plant_6 : decode cX1_plant 6 = .ok (.getfield 9, 3) := by decide +kernel
theorem dX1_plant_9 : decode cX1_plant 9 = .ok (.arraylength, 1) := by decide +kernel
theorem dX1_plant_10 : decode cX1_plant 10 = .ok (.if_icmp .ge 10, 3) := by decide +kernel
theorem dX1_plant_13 : decode cX1_plant 13 = .ok (.aload_n 0, 1) := by decide +kernel
theorem dX1_plant_14 : decode cX1_plant 14 = .ok (.getfield 9, 3) := by decide +kernel
theorem dX1_plant_17 : decode cX1_plant 17 = .ok (.iload_n 1, 1) := by decide +kernel
theorem dX1_plant_18 : decode cX1_plant 18 = .ok (.iload_n 2, 1) := by decide +kernel
theorem dX1_plant_19 : decode cX1_plant 19 = .ok (.iastore, 1) := by decide +kernel
theorem dX1_plant_20 : decode cX1_plant 20 = .ok (.return_, 1) := by decide +kernel
theorem dX1_turn_0 : decode cX1_turn 0 = .ok (.iconst 0, 1) := by decide +kernel
theorem dX1_turn_1 : decode cX1_turn 1 = .ok (.istore_n 3, 1) := by decide +kernel
theorem dX1_turn_2 : decode cX1_turn 2 = .ok (.iload_n 3, 1) := by decide +kernel
theorem dX1_turn_3 : decode cX1_turn 3 = .ok (.bipush 12, 2) := by decide +kernel
theorem dX1_turn_5 : decode cX1_turn 5 = .ok (.if_icmp .ge 44, 3) := by decide +kernel
theorem dX1_turn_8 : decode cX1_turn 8 = .ok (.aload_n 1, 1) := by decide +kernel
theorem dX1_turn_9 : decode cX1_turn 9 = .ok (.iload_n 2, 1) := by decide +kernel
theorem dX1_turn_10 : decode cX1_turn 10 = .ok (.iload_n 3, 1) := by decide +kernel
theorem dX1_turn_11 : decode cX1_turn 11 = .ok (.invokevirtual 40, 3) := by decide +kernel
theorem dX1_turn_14 : decode cX1_turn 14 = .ok (.istore 4, 2) := by decide +kernel
theorem dX1_turn_16 : decode cX1_turn 16 = .ok (.iload 4, 2) := by decide +kernel
theorem dX1_turn_18 : decode cX1_turn 18 = .ok (.ifCond .lt 25, 3) := by decide +kernel
theorem dX1_turn_21 : decode cX1_turn 21 = .ok (.iload 4, 2) := by decide +kernel
theorem dX1_turn_23 : decode cX1_turn 23 = .ok (.aload_n 0, 1) := by decide +kernel
theorem dX1_turn_24 : decode cX1_turn 24 = .ok (.getfield 15, 3) := by decide +kernel
theorem dX1_turn_27 : decode cX1_turn 27 = .ok (.arraylength, 1) := by decide +kernel
theorem dX1_turn_28 : decode cX1_turn 28 = .ok (.if_icmp .ge 15, 3) := by decide +kernel
theorem dX1_turn_31 : decode cX1_turn 31 = .ok (.aload_n 0, 1) := by decide +kernel
theorem dX1_turn_32 : decode cX1_turn 32 = .ok (.getfield 15, 3) := by decide +kernel
theorem dX1_turn_35 : decode cX1_turn 35 = .ok (.iload 4, 2) := by decide +kernel
theorem dX1_turn_37 : decode cX1_turn 37 = .ok (.aload_n 0, 1) := by decide +kernel
theorem dX1_turn_38 : decode cX1_turn 38 = .ok (.iload_n 3, 1) := by decide +kernel
theorem dX1_turn_39 : decode cX1_turn 39 = .ok (.invokevirtual 22, 3) := by decide +kernel
theorem dX1_turn_42 : decode cX1_turn 42 = .ok (.iastore, 1) := by decide +kernel
theorem dX1_turn_43 : decode cX1_turn 43 = .ok (.iinc 3 1, 3) := by decide +kernel
theorem dX1_turn_46 : decode cX1_turn 46 = .ok (.goto (-44), 3) := by decide +kernel
theorem dX1_turn_49 : decode cX1_turn 49 = .ok (.iconst 0, 1) := by decide +kernel
theorem dX1_turn_50 : decode cX1_turn 50 = .ok (.istore_n 3, 1) := by decide +kernel
theorem dX1_turn_51 : decode cX1_turn 51 = .ok (.iconst 0, 1) := by decide +kernel
theorem dX1_turn_52 : decode cX1_turn 52 = .ok (.istore 4, 2) := by decide +kernel
theorem dX1_turn_54 : decode cX1_turn 54 = .ok (.iload 4, 2) := by decide +kernel
theorem dX1_turn_56 : decode cX1_turn 56 = .ok (.aload_n 0, 1) := by decide +kernel
theorem dX1_turn_57 : decode cX1_turn 57 = .ok (.getfield 15, 3) := by decide +kernel
theorem dX1_turn_60 : decode cX1_turn 60 = .ok (.arraylength, 1) := by decide +kernel
theorem dX1_turn_61 : decode cX1_turn 61 = .ok (.if_icmp .ge 41, 3) := by decide +kernel
theorem dX1_turn_64 : decode cX1_turn 64 = .ok (.aload_n 0, 1) := by decide +kernel
theorem dX1_turn_65 : decode cX1_turn 65 = .ok (.getfield 15, 3) := by decide +kernel
theorem dX1_turn_68 : decode cX1_turn 68 = .ok (.iload 4, 2) := by decide +kernel
theorem dX1_turn_70 : decode cX1_turn 70 = .ok (.iaload, 1) := by decide +kernel
theorem dX1_turn_71 : decode cX1_turn 71 = .ok (.aload_n 0, 1) := by decide +kernel
theorem dX1_turn_72 : decode cX1_turn 72 = .ok (.iload 4, 2) := by decide +kernel
theorem dX1_turn_74 : decode cX1_turn 74 = .ok (.invokevirtual 22, 3) := by decide +kernel
theorem dX1_turn_77 : decode cX1_turn 77 = .ok (.if_icmp .eq 6, 3) := by decide +kernel
theorem dX1_turn_80 : decode cX1_turn 80 = .ok (.iinc 3 1, 3) := by decide +kernel
theorem dX1_turn_83 : decode cX1_turn 83 = .ok (.aload_n 0, 1) := by decide +kernel
theorem dX1_turn_84 : decode cX1_turn 84 = .ok (.iload 4, 2) := by decide +kernel
theorem dX1_turn_86 : decode cX1_turn 86 = .ok (.aload_n 0, 1) := by decide +kernel
theorem dX1_turn_87 : decode cX1_turn 87 = .ok (.getfield 15, 3) := by decide +kernel
theorem dX1_turn_90 : decode cX1_turn 90 = .ok (.iload 4, 2) := by decide +kernel
theorem dX1_turn_92 : decode cX1_turn 92 = .ok (.iaload, 1) := by decide +kernel
theorem dX1_turn_93 : decode cX1_turn 93 = .ok (.invokevirtual 46, 3) := by decide +kernel
theorem dX1_turn_96 : decode cX1_turn 96 = .ok (.iinc 4 1, 3) := by decide +kernel
theorem dX1_turn_99 : decode cX1_turn 99 = .ok (.goto (-45), 3) := by decide +kernel
theorem dX1_turn_102 : decode cX1_turn 102 = .ok (.iload_n 3, 1) := by decide +kernel
theorem dX1_turn_103 : decode cX1_turn 103 = .ok (.ireturn, 1) := by decide +kernel
theorem dX1_stand_0 : decode cX1_stand 0 = .ok (.aload_n 0, 1) := by decide +kernel
theorem dX1_stand_1 : decode cX1_stand 1 = .ok (.iload_n 1, 1) := by decide +kernel
theorem dX1_stand_2 : decode cX1_stand 2 = .ok (.putfield 26, 3) := by decide +kernel
theorem dX1_stand_5 : decode cX1_stand 5 = .ok (.aload_n 0, 1) := by decide +kernel
theorem dX1_stand_6 : decode cX1_stand 6 = .ok (.iload_n 2, 1) := by decide +kernel
theorem dX1_stand_7 : decode cX1_stand 7 = .ok (.putfield 30, 3) := by decide +kernel
theorem dX1_stand_10 : decode cX1_stand 10 = .ok (.return_, 1) := by decide +kernel
theorem dX1_move_0 : decode cX1_move 0 = .ok (.aload_n 0, 1) := by decide +kernel
theorem dX1_move_1 : decode cX1_move 1 = .ok (.iload_n 1, 1) := by decide +kernel
theorem dX1_move_2 : decode cX1_move 2 = .ok (.iload_n 2, 1) := by decide +kernel
theorem dX1_move_3 : decode cX1_move 3 = .ok (.invokevirtual 18, 3) := by decide +kernel
theorem dX1_move_6 : decode cX1_move 6 = .ok (.aload_n 0, 1) := by decide +kernel
theorem dX1_move_7 : decode cX1_move 7 = .ok (.dup, 1) := by decide +kernel
theorem dX1_move_8 : decode cX1_move 8 = .ok (.getfield 33, 3) := by decide +kernel
theorem dX1_move_11 : decode cX1_move 11 = .ok (.iconst 1, 1) := by decide +kernel
theorem dX1_move_12 : decode cX1_move 12 = .ok (.iadd, 1) := by decide +kernel
theorem dX1_move_13 : decode cX1_move 13 = .ok (.putfield 33, 3) := by decide +kernel
theorem dX1_move_16 : decode cX1_move 16 = .ok (.return_, 1) := by decide +kernel
theorem dX1_place_0 : decode cX1_place 0 = .ok (.aload_n 0, 1) := by decide +kernel
theorem dX1_place_1 : decode cX1_place 1 = .ok (.getfield 26, 3) := by decide +kernel
theorem dX1_place_4 : decode cX1_place 4 = .ok (.ireturn, 1) := by decide +kernel
theorem dX1_entry_0 : decode cX1_entry 0 = .ok (.aload_n 0, 1) := by decide +kernel
theorem dX1_entry_1 : decode cX1_entry 1 = .ok (.getfield 30, 3) := by decide +kernel
theorem dX1_entry_4 : decode cX1_entry 4 = .ok (.ireturn, 1) := by decide +kernel
theorem dX1_steps_0 : decode cX1_steps 0 = .ok (.aload_n 0, 1) := by decide +kernel
theorem dX1_steps_1 : decode cX1_steps 1 = .ok (.getfield 33, 3) := by decide +kernel
theorem dX1_steps_4 : decode cX1_steps 4 = .ok (.ireturn, 1) := by decide +kernel
theorem dX2_init_0 : decode cX2_init 0 = .ok (.aload_n 0, 1) := by decide +kernel
theorem dX2_init_1 : decode cX2_init 1 = .ok (.invokespecial 3, 3) := by decide +kernel
theorem dX2_init_4 : decode cX2_init 4 = .ok (.aload_n 0, 1) := by decide +kernel
theorem dX2_init_5 : decode cX2_init 5 = .ok (.bipush 12, 2) := by decide +kernel
theorem dX2_init_7 : decode cX2_init 7 = .ok (.newarray .long, 2) := by decide +kernel
theorem dX2_init_9 : decode cX2_init 9 = .ok (.putfield 9, 3) := by decide +kernel
theorem dX2_init_12 : decode cX2_init 12 = .ok (.aload_n 0, 1) := by decide +kernel
theorem dX2_init_13 : decode cX2_init 13 = .ok (.bipush 12, 2) := by decide +kernel
theorem dX2_init_15 : decode cX2_init 15 = .ok (.newarray .long, 2) := by decide +kernel
theorem dX2_init_17 : decode cX2_init 17 = .ok (.putfield 15, 3) := by decide +kernel
theorem dX2_init_20 : decode cX2_init 20 = .ok (.return_, 1) := by decide +kernel
theorem dX2_walkCount_0 : decode cX2_walkCount 0 = .ok (.aload_n 0, 1) := by decide +kernel
theorem dX2_walkCount_1 : decode cX2_walkCount 1 = .ok (.iload_n 2, 1) := by decide +kernel
theorem dX2_walkCount_2 : decode cX2_walkCount 2 = .ok (.invokevirtual 18, 3) := by decide +kernel
theorem dX2_walkCount_5 : decode cX2_walkCount 5 = .ok (.iconst 0, 1) := by decide +kernel
theorem dX2_walkCount_6 : decode cX2_walkCount 6 = .ok (.istore 5, 2) := by decide +kernel
theorem dX2_walkCount_8 : decode cX2_walkCount 8 = .ok (.iload 5, 2) := by decide +kernel
theorem dX2_walkCount_10 : decode cX2_walkCount 10 = .ok (.iload 4, 2) := by decide +kernel
theorem dX2_walkCount_12 : decode cX2_walkCount 12 = .ok (.if_icmp .ge 49, 3) := by decide +kernel
theorem dX2_walkCount_15 : decode cX2_walkCount 15 = .ok (.iconst 0, 1) := by decide +kernel
theorem dX2_walkCount_16 : decode cX2_walkCount 16 = .ok (.istore 6, 2) := by decide +kernel
theorem dX2_walkCount_18 : decode cX2_walkCount 18 = .ok (.iload 6, 2) := by decide +kernel
theorem dX2_walkCount_20 : decode cX2_walkCount 20 = .ok (.aload_n 0, 1) := by decide +kernel
theorem dX2_walkCount_21 : decode cX2_walkCount 21 = .ok (.getfield 9, 3) := by decide +kernel
theorem dX2_walkCount_24 : decode cX2_walkCount 24 = .ok (.arraylength, 1) := by decide +kernel
theorem dX2_walkCount_25 : decode cX2_walkCount 25 = .ok (.if_icmp .ge 26, 3) := by decide +kernel
theorem dX2_walkCount_28 : decode cX2_walkCount 28 = .ok (.aload_n 0, 1) := by decide +kernel
theorem dX2_walkCount_29 : decode cX2_walkCount 29 = .ok (.aload_n 1, 1) := by decide +kernel
theorem dX2_walkCount_30 : decode cX2_walkCount 30 = .ok (.iload 6, 2) := by decide +kernel
theorem dX2_walkCount_32 : decode cX2_walkCount 32 = .ok (.invokevirtual 22, 3) := by decide +kernel
theorem dX2_walkCount_35 : decode cX2_walkCount 35 = .ok (.aload_n 0, 1) := by decide +kernel
theorem dX2_walkCount_36 : decode cX2_walkCount 36 = .ok (.getfield 9, 3) := by decide +kernel
theorem dX2_walkCount_39 : decode cX2_walkCount 39 = .ok (.iload 6, 2) := by decide +kernel
theorem dX2_walkCount_41 : decode cX2_walkCount 41 = .ok (.laload, 1) := by decide +kernel
theorem dX2_walkCount_42 : decode cX2_walkCount 42 = .ok (.invokevirtual 28, 3) := by decide +kernel
theorem dX2_walkCount_45 : decode cX2_walkCount 45 = .ok (.iinc 6 1, 3) := by decide +kernel
theorem dX2_walkCount_48 : decode cX2_walkCount 48 = .ok (.goto (-30), 3) := by decide +kernel
theorem dX2_walkCount_51 : decode cX2_walkCount 51 = .ok (.aload_n 0, 1) := by decide +kernel
theorem dX2_walkCount_52 : decode cX2_walkCount 52 = .ok (.invokevirtual 32, 3) := by decide +kernel
theorem dX2_walkCount_55 : decode cX2_walkCount 55 = .ok (.iinc 5 1, 3) := by decide +kernel
theorem dX2_walkCount_58 : decode cX2_walkCount 58 = .ok (.goto (-50), 3) := by decide +kernel
theorem dX2_walkCount_61 : decode cX2_walkCount 61 = .ok (.aload_n 0, 1) := by decide +kernel
theorem dX2_walkCount_62 : decode cX2_walkCount 62 = .ok (.iload_n 3, 1) := by decide +kernel
theorem dX2_walkCount_63 : decode cX2_walkCount 63 = .ok (.invokevirtual 35, 3) := by decide +kernel
theorem dX2_walkCount_66 : decode cX2_walkCount 66 = .ok (.lreturn, 1) := by decide +kernel
theorem dX2_oddsPart_0 : decode cX2_oddsPart 0 = .ok (.lconst 1, 1) := by decide +kernel
theorem dX2_oddsPart_1 : decode cX2_oddsPart 1 = .ok (.lstore 6, 2) := by decide +kernel
theorem dX2_oddsPart_3 : decode cX2_oddsPart 3 = .ok (.aload_n 0, 1) := by decide +kernel
theorem dX2_oddsPart_4 : decode cX2_oddsPart 4 = .ok (.iload_n 2, 1) := by decide +kernel
theorem dX2_oddsPart_5 : decode cX2_oddsPart 5 = .ok (.invokevirtual 18, 3) := by decide +kernel
theorem dX2_oddsPart_8 : decode cX2_oddsPart 8 = .ok (.iconst 0, 1) := by decide +kernel
theorem dX2_oddsPart_9 : decode cX2_oddsPart 9 = .ok (.istore 8, 2) := by decide +kernel
theorem dX2_oddsPart_11 : decode cX2_oddsPart 11 = .ok (.iload 8, 2) := by decide +kernel
theorem dX2_oddsPart_13 : decode cX2_oddsPart 13 = .ok (.iload 4, 2) := by decide +kernel
theorem dX2_oddsPart_15 : decode cX2_oddsPart 15 = .ok (.if_icmp .ge 87, 3) := by decide +kernel
theorem dX2_oddsPart_18 : decode cX2_oddsPart 18 = .ok (.iconst 0, 1) := by decide +kernel
theorem dX2_oddsPart_19 : decode cX2_oddsPart 19 = .ok (.istore 9, 2) := by decide +kernel
theorem dX2_oddsPart_21 : decode cX2_oddsPart 21 = .ok (.iload 9, 2) := by decide +kernel
theorem dX2_oddsPart_23 : decode cX2_oddsPart 23 = .ok (.aload_n 0, 1) := by decide +kernel
theorem dX2_oddsPart_24 : decode cX2_oddsPart 24 = .ok (.getfield 9, 3) := by decide +kernel
theorem dX2_oddsPart_27 : decode cX2_oddsPart 27 = .ok (.arraylength, 1) := by decide +kernel
theorem dX2_oddsPart_28 : decode cX2_oddsPart 28 = .ok (.if_icmp .ge 56, 3) := by decide +kernel
theorem dX2_oddsPart_31 : decode cX2_oddsPart 31 = .ok (.aload_n 1, 1) := by decide +kernel
theorem dX2_oddsPart_32 : decode cX2_oddsPart 32 = .ok (.iload 9, 2) := by decide +kernel
theorem dX2_oddsPart_34 : decode cX2_oddsPart 34 = .ok (.invokevirtual 22, 3) := by decide +kernel
theorem dX2_oddsPart_37 : decode cX2_oddsPart 37 = .ok (.istore 10, 2) := by decide +kernel
theorem dX2_oddsPart_39 : decode cX2_oddsPart 39 = .ok (.iload 10, 2) := by decide +kernel
theorem dX2_oddsPart_41 : decode cX2_oddsPart 41 = .ok (.ifCond .ne 10, 3) := by decide +kernel
theorem dX2_oddsPart_44 : decode cX2_oddsPart 44 = .ok (.iconst 1, 1) := by decide +kernel
theorem dX2_oddsPart_45 : decode cX2_oddsPart 45 = .ok (.iload 9, 2) := by decide +kernel
theorem dX2_oddsPart_47 : decode cX2_oddsPart 47 = .ok (.ishl, 1) := by decide +kernel
theorem dX2_oddsPart_48 : decode cX2_oddsPart 48 = .ok (.goto 5, 3) := by decide +kernel
theorem dX2_oddsPart_51 : decode cX2_oddsPart 51 = .ok (.iload 10, 2) := by decide +kernel
theorem dX2_oddsPart_53 : decode cX2_oddsPart 53 = .ok (.istore 11, 2) := by decide +kernel
theorem dX2_oddsPart_55 : decode cX2_oddsPart 55 = .ok (.aload_n 0, 1) := by decide +kernel
theorem dX2_oddsPart_56 : decode cX2_oddsPart 56 = .ok (.iload 11, 2) := by decide +kernel
theorem dX2_oddsPart_58 : decode cX2_oddsPart 58 = .ok (.aload_n 0, 1) := by decide +kernel
theorem dX2_oddsPart_59 : decode cX2_oddsPart 59 = .ok (.getfield 9, 3) := by decide +kernel
theorem dX2_oddsPart_62 : decode cX2_oddsPart 62 = .ok (.iload 9, 2) := by decide +kernel
theorem dX2_oddsPart_64 : decode cX2_oddsPart 64 = .ok (.laload, 1) := by decide +kernel
theorem dX2_oddsPart_65 : decode cX2_oddsPart 65 = .ok (.iload 11, 2) := by decide +kernel
theorem dX2_oddsPart_67 : decode cX2_oddsPart 67 = .ok (.invokestatic 39, 3) := by decide +kernel
theorem dX2_oddsPart_70 : decode cX2_oddsPart 70 = .ok (.invokestatic 44, 3) := by decide +kernel
theorem dX2_oddsPart_73 : decode cX2_oddsPart 73 = .ok (.i2l, 1) := by decide +kernel
theorem dX2_oddsPart_74 : decode cX2_oddsPart 74 = .ok (.lmul, 1) := by decide +kernel
theorem dX2_oddsPart_75 : decode cX2_oddsPart 75 = .ok (.invokevirtual 28, 3) := by decide +kernel
theorem dX2_oddsPart_78 : decode cX2_oddsPart 78 = .ok (.iinc 9 1, 3) := by decide +kernel
theorem dX2_oddsPart_81 : decode cX2_oddsPart 81 = .ok (.goto (-60), 3) := by decide +kernel
theorem dX2_oddsPart_84 : decode cX2_oddsPart 84 = .ok (.aload_n 0, 1) := by decide +kernel
theorem dX2_oddsPart_85 : decode cX2_oddsPart 85 = .ok (.invokevirtual 32, 3) := by decide +kernel
theorem dX2_oddsPart_88 : decode cX2_oddsPart 88 = .ok (.lload 6, 2) := by decide +kernel
theorem dX2_oddsPart_90 : decode cX2_oddsPart 90 = .ok (.ldc2_w 47, 3) := by decide +kernel
theorem dX2_oddsPart_93 : decode cX2_oddsPart 93 = .ok (.lmul, 1) := by decide +kernel
theorem dX2_oddsPart_94 : decode cX2_oddsPart 94 = .ok (.lstore 6, 2) := by decide +kernel
theorem dX2_oddsPart_96 : decode cX2_oddsPart 96 = .ok (.iinc 8 1, 3) := by decide +kernel
theorem dX2_oddsPart_99 : decode cX2_oddsPart 99 = .ok (.goto (-88), 3) := by decide +kernel
theorem dX2_oddsPart_102 : decode cX2_oddsPart 102 = .ok (.aload_n 0, 1) := by decide +kernel
theorem dX2_oddsPart_103 : decode cX2_oddsPart 103 = .ok (.iload_n 3, 1) := by decide +kernel
theorem dX2_oddsPart_104 : decode cX2_oddsPart 104 = .ok (.invokevirtual 35, 3) := by decide +kernel
theorem dX2_oddsPart_107 : decode cX2_oddsPart 107 = .ok (.lstore 8, 2) := by decide +kernel
theorem dX2_oddsPart_109 : decode cX2_oddsPart 109 = .ok (.lload 8, 2) := by decide +kernel
theorem dX2_oddsPart_111 : decode cX2_oddsPart 111 = .ok (.lload 6, 2) := by decide +kernel
theorem dX2_oddsPart_113 : decode cX2_oddsPart 113 = .ok (.invokestatic 49, 3) := by decide +kernel
theorem dX2_oddsPart_116 : decode cX2_oddsPart 116 = .ok (.lstore 10, 2) := by decide +kernel
theorem dX2_oddsPart_118 : decode cX2_oddsPart 118 = .ok (.lload 10, 2) := by decide +kernel
theorem dX2_oddsPart_120 : decode cX2_oddsPart 120 = .ok (.lconst 0, 1) := by decide +kernel
theorem dX2_oddsPart_121 : decode cX2_oddsPart 121 = .ok (.lcmp, 1) := by decide +kernel
theorem dX2_oddsPart_122 : decode cX2_oddsPart 122 = .ok (.ifCond .ne 5, 3) := by decide +kernel
theorem dX2_oddsPart_125 : decode cX2_oddsPart 125 = .ok (.lconst 0, 1) := by decide +kernel
theorem dX2_oddsPart_126 : decode cX2_oddsPart 126 = .ok (.lreturn, 1) := by decide +kernel
theorem dX2_oddsPart_127 : decode cX2_oddsPart 127 = .ok (.iload 5, 2) := by decide +kernel
theorem dX2_oddsPart_129 : decode cX2_oddsPart 129 = .ok (.ifCond .ne 11, 3) := by decide +kernel
theorem dX2_oddsPart_132 : decode cX2_oddsPart 132 = .ok (.lload 8, 2) := by decide +kernel
theorem dX2_oddsPart_134 : decode cX2_oddsPart 134 = .ok (.lload 10, 2) := by decide +kernel
theorem dX2_oddsPart_136 : decode cX2_oddsPart 136 = .ok (.ldiv, 1) := by decide +kernel
theorem dX2_oddsPart_137 : decode cX2_oddsPart 137 = .ok (.goto 8, 3) := by decide +kernel
theorem dX2_oddsPart_140 : decode cX2_oddsPart 140 = .ok (.lload 6, 2) := by decide +kernel
theorem dX2_oddsPart_142 : decode cX2_oddsPart 142 = .ok (.lload 10, 2) := by decide +kernel
theorem dX2_oddsPart_144 : decode cX2_oddsPart 144 = .ok (.ldiv, 1) := by decide +kernel
theorem dX2_oddsPart_145 : decode cX2_oddsPart 145 = .ok (.lreturn, 1) := by decide +kernel
theorem dX2_sharesOf_0 : decode cX2_sharesOf 0 = .ok (.iload_n 0, 1) := by decide +kernel
theorem dX2_sharesOf_1 : decode cX2_sharesOf 1 = .ok (.ifCond .ne 7, 3) := by decide +kernel
theorem dX2_sharesOf_4 : decode cX2_sharesOf 4 = .ok (.iconst 0, 1) := by decide +kernel
theorem dX2_sharesOf_5 : decode cX2_sharesOf 5 = .ok (.goto 7, 3) := by decide +kernel
theorem dX2_sharesOf_8 : decode cX2_sharesOf 8 = .ok (.bipush 60, 2) := by decide +kernel
theorem dX2_sharesOf_10 : decode cX2_sharesOf 10 = .ok (.iload_n 0, 1) := by decide +kernel
theorem dX2_sharesOf_11 : decode cX2_sharesOf 11 = .ok (.idiv, 1) := by decide +kernel
theorem dX2_sharesOf_12 : decode cX2_sharesOf 12 = .ok (.ireturn, 1) := by decide +kernel
theorem dX2_setOut_0 : decode cX2_setOut 0 = .ok (.iconst 0, 1) := by decide +kernel
theorem dX2_setOut_1 : decode cX2_setOut 1 = .ok (.istore_n 2, 1) := by decide +kernel
theorem dX2_setOut_2 : decode cX2_setOut 2 = .ok (.iload_n 2, 1) := by decide +kernel
theorem dX2_setOut_3 : decode cX2_setOut 3 = .ok (.aload_n 0, 1) := by decide +kernel
theorem dX2_setOut_4 : decode cX2_setOut 4 = .ok (.getfield 9, 3) := by decide +kernel
theorem dX2_setOut_7 : decode cX2_setOut 7 = .ok (.arraylength, 1) := by decide +kernel
theorem dX2_setOut_8 : decode cX2_setOut 8 = .ok (.if_icmp .ge 41, 3) := by decide +kernel
theorem dX2_setOut_11 : decode cX2_setOut 11 = .ok (.iload_n 2, 1) := by decide +kernel
theorem dX2_setOut_12 : decode cX2_setOut 12 = .ok (.aload_n 0, 1) := by decide +kernel
theorem dX2_setOut_13 : decode cX2_setOut 13 = .ok (.getfield 15, 3) := by decide +kernel
theorem dX2_setOut_16 : decode cX2_setOut 16 = .ok (.arraylength, 1) := by decide +kernel
theorem dX2_setOut_17 : decode cX2_setOut 17 = .ok (.if_icmp .ge 32, 3) := by decide +kernel
theorem dX2_setOut_20 : decode cX2_setOut 20 = .ok (.aload_n 0, 1) := by decide +kernel
theorem dX2_setOut_21 : decode cX2_setOut 21 = .ok (.getfield 9, 3) := by decide +kernel
theorem dX2_setOut_24 : decode cX2_setOut 24 = .ok (.iload_n 2, 1) := by decide +kernel
theorem dX2_setOut_25 : decode cX2_setOut 25 = .ok (.iload_n 2, 1) := by decide +kernel
theorem dX2_setOut_26 : decode cX2_setOut 26 = .ok (.iload_n 1, 1) := by decide +kernel
theorem dX2_setOut_27 : decode cX2_setOut 27 = .ok (.if_icmp .ne 7, 3) := by decide +kernel
theorem dX2_setOut_30 : decode cX2_setOut 30 = .ok (.lconst 1, 1) := by decide +kernel
theorem dX2_setOut_31 : decode cX2_setOut 31 = .ok (.goto 4, 3) := by decide +kernel
theorem dX2_setOut_34 : decode cX2_setOut 34 = .ok (.lconst 0, 1) := by decide +kernel
theorem dX2_setOut_35 : decode cX2_setOut 35 = .ok (.lastore, 1) := by decide +kernel
theorem dX2_setOut_36 : decode cX2_setOut 36 = .ok (.aload_n 0, 1) := by decide +kernel
theorem dX2_setOut_37 : decode cX2_setOut 37 = .ok (.getfield 15, 3) := by decide +kernel
theorem dX2_setOut_40 : decode cX2_setOut 40 = .ok (.iload_n 2, 1) := by decide +kernel
theorem dX2_setOut_41 : decode cX2_setOut 41 = .ok (.lconst 0, 1) := by decide +kernel
theorem dX2_setOut_42 : decode cX2_setOut 42 = .ok (.lastore, 1) := by decide +kernel
theorem dX2_setOut_43 : decode cX2_setOut 43 = .ok (.iinc 2 1, 3) := by decide +kernel
theorem dX2_setOut_46 : decode cX2_setOut 46 = .ok (.goto (-44), 3) := by decide +kernel
theorem dX2_setOut_49 : decode cX2_setOut 49 = .ok (.return_, 1) := by decide +kernel
theorem dX2_giveAll_0 : decode cX2_giveAll 0 = .ok (.iconst 0, 1) := by decide +kernel
theorem dX2_giveAll_1 : decode cX2_giveAll 1 = .ok (.istore 4, 2) := by decide +kernel
theorem dX2_giveAll_3 : decode cX2_giveAll 3 = .ok (.iload 4, 2) := by decide +kernel
theorem dX2_giveAll_5 : decode cX2_giveAll 5 = .ok (.aload_n 0, 1) := by decide +kernel
theorem dX2_giveAll_6 : decode cX2_giveAll 6 = .ok (.getfield 15, 3) := by decide +kernel
theorem dX2_giveAll_9 : decode cX2_giveAll 9 = .ok (.arraylength, 1) := by decide +kernel
theorem dX2_giveAll_10 : decode cX2_giveAll 10 = .ok (.if_icmp .ge 29, 3) := by decide +kernel
theorem dX2_giveAll_13 : decode cX2_giveAll 13 = .ok (.iload_n 1, 1) := by decide +kernel
theorem dX2_giveAll_14 : decode cX2_giveAll 14 = .ok (.iload 4, 2) := by decide +kernel
theorem dX2_giveAll_16 : decode cX2_giveAll 16 = .ok (.invokestatic 53, 3) := by decide +kernel
theorem dX2_giveAll_19 : decode cX2_giveAll 19 = .ok (.ifCond .eq 14, 3) := by decide +kernel
theorem dX2_giveAll_22 : decode cX2_giveAll 22 = .ok (.aload_n 0, 1) := by decide +kernel
theorem dX2_giveAll_23 : decode cX2_giveAll 23 = .ok (.getfield 15, 3) := by decide +kernel
theorem dX2_giveAll_26 : decode cX2_giveAll 26 = .ok (.iload 4, 2) := by decide +kernel
theorem dX2_giveAll_28 : decode cX2_giveAll 28 = .ok (.dup2, 1) := by decide +kernel
theorem dX2_giveAll_29 : decode cX2_giveAll 29 = .ok (.laload, 1) := by decide +kernel
theorem dX2_giveAll_30 : decode cX2_giveAll 30 = .ok (.lload_n 2, 1) := by decide +kernel
theorem dX2_giveAll_31 : decode cX2_giveAll 31 = .ok (.ladd, 1) := by decide +kernel
theorem dX2_giveAll_32 : decode cX2_giveAll 32 = .ok (.lastore, 1) := by decide +kernel
theorem dX2_giveAll_33 : decode cX2_giveAll 33 = .ok (.iinc 4 1, 3) := by decide +kernel
theorem dX2_giveAll_36 : decode cX2_giveAll 36 = .ok (.goto (-33), 3) := by decide +kernel
theorem dX2_giveAll_39 : decode cX2_giveAll 39 = .ok (.return_, 1) := by decide +kernel
theorem dX2_arrive_0 : decode cX2_arrive 0 = .ok (.iconst 0, 1) := by decide +kernel
theorem dX2_arrive_1 : decode cX2_arrive 1 = .ok (.istore_n 1, 1) := by decide +kernel
theorem dX2_arrive_2 : decode cX2_arrive 2 = .ok (.iload_n 1, 1) := by decide +kernel
theorem dX2_arrive_3 : decode cX2_arrive 3 = .ok (.aload_n 0, 1) := by decide +kernel
theorem dX2_arrive_4 : decode cX2_arrive 4 = .ok (.getfield 9, 3) := by decide +kernel
theorem dX2_arrive_7 : decode cX2_arrive 7 = .ok (.arraylength, 1) := by decide +kernel
theorem dX2_arrive_8 : decode cX2_arrive 8 = .ok (.if_icmp .ge 37, 3) := by decide +kernel
theorem dX2_arrive_11 : decode cX2_arrive 11 = .ok (.iload_n 1, 1) := by decide +kernel
theorem dX2_arrive_12 : decode cX2_arrive 12 = .ok (.aload_n 0, 1) := by decide +kernel
theorem dX2_arrive_13 : decode cX2_arrive 13 = .ok (.getfield 15, 3) := by decide +kernel
theorem dX2_arrive_16 : decode cX2_arrive 16 = .ok (.arraylength, 1) := by decide +kernel
theorem dX2_arrive_17 : decode cX2_arrive 17 = .ok (.if_icmp .ge 28, 3) := by decide +kernel
theorem dX2_arrive_20 : decode cX2_arrive 20 = .ok (.aload_n 0, 1) := by decide +kernel
theorem dX2_arrive_21 : decode cX2_arrive 21 = .ok (.getfield 9, 3) := by decide +kernel
theorem dX2_arrive_24 : decode cX2_arrive 24 = .ok (.iload_n 1, 1) := by decide +kernel
theorem dX2_arrive_25 : decode cX2_arrive 25 = .ok (.aload_n 0, 1) := by decide +kernel
theorem dX2_arrive_26 : decode cX2_arrive 26 = .ok (.getfield 15, 3) := by decide +kernel
theorem dX2_arrive_29 : decode cX2_arrive 29 = .ok (.iload_n 1, 1) := by decide +kernel
theorem dX2_arrive_30 : decode cX2_arrive 30 = .ok (.laload, 1) := by decide +kernel
theorem dX2_arrive_31 : decode cX2_arrive 31 = .ok (.lastore, 1) := by decide +kernel
theorem dX2_arrive_32 : decode cX2_arrive 32 = .ok (.aload_n 0, 1) := by decide +kernel
theorem dX2_arrive_33 : decode cX2_arrive 33 = .ok (.getfield 15, 3) := by decide +kernel
theorem dX2_arrive_36 : decode cX2_arrive 36 = .ok (.iload_n 1, 1) := by decide +kernel
theorem dX2_arrive_37 : decode cX2_arrive 37 = .ok (.lconst 0, 1) := by decide +kernel
theorem dX2_arrive_38 : decode cX2_arrive 38 = .ok (.lastore, 1) := by decide +kernel
theorem dX2_arrive_39 : decode cX2_arrive 39 = .ok (.iinc 1 1, 3) := by decide +kernel
theorem dX2_arrive_42 : decode cX2_arrive 42 = .ok (.goto (-40), 3) := by decide +kernel
theorem dX2_arrive_45 : decode cX2_arrive 45 = .ok (.return_, 1) := by decide +kernel
theorem dX2_hereAt_0 : decode cX2_hereAt 0 = .ok (.iload_n 1, 1) := by decide +kernel
theorem dX2_hereAt_1 : decode cX2_hereAt 1 = .ok (.ifCond .lt 21, 3) := by decide +kernel
theorem dX2_hereAt_4 : decode cX2_hereAt 4 = .ok (.iload_n 1, 1) := by decide +kernel
theorem dX2_hereAt_5 : decode cX2_hereAt 5 = .ok (.aload_n 0, 1) := by decide +kernel
theorem dX2_hereAt_6 : decode cX2_hereAt 6 = .ok (.getfield 9, 3) := by decide +kernel
theorem dX2_hereAt_9 : decode cX2_hereAt 9 = .ok (.arraylength, 1) := by decide +kernel
theorem dX2_hereAt_10 : decode cX2_hereAt 10 = .ok (.if_icmp .ge 12, 3) := by decide +kernel
theorem dX2_hereAt_13 : decode cX2_hereAt 13 = .ok (.aload_n 0, 1) := by decide +kernel
theorem dX2_hereAt_14 : decode cX2_hereAt 14 = .ok (.getfield 9, 3) := by decide +kernel
theorem dX2_hereAt_17 : decode cX2_hereAt 17 = .ok (.iload_n 1, 1) := by decide +kernel
theorem dX2_hereAt_18 : decode cX2_hereAt 18 = .ok (.laload, 1) := by decide +kernel
theorem dX2_hereAt_19 : decode cX2_hereAt 19 = .ok (.goto 4, 3) := by decide +kernel
theorem dX2_hereAt_22 : decode cX2_hereAt 22 = .ok (.lconst 0, 1) := by decide +kernel
theorem dX2_hereAt_23 : decode cX2_hereAt 23 = .ok (.lreturn, 1) := by decide +kernel
theorem dX2_commonDivisor_0 : decode cX2_commonDivisor 0 = .ok (.lload_n 0, 1) := by decide +kernel
theorem dX2_commonDivisor_1 : decode cX2_commonDivisor 1 = .ok (.lstore 4, 2) := by decide +kernel
theorem dX2_commonDivisor_3 : decode cX2_commonDivisor 3 = .ok (.lload_n 2, 1) := by decide +kernel
theorem dX2_commonDivisor_4 : decode cX2_commonDivisor 4 = .ok (.lstore 6, 2) := by decide +kernel
theorem dX2_commonDivisor_6 : decode cX2_commonDivisor 6 = .ok (.iconst 0, 1) := by decide +kernel
theorem dX2_commonDivisor_7 : decode cX2_commonDivisor 7 = .ok (.istore 8, 2) := by decide +kernel
theorem dX2_commonDivisor_9 : decode cX2_commonDivisor 9 = .ok (.iload 8, 2) := by decide +kernel
theorem dX2_commonDivisor_11 : decode cX2_commonDivisor 11 = .ok (.sipush 200, 3) := by decide +kernel
theorem dX2_commonDivisor_14 : decode cX2_commonDivisor 14 = .ok (.if_icmp .ge 31, 3) := by decide +kernel
theorem dX2_commonDivisor_17 : decode cX2_commonDivisor 17 = .ok (.lload 6, 2) := by decide +kernel
theorem dX2_commonDivisor_19 : decode cX2_commonDivisor 19 = .ok (.lconst 0, 1) := by decide +kernel
theorem dX2_commonDivisor_20 : decode cX2_commonDivisor 20 = .ok (.lcmp, 1) := by decide +kernel
theorem dX2_commonDivisor_21 : decode cX2_commonDivisor 21 = .ok (.ifCond .eq 24, 3) := by decide +kernel
theorem dX2_commonDivisor_24 : decode cX2_commonDivisor 24 = .ok (.lload 4, 2) := by decide +kernel
theorem dX2_commonDivisor_26 : decode cX2_commonDivisor 26 = .ok (.lload 6, 2) := by decide +kernel
theorem dX2_commonDivisor_28 : decode cX2_commonDivisor 28 = .ok (.lrem, 1) := by decide +kernel
theorem dX2_commonDivisor_29 : decode cX2_commonDivisor 29 = .ok (.lstore 9, 2) := by decide +kernel
theorem dX2_commonDivisor_31 : decode cX2_commonDivisor 31 = .ok (.lload 6, 2) := by decide +kernel
theorem dX2_commonDivisor_33 : decode cX2_commonDivisor 33 = .ok (.lstore 4, 2) := by decide +kernel
theorem dX2_commonDivisor_35 : decode cX2_commonDivisor 35 = .ok (.lload 9, 2) := by decide +kernel
theorem dX2_commonDivisor_37 : decode cX2_commonDivisor 37 = .ok (.lstore 6, 2) := by decide +kernel
theorem dX2_commonDivisor_39 : decode cX2_commonDivisor 39 = .ok (.iinc 8 1, 3) := by decide +kernel
theorem dX2_commonDivisor_42 : decode cX2_commonDivisor 42 = .ok (.goto (-33), 3) := by decide +kernel
theorem dX2_commonDivisor_45 : decode cX2_commonDivisor 45 = .ok (.lload 4, 2) := by decide +kernel
theorem dX2_commonDivisor_47 : decode cX2_commonDivisor 47 = .ok (.lreturn, 1) := by decide +kernel
theorem dX3_init_0 : decode cX3_init 0 = .ok (.aload_n 0, 1) := by decide +kernel
theorem dX3_init_1 : decode cX3_init 1 = .ok (.invokespecial 3, 3) := by decide +kernel
theorem dX3_init_4 : decode cX3_init 4 = .ok (.aload_n 0, 1) := by decide +kernel
theorem dX3_init_5 : decode cX3_init 5 = .ok (.sipush 200, 3) := by decide +kernel
theorem dX3_init_8 : decode cX3_init 8 = .ok (.newarray .int, 2) := by decide +kernel
theorem dX3_init_10 : decode cX3_init 10 = .ok (.putfield 11, 3) := by decide +kernel
theorem dX3_init_13 : decode cX3_init 13 = .ok (.aload_n 0, 1) := by decide +kernel
theorem dX3_init_14 : decode cX3_init 14 = .ok (.bipush 12, 2) := by decide +kernel
theorem dX3_init_16 : decode cX3_init 16 = .ok (.newarray .int, 2) := by decide +kernel
theorem dX3_init_18 : decode cX3_init 18 = .ok (.putfield 15, 3) := by decide +kernel
theorem dX3_init_21 : decode cX3_init 21 = .ok (.aload_n 0, 1) := by decide +kernel
theorem dX3_init_22 : decode cX3_init 22 = .ok (.bipush 12, 2) := by decide +kernel
theorem dX3_init_24 : decode cX3_init 24 = .ok (.newarray .int, 2) := by decide +kernel
theorem dX3_init_26 : decode cX3_init 26 = .ok (.putfield 18, 3) := by decide +kernel
theorem dX3_init_29 : decode cX3_init 29 = .ok (.aload_n 0, 1) := by decide +kernel
theorem dX3_init_30 : decode cX3_init 30 = .ok (.bipush 12, 2) := by decide +kernel
theorem dX3_init_32 : decode cX3_init 32 = .ok (.newarray .int, 2) := by decide +kernel
theorem dX3_init_34 : decode cX3_init 34 = .ok (.putfield 21, 3) := by decide +kernel
theorem dX3_init_37 : decode cX3_init 37 = .ok (.return_, 1) := by decide +kernel
theorem dX3_length_0 : decode cX3_length 0 = .ok (.aload_n 0, 1) := by decide +kernel
theorem dX3_length_1 : decode cX3_length 1 = .ok (.getfield 24, 3) := by decide +kernel
theorem dX3_length_4 : decode cX3_length 4 = .ok (.ireturn, 1) := by decide +kernel
theorem dX3_hasRoomFor_0 : decode cX3_hasRoomFor 0 = .ok (.iload_n 1, 1) := by decide +kernel
theorem dX3_hasRoomFor_1 : decode cX3_hasRoomFor 1 = .ok (.aload_n 0, 1) := by decide +kernel
theorem dX3_hasRoomFor_2 : decode cX3_hasRoomFor 2 = .ok (.getfield 11, 3) := by decide +kernel
theorem dX3_hasRoomFor_5 : decode cX3_hasRoomFor 5 = .ok (.arraylength, 1) := by decide +kernel
theorem dX3_hasRoomFor_6 : decode cX3_hasRoomFor 6 = .ok (.aload_n 0, 1) := by decide +kernel
theorem dX3_hasRoomFor_7 : decode cX3_hasRoomFor 7 = .ok (.getfield 24, 3) := by decide +kernel
theorem dX3_hasRoomFor_10 : decode cX3_hasRoomFor 10 = .ok (.isub, 1) := by decide +kernel
theorem dX3_hasRoomFor_11 : decode cX3_hasRoomFor 11 = .ok (.if_icmp .gt 7, 3) := by decide +kernel
theorem dX3_hasRoomFor_14 : decode cX3_hasRoomFor 14 = .ok (.iconst 1, 1) := by decide +kernel
theorem dX3_hasRoomFor_15 : decode cX3_hasRoomFor 15 = .ok (.goto 4, 3) := by decide +kernel
theorem dX3_hasRoomFor_18 : decode cX3_hasRoomFor 18 = .ok (.iconst 0, 1) := by decide +kernel
theorem dX3_hasRoomFor_19 : decode cX3_hasRoomFor 19 = .ok (.ireturn, 1) := by decide +kernel
theorem dX3_append_0 : decode cX3_append 0 = .ok (.iconst 0, 1) := by decide +kernel
theorem dX3_append_1 : decode cX3_append 1 = .ok (.istore 4, 2) := by decide +kernel
theorem dX3_append_3 : decode cX3_append 3 = .ok (.iload 4, 2) := by decide +kernel
theorem dX3_append_5 : decode cX3_append 5 = .ok (.iload_n 3, 1) := by decide +kernel
theorem dX3_append_6 : decode cX3_append 6 = .ok (.if_icmp .ge 52, 3) := by decide +kernel
theorem dX3_append_9 : decode cX3_append 9 = .ok (.aload_n 0, 1) := by decide +kernel
theorem dX3_append_10 : decode cX3_append 10 = .ok (.getfield 24, 3) := by decide +kernel
theorem dX3_append_13 : decode cX3_append 13 = .ok (.aload_n 0, 1) := by decide +kernel
theorem dX3_append_14 : decode cX3_append 14 = .ok (.getfield 11, 3) := by decide +kernel
theorem dX3_append_17 : decode cX3_append 17 = .ok (.arraylength, 1) := by decide +kernel
theorem dX3_append_18 : decode cX3_append 18 = .ok (.if_icmp .ge 40, 3) := by decide +kernel
theorem dX3_append_21 : decode cX3_append 21 = .ok (.aload_n 0, 1) := by decide +kernel
theorem dX3_append_22 : decode cX3_append 22 = .ok (.getfield 11, 3) := by decide +kernel
theorem dX3_append_25 : decode cX3_append 25 = .ok (.aload_n 0, 1) := by decide +kernel
theorem dX3_append_26 : decode cX3_append 26 = .ok (.getfield 24, 3) := by decide +kernel
theorem dX3_append_29 : decode cX3_append 29 = .ok (.lload_n 1, 1) := by decide +kernel
theorem dX3_append_30 : decode cX3_append 30 = .ok (.bipush 8, 2) := by decide +kernel
theorem dX3_append_32 : decode cX3_append 32 = .ok (.iload 4, 2) := by decide +kernel
theorem dX3_append_34 : decode cX3_append 34 = .ok (.imul, 1) := by decide +kernel
theorem dX3_append_35 : decode cX3_append 35 = .ok (.lshr, 1) := by decide +kernel
theorem dX3_append_36 : decode cX3_append 36 = .ok (.ldc2_w 28, 3) := by decide +kernel
theorem dX3_append_39 : decode cX3_append 39 = .ok (.land, 1) := by decide +kernel
theorem dX3_append_40 : decode cX3_append 40 = .ok (.l2i, 1) := by decide +kernel
theorem dX3_append_41 : decode cX3_append 41 = .ok (.iastore, 1) := by decide +kernel
theorem dX3_append_42 : decode cX3_append 42 = .ok (.aload_n 0, 1) := by decide +kernel
theorem dX3_append_43 : decode cX3_append 43 = .ok (.dup, 1) := by decide +kernel
theorem dX3_append_44 : decode cX3_append 44 = .ok (.getfield 24, 3) := by decide +kernel
theorem dX3_append_47 : decode cX3_append 47 = .ok (.iconst 1, 1) := by decide +kernel
theorem dX3_append_48 : decode cX3_append 48 = .ok (.iadd, 1) := by decide +kernel
theorem dX3_append_49 : decode cX3_append 49 = .ok (.putfield 24, 3) := by decide +kernel
theorem dX3_append_52 : decode cX3_append 52 = .ok (.iinc 4 1, 3) := by decide +kernel
theorem dX3_append_55 : decode cX3_append 55 = .ok (.goto (-52), 3) := by decide +kernel
theorem dX3_append_58 : decode cX3_append 58 = .ok (.aload_n 0, 1) := by decide +kernel
theorem dX3_append_59 : decode cX3_append 59 = .ok (.getfield 24, 3) := by decide +kernel
theorem dX3_append_62 : decode cX3_append 62 = .ok (.ireturn, 1) := by decide +kernel
theorem dX3_clear_0 : decode cX3_clear 0 = .ok (.aload_n 0, 1) := by decide +kernel
theorem dX3_clear_1 : decode cX3_clear 1 = .ok (.getfield 24, 3) := by decide +kernel
theorem dX3_clear_4 : decode cX3_clear 4 = .ok (.istore_n 1, 1) := by decide +kernel
theorem dX3_clear_5 : decode cX3_clear 5 = .ok (.aload_n 0, 1) := by decide +kernel
theorem dX3_clear_6 : decode cX3_clear 6 = .ok (.iconst 0, 1) := by decide +kernel
theorem dX3_clear_7 : decode cX3_clear 7 = .ok (.putfield 24, 3) := by decide +kernel
theorem dX3_clear_10 : decode cX3_clear 10 = .ok (.iload_n 1, 1) := by decide +kernel
theorem dX3_clear_11 : decode cX3_clear 11 = .ok (.ireturn, 1) := by decide +kernel
theorem dX3_lineCount_0 : decode cX3_lineCount 0 = .ok (.aload_n 0, 1) := by decide +kernel
theorem dX3_lineCount_1 : decode cX3_lineCount 1 = .ok (.getfield 30, 3) := by decide +kernel
theorem dX3_lineCount_4 : decode cX3_lineCount 4 = .ok (.ireturn, 1) := by decide +kernel
theorem dX3_wordOf_0 : decode cX3_wordOf 0 = .ok (.aload_n 0, 1) := by decide +kernel
theorem dX3_wordOf_1 : decode cX3_wordOf 1 = .ok (.getfield 15, 3) := by decide +kernel
theorem dX3_wordOf_4 : decode cX3_wordOf 4 = .ok (.iload_n 1, 1) := by decide +kernel
theorem dX3_wordOf_5 : decode cX3_wordOf 5 = .ok (.invokestatic 33, 3) := by decide +kernel
theorem dX3_wordOf_8 : decode cX3_wordOf 8 = .ok (.ireturn, 1) := by decide +kernel
theorem dX3_firstOf_0 : decode cX3_firstOf 0 = .ok (.aload_n 0, 1) := by decide +kernel
theorem dX3_firstOf_1 : decode cX3_firstOf 1 = .ok (.getfield 18, 3) := by decide +kernel
theorem dX3_firstOf_4 : decode cX3_firstOf 4 = .ok (.iload_n 1, 1) := by decide +kernel
theorem dX3_firstOf_5 : decode cX3_firstOf 5 = .ok (.invokestatic 33, 3) := by decide +kernel
theorem dX3_firstOf_8 : decode cX3_firstOf 8 = .ok (.ireturn, 1) := by decide +kernel
theorem dX3_secondOf_0 : decode cX3_secondOf 0 = .ok (.aload_n 0, 1) := by decide +kernel
theorem dX3_secondOf_1 : decode cX3_secondOf 1 = .ok (.getfield 21, 3) := by decide +kernel
theorem dX3_secondOf_4 : decode cX3_secondOf 4 = .ok (.iload_n 1, 1) := by decide +kernel
theorem dX3_secondOf_5 : decode cX3_secondOf 5 = .ok (.invokestatic 33, 3) := by decide +kernel
theorem dX3_secondOf_8 : decode cX3_secondOf 8 = .ok (.ireturn, 1) := by decide +kernel
theorem dX3_inLine_0 : decode cX3_inLine 0 = .ok (.iload_n 1, 1) := by decide +kernel
theorem dX3_inLine_1 : decode cX3_inLine 1 = .ok (.ifCond .lt 15, 3) := by decide +kernel
theorem dX3_inLine_4 : decode cX3_inLine 4 = .ok (.iload_n 1, 1) := by decide +kernel
theorem dX3_inLine_5 : decode cX3_inLine 5 = .ok (.aload_n 0, 1) := by decide +kernel
theorem dX3_inLine_6 : decode cX3_inLine 6 = .ok (.arraylength, 1) := by decide +kernel
theorem dX3_inLine_7 : decode cX3_inLine 7 = .ok (.if_icmp .ge 9, 3) := by decide +kernel
theorem dX3_inLine_10 : decode cX3_inLine 10 = .ok (.aload_n 0, 1) := by decide +kernel
theorem dX3_inLine_11 : decode cX3_inLine 11 = .ok (.iload_n 1, 1) := by decide +kernel
theorem dX3_inLine_12 : decode cX3_inLine 12 = .ok (.iaload, 1) := by decide +kernel
theorem dX3_inLine_13 : decode cX3_inLine 13 = .ok (.goto 4, 3) := by decide +kernel
theorem dX3_inLine_16 : decode cX3_inLine 16 = .ok (.iconst (-1), 1) := by decide +kernel
theorem dX3_inLine_17 : decode cX3_inLine 17 = .ok (.ireturn, 1) := by decide +kernel
theorem dX3_read_0 : decode cX3_read 0 = .ok (.aload_n 0, 1) := by decide +kernel
theorem dX3_read_1 : decode cX3_read 1 = .ok (.iconst 0, 1) := by decide +kernel
theorem dX3_read_2 : decode cX3_read 2 = .ok (.putfield 30, 3) := by decide +kernel
theorem dX3_read_5 : decode cX3_read 5 = .ok (.aload_n 0, 1) := by decide +kernel
theorem dX3_read_6 : decode cX3_read 6 = .ok (.iconst 0, 1) := by decide +kernel
theorem dX3_read_7 : decode cX3_read 7 = .ok (.putfield 37, 3) := by decide +kernel
theorem dX3_read_10 : decode cX3_read 10 = .ok (.iconst 0, 1) := by decide +kernel
theorem dX3_read_11 : decode cX3_read 11 = .ok (.istore_n 1, 1) := by decide +kernel
theorem dX3_read_12 : decode cX3_read 12 = .ok (.iload_n 1, 1) := by decide +kernel
theorem dX3_read_13 : decode cX3_read 13 = .ok (.bipush 12, 2) := by decide +kernel
theorem dX3_read_15 : decode cX3_read 15 = .ok (.if_icmp .ge 64, 3) := by decide +kernel
theorem dX3_read_18 : decode cX3_read 18 = .ok (.aload_n 0, 1) := by decide +kernel
theorem dX3_read_19 : decode cX3_read 19 = .ok (.iload_n 1, 1) := by decide +kernel
theorem dX3_read_20 : decode cX3_read 20 = .ok (.invokevirtual 40, 3) := by decide +kernel
theorem dX3_read_23 : decode cX3_read 23 = .ok (.ifCond .ne 8, 3) := by decide +kernel
theorem dX3_read_26 : decode cX3_read 26 = .ok (.aload_n 0, 1) := by decide +kernel
theorem dX3_read_27 : decode cX3_read 27 = .ok (.getfield 44, 3) := by decide +kernel
theorem dX3_read_30 : decode cX3_read 30 = .ok (.ireturn, 1) := by decide +kernel
theorem dX3_read_31 : decode cX3_read 31 = .ok (.aload_n 0, 1) := by decide +kernel
theorem dX3_read_32 : decode cX3_read 32 = .ok (.iload_n 1, 1) := by decide +kernel
theorem dX3_read_33 : decode cX3_read 33 = .ok (.iconst 1, 1) := by decide +kernel
theorem dX3_read_34 : decode cX3_read 34 = .ok (.iadd, 1) := by decide +kernel
theorem dX3_read_35 : decode cX3_read 35 = .ok (.putfield 30, 3) := by decide +kernel
theorem dX3_read_38 : decode cX3_read 38 = .ok (.aload_n 0, 1) := by decide +kernel
theorem dX3_read_39 : decode cX3_read 39 = .ok (.invokevirtual 47, 3) := by decide +kernel
theorem dX3_read_42 : decode cX3_read 42 = .ok (.aload_n 0, 1) := by decide +kernel
theorem dX3_read_43 : decode cX3_read 43 = .ok (.getfield 44, 3) := by decide +kernel
theorem dX3_read_46 : decode cX3_read 46 = .ok (.aload_n 0, 1) := by decide +kernel
theorem dX3_read_47 : decode cX3_read 47 = .ok (.getfield 24, 3) := by decide +kernel
theorem dX3_read_50 : decode cX3_read 50 = .ok (.if_icmp .ne 5, 3) := by decide +kernel
theorem dX3_read_53 : decode cX3_read 53 = .ok (.iconst (-1), 1) := by decide +kernel
theorem dX3_read_54 : decode cX3_read 54 = .ok (.ireturn, 1) := by decide +kernel
theorem dX3_read_55 : decode cX3_read 55 = .ok (.aload_n 0, 1) := by decide +kernel
theorem dX3_read_56 : decode cX3_read 56 = .ok (.aload_n 0, 1) := by decide +kernel
theorem dX3_read_57 : decode cX3_read 57 = .ok (.getfield 44, 3) := by decide +kernel
theorem dX3_read_60 : decode cX3_read 60 = .ok (.invokevirtual 50, 3) := by decide +kernel
theorem dX3_read_63 : decode cX3_read 63 = .ok (.bipush 59, 2) := by decide +kernel
theorem dX3_read_65 : decode cX3_read 65 = .ok (.if_icmp .eq 8, 3) := by decide +kernel
theorem dX3_read_68 : decode cX3_read 68 = .ok (.aload_n 0, 1) := by decide +kernel
theorem dX3_read_69 : decode cX3_read 69 = .ok (.getfield 44, 3) := by decide +kernel
theorem dX3_read_72 : decode cX3_read 72 = .ok (.ireturn, 1) := by decide +kernel
theorem dX3_read_73 : decode cX3_read 73 = .ok (.iinc 1 1, 3) := by decide +kernel
theorem dX3_read_76 : decode cX3_read 76 = .ok (.goto (-64), 3) := by decide +kernel
theorem dX3_read_79 : decode cX3_read 79 = .ok (.aload_n 0, 1) := by decide +kernel
theorem dX3_read_80 : decode cX3_read 80 = .ok (.getfield 44, 3) := by decide +kernel
theorem dX3_read_83 : decode cX3_read 83 = .ok (.ireturn, 1) := by decide +kernel
theorem dX3_readLine_0 : decode cX3_readLine 0 = .ok (.aload_n 0, 1) := by decide +kernel
theorem dX3_readLine_1 : decode cX3_readLine 1 = .ok (.invokevirtual 47, 3) := by decide +kernel
theorem dX3_readLine_4 : decode cX3_readLine 4 = .ok (.aload_n 0, 1) := by decide +kernel
theorem dX3_readLine_5 : decode cX3_readLine 5 = .ok (.invokevirtual 54, 3) := by decide +kernel
theorem dX3_readLine_8 : decode cX3_readLine 8 = .ok (.istore_n 2, 1) := by decide +kernel
theorem dX3_readLine_9 : decode cX3_readLine 9 = .ok (.iconst 0, 1) := by decide +kernel
theorem dX3_readLine_10 : decode cX3_readLine 10 = .ok (.istore_n 3, 1) := by decide +kernel
theorem dX3_readLine_11 : decode cX3_readLine 11 = .ok (.iconst 0, 1) := by decide +kernel
theorem dX3_readLine_12 : decode cX3_readLine 12 = .ok (.istore 4, 2) := by decide +kernel
theorem dX3_readLine_14 : decode cX3_readLine 14 = .ok (.iload_n 2, 1) := by decide +kernel
theorem dX3_readLine_15 : decode cX3_readLine 15 = .ok (.iconst (-1), 1) := by decide +kernel
theorem dX3_readLine_16 : decode cX3_readLine 16 = .ok (.if_icmp .ne 5, 3) := by decide +kernel
theorem dX3_readLine_19 : decode cX3_readLine 19 = .ok (.iconst 0, 1) := by decide +kernel
theorem dX3_readLine_20 : decode cX3_readLine 20 = .ok (.ireturn, 1) := by decide +kernel
theorem dX3_readLine_21 : decode cX3_readLine 21 = .ok (.iload_n 2, 1) := by decide +kernel
theorem dX3_readLine_22 : decode cX3_readLine 22 = .ok (.bipush 7, 2) := by decide +kernel
theorem dX3_readLine_24 : decode cX3_readLine 24 = .ok (.if_icmp .eq 17, 3) := by decide +kernel
theorem dX3_readLine_27 : decode cX3_readLine 27 = .ok (.aload_n 0, 1) := by decide +kernel
theorem dX3_readLine_28 : decode cX3_readLine 28 = .ok (.bipush 12, 2) := by decide +kernel
theorem dX3_readLine_30 : decode cX3_readLine 30 = .ok (.invokevirtual 58, 3) := by decide +kernel
theorem dX3_readLine_33 : decode cX3_readLine 33 = .ok (.istore_n 3, 1) := by decide +kernel
theorem dX3_readLine_34 : decode cX3_readLine 34 = .ok (.iload_n 3, 1) := by decide +kernel
theorem dX3_readLine_35 : decode cX3_readLine 35 = .ok (.iconst (-1), 1) := by decide +kernel
theorem dX3_readLine_36 : decode cX3_readLine 36 = .ok (.if_icmp .ne 5, 3) := by decide +kernel
theorem dX3_readLine_39 : decode cX3_readLine 39 = .ok (.iconst 0, 1) := by decide +kernel
theorem dX3_readLine_40 : decode cX3_readLine 40 = .ok (.ireturn, 1) := by decide +kernel
theorem dX3_readLine_41 : decode cX3_readLine 41 = .ok (.iload_n 2, 1) := by decide +kernel
theorem dX3_readLine_42 : decode cX3_readLine 42 = .ok (.iconst 4, 1) := by decide +kernel
theorem dX3_readLine_43 : decode cX3_readLine 43 = .ok (.if_icmp .eq 8, 3) := by decide +kernel
theorem dX3_readLine_46 : decode cX3_readLine 46 = .ok (.iload_n 2, 1) := by decide +kernel
theorem dX3_readLine_47 : decode cX3_readLine 47 = .ok (.iconst 5, 1) := by decide +kernel
theorem dX3_readLine_48 : decode cX3_readLine 48 = .ok (.if_icmp .ne 23, 3) := by decide +kernel
theorem dX3_readLine_51 : decode cX3_readLine 51 = .ok (.aload_n 0, 1) := by decide +kernel
theorem dX3_readLine_52 : decode cX3_readLine 52 = .ok (.bipush 12, 2) := by decide +kernel
theorem dX3_readLine_54 : decode cX3_readLine 54 = .ok (.invokevirtual 58, 3) := by decide +kernel
theorem dX3_readLine_57 : decode cX3_readLine 57 = .ok (.istore 4, 2) := by decide +kernel
theorem dX3_readLine_59 : decode cX3_readLine 59 = .ok (.iload_n 3, 1) := by decide +kernel
theorem dX3_readLine_60 : decode cX3_readLine 60 = .ok (.iload 4, 2) := by decide +kernel
theorem dX3_readLine_62 : decode cX3_readLine 62 = .ok (.invokestatic 61, 3) := by decide +kernel
theorem dX3_readLine_65 : decode cX3_readLine 65 = .ok (.iconst (-1), 1) := by decide +kernel
theorem dX3_readLine_66 : decode cX3_readLine 66 = .ok (.if_icmp .ne 5, 3) := by decide +kernel
theorem dX3_readLine_69 : decode cX3_readLine 69 = .ok (.iconst 0, 1) := by decide +kernel
theorem dX3_readLine_70 : decode cX3_readLine 70 = .ok (.ireturn, 1) := by decide +kernel
theorem dX3_readLine_71 : decode cX3_readLine 71 = .ok (.iload_n 2, 1) := by decide +kernel
theorem dX3_readLine_72 : decode cX3_readLine 72 = .ok (.bipush 6, 2) := by decide +kernel
theorem dX3_readLine_74 : decode cX3_readLine 74 = .ok (.if_icmp .ne 18, 3) := by decide +kernel
theorem dX3_readLine_77 : decode cX3_readLine 77 = .ok (.aload_n 0, 1) := by decide +kernel
theorem dX3_readLine_78 : decode cX3_readLine 78 = .ok (.iconst 5, 1) := by decide +kernel
theorem dX3_readLine_79 : decode cX3_readLine 79 = .ok (.invokevirtual 58, 3) := by decide +kernel
theorem dX3_readLine_82 : decode cX3_readLine 82 = .ok (.istore 4, 2) := by decide +kernel
theorem dX3_readLine_84 : decode cX3_readLine 84 = .ok (.iload 4, 2) := by decide +kernel
theorem dX3_readLine_86 : decode cX3_readLine 86 = .ok (.iconst (-1), 1) := by decide +kernel
theorem dX3_readLine_87 : decode cX3_readLine 87 = .ok (.if_icmp .ne 5, 3) := by decide +kernel
theorem dX3_readLine_90 : decode cX3_readLine 90 = .ok (.iconst 0, 1) := by decide +kernel
theorem dX3_readLine_91 : decode cX3_readLine 91 = .ok (.ireturn, 1) := by decide +kernel
theorem dX3_readLine_92 : decode cX3_readLine 92 = .ok (.aload_n 0, 1) := by decide +kernel
theorem dX3_readLine_93 : decode cX3_readLine 93 = .ok (.iload_n 1, 1) := by decide +kernel
theorem dX3_readLine_94 : decode cX3_readLine 94 = .ok (.iload_n 2, 1) := by decide +kernel
theorem dX3_readLine_95 : decode cX3_readLine 95 = .ok (.iload_n 3, 1) := by decide +kernel
theorem dX3_readLine_96 : decode cX3_readLine 96 = .ok (.iload 4, 2) := by decide +kernel
theorem dX3_readLine_98 : decode cX3_readLine 98 = .ok (.invokevirtual 67, 3) := by decide +kernel
theorem dX3_readLine_101 : decode cX3_readLine 101 = .ok (.iconst 1, 1) := by decide +kernel
theorem dX3_readLine_102 : decode cX3_readLine 102 = .ok (.ireturn, 1) := by decide +kernel
theorem dX3_setLine_0 : decode cX3_setLine 0 = .ok (.iload_n 1, 1) := by decide +kernel
theorem dX3_setLine_1 : decode cX3_setLine 1 = .ok (.ifCond .lt 52, 3) := by decide +kernel
theorem dX3_setLine_4 : decode cX3_setLine 4 = .ok (.iload_n 1, 1) := by decide +kernel
theorem dX3_setLine_5 : decode cX3_setLine 5 = .ok (.aload_n 0, 1) := by decide +kernel
theorem dX3_setLine_6 : decode cX3_setLine 6 = .ok (.getfield 15, 3) := by decide +kernel
theorem dX3_setLine_9 : decode cX3_setLine 9 = .ok (.arraylength, 1) := by decide +kernel
theorem dX3_setLine_10 : decode cX3_setLine 10 = .ok (.if_icmp .ge 43, 3) := by decide +kernel
theorem dX3_setLine_13 : decode cX3_setLine 13 = .ok (.iload_n 1, 1) := by decide +kernel
theorem dX3_setLine_14 : decode cX3_setLine 14 = .ok (.aload_n 0, 1) := by decide +kernel
theorem dX3_setLine_15 : decode cX3_setLine 15 = .ok (.getfield 18, 3) := by decide +kernel
theorem dX3_setLine_18 : decode cX3_setLine 18 = .ok (.arraylength, 1) := by decide +kernel
theorem dX3_setLine_19 : decode cX3_setLine 19 = .ok (.if_icmp .ge 34, 3) := by decide +kernel
theorem dX3_setLine_22 : decode cX3_setLine 22 = .ok (.iload_n 1, 1) := by decide +kernel
theorem dX3_setLine_23 : decode cX3_setLine 23 = .ok (.aload_n 0, 1) := by decide +kernel
theorem dX3_setLine_24 : decode cX3_setLine 24 = .ok (.getfield 21, 3) := by decide +kernel
theorem dX3_setLine_27 : decode cX3_setLine 27 = .ok (.arraylength, 1) := by decide +kernel
theorem dX3_setLine_28 : decode cX3_setLine 28 = .ok (.if_icmp .ge 25, 3) := by decide +kernel
theorem dX3_setLine_31 : decode cX3_setLine 31 = .ok (.aload_n 0, 1) := by decide +kernel
theorem dX3_setLine_32 : decode cX3_setLine 32 = .ok (.getfield 15, 3) := by decide +kernel
theorem dX3_setLine_35 : decode cX3_setLine 35 = .ok (.iload_n 1, 1) := by decide +kernel
theorem dX3_setLine_36 : decode cX3_setLine 36 = .ok (.iload_n 2, 1) := by decide +kernel
theorem dX3_setLine_37 : decode cX3_setLine 37 = .ok (.iastore, 1) := by decide +kernel
theorem dX3_setLine_38 : decode cX3_setLine 38 = .ok (.aload_n 0, 1) := by decide +kernel
theorem dX3_setLine_39 : decode cX3_setLine 39 = .ok (.getfield 18, 3) := by decide +kernel
theorem dX3_setLine_42 : decode cX3_setLine 42 = .ok (.iload_n 1, 1) := by decide +kernel
theorem dX3_setLine_43 : decode cX3_setLine 43 = .ok (.iload_n 3, 1) := by decide +kernel
theorem dX3_setLine_44 : decode cX3_setLine 44 = .ok (.iastore, 1) := by decide +kernel
theorem dX3_setLine_45 : decode cX3_setLine 45 = .ok (.aload_n 0, 1) := by decide +kernel
theorem dX3_setLine_46 : decode cX3_setLine 46 = .ok (.getfield 21, 3) := by decide +kernel
theorem dX3_setLine_49 : decode cX3_setLine 49 = .ok (.iload_n 1, 1) := by decide +kernel
theorem dX3_setLine_50 : decode cX3_setLine 50 = .ok (.iload 4, 2) := by decide +kernel
theorem dX3_setLine_52 : decode cX3_setLine 52 = .ok (.iastore, 1) := by decide +kernel
theorem dX3_setLine_53 : decode cX3_setLine 53 = .ok (.return_, 1) := by decide +kernel
theorem dX3_nextToken_0 : decode cX3_nextToken 0 = .ok (.aload_n 0, 1) := by decide +kernel
theorem dX3_nextToken_1 : decode cX3_nextToken 1 = .ok (.aload_n 0, 1) := by decide +kernel
theorem dX3_nextToken_2 : decode cX3_nextToken 2 = .ok (.getfield 37, 3) := by decide +kernel
theorem dX3_nextToken_5 : decode cX3_nextToken 5 = .ok (.putfield 44, 3) := by decide +kernel
theorem dX3_nextToken_8 : decode cX3_nextToken 8 = .ok (.aload_n 0, 1) := by decide +kernel
theorem dX3_nextToken_9 : decode cX3_nextToken 9 = .ok (.getfield 44, 3) := by decide +kernel
theorem dX3_nextToken_12 : decode cX3_nextToken 12 = .ok (.aload_n 0, 1) := by decide +kernel
theorem dX3_nextToken_13 : decode cX3_nextToken 13 = .ok (.getfield 24, 3) := by decide +kernel
theorem dX3_nextToken_16 : decode cX3_nextToken 16 = .ok (.if_icmp .ge 29, 3) := by decide +kernel
theorem dX3_nextToken_19 : decode cX3_nextToken 19 = .ok (.aload_n 0, 1) := by decide +kernel
theorem dX3_nextToken_20 : decode cX3_nextToken 20 = .ok (.aload_n 0, 1) := by decide +kernel
theorem dX3_nextToken_21 : decode cX3_nextToken 21 = .ok (.getfield 44, 3) := by decide +kernel
theorem dX3_nextToken_24 : decode cX3_nextToken 24 = .ok (.invokevirtual 50, 3) := by decide +kernel
theorem dX3_nextToken_27 : decode cX3_nextToken 27 = .ok (.bipush 32, 2) := by decide +kernel
theorem dX3_nextToken_29 : decode cX3_nextToken 29 = .ok (.if_icmp .ne 16, 3) := by decide +kernel
theorem dX3_nextToken_32 : decode cX3_nextToken 32 = .ok (.aload_n 0, 1) := by decide +kernel
theorem dX3_nextToken_33 : decode cX3_nextToken 33 = .ok (.dup, 1) := by decide +kernel
theorem dX3_nextToken_34 : decode cX3_nextToken 34 = .ok (.getfield 44, 3) := by decide +kernel
theorem dX3_nextToken_37 : decode cX3_nextToken 37 = .ok (.iconst 1, 1) := by decide +kernel
theorem dX3_nextToken_38 : decode cX3_nextToken 38 = .ok (.iadd, 1) := by decide +kernel
theorem dX3_nextToken_39 : decode cX3_nextToken 39 = .ok (.putfield 44, 3) := by decide +kernel
theorem dX3_nextToken_42 : decode cX3_nextToken 42 = .ok (.goto (-34), 3) := by decide +kernel
theorem dX3_nextToken_45 : decode cX3_nextToken 45 = .ok (.aload_n 0, 1) := by decide +kernel
theorem dX3_nextToken_46 : decode cX3_nextToken 46 = .ok (.aload_n 0, 1) := by decide +kernel
theorem dX3_nextToken_47 : decode cX3_nextToken 47 = .ok (.getfield 44, 3) := by decide +kernel
theorem dX3_nextToken_50 : decode cX3_nextToken 50 = .ok (.putfield 37, 3) := by decide +kernel
theorem dX3_nextToken_53 : decode cX3_nextToken 53 = .ok (.aload_n 0, 1) := by decide +kernel
theorem dX3_nextToken_54 : decode cX3_nextToken 54 = .ok (.getfield 44, 3) := by decide +kernel
theorem dX3_nextToken_57 : decode cX3_nextToken 57 = .ok (.aload_n 0, 1) := by decide +kernel
theorem dX3_nextToken_58 : decode cX3_nextToken 58 = .ok (.getfield 24, 3) := by decide +kernel
theorem dX3_nextToken_61 : decode cX3_nextToken 61 = .ok (.if_icmp .ge 69, 3) := by decide +kernel
theorem dX3_nextToken_64 : decode cX3_nextToken 64 = .ok (.aload_n 0, 1) := by decide +kernel
theorem dX3_nextToken_65 : decode cX3_nextToken 65 = .ok (.aload_n 0, 1) := by decide +kernel
theorem dX3_nextToken_66 : decode cX3_nextToken 66 = .ok (.getfield 44, 3) := by decide +kernel
theorem dX3_nextToken_69 : decode cX3_nextToken 69 = .ok (.invokevirtual 50, 3) := by decide +kernel
theorem dX3_nextToken_72 : decode cX3_nextToken 72 = .ok (.invokestatic 71, 3) := by decide +kernel
theorem dX3_nextToken_75 : decode cX3_nextToken 75 = .ok (.istore_n 1, 1) := by decide +kernel
theorem dX3_nextToken_76 : decode cX3_nextToken 76 = .ok (.aload_n 0, 1) := by decide +kernel
theorem dX3_nextToken_77 : decode cX3_nextToken 77 = .ok (.dup, 1) := by decide +kernel
theorem dX3_nextToken_78 : decode cX3_nextToken 78 = .ok (.getfield 37, 3) := by decide +kernel
theorem dX3_nextToken_81 : decode cX3_nextToken 81 = .ok (.iconst 1, 1) := by decide +kernel
theorem dX3_nextToken_82 : decode cX3_nextToken 82 = .ok (.iadd, 1) := by decide +kernel
theorem dX3_nextToken_83 : decode cX3_nextToken 83 = .ok (.putfield 37, 3) := by decide +kernel
theorem dX3_nextToken_86 : decode cX3_nextToken 86 = .ok (.aload_n 0, 1) := by decide +kernel
theorem dX3_nextToken_87 : decode cX3_nextToken 87 = .ok (.getfield 37, 3) := by decide +kernel
theorem dX3_nextToken_90 : decode cX3_nextToken 90 = .ok (.aload_n 0, 1) := by decide +kernel
theorem dX3_nextToken_91 : decode cX3_nextToken 91 = .ok (.getfield 24, 3) := by decide +kernel
theorem dX3_nextToken_94 : decode cX3_nextToken 94 = .ok (.if_icmp .ge 36, 3) := by decide +kernel
theorem dX3_nextToken_97 : decode cX3_nextToken 97 = .ok (.iload_n 1, 1) := by decide +kernel
theorem dX3_nextToken_98 : decode cX3_nextToken 98 = .ok (.iconst 2, 1) := by decide +kernel
theorem dX3_nextToken_99 : decode cX3_nextToken 99 = .ok (.if_icmp .eq 31, 3) := by decide +kernel
theorem dX3_nextToken_102 : decode cX3_nextToken 102 = .ok (.aload_n 0, 1) := by decide +kernel
theorem dX3_nextToken_103 : decode cX3_nextToken 103 = .ok (.aload_n 0, 1) := by decide +kernel
theorem dX3_nextToken_104 : decode cX3_nextToken 104 = .ok (.getfield 37, 3) := by decide +kernel
theorem dX3_nextToken_107 : decode cX3_nextToken 107 = .ok (.invokevirtual 50, 3) := by decide +kernel
theorem dX3_nextToken_110 : decode cX3_nextToken 110 = .ok (.invokestatic 71, 3) := by decide +kernel
theorem dX3_nextToken_113 : decode cX3_nextToken 113 = .ok (.iload_n 1, 1) := by decide +kernel
theorem dX3_nextToken_114 : decode cX3_nextToken 114 = .ok (.if_icmp .ne 16, 3) := by decide +kernel
theorem dX3_nextToken_117 : decode cX3_nextToken 117 = .ok (.aload_n 0, 1) := by decide +kernel
theorem dX3_nextToken_118 : decode cX3_nextToken 118 = .ok (.dup, 1) := by decide +kernel
theorem dX3_nextToken_119 : decode cX3_nextToken 119 = .ok (.getfield 37, 3) := by decide +kernel
theorem dX3_nextToken_122 : decode cX3_nextToken 122 = .ok (.iconst 1, 1) := by decide +kernel
theorem dX3_nextToken_123 : decode cX3_nextToken 123 = .ok (.iadd, 1) := by decide +kernel
theorem dX3_nextToken_124 : decode cX3_nextToken 124 = .ok (.putfield 37, 3) := by decide +kernel
theorem dX3_nextToken_127 : decode cX3_nextToken 127 = .ok (.goto (-41), 3) := by decide +kernel
theorem dX3_nextToken_130 : decode cX3_nextToken 130 = .ok (.return_, 1) := by decide +kernel
theorem dX3_signAt_0 : decode cX3_signAt 0 = .ok (.iload_n 1, 1) := by decide +kernel
theorem dX3_signAt_1 : decode cX3_signAt 1 = .ok (.ifCond .lt 29, 3) := by decide +kernel
theorem dX3_signAt_4 : decode cX3_signAt 4 = .ok (.iload_n 1, 1) := by decide +kernel
theorem dX3_signAt_5 : decode cX3_signAt 5 = .ok (.aload_n 0, 1) := by decide +kernel
theorem dX3_signAt_6 : decode cX3_signAt 6 = .ok (.getfield 24, 3) := by decide +kernel
theorem dX3_signAt_9 : decode cX3_signAt 9 = .ok (.if_icmp .ge 21, 3) := by decide +kernel
theorem dX3_signAt_12 : decode cX3_signAt 12 = .ok (.iload_n 1, 1) := by decide +kernel
theorem dX3_signAt_13 : decode cX3_signAt 13 = .ok (.aload_n 0, 1) := by decide +kernel
theorem dX3_signAt_14 : decode cX3_signAt 14 = .ok (.getfield 11, 3) := by decide +kernel
theorem dX3_signAt_17 : decode cX3_signAt 17 = .ok (.arraylength, 1) := by decide +kernel
theorem dX3_signAt_18 : decode cX3_signAt 18 = .ok (.if_icmp .ge 12, 3) := by decide +kernel
theorem dX3_signAt_21 : decode cX3_signAt 21 = .ok (.aload_n 0, 1) := by decide +kernel
theorem dX3_signAt_22 : decode cX3_signAt 22 = .ok (.getfield 11, 3) := by decide +kernel
theorem dX3_signAt_25 : decode cX3_signAt 25 = .ok (.iload_n 1, 1) := by decide +kernel
theorem dX3_signAt_26 : decode cX3_signAt 26 = .ok (.iaload, 1) := by decide +kernel
theorem dX3_signAt_27 : decode cX3_signAt 27 = .ok (.goto 4, 3) := by decide +kernel
theorem dX3_signAt_30 : decode cX3_signAt 30 = .ok (.iconst (-1), 1) := by decide +kernel
theorem dX3_signAt_31 : decode cX3_signAt 31 = .ok (.ireturn, 1) := by decide +kernel
theorem dX3_sortOf_0 : decode cX3_sortOf 0 = .ok (.iload_n 0, 1) := by decide +kernel
theorem dX3_sortOf_1 : decode cX3_sortOf 1 = .ok (.bipush 97, 2) := by decide +kernel
theorem dX3_sortOf_3 : decode cX3_sortOf 3 = .ok (.if_icmp .lt 11, 3) := by decide +kernel
theorem dX3_sortOf_6 : decode cX3_sortOf 6 = .ok (.iload_n 0, 1) := by decide +kernel
theorem dX3_sortOf_7 : decode cX3_sortOf 7 = .ok (.bipush 122, 2) := by decide +kernel
theorem dX3_sortOf_9 : decode cX3_sortOf 9 = .ok (.if_icmp .gt 5, 3) := by decide +kernel
theorem dX3_sortOf_12 : decode cX3_sortOf 12 = .ok (.iconst 0, 1) := by decide +kernel
theorem dX3_sortOf_13 : decode cX3_sortOf 13 = .ok (.ireturn, 1) := by decide +kernel
theorem dX3_sortOf_14 : decode cX3_sortOf 14 = .ok (.iload_n 0, 1) := by decide +kernel
theorem dX3_sortOf_15 : decode cX3_sortOf 15 = .ok (.bipush 48, 2) := by decide +kernel
theorem dX3_sortOf_17 : decode cX3_sortOf 17 = .ok (.if_icmp .lt 13, 3) := by decide +kernel
theorem dX3_sortOf_20 : decode cX3_sortOf 20 = .ok (.iload_n 0, 1) := by decide +kernel
theorem dX3_sortOf_21 : decode cX3_sortOf 21 = .ok (.bipush 57, 2) := by decide +kernel
theorem dX3_sortOf_23 : decode cX3_sortOf 23 = .ok (.if_icmp .gt 7, 3) := by decide +kernel
theorem dX3_sortOf_26 : decode cX3_sortOf 26 = .ok (.iconst 1, 1) := by decide +kernel
theorem dX3_sortOf_27 : decode cX3_sortOf 27 = .ok (.goto 4, 3) := by decide +kernel
theorem dX3_sortOf_30 : decode cX3_sortOf 30 = .ok (.iconst 2, 1) := by decide +kernel
theorem dX3_sortOf_31 : decode cX3_sortOf 31 = .ok (.ireturn, 1) := by decide +kernel
theorem dX3_wordHere_0 : decode cX3_wordHere 0 = .ok (.aload_n 0, 1) := by decide +kernel
theorem dX3_wordHere_1 : decode cX3_wordHere 1 = .ok (.ldc 74, 2) := by decide +kernel
theorem dX3_wordHere_3 : decode cX3_wordHere 3 = .ok (.invokevirtual 76, 3) := by decide +kernel
theorem dX3_wordHere_6 : decode cX3_wordHere 6 = .ok (.ifCond .eq 5, 3) := by decide +kernel
theorem dX3_wordHere_9 : decode cX3_wordHere 9 = .ok (.iconst 0, 1) := by decide +kernel
theorem dX3_wordHere_10 : decode cX3_wordHere 10 = .ok (.ireturn, 1) := by decide +kernel
theorem dX3_wordHere_11 : decode cX3_wordHere 11 = .ok (.aload_n 0, 1) := by decide +kernel
theorem dX3_wordHere_12 : decode cX3_wordHere 12 = .ok (.ldc 80, 2) := by decide +kernel
theorem dX3_wordHere_14 : decode cX3_wordHere 14 = .ok (.invokevirtual 76, 3) := by decide +kernel
theorem dX3_wordHere_17 : decode cX3_wordHere 17 = .ok (.ifCond .eq 5, 3) := by decide +kernel
theorem dX3_wordHere_20 : decode cX3_wordHere 20 = .ok (.iconst 1, 1) := by decide +kernel
theorem dX3_wordHere_21 : decode cX3_wordHere 21 = .ok (.ireturn, 1) := by decide +kernel
theorem dX3_wordHere_22 : decode cX3_wordHere 22 = .ok (.aload_n 0, 1) := by decide +kernel
theorem dX3_wordHere_23 : decode cX3_wordHere 23 = .ok (.ldc 82, 2) := by decide +kernel
theorem dX3_wordHere_25 : decode cX3_wordHere 25 = .ok (.invokevirtual 76, 3) := by decide +kernel
theorem dX3_wordHere_28 : decode cX3_wordHere 28 = .ok (.ifCond .eq 5, 3) := by decide +kernel
theorem dX3_wordHere_31 : decode cX3_wordHere 31 = .ok (.iconst 2, 1) := by decide +kernel
theorem dX3_wordHere_32 : decode cX3_wordHere 32 = .ok (.ireturn, 1) := by decide +kernel
theorem dX3_wordHere_33 : decode cX3_wordHere 33 = .ok (.aload_n 0, 1) := by decide +kernel
theorem dX3_wordHere_34 : decode cX3_wordHere 34 = .ok (.ldc 84, 2) := by decide +kernel
theorem dX3_wordHere_36 : decode cX3_wordHere 36 = .ok (.invokevirtual 76, 3) := by decide +kernel
theorem dX3_wordHere_39 : decode cX3_wordHere 39 = .ok (.ifCond .eq 5, 3) := by decide +kernel
theorem dX3_wordHere_42 : decode cX3_wordHere 42 = .ok (.iconst 3, 1) := by decide +kernel
theorem dX3_wordHere_43 : decode cX3_wordHere 43 = .ok (.ireturn, 1) := by decide +kernel
theorem dX3_wordHere_44 : decode cX3_wordHere 44 = .ok (.aload_n 0, 1) := by decide +kernel
theorem dX3_wordHere_45 : decode cX3_wordHere 45 = .ok (.ldc 86, 2) := by decide +kernel
theorem dX3_wordHere_47 : decode cX3_wordHere 47 = .ok (.invokevirtual 76, 3) := by decide +kernel
theorem dX3_wordHere_50 : decode cX3_wordHere 50 = .ok (.ifCond .eq 5, 3) := by decide +kernel
theorem dX3_wordHere_53 : decode cX3_wordHere 53 = .ok (.iconst 4, 1) := by decide +kernel
theorem dX3_wordHere_54 : decode cX3_wordHere 54 = .ok (.ireturn, 1) := by decide +kernel
theorem dX3_wordHere_55 : decode cX3_wordHere 55 = .ok (.aload_n 0, 1) := by decide +kernel
theorem dX3_wordHere_56 : decode cX3_wordHere 56 = .ok (.ldc 88, 2) := by decide +kernel
theorem dX3_wordHere_58 : decode cX3_wordHere 58 = .ok (.invokevirtual 76, 3) := by decide +kernel
theorem dX3_wordHere_61 : decode cX3_wordHere 61 = .ok (.ifCond .eq 5, 3) := by decide +kernel
theorem dX3_wordHere_64 : decode cX3_wordHere 64 = .ok (.iconst 5, 1) := by decide +kernel
theorem dX3_wordHere_65 : decode cX3_wordHere 65 = .ok (.ireturn, 1) := by decide +kernel
theorem dX3_wordHere_66 : decode cX3_wordHere 66 = .ok (.aload_n 0, 1) := by decide +kernel
theorem dX3_wordHere_67 : decode cX3_wordHere 67 = .ok (.ldc 90, 2) := by decide +kernel
theorem dX3_wordHere_69 : decode cX3_wordHere 69 = .ok (.invokevirtual 76, 3) := by decide +kernel
theorem dX3_wordHere_72 : decode cX3_wordHere 72 = .ok (.ifCond .eq 6, 3) := by decide +kernel
theorem dX3_wordHere_75 : decode cX3_wordHere 75 = .ok (.bipush 6, 2) := by decide +kernel
theorem dX3_wordHere_77 : decode cX3_wordHere 77 = .ok (.ireturn, 1) := by decide +kernel
theorem dX3_wordHere_78 : decode cX3_wordHere 78 = .ok (.aload_n 0, 1) := by decide +kernel
theorem dX3_wordHere_79 : decode cX3_wordHere 79 = .ok (.ldc 92, 2) := by decide +kernel
theorem dX3_wordHere_81 : decode cX3_wordHere 81 = .ok (.invokevirtual 76, 3) := by decide +kernel
theorem dX3_wordHere_84 : decode cX3_wordHere 84 = .ok (.ifCond .eq 8, 3) := by decide +kernel
theorem dX3_wordHere_87 : decode cX3_wordHere 87 = .ok (.bipush 7, 2) := by decide +kernel
theorem dX3_wordHere_89 : decode cX3_wordHere 89 = .ok (.goto 4, 3) := by decide +kernel
theorem dX3_wordHere_92 : decode cX3_wordHere 92 = .ok (.iconst (-1), 1) := by decide +kernel
theorem dX3_wordHere_93 : decode cX3_wordHere 93 = .ok (.ireturn, 1) := by decide +kernel
theorem dX3_spells_0 : decode cX3_spells 0 = .ok (.aload_n 0, 1) := by decide +kernel
theorem dX3_spells_1 : decode cX3_spells 1 = .ok (.getfield 37, 3) := by decide +kernel
theorem dX3_spells_4 : decode cX3_spells 4 = .ok (.aload_n 0, 1) := by decide +kernel
theorem dX3_spells_5 : decode cX3_spells 5 = .ok (.getfield 44, 3) := by decide +kernel
theorem dX3_spells_8 : decode cX3_spells 8 = .ok (.isub, 1) := by decide +kernel
theorem dX3_spells_9 : decode cX3_spells 9 = .ok (.aload_n 1, 1) := by decide +kernel
theorem dX3_spells_10 : decode cX3_spells 10 = .ok (.invokevirtual 94, 3) := by decide +kernel
theorem dX3_spells_13 : decode cX3_spells 13 = .ok (.if_icmp .eq 5, 3) := by decide +kernel
theorem dX3_spells_16 : decode cX3_spells 16 = .ok (.iconst 0, 1) := by decide +kernel
theorem dX3_spells_17 : decode cX3_spells 17 = .ok (.ireturn, 1) := by decide +kernel
theorem dX3_spells_18 : decode cX3_spells 18 = .ok (.iconst 0, 1) := by decide +kernel
theorem dX3_spells_19 : decode cX3_spells 19 = .ok (.istore_n 2, 1) := by decide +kernel
theorem dX3_spells_20 : decode cX3_spells 20 = .ok (.iload_n 2, 1) := by decide +kernel
theorem dX3_spells_21 : decode cX3_spells 21 = .ok (.aload_n 1, 1) := by decide +kernel
theorem dX3_spells_22 : decode cX3_spells 22 = .ok (.invokevirtual 94, 3) := by decide +kernel
theorem dX3_spells_25 : decode cX3_spells 25 = .ok (.if_icmp .ge 29, 3) := by decide +kernel
theorem dX3_spells_28 : decode cX3_spells 28 = .ok (.aload_n 0, 1) := by decide +kernel
theorem dX3_spells_29 : decode cX3_spells 29 = .ok (.aload_n 0, 1) := by decide +kernel
theorem dX3_spells_30 : decode cX3_spells 30 = .ok (.getfield 44, 3) := by decide +kernel
theorem dX3_spells_33 : decode cX3_spells 33 = .ok (.iload_n 2, 1) := by decide +kernel
theorem dX3_spells_34 : decode cX3_spells 34 = .ok (.iadd, 1) := by decide +kernel
theorem dX3_spells_35 : decode cX3_spells 35 = .ok (.invokevirtual 50, 3) := by decide +kernel
theorem dX3_spells_38 : decode cX3_spells 38 = .ok (.aload_n 1, 1) := by decide +kernel
theorem dX3_spells_39 : decode cX3_spells 39 = .ok (.iload_n 2, 1) := by decide +kernel
theorem dX3_spells_40 : decode cX3_spells 40 = .ok (.invokevirtual 98, 3) := by decide +kernel
theorem dX3_spells_43 : decode cX3_spells 43 = .ok (.if_icmp .eq 5, 3) := by decide +kernel
theorem dX3_spells_46 : decode cX3_spells 46 = .ok (.iconst 0, 1) := by decide +kernel
theorem dX3_spells_47 : decode cX3_spells 47 = .ok (.ireturn, 1) := by decide +kernel
theorem dX3_spells_48 : decode cX3_spells 48 = .ok (.iinc 2 1, 3) := by decide +kernel
theorem dX3_spells_51 : decode cX3_spells 51 = .ok (.goto (-31), 3) := by decide +kernel
theorem dX3_spells_54 : decode cX3_spells 54 = .ok (.iconst 1, 1) := by decide +kernel
theorem dX3_spells_55 : decode cX3_spells 55 = .ok (.ireturn, 1) := by decide +kernel
theorem dX3_nextNumber_0 : decode cX3_nextNumber 0 = .ok (.aload_n 0, 1) := by decide +kernel
theorem dX3_nextNumber_1 : decode cX3_nextNumber 1 = .ok (.invokevirtual 47, 3) := by decide +kernel
theorem dX3_nextNumber_4 : decode cX3_nextNumber 4 = .ok (.aload_n 0, 1) := by decide +kernel
theorem dX3_nextNumber_5 : decode cX3_nextNumber 5 = .ok (.getfield 37, 3) := by decide +kernel
theorem dX3_nextNumber_8 : decode cX3_nextNumber 8 = .ok (.aload_n 0, 1) := by decide +kernel
theorem dX3_nextNumber_9 : decode cX3_nextNumber 9 = .ok (.getfield 44, 3) := by decide +kernel
theorem dX3_nextNumber_12 : decode cX3_nextNumber 12 = .ok (.isub, 1) := by decide +kernel
theorem dX3_nextNumber_13 : decode cX3_nextNumber 13 = .ok (.istore_n 2, 1) := by decide +kernel
theorem dX3_nextNumber_14 : decode cX3_nextNumber 14 = .ok (.iload_n 2, 1) := by decide +kernel
theorem dX3_nextNumber_15 : decode cX3_nextNumber 15 = .ok (.iconst 1, 1) := by decide +kernel
theorem dX3_nextNumber_16 : decode cX3_nextNumber 16 = .ok (.if_icmp .lt 23, 3) := by decide +kernel
theorem dX3_nextNumber_19 : decode cX3_nextNumber 19 = .ok (.iload_n 2, 1) := by decide +kernel
theorem dX3_nextNumber_20 : decode cX3_nextNumber 20 = .ok (.iconst 2, 1) := by decide +kernel
theorem dX3_nextNumber_21 : decode cX3_nextNumber 21 = .ok (.if_icmp .gt 18, 3) := by decide +kernel
theorem dX3_nextNumber_24 : decode cX3_nextNumber 24 = .ok (.aload_n 0, 1) := by decide +kernel
theorem dX3_nextNumber_25 : decode cX3_nextNumber 25 = .ok (.aload_n 0, 1) := by decide +kernel
theorem dX3_nextNumber_26 : decode cX3_nextNumber 26 = .ok (.getfield 44, 3) := by decide +kernel
theorem dX3_nextNumber_29 : decode cX3_nextNumber 29 = .ok (.invokevirtual 50, 3) := by decide +kernel
theorem dX3_nextNumber_32 : decode cX3_nextNumber 32 = .ok (.invokestatic 71, 3) := by decide +kernel
theorem dX3_nextNumber_35 : decode cX3_nextNumber 35 = .ok (.iconst 1, 1) := by decide +kernel
theorem dX3_nextNumber_36 : decode cX3_nextNumber 36 = .ok (.if_icmp .eq 5, 3) := by decide +kernel
theorem dX3_nextNumber_39 : decode cX3_nextNumber 39 = .ok (.iconst (-1), 1) := by decide +kernel
theorem dX3_nextNumber_40 : decode cX3_nextNumber 40 = .ok (.ireturn, 1) := by decide +kernel
theorem dX3_nextNumber_41 : decode cX3_nextNumber 41 = .ok (.iconst 0, 1) := by decide +kernel
theorem dX3_nextNumber_42 : decode cX3_nextNumber 42 = .ok (.istore_n 3, 1) := by decide +kernel
theorem dX3_nextNumber_43 : decode cX3_nextNumber 43 = .ok (.iconst 0, 1) := by decide +kernel
theorem dX3_nextNumber_44 : decode cX3_nextNumber 44 = .ok (.istore 4, 2) := by decide +kernel
theorem dX3_nextNumber_46 : decode cX3_nextNumber 46 = .ok (.iload 4, 2) := by decide +kernel
theorem dX3_nextNumber_48 : decode cX3_nextNumber 48 = .ok (.iload_n 2, 1) := by decide +kernel
theorem dX3_nextNumber_49 : decode cX3_nextNumber 49 = .ok (.if_icmp .ge 29, 3) := by decide +kernel
theorem dX3_nextNumber_52 : decode cX3_nextNumber 52 = .ok (.iload_n 3, 1) := by decide +kernel
theorem dX3_nextNumber_53 : decode cX3_nextNumber 53 = .ok (.bipush 10, 2) := by decide +kernel
theorem dX3_nextNumber_55 : decode cX3_nextNumber 55 = .ok (.imul, 1) := by decide +kernel
theorem dX3_nextNumber_56 : decode cX3_nextNumber 56 = .ok (.aload_n 0, 1) := by decide +kernel
theorem dX3_nextNumber_57 : decode cX3_nextNumber 57 = .ok (.aload_n 0, 1) := by decide +kernel
theorem dX3_nextNumber_58 : decode cX3_nextNumber 58 = .ok (.getfield 44, 3) := by decide +kernel
theorem dX3_nextNumber_61 : decode cX3_nextNumber 61 = .ok (.iload 4, 2) := by decide +kernel
theorem dX3_nextNumber_63 : decode cX3_nextNumber 63 = .ok (.iadd, 1) := by decide +kernel
theorem dX3_nextNumber_64 : decode cX3_nextNumber 64 = .ok (.invokevirtual 50, 3) := by decide +kernel
theorem dX3_nextNumber_67 : decode cX3_nextNumber 67 = .ok (.iadd, 1) := by decide +kernel
theorem dX3_nextNumber_68 : decode cX3_nextNumber 68 = .ok (.bipush 48, 2) := by decide +kernel
theorem dX3_nextNumber_70 : decode cX3_nextNumber 70 = .ok (.isub, 1) := by decide +kernel
theorem dX3_nextNumber_71 : decode cX3_nextNumber 71 = .ok (.istore_n 3, 1) := by decide +kernel
theorem dX3_nextNumber_72 : decode cX3_nextNumber 72 = .ok (.iinc 4 1, 3) := by decide +kernel
theorem dX3_nextNumber_75 : decode cX3_nextNumber 75 = .ok (.goto (-29), 3) := by decide +kernel
theorem dX3_nextNumber_78 : decode cX3_nextNumber 78 = .ok (.iload_n 3, 1) := by decide +kernel
theorem dX3_nextNumber_79 : decode cX3_nextNumber 79 = .ok (.iload_n 1, 1) := by decide +kernel
theorem dX3_nextNumber_80 : decode cX3_nextNumber 80 = .ok (.if_icmp .ge 7, 3) := by decide +kernel
theorem dX3_nextNumber_83 : decode cX3_nextNumber 83 = .ok (.iload_n 3, 1) := by decide +kernel
theorem dX3_nextNumber_84 : decode cX3_nextNumber 84 = .ok (.goto 4, 3) := by decide +kernel
theorem dX3_nextNumber_87 : decode cX3_nextNumber 87 = .ok (.iconst (-1), 1) := by decide +kernel
theorem dX3_nextNumber_88 : decode cX3_nextNumber 88 = .ok (.ireturn, 1) := by decide +kernel
theorem dX4_init_0 : decode cX4_init 0 = .ok (.aload_n 0, 1) := by decide +kernel
theorem dX4_init_1 : decode cX4_init 1 = .ok (.invokespecial 3, 3) := by decide +kernel
theorem dX4_init_4 : decode cX4_init 4 = .ok (.aload_n 0, 1) := by decide +kernel
theorem dX4_init_5 : decode cX4_init 5 = .ok (.sipush 720, 3) := by decide +kernel
theorem dX4_init_8 : decode cX4_init 8 = .ok (.newarray .int, 2) := by decide +kernel
theorem dX4_init_10 : decode cX4_init 10 = .ok (.putfield 9, 3) := by decide +kernel
theorem dX4_init_13 : decode cX4_init 13 = .ok (.aload_n 0, 1) := by decide +kernel
theorem dX4_init_14 : decode cX4_init 14 = .ok (.bipush 12, 2) := by decide +kernel
theorem dX4_init_16 : decode cX4_init 16 = .ok (.newarray .int, 2) := by decide +kernel
theorem dX4_init_18 : decode cX4_init 18 = .ok (.putfield 15, 3) := by decide +kernel
theorem dX4_init_21 : decode cX4_init 21 = .ok (.iconst 0, 1) := by decide +kernel
theorem dX4_init_22 : decode cX4_init 22 = .ok (.istore_n 1, 1) := by decide +kernel
theorem dX4_init_23 : decode cX4_init 23 = .ok (.iload_n 1, 1) := by decide +kernel
theorem dX4_init_24 : decode cX4_init 24 = .ok (.bipush 12, 2) := by decide +kernel
theorem dX4_init_26 : decode cX4_init 26 = .ok (.if_icmp .ge 28, 3) := by decide +kernel
theorem dX4_init_29 : decode cX4_init 29 = .ok (.iconst 0, 1) := by decide +kernel
theorem dX4_init_30 : decode cX4_init 30 = .ok (.istore_n 2, 1) := by decide +kernel
theorem dX4_init_31 : decode cX4_init 31 = .ok (.iload_n 2, 1) := by decide +kernel
theorem dX4_init_32 : decode cX4_init 32 = .ok (.iconst 5, 1) := by decide +kernel
theorem dX4_init_33 : decode cX4_init 33 = .ok (.if_icmp .ge 15, 3) := by decide +kernel
theorem dX4_init_36 : decode cX4_init 36 = .ok (.aload_n 0, 1) := by decide +kernel
theorem dX4_init_37 : decode cX4_init 37 = .ok (.iload_n 1, 1) := by decide +kernel
theorem dX4_init_38 : decode cX4_init 38 = .ok (.iload_n 2, 1) := by decide +kernel
theorem dX4_init_39 : decode cX4_init 39 = .ok (.invokevirtual 18, 3) := by decide +kernel
theorem dX4_init_42 : decode cX4_init 42 = .ok (.iinc 2 1, 3) := by decide +kernel
theorem dX4_init_45 : decode cX4_init 45 = .ok (.goto (-14), 3) := by decide +kernel
theorem dX4_init_48 : decode cX4_init 48 = .ok (.iinc 1 1, 3) := by decide +kernel
theorem dX4_init_51 : decode cX4_init 51 = .ok (.goto (-28), 3) := by decide +kernel
theorem dX4_init_54 : decode cX4_init 54 = .ok (.return_, 1) := by decide +kernel
theorem dX4_number_0 : decode cX4_number 0 = .ok (.iload_n 0, 1) := by decide +kernel
theorem dX4_number_1 : decode cX4_number 1 = .ok (.iconst 5, 1) := by decide +kernel
theorem dX4_number_2 : decode cX4_number 2 = .ok (.imul, 1) := by decide +kernel
theorem dX4_number_3 : decode cX4_number 3 = .ok (.iload_n 1, 1) := by decide +kernel
theorem dX4_number_4 : decode cX4_number 4 = .ok (.iadd, 1) := by decide +kernel
theorem dX4_number_5 : decode cX4_number 5 = .ok (.ireturn, 1) := by decide +kernel
theorem dX4_lay_0 : decode cX4_lay 0 = .ok (.iload_n 1, 1) := by decide +kernel
theorem dX4_lay_1 : decode cX4_lay 1 = .ok (.iload_n 2, 1) := by decide +kernel
theorem dX4_lay_2 : decode cX4_lay 2 = .ok (.invokestatic 22, 3) := by decide +kernel
theorem dX4_lay_5 : decode cX4_lay 5 = .ok (.istore_n 3, 1) := by decide +kernel
theorem dX4_lay_6 : decode cX4_lay 6 = .ok (.aload_n 0, 1) := by decide +kernel
theorem dX4_lay_7 : decode cX4_lay 7 = .ok (.iload_n 3, 1) := by decide +kernel
theorem dX4_lay_8 : decode cX4_lay 8 = .ok (.iconst 0, 1) := by decide +kernel
theorem dX4_lay_9 : decode cX4_lay 9 = .ok (.iload_n 1, 1) := by decide +kernel
theorem dX4_lay_10 : decode cX4_lay 10 = .ok (.invokevirtual 26, 3) := by decide +kernel
theorem dX4_lay_13 : decode cX4_lay 13 = .ok (.aload_n 0, 1) := by decide +kernel
theorem dX4_lay_14 : decode cX4_lay 14 = .ok (.getfield 15, 3) := by decide +kernel
theorem dX4_lay_17 : decode cX4_lay 17 = .ok (.iconst 0, 1) := by decide +kernel
theorem dX4_lay_18 : decode cX4_lay 18 = .ok (.iload_n 2, 1) := by decide +kernel
theorem dX4_lay_19 : decode cX4_lay 19 = .ok (.iastore, 1) := by decide +kernel
theorem dX4_lay_20 : decode cX4_lay 20 = .ok (.iconst 1, 1) := by decide +kernel
theorem dX4_lay_21 : decode cX4_lay 21 = .ok (.istore 4, 2) := by decide +kernel
theorem dX4_lay_23 : decode cX4_lay 23 = .ok (.iload 4, 2) := by decide +kernel
theorem dX4_lay_25 : decode cX4_lay 25 = .ok (.aload_n 0, 1) := by decide +kernel
theorem dX4_lay_26 : decode cX4_lay 26 = .ok (.getfield 15, 3) := by decide +kernel
theorem dX4_lay_29 : decode cX4_lay 29 = .ok (.arraylength, 1) := by decide +kernel
theorem dX4_lay_30 : decode cX4_lay 30 = .ok (.if_icmp .ge 85, 3) := by decide +kernel
theorem dX4_lay_33 : decode cX4_lay 33 = .ok (.iload 4, 2) := by decide +kernel
theorem dX4_lay_35 : decode cX4_lay 35 = .ok (.iconst 0, 1) := by decide +kernel
theorem dX4_lay_36 : decode cX4_lay 36 = .ok (.invokestatic 30, 3) := by decide +kernel
theorem dX4_lay_39 : decode cX4_lay 39 = .ok (.istore 5, 2) := by decide +kernel
theorem dX4_lay_41 : decode cX4_lay 41 = .ok (.iload 5, 2) := by decide +kernel
theorem dX4_lay_43 : decode cX4_lay 43 = .ok (.ifCond .lt 66, 3) := by decide +kernel
theorem dX4_lay_46 : decode cX4_lay 46 = .ok (.iload 5, 2) := by decide +kernel
theorem dX4_lay_48 : decode cX4_lay 48 = .ok (.iload 4, 2) := by decide +kernel
theorem dX4_lay_50 : decode cX4_lay 50 = .ok (.if_icmp .ge 59, 3) := by decide +kernel
theorem dX4_lay_53 : decode cX4_lay 53 = .ok (.aload_n 0, 1) := by decide +kernel
theorem dX4_lay_54 : decode cX4_lay 54 = .ok (.iload_n 3, 1) := by decide +kernel
theorem dX4_lay_55 : decode cX4_lay 55 = .ok (.iload 5, 2) := by decide +kernel
theorem dX4_lay_57 : decode cX4_lay 57 = .ok (.invokevirtual 35, 3) := by decide +kernel
theorem dX4_lay_60 : decode cX4_lay 60 = .ok (.istore 6, 2) := by decide +kernel
theorem dX4_lay_62 : decode cX4_lay 62 = .ok (.iload 6, 2) := by decide +kernel
theorem dX4_lay_64 : decode cX4_lay 64 = .ok (.aload_n 0, 1) := by decide +kernel
theorem dX4_lay_65 : decode cX4_lay 65 = .ok (.getfield 15, 3) := by decide +kernel
theorem dX4_lay_68 : decode cX4_lay 68 = .ok (.iload 5, 2) := by decide +kernel
theorem dX4_lay_70 : decode cX4_lay 70 = .ok (.iaload, 1) := by decide +kernel
theorem dX4_lay_71 : decode cX4_lay 71 = .ok (.iload 5, 2) := by decide +kernel
theorem dX4_lay_73 : decode cX4_lay 73 = .ok (.iload 4, 2) := by decide +kernel
theorem dX4_lay_75 : decode cX4_lay 75 = .ok (.invokestatic 38, 3) := by decide +kernel
theorem dX4_lay_78 : decode cX4_lay 78 = .ok (.invokestatic 41, 3) := by decide +kernel
theorem dX4_lay_81 : decode cX4_lay 81 = .ok (.invokestatic 30, 3) := by decide +kernel
theorem dX4_lay_84 : decode cX4_lay 84 = .ok (.istore 7, 2) := by decide +kernel
theorem dX4_lay_86 : decode cX4_lay 86 = .ok (.aload_n 0, 1) := by decide +kernel
theorem dX4_lay_87 : decode cX4_lay 87 = .ok (.iload_n 3, 1) := by decide +kernel
theorem dX4_lay_88 : decode cX4_lay 88 = .ok (.iload 4, 2) := by decide +kernel
theorem dX4_lay_90 : decode cX4_lay 90 = .ok (.iload 7, 2) := by decide +kernel
theorem dX4_lay_92 : decode cX4_lay 92 = .ok (.invokevirtual 26, 3) := by decide +kernel
theorem dX4_lay_95 : decode cX4_lay 95 = .ok (.aload_n 0, 1) := by decide +kernel
theorem dX4_lay_96 : decode cX4_lay 96 = .ok (.getfield 15, 3) := by decide +kernel
theorem dX4_lay_99 : decode cX4_lay 99 = .ok (.iload 4, 2) := by decide +kernel
theorem dX4_lay_101 : decode cX4_lay 101 = .ok (.iload 7, 2) := by decide +kernel
theorem dX4_lay_103 : decode cX4_lay 103 = .ok (.iload 6, 2) := by decide +kernel
theorem dX4_lay_105 : decode cX4_lay 105 = .ok (.invokestatic 38, 3) := by decide +kernel
theorem dX4_lay_108 : decode cX4_lay 108 = .ok (.iastore, 1) := by decide +kernel
theorem dX4_lay_109 : decode cX4_lay 109 = .ok (.iinc 4 1, 3) := by decide +kernel
theorem dX4_lay_112 : decode cX4_lay 112 = .ok (.goto (-89), 3) := by decide +kernel
theorem dX4_lay_115 : decode cX4_lay 115 = .ok (.return_, 1) := by decide +kernel
theorem dX4_setGoal_0 : decode cX4_setGoal 0 = .ok (.iload_n 1, 1) := by decide +kernel
theorem dX4_setGoal_1 : decode cX4_setGoal 1 = .ok (.invokestatic 44, 3) := by decide +kernel
theorem dX4_setGoal_4 : decode cX4_setGoal 4 = .ok (.ifCond .eq 22, 3) := by decide +kernel
theorem dX4_setGoal_7 : decode cX4_setGoal 7 = .ok (.iload_n 2, 1) := by decide +kernel
theorem dX4_setGoal_8 : decode cX4_setGoal 8 = .ok (.invokestatic 48, 3) := by decide +kernel
theorem dX4_setGoal_11 : decode cX4_setGoal 11 = .ok (.ifCond .eq 15, 3) := by decide +kernel
theorem dX4_setGoal_14 : decode cX4_setGoal 14 = .ok (.aload_n 0, 1) := by decide +kernel
theorem dX4_setGoal_15 : decode cX4_setGoal 15 = .ok (.getfield 9, 3) := by decide +kernel
theorem dX4_setGoal_18 : decode cX4_setGoal 18 = .ok (.iload_n 1, 1) := by decide +kernel
theorem dX4_setGoal_19 : decode cX4_setGoal 19 = .ok (.bipush 12, 2) := by decide +kernel
theorem dX4_setGoal_21 : decode cX4_setGoal 21 = .ok (.imul, 1) := by decide +kernel
theorem dX4_setGoal_22 : decode cX4_setGoal 22 = .ok (.iload_n 2, 1) := by decide +kernel
theorem dX4_setGoal_23 : decode cX4_setGoal 23 = .ok (.iadd, 1) := by decide +kernel
theorem dX4_setGoal_24 : decode cX4_setGoal 24 = .ok (.iload_n 3, 1) := by decide +kernel
theorem dX4_setGoal_25 : decode cX4_setGoal 25 = .ok (.iastore, 1) := by decide +kernel
theorem dX4_setGoal_26 : decode cX4_setGoal 26 = .ok (.return_, 1) := by decide +kernel
theorem dX4_isTurning_0 : decode cX4_isTurning 0 = .ok (.iload_n 0, 1) := by decide +kernel
theorem dX4_isTurning_1 : decode cX4_isTurning 1 = .ok (.ifCond .lt 13, 3) := by decide +kernel
theorem dX4_isTurning_4 : decode cX4_isTurning 4 = .ok (.iload_n 0, 1) := by decide +kernel
theorem dX4_isTurning_5 : decode cX4_isTurning 5 = .ok (.bipush 60, 2) := by decide +kernel
theorem dX4_isTurning_7 : decode cX4_isTurning 7 = .ok (.if_icmp .ge 7, 3) := by decide +kernel
theorem dX4_isTurning_10 : decode cX4_isTurning 10 = .ok (.iconst 1, 1) := by decide +kernel
theorem dX4_isTurning_11 : decode cX4_isTurning 11 = .ok (.goto 4, 3) := by decide +kernel
theorem dX4_isTurning_14 : decode cX4_isTurning 14 = .ok (.iconst 0, 1) := by decide +kernel
theorem dX4_isTurning_15 : decode cX4_isTurning 15 = .ok (.ireturn, 1) := by decide +kernel
theorem dX4_goal_0 : decode cX4_goal 0 = .ok (.iload_n 1, 1) := by decide +kernel
theorem dX4_goal_1 : decode cX4_goal 1 = .ok (.invokestatic 44, 3) := by decide +kernel
theorem dX4_goal_4 : decode cX4_goal 4 = .ok (.ifCond .eq 10, 3) := by decide +kernel
theorem dX4_goal_7 : decode cX4_goal 7 = .ok (.iload_n 2, 1) := by decide +kernel
theorem dX4_goal_8 : decode cX4_goal 8 = .ok (.invokestatic 48, 3) := by decide +kernel
theorem dX4_goal_11 : decode cX4_goal 11 = .ok (.ifCond .ne 6, 3) := by decide +kernel
theorem dX4_goal_14 : decode cX4_goal 14 = .ok (.bipush (-2), 2) := by decide +kernel
theorem dX4_goal_16 : decode cX4_goal 16 = .ok (.ireturn, 1) := by decide +kernel
theorem dX4_goal_17 : decode cX4_goal 17 = .ok (.aload_n 0, 1) := by decide +kernel
theorem dX4_goal_18 : decode cX4_goal 18 = .ok (.getfield 9, 3) := by decide +kernel
theorem dX4_goal_21 : decode cX4_goal 21 = .ok (.iload_n 1, 1) := by decide +kernel
theorem dX4_goal_22 : decode cX4_goal 22 = .ok (.bipush 12, 2) := by decide +kernel
theorem dX4_goal_24 : decode cX4_goal 24 = .ok (.imul, 1) := by decide +kernel
theorem dX4_goal_25 : decode cX4_goal 25 = .ok (.iload_n 2, 1) := by decide +kernel
theorem dX4_goal_26 : decode cX4_goal 26 = .ok (.iadd, 1) := by decide +kernel
theorem dX4_goal_27 : decode cX4_goal 27 = .ok (.iaload, 1) := by decide +kernel
theorem dX4_goal_28 : decode cX4_goal 28 = .ok (.ireturn, 1) := by decide +kernel
theorem dX4_bringing_0 : decode cX4_bringing 0 = .ok (.iconst 0, 1) := by decide +kernel
theorem dX4_bringing_1 : decode cX4_bringing 1 = .ok (.istore_n 3, 1) := by decide +kernel
theorem dX4_bringing_2 : decode cX4_bringing 2 = .ok (.iconst 0, 1) := by decide +kernel
theorem dX4_bringing_3 : decode cX4_bringing 3 = .ok (.istore 4, 2) := by decide +kernel
theorem dX4_bringing_5 : decode cX4_bringing 5 = .ok (.iload 4, 2) := by decide +kernel
theorem dX4_bringing_7 : decode cX4_bringing 7 = .ok (.bipush 60, 2) := by decide +kernel
theorem dX4_bringing_9 : decode cX4_bringing 9 = .ok (.if_icmp .ge 23, 3) := by decide +kernel
theorem dX4_bringing_12 : decode cX4_bringing 12 = .ok (.aload_n 0, 1) := by decide +kernel
theorem dX4_bringing_13 : decode cX4_bringing 13 = .ok (.iload 4, 2) := by decide +kernel
theorem dX4_bringing_15 : decode cX4_bringing 15 = .ok (.aload_n 1, 1) := by decide +kernel
theorem dX4_bringing_16 : decode cX4_bringing 16 = .ok (.aload_n 2, 1) := by decide +kernel
theorem dX4_bringing_17 : decode cX4_bringing 17 = .ok (.invokevirtual 51, 3) := by decide +kernel
theorem dX4_bringing_20 : decode cX4_bringing 20 = .ok (.ifCond .eq 6, 3) := by decide +kernel
theorem dX4_bringing_23 : decode cX4_bringing 23 = .ok (.iinc 3 1, 3) := by decide +kernel
theorem dX4_bringing_26 : decode cX4_bringing 26 = .ok (.iinc 4 1, 3) := by decide +kernel
theorem dX4_bringing_29 : decode cX4_bringing 29 = .ok (.goto (-24), 3) := by decide +kernel
theorem dX4_bringing_32 : decode cX4_bringing 32 = .ok (.iload_n 3, 1) := by decide +kernel
theorem dX4_bringing_33 : decode cX4_bringing 33 = .ok (.ireturn, 1) := by decide +kernel
theorem dX4_brings_0 : decode cX4_brings 0 = .ok (.iconst 0, 1) := by decide +kernel
theorem dX4_brings_1 : decode cX4_brings 1 = .ok (.istore 4, 2) := by decide +kernel
theorem dX4_brings_3 : decode cX4_brings 3 = .ok (.iload 4, 2) := by decide +kernel
theorem dX4_brings_5 : decode cX4_brings 5 = .ok (.bipush 12, 2) := by decide +kernel
theorem dX4_brings_7 : decode cX4_brings 7 = .ok (.if_icmp .ge 31, 3) := by decide +kernel
theorem dX4_brings_10 : decode cX4_brings 10 = .ok (.aload_n 3, 1) := by decide +kernel
theorem dX4_brings_11 : decode cX4_brings 11 = .ok (.aload_n 0, 1) := by decide +kernel
theorem dX4_brings_12 : decode cX4_brings 12 = .ok (.iload_n 1, 1) := by decide +kernel
theorem dX4_brings_13 : decode cX4_brings 13 = .ok (.iload 4, 2) := by decide +kernel
theorem dX4_brings_15 : decode cX4_brings 15 = .ok (.invokevirtual 35, 3) := by decide +kernel
theorem dX4_brings_18 : decode cX4_brings 18 = .ok (.invokevirtual 55, 3) := by decide +kernel
theorem dX4_brings_21 : decode cX4_brings 21 = .ok (.aload_n 2, 1) := by decide +kernel
theorem dX4_brings_22 : decode cX4_brings 22 = .ok (.iload 4, 2) := by decide +kernel
theorem dX4_brings_24 : decode cX4_brings 24 = .ok (.invokevirtual 55, 3) := by decide +kernel
theorem dX4_brings_27 : decode cX4_brings 27 = .ok (.if_icmp .eq 5, 3) := by decide +kernel
theorem dX4_brings_30 : decode cX4_brings 30 = .ok (.iconst 0, 1) := by decide +kernel
theorem dX4_brings_31 : decode cX4_brings 31 = .ok (.ireturn, 1) := by decide +kernel
theorem dX4_brings_32 : decode cX4_brings 32 = .ok (.iinc 4 1, 3) := by decide +kernel
theorem dX4_brings_35 : decode cX4_brings 35 = .ok (.goto (-32), 3) := by decide +kernel
theorem dX4_brings_38 : decode cX4_brings 38 = .ok (.iconst 1, 1) := by decide +kernel
theorem dX4_brings_39 : decode cX4_brings 39 = .ok (.ireturn, 1) := by decide +kernel
theorem dX4_fixedWays_0 : decode cX4_fixedWays 0 = .ok (.lconst 1, 1) := by decide +kernel
theorem dX4_fixedWays_1 : decode cX4_fixedWays 1 = .ok (.lstore_n 3, 1) := by decide +kernel
theorem dX4_fixedWays_2 : decode cX4_fixedWays 2 = .ok (.iconst 0, 1) := by decide +kernel
theorem dX4_fixedWays_3 : decode cX4_fixedWays 3 = .ok (.istore 5, 2) := by decide +kernel
theorem dX4_fixedWays_5 : decode cX4_fixedWays 5 = .ok (.iconst 0, 1) := by decide +kernel
theorem dX4_fixedWays_6 : decode cX4_fixedWays 6 = .ok (.istore 6, 2) := by decide +kernel
theorem dX4_fixedWays_8 : decode cX4_fixedWays 8 = .ok (.iload 6, 2) := by decide +kernel
theorem dX4_fixedWays_10 : decode cX4_fixedWays 10 = .ok (.bipush 12, 2) := by decide +kernel
theorem dX4_fixedWays_12 : decode cX4_fixedWays 12 = .ok (.if_icmp .ge 36, 3) := by decide +kernel
theorem dX4_fixedWays_15 : decode cX4_fixedWays 15 = .ok (.iload 5, 2) := by decide +kernel
theorem dX4_fixedWays_17 : decode cX4_fixedWays 17 = .ok (.iload 6, 2) := by decide +kernel
theorem dX4_fixedWays_19 : decode cX4_fixedWays 19 = .ok (.invokestatic 61, 3) := by decide +kernel
theorem dX4_fixedWays_22 : decode cX4_fixedWays 22 = .ok (.ifCond .ne 20, 3) := by decide +kernel
theorem dX4_fixedWays_25 : decode cX4_fixedWays 25 = .ok (.lload_n 3, 1) := by decide +kernel
theorem dX4_fixedWays_26 : decode cX4_fixedWays 26 = .ok (.iload_n 2, 1) := by decide +kernel
theorem dX4_fixedWays_27 : decode cX4_fixedWays 27 = .ok (.i2l, 1) := by decide +kernel
theorem dX4_fixedWays_28 : decode cX4_fixedWays 28 = .ok (.lmul, 1) := by decide +kernel
theorem dX4_fixedWays_29 : decode cX4_fixedWays 29 = .ok (.lstore_n 3, 1) := by decide +kernel
theorem dX4_fixedWays_30 : decode cX4_fixedWays 30 = .ok (.iload 5, 2) := by decide +kernel
theorem dX4_fixedWays_32 : decode cX4_fixedWays 32 = .ok (.aload_n 0, 1) := by decide +kernel
theorem dX4_fixedWays_33 : decode cX4_fixedWays 33 = .ok (.iload_n 1, 1) := by decide +kernel
theorem dX4_fixedWays_34 : decode cX4_fixedWays 34 = .ok (.iload 6, 2) := by decide +kernel
theorem dX4_fixedWays_36 : decode cX4_fixedWays 36 = .ok (.invokevirtual 65, 3) := by decide +kernel
theorem dX4_fixedWays_39 : decode cX4_fixedWays 39 = .ok (.ior, 1) := by decide +kernel
theorem dX4_fixedWays_40 : decode cX4_fixedWays 40 = .ok (.istore 5, 2) := by decide +kernel
theorem dX4_fixedWays_42 : decode cX4_fixedWays 42 = .ok (.iinc 6 1, 3) := by decide +kernel
theorem dX4_fixedWays_45 : decode cX4_fixedWays 45 = .ok (.goto (-37), 3) := by decide +kernel
theorem dX4_fixedWays_48 : decode cX4_fixedWays 48 = .ok (.lload_n 3, 1) := by decide +kernel
theorem dX4_fixedWays_49 : decode cX4_fixedWays 49 = .ok (.lreturn, 1) := by decide +kernel
theorem dX4_ringOf_0 : decode cX4_ringOf 0 = .ok (.iconst 0, 1) := by decide +kernel
theorem dX4_ringOf_1 : decode cX4_ringOf 1 = .ok (.istore_n 3, 1) := by decide +kernel
theorem dX4_ringOf_2 : decode cX4_ringOf 2 = .ok (.iload_n 2, 1) := by decide +kernel
theorem dX4_ringOf_3 : decode cX4_ringOf 3 = .ok (.istore 4, 2) := by decide +kernel
theorem dX4_ringOf_5 : decode cX4_ringOf 5 = .ok (.iconst 0, 1) := by decide +kernel
theorem dX4_ringOf_6 : decode cX4_ringOf 6 = .ok (.istore 5, 2) := by decide +kernel
theorem dX4_ringOf_8 : decode cX4_ringOf 8 = .ok (.iload 5, 2) := by decide +kernel
theorem dX4_ringOf_10 : decode cX4_ringOf 10 = .ok (.bipush 12, 2) := by decide +kernel
theorem dX4_ringOf_12 : decode cX4_ringOf 12 = .ok (.if_icmp .ge 33, 3) := by decide +kernel
theorem dX4_ringOf_15 : decode cX4_ringOf 15 = .ok (.iload 4, 2) := by decide +kernel
theorem dX4_ringOf_17 : decode cX4_ringOf 17 = .ok (.invokestatic 48, 3) := by decide +kernel
theorem dX4_ringOf_20 : decode cX4_ringOf 20 = .ok (.ifCond .eq 25, 3) := by decide +kernel
theorem dX4_ringOf_23 : decode cX4_ringOf 23 = .ok (.iload_n 3, 1) := by decide +kernel
theorem dX4_ringOf_24 : decode cX4_ringOf 24 = .ok (.iconst 1, 1) := by decide +kernel
theorem dX4_ringOf_25 : decode cX4_ringOf 25 = .ok (.iload 4, 2) := by decide +kernel
theorem dX4_ringOf_27 : decode cX4_ringOf 27 = .ok (.ishl, 1) := by decide +kernel
theorem dX4_ringOf_28 : decode cX4_ringOf 28 = .ok (.ior, 1) := by decide +kernel
theorem dX4_ringOf_29 : decode cX4_ringOf 29 = .ok (.istore_n 3, 1) := by decide +kernel
theorem dX4_ringOf_30 : decode cX4_ringOf 30 = .ok (.aload_n 0, 1) := by decide +kernel
theorem dX4_ringOf_31 : decode cX4_ringOf 31 = .ok (.iload_n 1, 1) := by decide +kernel
theorem dX4_ringOf_32 : decode cX4_ringOf 32 = .ok (.iload 4, 2) := by decide +kernel
theorem dX4_ringOf_34 : decode cX4_ringOf 34 = .ok (.invokevirtual 35, 3) := by decide +kernel
theorem dX4_ringOf_37 : decode cX4_ringOf 37 = .ok (.istore 4, 2) := by decide +kernel
theorem dX4_ringOf_39 : decode cX4_ringOf 39 = .ok (.iinc 5 1, 3) := by decide +kernel
theorem dX4_ringOf_42 : decode cX4_ringOf 42 = .ok (.goto (-34), 3) := by decide +kernel
theorem dX4_ringOf_45 : decode cX4_ringOf 45 = .ok (.iload_n 3, 1) := by decide +kernel
theorem dX4_ringOf_46 : decode cX4_ringOf 46 = .ok (.ireturn, 1) := by decide +kernel
theorem dX4_unlikeWays_0 : decode cX4_unlikeWays 0 = .ok (.lconst 0, 1) := by decide +kernel
theorem dX4_unlikeWays_1 : decode cX4_unlikeWays 1 = .ok (.lstore_n 2, 1) := by decide +kernel
theorem dX4_unlikeWays_2 : decode cX4_unlikeWays 2 = .ok (.iconst 0, 1) := by decide +kernel
theorem dX4_unlikeWays_3 : decode cX4_unlikeWays 3 = .ok (.istore 4, 2) := by decide +kernel
theorem dX4_unlikeWays_5 : decode cX4_unlikeWays 5 = .ok (.iload 4, 2) := by decide +kernel
theorem dX4_unlikeWays_7 : decode cX4_unlikeWays 7 = .ok (.bipush 60, 2) := by decide +kernel
theorem dX4_unlikeWays_9 : decode cX4_unlikeWays 9 = .ok (.if_icmp .ge 19, 3) := by decide +kernel
theorem dX4_unlikeWays_12 : decode cX4_unlikeWays 12 = .ok (.lload_n 2, 1) := by decide +kernel
theorem dX4_unlikeWays_13 : decode cX4_unlikeWays 13 = .ok (.aload_n 0, 1) := by decide +kernel
theorem dX4_unlikeWays_14 : decode cX4_unlikeWays 14 = .ok (.iload 4, 2) := by decide +kernel
theorem dX4_unlikeWays_16 : decode cX4_unlikeWays 16 = .ok (.iload_n 1, 1) := by decide +kernel
theorem dX4_unlikeWays_17 : decode cX4_unlikeWays 17 = .ok (.invokevirtual 68, 3) := by decide +kernel
theorem dX4_unlikeWays_20 : decode cX4_unlikeWays 20 = .ok (.ladd, 1) := by decide +kernel
theorem dX4_unlikeWays_21 : decode cX4_unlikeWays 21 = .ok (.lstore_n 2, 1) := by decide +kernel
theorem dX4_unlikeWays_22 : decode cX4_unlikeWays 22 = .ok (.iinc 4 1, 3) := by decide +kernel
theorem dX4_unlikeWays_25 : decode cX4_unlikeWays 25 = .ok (.goto (-20), 3) := by decide +kernel
theorem dX4_unlikeWays_28 : decode cX4_unlikeWays 28 = .ok (.lload_n 2, 1) := by decide +kernel
theorem dX4_unlikeWays_29 : decode cX4_unlikeWays 29 = .ok (.ldc2_w 72, 3) := by decide +kernel
theorem dX4_unlikeWays_32 : decode cX4_unlikeWays 32 = .ok (.ldiv, 1) := by decide +kernel
theorem dX4_unlikeWays_33 : decode cX4_unlikeWays 33 = .ok (.lreturn, 1) := by decide +kernel
theorem dX5_init_0 : decode cX5_init 0 = .ok (.aload_n 0, 1) := by decide +kernel
theorem dX5_init_1 : decode cX5_init 1 = .ok (.invokespecial 3, 3) := by decide +kernel
theorem dX5_init_4 : decode cX5_init 4 = .ok (.aload_n 0, 1) := by decide +kernel
theorem dX5_init_5 : decode cX5_init 5 = .ok (.bipush 12, 2) := by decide +kernel
theorem dX5_init_7 : decode cX5_init 7 = .ok (.newarray .int, 2) := by decide +kernel
theorem dX5_init_9 : decode cX5_init 9 = .ok (.putfield 9, 3) := by decide +kernel
theorem dX5_init_12 : decode cX5_init 12 = .ok (.aload_n 0, 1) := by decide +kernel
theorem dX5_init_13 : decode cX5_init 13 = .ok (.bipush 12, 2) := by decide +kernel
theorem dX5_init_15 : decode cX5_init 15 = .ok (.newarray .int, 2) := by decide +kernel
theorem dX5_init_17 : decode cX5_init 17 = .ok (.putfield 15, 3) := by decide +kernel
theorem dX5_init_20 : decode cX5_init 20 = .ok (.aload_n 0, 1) := by decide +kernel
theorem dX5_init_21 : decode cX5_init 21 = .ok (.bipush 12, 2) := by decide +kernel
theorem dX5_init_23 : decode cX5_init 23 = .ok (.newarray .int, 2) := by decide +kernel
theorem dX5_init_25 : decode cX5_init 25 = .ok (.putfield 18, 3) := by decide +kernel
theorem dX5_init_28 : decode cX5_init 28 = .ok (.aload_n 0, 1) := by decide +kernel
theorem dX5_init_29 : decode cX5_init 29 = .ok (.invokevirtual 21, 3) := by decide +kernel
theorem dX5_init_32 : decode cX5_init 32 = .ok (.return_, 1) := by decide +kernel
theorem dX5_clear_0 : decode cX5_clear 0 = .ok (.iconst 0, 1) := by decide +kernel
theorem dX5_clear_1 : decode cX5_clear 1 = .ok (.istore_n 1, 1) := by decide +kernel
theorem dX5_clear_2 : decode cX5_clear 2 = .ok (.iload_n 1, 1) := by decide +kernel
theorem dX5_clear_3 : decode cX5_clear 3 = .ok (.aload_n 0, 1) := by decide +kernel
theorem dX5_clear_4 : decode cX5_clear 4 = .ok (.getfield 9, 3) := by decide +kernel
theorem dX5_clear_7 : decode cX5_clear 7 = .ok (.arraylength, 1) := by decide +kernel
theorem dX5_clear_8 : decode cX5_clear 8 = .ok (.if_icmp .ge 19, 3) := by decide +kernel
theorem dX5_clear_11 : decode cX5_clear 11 = .ok (.aload_n 0, 1) := by decide +kernel
theorem dX5_clear_12 : decode cX5_clear 12 = .ok (.getfield 9, 3) := by decide +kernel
theorem dX5_clear_15 : decode cX5_clear 15 = .ok (.iload_n 1, 1) := by decide +kernel
theorem dX5_clear_16 : decode cX5_clear 16 = .ok (.iload_n 1, 1) := by decide +kernel
theorem dX5_clear_17 : decode cX5_clear 17 = .ok (.invokestatic 24, 3) := by decide +kernel
theorem dX5_clear_20 : decode cX5_clear 20 = .ok (.iastore, 1) := by decide +kernel
theorem dX5_clear_21 : decode cX5_clear 21 = .ok (.iinc 1 1, 3) := by decide +kernel
theorem dX5_clear_24 : decode cX5_clear 24 = .ok (.goto (-22), 3) := by decide +kernel
theorem dX5_clear_27 : decode cX5_clear 27 = .ok (.aload_n 0, 1) := by decide +kernel
theorem dX5_clear_28 : decode cX5_clear 28 = .ok (.invokevirtual 30, 3) := by decide +kernel
theorem dX5_clear_31 : decode cX5_clear 31 = .ok (.return_, 1) := by decide +kernel
theorem dX5_forgetFound_0 : decode cX5_forgetFound 0 = .ok (.aload_n 0, 1) := by decide +kernel
theorem dX5_forgetFound_1 : decode cX5_forgetFound 1 = .ok (.iconst 0, 1) := by decide +kernel
theorem dX5_forgetFound_2 : decode cX5_forgetFound 2 = .ok (.putfield 33, 3) := by decide +kernel
theorem dX5_forgetFound_5 : decode cX5_forgetFound 5 = .ok (.aload_n 0, 1) := by decide +kernel
theorem dX5_forgetFound_6 : decode cX5_forgetFound 6 = .ok (.iconst 0, 1) := by decide +kernel
theorem dX5_forgetFound_7 : decode cX5_forgetFound 7 = .ok (.putfield 37, 3) := by decide +kernel
theorem dX5_forgetFound_10 : decode cX5_forgetFound 10 = .ok (.return_, 1) := by decide +kernel
theorem dX5_openTo_0 : decode cX5_openTo 0 = .ok (.iload_n 1, 1) := by decide +kernel
theorem dX5_openTo_1 : decode cX5_openTo 1 = .ok (.ifCond .lt 21, 3) := by decide +kernel
theorem dX5_openTo_4 : decode cX5_openTo 4 = .ok (.iload_n 1, 1) := by decide +kernel
theorem dX5_openTo_5 : decode cX5_openTo 5 = .ok (.aload_n 0, 1) := by decide +kernel
theorem dX5_openTo_6 : decode cX5_openTo 6 = .ok (.getfield 9, 3) := by decide +kernel
theorem dX5_openTo_9 : decode cX5_openTo 9 = .ok (.arraylength, 1) := by decide +kernel
theorem dX5_openTo_10 : decode cX5_openTo 10 = .ok (.if_icmp .ge 12, 3) := by decide +kernel
theorem dX5_openTo_13 : decode cX5_openTo 13 = .ok (.aload_n 0, 1) := by decide +kernel
theorem dX5_openTo_14 : decode cX5_openTo 14 = .ok (.getfield 9, 3) := by decide +kernel
theorem dX5_openTo_17 : decode cX5_openTo 17 = .ok (.iload_n 1, 1) := by decide +kernel
theorem dX5_openTo_18 : decode cX5_openTo 18 = .ok (.iaload, 1) := by decide +kernel
theorem dX5_openTo_19 : decode cX5_openTo 19 = .ok (.goto 4, 3) := by decide +kernel
theorem dX5_openTo_22 : decode cX5_openTo 22 = .ok (.iconst 0, 1) := by decide +kernel
theorem dX5_openTo_23 : decode cX5_openTo 23 = .ok (.ireturn, 1) := by decide +kernel
theorem dX5_close_0 : decode cX5_close 0 = .ok (.iload_n 1, 1) := by decide +kernel
theorem dX5_close_1 : decode cX5_close 1 = .ok (.iload_n 2, 1) := by decide +kernel
theorem dX5_close_2 : decode cX5_close 2 = .ok (.invokestatic 40, 3) := by decide +kernel
theorem dX5_close_5 : decode cX5_close 5 = .ok (.iconst (-1), 1) := by decide +kernel
theorem dX5_close_6 : decode cX5_close 6 = .ok (.if_icmp .eq 35, 3) := by decide +kernel
theorem dX5_close_9 : decode cX5_close 9 = .ok (.aload_n 0, 1) := by decide +kernel
theorem dX5_close_10 : decode cX5_close 10 = .ok (.iload_n 1, 1) := by decide +kernel
theorem dX5_close_11 : decode cX5_close 11 = .ok (.aload_n 0, 1) := by decide +kernel
theorem dX5_close_12 : decode cX5_close 12 = .ok (.iload_n 1, 1) := by decide +kernel
theorem dX5_close_13 : decode cX5_close 13 = .ok (.invokevirtual 44, 3) := by decide +kernel
theorem dX5_close_16 : decode cX5_close 16 = .ok (.iconst 1, 1) := by decide +kernel
theorem dX5_close_17 : decode cX5_close 17 = .ok (.iload_n 2, 1) := by decide +kernel
theorem dX5_close_18 : decode cX5_close 18 = .ok (.ishl, 1) := by decide +kernel
theorem dX5_close_19 : decode cX5_close 19 = .ok (.iconst (-1), 1) := by decide +kernel
theorem dX5_close_20 : decode cX5_close 20 = .ok (.ixor, 1) := by decide +kernel
theorem dX5_close_21 : decode cX5_close 21 = .ok (.iand, 1) := by decide +kernel
theorem dX5_close_22 : decode cX5_close 22 = .ok (.invokevirtual 47, 3) := by decide +kernel
theorem dX5_close_25 : decode cX5_close 25 = .ok (.aload_n 0, 1) := by decide +kernel
theorem dX5_close_26 : decode cX5_close 26 = .ok (.iload_n 2, 1) := by decide +kernel
theorem dX5_close_27 : decode cX5_close 27 = .ok (.aload_n 0, 1) := by decide +kernel
theorem dX5_close_28 : decode cX5_close 28 = .ok (.iload_n 2, 1) := by decide +kernel
theorem dX5_close_29 : decode cX5_close 29 = .ok (.invokevirtual 44, 3) := by decide +kernel
theorem dX5_close_32 : decode cX5_close 32 = .ok (.iconst 1, 1) := by decide +kernel
theorem dX5_close_33 : decode cX5_close 33 = .ok (.iload_n 1, 1) := by decide +kernel
theorem dX5_close_34 : decode cX5_close 34 = .ok (.ishl, 1) := by decide +kernel
theorem dX5_close_35 : decode cX5_close 35 = .ok (.iconst (-1), 1) := by decide +kernel
theorem dX5_close_36 : decode cX5_close 36 = .ok (.ixor, 1) := by decide +kernel
theorem dX5_close_37 : decode cX5_close 37 = .ok (.iand, 1) := by decide +kernel
theorem dX5_close_38 : decode cX5_close 38 = .ok (.invokevirtual 47, 3) := by decide +kernel
theorem dX5_close_41 : decode cX5_close 41 = .ok (.return_, 1) := by decide +kernel
theorem dX5_open_0 : decode cX5_open 0 = .ok (.iload_n 1, 1) := by decide +kernel
theorem dX5_open_1 : decode cX5_open 1 = .ok (.iload_n 2, 1) := by decide +kernel
theorem dX5_open_2 : decode cX5_open 2 = .ok (.invokestatic 40, 3) := by decide +kernel
theorem dX5_open_5 : decode cX5_open 5 = .ok (.iconst (-1), 1) := by decide +kernel
theorem dX5_open_6 : decode cX5_open 6 = .ok (.if_icmp .eq 31, 3) := by decide +kernel
theorem dX5_open_9 : decode cX5_open 9 = .ok (.aload_n 0, 1) := by decide +kernel
theorem dX5_open_10 : decode cX5_open 10 = .ok (.iload_n 1, 1) := by decide +kernel
theorem dX5_open_11 : decode cX5_open 11 = .ok (.aload_n 0, 1) := by decide +kernel
theorem dX5_open_12 : decode cX5_open 12 = .ok (.iload_n 1, 1) := by decide +kernel
theorem dX5_open_13 : decode cX5_open 13 = .ok (.invokevirtual 44, 3) := by decide +kernel
theorem dX5_open_16 : decode cX5_open 16 = .ok (.iconst 1, 1) := by decide +kernel
theorem dX5_open_17 : decode cX5_open 17 = .ok (.iload_n 2, 1) := by decide +kernel
theorem dX5_open_18 : decode cX5_open 18 = .ok (.ishl, 1) := by decide +kernel
theorem dX5_open_19 : decode cX5_open 19 = .ok (.ior, 1) := by decide +kernel
theorem dX5_open_20 : decode cX5_open 20 = .ok (.invokevirtual 47, 3) := by decide +kernel
theorem dX5_open_23 : decode cX5_open 23 = .ok (.aload_n 0, 1) := by decide +kernel
theorem dX5_open_24 : decode cX5_open 24 = .ok (.iload_n 2, 1) := by decide +kernel
theorem dX5_open_25 : decode cX5_open 25 = .ok (.aload_n 0, 1) := by decide +kernel
theorem dX5_open_26 : decode cX5_open 26 = .ok (.iload_n 2, 1) := by decide +kernel
theorem dX5_open_27 : decode cX5_open 27 = .ok (.invokevirtual 44, 3) := by decide +kernel
theorem dX5_open_30 : decode cX5_open 30 = .ok (.iconst 1, 1) := by decide +kernel
theorem dX5_open_31 : decode cX5_open 31 = .ok (.iload_n 1, 1) := by decide +kernel
theorem dX5_open_32 : decode cX5_open 32 = .ok (.ishl, 1) := by decide +kernel
theorem dX5_open_33 : decode cX5_open 33 = .ok (.ior, 1) := by decide +kernel
theorem dX5_open_34 : decode cX5_open 34 = .ok (.invokevirtual 47, 3) := by decide +kernel
theorem dX5_open_37 : decode cX5_open 37 = .ok (.return_, 1) := by decide +kernel
theorem dX5_setOpen_0 : decode cX5_setOpen 0 = .ok (.iload_n 1, 1) := by decide +kernel
theorem dX5_setOpen_1 : decode cX5_setOpen 1 = .ok (.ifCond .lt 19, 3) := by decide +kernel
theorem dX5_setOpen_4 : decode cX5_setOpen 4 = .ok (.iload_n 1, 1) := by decide +kernel
theorem dX5_setOpen_5 : decode cX5_setOpen 5 = .ok (.aload_n 0, 1) := by decide +kernel
theorem dX5_setOpen_6 : decode cX5_setOpen 6 = .ok (.getfield 9, 3) := by decide +kernel
theorem dX5_setOpen_9 : decode cX5_setOpen 9 = .ok (.arraylength, 1) := by decide +kernel
theorem dX5_setOpen_10 : decode cX5_setOpen 10 = .ok (.if_icmp .ge 10, 3) := by decide +kernel
theorem dX5_setOpen_13 : decode cX5_setOpen 13 = .ok (.aload_n 0, 1) := by decide +kernel
theorem dX5_setOpen_14 : decode cX5_setOpen 14 = .ok (.getfield 9, 3) := by decide +kernel
theorem dX5_setOpen_17 : decode cX5_setOpen 17 = .ok (.iload_n 1, 1) := by decide +kernel
end
section
theorem dX5_setOpen_18 : decode cX5_setOpen 18 = .ok (.iload_n 2, 1) := by decide +kernel
theorem dX5_setOpen_19 : decode cX5_setOpen 19 = .ok (.iastore, 1) := by decide +kernel
theorem dX5_setOpen_20 : decode cX5_setOpen 20 = .ok (.aload_n 0, 1) := by decide +kernel
theorem dX5_setOpen_21 : decode cX5_setOpen 21 = .ok (.invokevirtual 30, 3) := by decide +kernel
theorem dX5_setOpen_24 : decode cX5_setOpen 24 = .ok (.return_, 1) := by decide +kernel
theorem dX5_through_0 : decode cX5_through 0 = .ok (.iload_n 1, 1) := by decide +kernel
theorem dX5_through_1 : decode cX5_through 1 = .ok (.iload_n 2, 1) := by decide +kernel
theorem dX5_through_2 : decode cX5_through 2 = .ok (.invokestatic 51, 3) := by decide +kernel
theorem dX5_through_5 : decode cX5_through 5 = .ok (.istore_n 3, 1) := by decide +kernel
theorem dX5_through_6 : decode cX5_through 6 = .ok (.aload_n 0, 1) := by decide +kernel
theorem dX5_through_7 : decode cX5_through 7 = .ok (.iload_n 1, 1) := by decide +kernel
theorem dX5_through_8 : decode cX5_through 8 = .ok (.invokevirtual 44, 3) := by decide +kernel
theorem dX5_through_11 : decode cX5_through 11 = .ok (.iload_n 3, 1) := by decide +kernel
theorem dX5_through_12 : decode cX5_through 12 = .ok (.invokestatic 54, 3) := by decide +kernel
theorem dX5_through_15 : decode cX5_through 15 = .ok (.ifCond .eq 7, 3) := by decide +kernel
theorem dX5_through_18 : decode cX5_through 18 = .ok (.iload_n 3, 1) := by decide +kernel
theorem dX5_through_19 : decode cX5_through 19 = .ok (.goto 4, 3) := by decide +kernel
theorem dX5_through_22 : decode cX5_through 22 = .ok (.iconst (-1), 1) := by decide +kernel
theorem dX5_through_23 : decode cX5_through 23 = .ok (.ireturn, 1) := by decide +kernel
theorem dX5_sidesClosed_0 : decode cX5_sidesClosed 0 = .ok (.iconst 0, 1) := by decide +kernel
theorem dX5_sidesClosed_1 : decode cX5_sidesClosed 1 = .ok (.istore_n 2, 1) := by decide +kernel
theorem dX5_sidesClosed_2 : decode cX5_sidesClosed 2 = .ok (.iconst 0, 1) := by decide +kernel
theorem dX5_sidesClosed_3 : decode cX5_sidesClosed 3 = .ok (.istore_n 3, 1) := by decide +kernel
theorem dX5_sidesClosed_4 : decode cX5_sidesClosed 4 = .ok (.iload_n 3, 1) := by decide +kernel
theorem dX5_sidesClosed_5 : decode cX5_sidesClosed 5 = .ok (.iconst 5, 1) := by decide +kernel
theorem dX5_sidesClosed_6 : decode cX5_sidesClosed 6 = .ok (.if_icmp .ge 25, 3) := by decide +kernel
theorem dX5_sidesClosed_9 : decode cX5_sidesClosed 9 = .ok (.aload_n 0, 1) := by decide +kernel
theorem dX5_sidesClosed_10 : decode cX5_sidesClosed 10 = .ok (.iload_n 1, 1) := by decide +kernel
theorem dX5_sidesClosed_11 : decode cX5_sidesClosed 11 = .ok (.iload_n 3, 1) := by decide +kernel
theorem dX5_sidesClosed_12 : decode cX5_sidesClosed 12 = .ok (.invokevirtual 58, 3) := by decide +kernel
theorem dX5_sidesClosed_15 : decode cX5_sidesClosed 15 = .ok (.iconst (-1), 1) := by decide +kernel
theorem dX5_sidesClosed_16 : decode cX5_sidesClosed 16 = .ok (.if_icmp .ne 9, 3) := by decide +kernel
theorem dX5_sidesClosed_19 : decode cX5_sidesClosed 19 = .ok (.iload_n 2, 1) := by decide +kernel
theorem dX5_sidesClosed_20 : decode cX5_sidesClosed 20 = .ok (.iconst 1, 1) := by decide +kernel
theorem dX5_sidesClosed_21 : decode cX5_sidesClosed 21 = .ok (.iload_n 3, 1) := by decide +kernel
theorem dX5_sidesClosed_22 : decode cX5_sidesClosed 22 = .ok (.ishl, 1) := by decide +kernel
theorem dX5_sidesClosed_23 : decode cX5_sidesClosed 23 = .ok (.ior, 1) := by decide +kernel
theorem dX5_sidesClosed_24 : decode cX5_sidesClosed 24 = .ok (.istore_n 2, 1) := by decide +kernel
theorem dX5_sidesClosed_25 : decode cX5_sidesClosed 25 = .ok (.iinc 3 1, 3) := by decide +kernel
theorem dX5_sidesClosed_28 : decode cX5_sidesClosed 28 = .ok (.goto (-24), 3) := by decide +kernel
theorem dX5_sidesClosed_31 : decode cX5_sidesClosed 31 = .ok (.iload_n 2, 1) := by decide +kernel
theorem dX5_sidesClosed_32 : decode cX5_sidesClosed 32 = .ok (.ireturn, 1) := by decide +kernel
theorem dX5_wallCount_0 : decode cX5_wallCount 0 = .ok (.iconst 0, 1) := by decide +kernel
theorem dX5_wallCount_1 : decode cX5_wallCount 1 = .ok (.istore_n 1, 1) := by decide +kernel
theorem dX5_wallCount_2 : decode cX5_wallCount 2 = .ok (.iconst 0, 1) := by decide +kernel
theorem dX5_wallCount_3 : decode cX5_wallCount 3 = .ok (.istore_n 2, 1) := by decide +kernel
theorem dX5_wallCount_4 : decode cX5_wallCount 4 = .ok (.iload_n 2, 1) := by decide +kernel
theorem dX5_wallCount_5 : decode cX5_wallCount 5 = .ok (.bipush 12, 2) := by decide +kernel
theorem dX5_wallCount_7 : decode cX5_wallCount 7 = .ok (.if_icmp .ge 20, 3) := by decide +kernel
theorem dX5_wallCount_10 : decode cX5_wallCount 10 = .ok (.iload_n 1, 1) := by decide +kernel
theorem dX5_wallCount_11 : decode cX5_wallCount 11 = .ok (.aload_n 0, 1) := by decide +kernel
theorem dX5_wallCount_12 : decode cX5_wallCount 12 = .ok (.iload_n 2, 1) := by decide +kernel
theorem dX5_wallCount_13 : decode cX5_wallCount 13 = .ok (.invokevirtual 61, 3) := by decide +kernel
theorem dX5_wallCount_16 : decode cX5_wallCount 16 = .ok (.invokestatic 64, 3) := by decide +kernel
theorem dX5_wallCount_19 : decode cX5_wallCount 19 = .ok (.iadd, 1) := by decide +kernel
theorem dX5_wallCount_20 : decode cX5_wallCount 20 = .ok (.istore_n 1, 1) := by decide +kernel
theorem dX5_wallCount_21 : decode cX5_wallCount 21 = .ok (.iinc 2 1, 3) := by decide +kernel
theorem dX5_wallCount_24 : decode cX5_wallCount 24 = .ok (.goto (-20), 3) := by decide +kernel
theorem dX5_wallCount_27 : decode cX5_wallCount 27 = .ok (.iload_n 1, 1) := by decide +kernel
theorem dX5_wallCount_28 : decode cX5_wallCount 28 = .ok (.iconst 2, 1) := by decide +kernel
theorem dX5_wallCount_29 : decode cX5_wallCount 29 = .ok (.idiv, 1) := by decide +kernel
theorem dX5_wallCount_30 : decode cX5_wallCount 30 = .ok (.ireturn, 1) := by decide +kernel
theorem dX5_insideOf_0 : decode cX5_insideOf 0 = .ok (.iconst 1, 1) := by decide +kernel
theorem dX5_insideOf_1 : decode cX5_insideOf 1 = .ok (.iload_n 1, 1) := by decide +kernel
theorem dX5_insideOf_2 : decode cX5_insideOf 2 = .ok (.ishl, 1) := by decide +kernel
theorem dX5_insideOf_3 : decode cX5_insideOf 3 = .ok (.istore_n 2, 1) := by decide +kernel
theorem dX5_insideOf_4 : decode cX5_insideOf 4 = .ok (.iconst 1, 1) := by decide +kernel
theorem dX5_insideOf_5 : decode cX5_insideOf 5 = .ok (.istore_n 3, 1) := by decide +kernel
theorem dX5_insideOf_6 : decode cX5_insideOf 6 = .ok (.iload_n 3, 1) := by decide +kernel
theorem dX5_insideOf_7 : decode cX5_insideOf 7 = .ok (.bipush 12, 2) := by decide +kernel
theorem dX5_insideOf_9 : decode cX5_insideOf 9 = .ok (.if_icmp .ge 17, 3) := by decide +kernel
theorem dX5_insideOf_12 : decode cX5_insideOf 12 = .ok (.iload_n 2, 1) := by decide +kernel
theorem dX5_insideOf_13 : decode cX5_insideOf 13 = .ok (.aload_n 0, 1) := by decide +kernel
theorem dX5_insideOf_14 : decode cX5_insideOf 14 = .ok (.iload_n 2, 1) := by decide +kernel
theorem dX5_insideOf_15 : decode cX5_insideOf 15 = .ok (.invokevirtual 69, 3) := by decide +kernel
theorem dX5_insideOf_18 : decode cX5_insideOf 18 = .ok (.ior, 1) := by decide +kernel
theorem dX5_insideOf_19 : decode cX5_insideOf 19 = .ok (.istore_n 2, 1) := by decide +kernel
theorem dX5_insideOf_20 : decode cX5_insideOf 20 = .ok (.iinc 3 1, 3) := by decide +kernel
theorem dX5_insideOf_23 : decode cX5_insideOf 23 = .ok (.goto (-17), 3) := by decide +kernel
theorem dX5_insideOf_26 : decode cX5_insideOf 26 = .ok (.iload_n 2, 1) := by decide +kernel
theorem dX5_insideOf_27 : decode cX5_insideOf 27 = .ok (.ireturn, 1) := by decide +kernel
theorem dX5_openToAny_0 : decode cX5_openToAny 0 = .ok (.iconst 0, 1) := by decide +kernel
theorem dX5_openToAny_1 : decode cX5_openToAny 1 = .ok (.istore_n 2, 1) := by decide +kernel
theorem dX5_openToAny_2 : decode cX5_openToAny 2 = .ok (.iconst 0, 1) := by decide +kernel
theorem dX5_openToAny_3 : decode cX5_openToAny 3 = .ok (.istore_n 3, 1) := by decide +kernel
theorem dX5_openToAny_4 : decode cX5_openToAny 4 = .ok (.iload_n 3, 1) := by decide +kernel
theorem dX5_openToAny_5 : decode cX5_openToAny 5 = .ok (.bipush 12, 2) := by decide +kernel
theorem dX5_openToAny_7 : decode cX5_openToAny 7 = .ok (.if_icmp .ge 25, 3) := by decide +kernel
theorem dX5_openToAny_10 : decode cX5_openToAny 10 = .ok (.iload_n 1, 1) := by decide +kernel
theorem dX5_openToAny_11 : decode cX5_openToAny 11 = .ok (.iload_n 3, 1) := by decide +kernel
theorem dX5_openToAny_12 : decode cX5_openToAny 12 = .ok (.invokestatic 54, 3) := by decide +kernel
theorem dX5_openToAny_15 : decode cX5_openToAny 15 = .ok (.ifCond .eq 11, 3) := by decide +kernel
theorem dX5_openToAny_18 : decode cX5_openToAny 18 = .ok (.iload_n 2, 1) := by decide +kernel
theorem dX5_openToAny_19 : decode cX5_openToAny 19 = .ok (.aload_n 0, 1) := by decide +kernel
theorem dX5_openToAny_20 : decode cX5_openToAny 20 = .ok (.iload_n 3, 1) := by decide +kernel
theorem dX5_openToAny_21 : decode cX5_openToAny 21 = .ok (.invokevirtual 44, 3) := by decide +kernel
theorem dX5_openToAny_24 : decode cX5_openToAny 24 = .ok (.ior, 1) := by decide +kernel
theorem dX5_openToAny_25 : decode cX5_openToAny 25 = .ok (.istore_n 2, 1) := by decide +kernel
theorem dX5_openToAny_26 : decode cX5_openToAny 26 = .ok (.iinc 3 1, 3) := by decide +kernel
theorem dX5_openToAny_29 : decode cX5_openToAny 29 = .ok (.goto (-25), 3) := by decide +kernel
theorem dX5_openToAny_32 : decode cX5_openToAny 32 = .ok (.iload_n 2, 1) := by decide +kernel
theorem dX5_openToAny_33 : decode cX5_openToAny 33 = .ok (.ireturn, 1) := by decide +kernel
theorem dX5_insideCount_0 : decode cX5_insideCount 0 = .ok (.iconst 0, 1) := by decide +kernel
theorem dX5_insideCount_1 : decode cX5_insideCount 1 = .ok (.istore_n 1, 1) := by decide +kernel
theorem dX5_insideCount_2 : decode cX5_insideCount 2 = .ok (.iconst 0, 1) := by decide +kernel
theorem dX5_insideCount_3 : decode cX5_insideCount 3 = .ok (.istore_n 2, 1) := by decide +kernel
theorem dX5_insideCount_4 : decode cX5_insideCount 4 = .ok (.iconst 0, 1) := by decide +kernel
theorem dX5_insideCount_5 : decode cX5_insideCount 5 = .ok (.istore_n 3, 1) := by decide +kernel
theorem dX5_insideCount_6 : decode cX5_insideCount 6 = .ok (.iload_n 3, 1) := by decide +kernel
theorem dX5_insideCount_7 : decode cX5_insideCount 7 = .ok (.bipush 12, 2) := by decide +kernel
theorem dX5_insideCount_9 : decode cX5_insideCount 9 = .ok (.if_icmp .ge 28, 3) := by decide +kernel
theorem dX5_insideCount_12 : decode cX5_insideCount 12 = .ok (.iload_n 1, 1) := by decide +kernel
theorem dX5_insideCount_13 : decode cX5_insideCount 13 = .ok (.iload_n 3, 1) := by decide +kernel
theorem dX5_insideCount_14 : decode cX5_insideCount 14 = .ok (.invokestatic 54, 3) := by decide +kernel
theorem dX5_insideCount_17 : decode cX5_insideCount 17 = .ok (.ifCond .ne 14, 3) := by decide +kernel
theorem dX5_insideCount_20 : decode cX5_insideCount 20 = .ok (.iinc 2 1, 3) := by decide +kernel
theorem dX5_insideCount_23 : decode cX5_insideCount 23 = .ok (.iload_n 1, 1) := by decide +kernel
theorem dX5_insideCount_24 : decode cX5_insideCount 24 = .ok (.aload_n 0, 1) := by decide +kernel
theorem dX5_insideCount_25 : decode cX5_insideCount 25 = .ok (.iload_n 3, 1) := by decide +kernel
theorem dX5_insideCount_26 : decode cX5_insideCount 26 = .ok (.invokevirtual 72, 3) := by decide +kernel
theorem dX5_insideCount_29 : decode cX5_insideCount 29 = .ok (.ior, 1) := by decide +kernel
theorem dX5_insideCount_30 : decode cX5_insideCount 30 = .ok (.istore_n 1, 1) := by decide +kernel
theorem dX5_insideCount_31 : decode cX5_insideCount 31 = .ok (.iinc 3 1, 3) := by decide +kernel
theorem dX5_insideCount_34 : decode cX5_insideCount 34 = .ok (.goto (-28), 3) := by decide +kernel
theorem dX5_insideCount_37 : decode cX5_insideCount 37 = .ok (.iload_n 2, 1) := by decide +kernel
theorem dX5_insideCount_38 : decode cX5_insideCount 38 = .ok (.ireturn, 1) := by decide +kernel
theorem dX5_wardenCount_0 : decode cX5_wardenCount 0 = .ok (.aload_n 0, 1) := by decide +kernel
theorem dX5_wardenCount_1 : decode cX5_wardenCount 1 = .ok (.invokevirtual 75, 3) := by decide +kernel
theorem dX5_wardenCount_4 : decode cX5_wardenCount 4 = .ok (.aload_n 0, 1) := by decide +kernel
theorem dX5_wardenCount_5 : decode cX5_wardenCount 5 = .ok (.getfield 78, 3) := by decide +kernel
theorem dX5_wardenCount_8 : decode cX5_wardenCount 8 = .ok (.ireturn, 1) := by decide +kernel
theorem dX5_wardenSet_0 : decode cX5_wardenSet 0 = .ok (.aload_n 0, 1) := by decide +kernel
theorem dX5_wardenSet_1 : decode cX5_wardenSet 1 = .ok (.invokevirtual 75, 3) := by decide +kernel
theorem dX5_wardenSet_4 : decode cX5_wardenSet 4 = .ok (.aload_n 0, 1) := by decide +kernel
theorem dX5_wardenSet_5 : decode cX5_wardenSet 5 = .ok (.getfield 82, 3) := by decide +kernel
theorem dX5_wardenSet_8 : decode cX5_wardenSet 8 = .ok (.ireturn, 1) := by decide +kernel
theorem dX5_wardenSets_0 : decode cX5_wardenSets 0 = .ok (.aload_n 0, 1) := by decide +kernel
theorem dX5_wardenSets_1 : decode cX5_wardenSets 1 = .ok (.invokevirtual 75, 3) := by decide +kernel
theorem dX5_wardenSets_4 : decode cX5_wardenSets 4 = .ok (.aload_n 0, 1) := by decide +kernel
theorem dX5_wardenSets_5 : decode cX5_wardenSets 5 = .ok (.getfield 85, 3) := by decide +kernel
theorem dX5_wardenSets_8 : decode cX5_wardenSets 8 = .ok (.ireturn, 1) := by decide +kernel
theorem dX5_findWardens_0 : decode cX5_findWardens 0 = .ok (.aload_n 0, 1) := by decide +kernel
theorem dX5_findWardens_1 : decode cX5_findWardens 1 = .ok (.getfield 37, 3) := by decide +kernel
theorem dX5_findWardens_4 : decode cX5_findWardens 4 = .ok (.ifCond .eq 4, 3) := by decide +kernel
theorem dX5_findWardens_7 : decode cX5_findWardens 7 = .ok (.return_, 1) := by decide +kernel
theorem dX5_findWardens_8 : decode cX5_findWardens 8 = .ok (.aload_n 0, 1) := by decide +kernel
theorem dX5_findWardens_9 : decode cX5_findWardens 9 = .ok (.iconst (-1), 1) := by decide +kernel
theorem dX5_findWardens_10 : decode cX5_findWardens 10 = .ok (.putfield 78, 3) := by decide +kernel
theorem dX5_findWardens_13 : decode cX5_findWardens 13 = .ok (.aload_n 0, 1) := by decide +kernel
theorem dX5_findWardens_14 : decode cX5_findWardens 14 = .ok (.iconst (-1), 1) := by decide +kernel
theorem dX5_findWardens_15 : decode cX5_findWardens 15 = .ok (.putfield 82, 3) := by decide +kernel
theorem dX5_findWardens_18 : decode cX5_findWardens 18 = .ok (.aload_n 0, 1) := by decide +kernel
theorem dX5_findWardens_19 : decode cX5_findWardens 19 = .ok (.iconst 0, 1) := by decide +kernel
theorem dX5_findWardens_20 : decode cX5_findWardens 20 = .ok (.putfield 85, 3) := by decide +kernel
theorem dX5_findWardens_23 : decode cX5_findWardens 23 = .ok (.iconst 0, 1) := by decide +kernel
theorem dX5_findWardens_24 : decode cX5_findWardens 24 = .ok (.istore_n 1, 1) := by decide +kernel
theorem dX5_findWardens_25 : decode cX5_findWardens 25 = .ok (.iload_n 1, 1) := by decide +kernel
theorem dX5_findWardens_26 : decode cX5_findWardens 26 = .ok (.sipush 4095, 3) := by decide +kernel
theorem dX5_findWardens_29 : decode cX5_findWardens 29 = .ok (.if_icmp .gt 85, 3) := by decide +kernel
theorem dX5_findWardens_32 : decode cX5_findWardens 32 = .ok (.iload_n 1, 1) := by decide +kernel
theorem dX5_findWardens_33 : decode cX5_findWardens 33 = .ok (.invokestatic 64, 3) := by decide +kernel
theorem dX5_findWardens_36 : decode cX5_findWardens 36 = .ok (.istore_n 2, 1) := by decide +kernel
theorem dX5_findWardens_37 : decode cX5_findWardens 37 = .ok (.aload_n 0, 1) := by decide +kernel
theorem dX5_findWardens_38 : decode cX5_findWardens 38 = .ok (.getfield 78, 3) := by decide +kernel
theorem dX5_findWardens_41 : decode cX5_findWardens 41 = .ok (.iconst (-1), 1) := by decide +kernel
theorem dX5_findWardens_42 : decode cX5_findWardens 42 = .ok (.if_icmp .eq 11, 3) := by decide +kernel
theorem dX5_findWardens_45 : decode cX5_findWardens 45 = .ok (.iload_n 2, 1) := by decide +kernel
theorem dX5_findWardens_46 : decode cX5_findWardens 46 = .ok (.aload_n 0, 1) := by decide +kernel
theorem dX5_findWardens_47 : decode cX5_findWardens 47 = .ok (.getfield 78, 3) := by decide +kernel
theorem dX5_findWardens_50 : decode cX5_findWardens 50 = .ok (.if_icmp .ge 7, 3) := by decide +kernel
theorem dX5_findWardens_53 : decode cX5_findWardens 53 = .ok (.iconst 1, 1) := by decide +kernel
theorem dX5_findWardens_54 : decode cX5_findWardens 54 = .ok (.goto 4, 3) := by decide +kernel
theorem dX5_findWardens_57 : decode cX5_findWardens 57 = .ok (.iconst 0, 1) := by decide +kernel
theorem dX5_findWardens_58 : decode cX5_findWardens 58 = .ok (.istore_n 3, 1) := by decide +kernel
theorem dX5_findWardens_59 : decode cX5_findWardens 59 = .ok (.iload_n 3, 1) := by decide +kernel
theorem dX5_findWardens_60 : decode cX5_findWardens 60 = .ok (.ifCond .ne 11, 3) := by decide +kernel
theorem dX5_findWardens_63 : decode cX5_findWardens 63 = .ok (.iload_n 2, 1) := by decide +kernel
theorem dX5_findWardens_64 : decode cX5_findWardens 64 = .ok (.aload_n 0, 1) := by decide +kernel
theorem dX5_findWardens_65 : decode cX5_findWardens 65 = .ok (.getfield 78, 3) := by decide +kernel
theorem dX5_findWardens_68 : decode cX5_findWardens 68 = .ok (.if_icmp .ne 40, 3) := by decide +kernel
theorem dX5_findWardens_71 : decode cX5_findWardens 71 = .ok (.aload_n 0, 1) := by decide +kernel
theorem dX5_findWardens_72 : decode cX5_findWardens 72 = .ok (.iload_n 1, 1) := by decide +kernel
theorem dX5_findWardens_73 : decode cX5_findWardens 73 = .ok (.invokevirtual 88, 3) := by decide +kernel
theorem dX5_findWardens_76 : decode cX5_findWardens 76 = .ok (.ifCond .eq 32, 3) := by decide +kernel
theorem dX5_findWardens_79 : decode cX5_findWardens 79 = .ok (.iload_n 3, 1) := by decide +kernel
theorem dX5_findWardens_80 : decode cX5_findWardens 80 = .ok (.ifCond .eq 18, 3) := by decide +kernel
theorem dX5_findWardens_83 : decode cX5_findWardens 83 = .ok (.aload_n 0, 1) := by decide +kernel
theorem dX5_findWardens_84 : decode cX5_findWardens 84 = .ok (.iload_n 2, 1) := by decide +kernel
theorem dX5_findWardens_85 : decode cX5_findWardens 85 = .ok (.putfield 78, 3) := by decide +kernel
theorem dX5_findWardens_88 : decode cX5_findWardens 88 = .ok (.aload_n 0, 1) := by decide +kernel
theorem dX5_findWardens_89 : decode cX5_findWardens 89 = .ok (.iload_n 1, 1) := by decide +kernel
theorem dX5_findWardens_90 : decode cX5_findWardens 90 = .ok (.putfield 82, 3) := by decide +kernel
theorem dX5_findWardens_93 : decode cX5_findWardens 93 = .ok (.aload_n 0, 1) := by decide +kernel
theorem dX5_findWardens_94 : decode cX5_findWardens 94 = .ok (.iconst 0, 1) := by decide +kernel
theorem dX5_findWardens_95 : decode cX5_findWardens 95 = .ok (.putfield 85, 3) := by decide +kernel
theorem dX5_findWardens_98 : decode cX5_findWardens 98 = .ok (.aload_n 0, 1) := by decide +kernel
theorem dX5_findWardens_99 : decode cX5_findWardens 99 = .ok (.dup, 1) := by decide +kernel
theorem dX5_findWardens_100 : decode cX5_findWardens 100 = .ok (.getfield 85, 3) := by decide +kernel
theorem dX5_findWardens_103 : decode cX5_findWardens 103 = .ok (.iconst 1, 1) := by decide +kernel
theorem dX5_findWardens_104 : decode cX5_findWardens 104 = .ok (.iadd, 1) := by decide +kernel
theorem dX5_findWardens_105 : decode cX5_findWardens 105 = .ok (.putfield 85, 3) := by decide +kernel
theorem dX5_findWardens_108 : decode cX5_findWardens 108 = .ok (.iinc 1 1, 3) := by decide +kernel
theorem dX5_findWardens_111 : decode cX5_findWardens 111 = .ok (.goto (-86), 3) := by decide +kernel
theorem dX5_findWardens_114 : decode cX5_findWardens 114 = .ok (.aload_n 0, 1) := by decide +kernel
theorem dX5_findWardens_115 : decode cX5_findWardens 115 = .ok (.iconst 1, 1) := by decide +kernel
theorem dX5_findWardens_116 : decode cX5_findWardens 116 = .ok (.putfield 37, 3) := by decide +kernel
theorem dX5_findWardens_119 : decode cX5_findWardens 119 = .ok (.return_, 1) := by decide +kernel
theorem dX5_wardsAll_0 : decode cX5_wardsAll 0 = .ok (.iconst 0, 1) := by decide +kernel
theorem dX5_wardsAll_1 : decode cX5_wardsAll 1 = .ok (.istore_n 2, 1) := by decide +kernel
theorem dX5_wardsAll_2 : decode cX5_wardsAll 2 = .ok (.iload_n 2, 1) := by decide +kernel
theorem dX5_wardsAll_3 : decode cX5_wardsAll 3 = .ok (.aload_n 0, 1) := by decide +kernel
theorem dX5_wardsAll_4 : decode cX5_wardsAll 4 = .ok (.getfield 9, 3) := by decide +kernel
theorem dX5_wardsAll_7 : decode cX5_wardsAll 7 = .ok (.arraylength, 1) := by decide +kernel
theorem dX5_wardsAll_8 : decode cX5_wardsAll 8 = .ok (.if_icmp .ge 22, 3) := by decide +kernel
theorem dX5_wardsAll_11 : decode cX5_wardsAll 11 = .ok (.aload_n 0, 1) := by decide +kernel
theorem dX5_wardsAll_12 : decode cX5_wardsAll 12 = .ok (.getfield 9, 3) := by decide +kernel
theorem dX5_wardsAll_15 : decode cX5_wardsAll 15 = .ok (.iload_n 2, 1) := by decide +kernel
theorem dX5_wardsAll_16 : decode cX5_wardsAll 16 = .ok (.iaload, 1) := by decide +kernel
theorem dX5_wardsAll_17 : decode cX5_wardsAll 17 = .ok (.iload_n 1, 1) := by decide +kernel
theorem dX5_wardsAll_18 : decode cX5_wardsAll 18 = .ok (.iand, 1) := by decide +kernel
theorem dX5_wardsAll_19 : decode cX5_wardsAll 19 = .ok (.ifCond .ne 5, 3) := by decide +kernel
theorem dX5_wardsAll_22 : decode cX5_wardsAll 22 = .ok (.iconst 0, 1) := by decide +kernel
theorem dX5_wardsAll_23 : decode cX5_wardsAll 23 = .ok (.ireturn, 1) := by decide +kernel
theorem dX5_wardsAll_24 : decode cX5_wardsAll 24 = .ok (.iinc 2 1, 3) := by decide +kernel
theorem dX5_wardsAll_27 : decode cX5_wardsAll 27 = .ok (.goto (-25), 3) := by decide +kernel
theorem dX5_wardsAll_30 : decode cX5_wardsAll 30 = .ok (.iconst 1, 1) := by decide +kernel
theorem dX5_wardsAll_31 : decode cX5_wardsAll 31 = .ok (.ireturn, 1) := by decide +kernel
theorem dX5_roundCount_0 : decode cX5_roundCount 0 = .ok (.aload_n 0, 1) := by decide +kernel
theorem dX5_roundCount_1 : decode cX5_roundCount 1 = .ok (.invokevirtual 92, 3) := by decide +kernel
theorem dX5_roundCount_4 : decode cX5_roundCount 4 = .ok (.aload_n 0, 1) := by decide +kernel
theorem dX5_roundCount_5 : decode cX5_roundCount 5 = .ok (.getfield 95, 3) := by decide +kernel
theorem dX5_roundCount_8 : decode cX5_roundCount 8 = .ok (.ireturn, 1) := by decide +kernel
theorem dX5_inFirstRound_0 : decode cX5_inFirstRound 0 = .ok (.aload_n 0, 1) := by decide +kernel
theorem dX5_inFirstRound_1 : decode cX5_inFirstRound 1 = .ok (.invokevirtual 92, 3) := by decide +kernel
theorem dX5_inFirstRound_4 : decode cX5_inFirstRound 4 = .ok (.aload_n 0, 1) := by decide +kernel
theorem dX5_inFirstRound_5 : decode cX5_inFirstRound 5 = .ok (.getfield 95, 3) := by decide +kernel
theorem dX5_inFirstRound_8 : decode cX5_inFirstRound 8 = .ok (.ifCond .le 25, 3) := by decide +kernel
theorem dX5_inFirstRound_11 : decode cX5_inFirstRound 11 = .ok (.iload_n 1, 1) := by decide +kernel
theorem dX5_inFirstRound_12 : decode cX5_inFirstRound 12 = .ok (.ifCond .lt 21, 3) := by decide +kernel
theorem dX5_inFirstRound_15 : decode cX5_inFirstRound 15 = .ok (.iload_n 1, 1) := by decide +kernel
theorem dX5_inFirstRound_16 : decode cX5_inFirstRound 16 = .ok (.aload_n 0, 1) := by decide +kernel
theorem dX5_inFirstRound_17 : decode cX5_inFirstRound 17 = .ok (.getfield 18, 3) := by decide +kernel
theorem dX5_inFirstRound_20 : decode cX5_inFirstRound 20 = .ok (.arraylength, 1) := by decide +kernel
theorem dX5_inFirstRound_21 : decode cX5_inFirstRound 21 = .ok (.if_icmp .ge 12, 3) := by decide +kernel
theorem dX5_inFirstRound_24 : decode cX5_inFirstRound 24 = .ok (.aload_n 0, 1) := by decide +kernel
theorem dX5_inFirstRound_25 : decode cX5_inFirstRound 25 = .ok (.getfield 18, 3) := by decide +kernel
theorem dX5_inFirstRound_28 : decode cX5_inFirstRound 28 = .ok (.iload_n 1, 1) := by decide +kernel
theorem dX5_inFirstRound_29 : decode cX5_inFirstRound 29 = .ok (.iaload, 1) := by decide +kernel
theorem dX5_inFirstRound_30 : decode cX5_inFirstRound 30 = .ok (.goto 4, 3) := by decide +kernel
theorem dX5_inFirstRound_33 : decode cX5_inFirstRound 33 = .ok (.iconst (-1), 1) := by decide +kernel
theorem dX5_inFirstRound_34 : decode cX5_inFirstRound 34 = .ok (.ireturn, 1) := by decide +kernel
theorem dX5_findRounds_0 : decode cX5_findRounds 0 = .ok (.aload_n 0, 1) := by decide +kernel
theorem dX5_findRounds_1 : decode cX5_findRounds 1 = .ok (.getfield 33, 3) := by decide +kernel
theorem dX5_findRounds_4 : decode cX5_findRounds 4 = .ok (.ifCond .eq 4, 3) := by decide +kernel
theorem dX5_findRounds_7 : decode cX5_findRounds 7 = .ok (.return_, 1) := by decide +kernel
theorem dX5_findRounds_8 : decode cX5_findRounds 8 = .ok (.aload_n 0, 1) := by decide +kernel
theorem dX5_findRounds_9 : decode cX5_findRounds 9 = .ok (.iconst 0, 1) := by decide +kernel
theorem dX5_findRounds_10 : decode cX5_findRounds 10 = .ok (.putfield 95, 3) := by decide +kernel
theorem dX5_findRounds_13 : decode cX5_findRounds 13 = .ok (.aload_n 0, 1) := by decide +kernel
theorem dX5_findRounds_14 : decode cX5_findRounds 14 = .ok (.getfield 15, 3) := by decide +kernel
theorem dX5_findRounds_17 : decode cX5_findRounds 17 = .ok (.iconst 0, 1) := by decide +kernel
theorem dX5_findRounds_18 : decode cX5_findRounds 18 = .ok (.iconst 0, 1) := by decide +kernel
theorem dX5_findRounds_19 : decode cX5_findRounds 19 = .ok (.iastore, 1) := by decide +kernel
theorem dX5_findRounds_20 : decode cX5_findRounds 20 = .ok (.iconst 1, 1) := by decide +kernel
theorem dX5_findRounds_21 : decode cX5_findRounds 21 = .ok (.istore_n 1, 1) := by decide +kernel
theorem dX5_findRounds_22 : decode cX5_findRounds 22 = .ok (.iload_n 1, 1) := by decide +kernel
theorem dX5_findRounds_23 : decode cX5_findRounds 23 = .ok (.bipush 12, 2) := by decide +kernel
theorem dX5_findRounds_25 : decode cX5_findRounds 25 = .ok (.if_icmp .ge 50, 3) := by decide +kernel
theorem dX5_findRounds_28 : decode cX5_findRounds 28 = .ok (.aload_n 0, 1) := by decide +kernel
theorem dX5_findRounds_29 : decode cX5_findRounds 29 = .ok (.iconst 0, 1) := by decide +kernel
theorem dX5_findRounds_30 : decode cX5_findRounds 30 = .ok (.invokevirtual 44, 3) := by decide +kernel
theorem dX5_findRounds_33 : decode cX5_findRounds 33 = .ok (.iload_n 1, 1) := by decide +kernel
theorem dX5_findRounds_34 : decode cX5_findRounds 34 = .ok (.invokestatic 54, 3) := by decide +kernel
theorem dX5_findRounds_37 : decode cX5_findRounds 37 = .ok (.ifCond .eq 32, 3) := by decide +kernel
theorem dX5_findRounds_40 : decode cX5_findRounds 40 = .ok (.aload_n 0, 1) := by decide +kernel
theorem dX5_findRounds_41 : decode cX5_findRounds 41 = .ok (.getfield 15, 3) := by decide +kernel
theorem dX5_findRounds_44 : decode cX5_findRounds 44 = .ok (.iconst 1, 1) := by decide +kernel
theorem dX5_findRounds_45 : decode cX5_findRounds 45 = .ok (.iload_n 1, 1) := by decide +kernel
theorem dX5_findRounds_46 : decode cX5_findRounds 46 = .ok (.iastore, 1) := by decide +kernel
theorem dX5_findRounds_47 : decode cX5_findRounds 47 = .ok (.aload_n 0, 1) := by decide +kernel
theorem dX5_findRounds_48 : decode cX5_findRounds 48 = .ok (.iconst 0, 1) := by decide +kernel
theorem dX5_findRounds_49 : decode cX5_findRounds 49 = .ok (.invokevirtual 44, 3) := by decide +kernel
theorem dX5_findRounds_52 : decode cX5_findRounds 52 = .ok (.iconst 2, 1) := by decide +kernel
theorem dX5_findRounds_53 : decode cX5_findRounds 53 = .ok (.iload_n 1, 1) := by decide +kernel
theorem dX5_findRounds_54 : decode cX5_findRounds 54 = .ok (.ishl, 1) := by decide +kernel
theorem dX5_findRounds_55 : decode cX5_findRounds 55 = .ok (.ineg, 1) := by decide +kernel
theorem dX5_findRounds_56 : decode cX5_findRounds 56 = .ok (.iand, 1) := by decide +kernel
theorem dX5_findRounds_57 : decode cX5_findRounds 57 = .ok (.istore_n 2, 1) := by decide +kernel
theorem dX5_findRounds_58 : decode cX5_findRounds 58 = .ok (.aload_n 0, 1) := by decide +kernel
theorem dX5_findRounds_59 : decode cX5_findRounds 59 = .ok (.iconst 2, 1) := by decide +kernel
theorem dX5_findRounds_60 : decode cX5_findRounds 60 = .ok (.iconst 1, 1) := by decide +kernel
theorem dX5_findRounds_61 : decode cX5_findRounds 61 = .ok (.iconst 1, 1) := by decide +kernel
theorem dX5_findRounds_62 : decode cX5_findRounds 62 = .ok (.iload_n 1, 1) := by decide +kernel
theorem dX5_findRounds_63 : decode cX5_findRounds 63 = .ok (.ishl, 1) := by decide +kernel
theorem dX5_findRounds_64 : decode cX5_findRounds 64 = .ok (.ior, 1) := by decide +kernel
theorem dX5_findRounds_65 : decode cX5_findRounds 65 = .ok (.iload_n 2, 1) := by decide +kernel
theorem dX5_findRounds_66 : decode cX5_findRounds 66 = .ok (.invokestatic 98, 3) := by decide +kernel
theorem dX5_findRounds_69 : decode cX5_findRounds 69 = .ok (.iinc 1 1, 3) := by decide +kernel
theorem dX5_findRounds_72 : decode cX5_findRounds 72 = .ok (.goto (-50), 3) := by decide +kernel
theorem dX5_findRounds_75 : decode cX5_findRounds 75 = .ok (.aload_n 0, 1) := by decide +kernel
theorem dX5_findRounds_76 : decode cX5_findRounds 76 = .ok (.iconst 1, 1) := by decide +kernel
theorem dX5_findRounds_77 : decode cX5_findRounds 77 = .ok (.putfield 33, 3) := by decide +kernel
theorem dX5_findRounds_80 : decode cX5_findRounds 80 = .ok (.return_, 1) := by decide +kernel
theorem dX5_goRound_0 : decode cX5_goRound 0 = .ok (.iload_n 1, 1) := by decide +kernel
theorem dX5_goRound_1 : decode cX5_goRound 1 = .ok (.iconst 1, 1) := by decide +kernel
theorem dX5_goRound_2 : decode cX5_goRound 2 = .ok (.if_icmp .lt 12, 3) := by decide +kernel
theorem dX5_goRound_5 : decode cX5_goRound 5 = .ok (.iload_n 1, 1) := by decide +kernel
theorem dX5_goRound_6 : decode cX5_goRound 6 = .ok (.aload_n 0, 1) := by decide +kernel
theorem dX5_goRound_7 : decode cX5_goRound 7 = .ok (.getfield 15, 3) := by decide +kernel
theorem dX5_goRound_10 : decode cX5_goRound 10 = .ok (.arraylength, 1) := by decide +kernel
theorem dX5_goRound_11 : decode cX5_goRound 11 = .ok (.if_icmp .lt 9, 3) := by decide +kernel
theorem dX5_goRound_14 : decode cX5_goRound 14 = .ok (.aload_n 0, 1) := by decide +kernel
theorem dX5_goRound_15 : decode cX5_goRound 15 = .ok (.iload_n 3, 1) := by decide +kernel
theorem dX5_goRound_16 : decode cX5_goRound 16 = .ok (.invokevirtual 102, 3) := by decide +kernel
theorem dX5_goRound_19 : decode cX5_goRound 19 = .ok (.return_, 1) := by decide +kernel
theorem dX5_goRound_20 : decode cX5_goRound 20 = .ok (.iload_n 3, 1) := by decide +kernel
theorem dX5_goRound_21 : decode cX5_goRound 21 = .ok (.iload_n 2, 1) := by decide +kernel
theorem dX5_goRound_22 : decode cX5_goRound 22 = .ok (.iconst (-1), 1) := by decide +kernel
theorem dX5_goRound_23 : decode cX5_goRound 23 = .ok (.ixor, 1) := by decide +kernel
theorem dX5_goRound_24 : decode cX5_goRound 24 = .ok (.iand, 1) := by decide +kernel
theorem dX5_goRound_25 : decode cX5_goRound 25 = .ok (.ifCond .ne 4, 3) := by decide +kernel
theorem dX5_goRound_28 : decode cX5_goRound 28 = .ok (.return_, 1) := by decide +kernel
theorem dX5_goRound_29 : decode cX5_goRound 29 = .ok (.aload_n 0, 1) := by decide +kernel
theorem dX5_goRound_30 : decode cX5_goRound 30 = .ok (.aload_n 0, 1) := by decide +kernel
theorem dX5_goRound_31 : decode cX5_goRound 31 = .ok (.getfield 15, 3) := by decide +kernel
theorem dX5_goRound_34 : decode cX5_goRound 34 = .ok (.iload_n 1, 1) := by decide +kernel
theorem dX5_goRound_35 : decode cX5_goRound 35 = .ok (.iconst 1, 1) := by decide +kernel
theorem dX5_goRound_36 : decode cX5_goRound 36 = .ok (.isub, 1) := by decide +kernel
theorem dX5_goRound_37 : decode cX5_goRound 37 = .ok (.iaload, 1) := by decide +kernel
theorem dX5_goRound_38 : decode cX5_goRound 38 = .ok (.invokevirtual 44, 3) := by decide +kernel
theorem dX5_goRound_41 : decode cX5_goRound 41 = .ok (.iload_n 2, 1) := by decide +kernel
theorem dX5_goRound_42 : decode cX5_goRound 42 = .ok (.iconst (-1), 1) := by decide +kernel
theorem dX5_goRound_43 : decode cX5_goRound 43 = .ok (.ixor, 1) := by decide +kernel
theorem dX5_goRound_44 : decode cX5_goRound 44 = .ok (.iand, 1) := by decide +kernel
theorem dX5_goRound_45 : decode cX5_goRound 45 = .ok (.istore 4, 2) := by decide +kernel
theorem dX5_goRound_47 : decode cX5_goRound 47 = .ok (.iconst 1, 1) := by decide +kernel
theorem dX5_goRound_48 : decode cX5_goRound 48 = .ok (.istore 5, 2) := by decide +kernel
theorem dX5_goRound_50 : decode cX5_goRound 50 = .ok (.iload 5, 2) := by decide +kernel
theorem dX5_goRound_52 : decode cX5_goRound 52 = .ok (.bipush 12, 2) := by decide +kernel
theorem dX5_goRound_54 : decode cX5_goRound 54 = .ok (.if_icmp .ge 41, 3) := by decide +kernel
theorem dX5_goRound_57 : decode cX5_goRound 57 = .ok (.iload 4, 2) := by decide +kernel
theorem dX5_goRound_59 : decode cX5_goRound 59 = .ok (.iload 5, 2) := by decide +kernel
theorem dX5_goRound_61 : decode cX5_goRound 61 = .ok (.ishr, 1) := by decide +kernel
theorem dX5_goRound_62 : decode cX5_goRound 62 = .ok (.iconst 1, 1) := by decide +kernel
theorem dX5_goRound_63 : decode cX5_goRound 63 = .ok (.iand, 1) := by decide +kernel
theorem dX5_goRound_64 : decode cX5_goRound 64 = .ok (.ifCond .eq 25, 3) := by decide +kernel
theorem dX5_goRound_67 : decode cX5_goRound 67 = .ok (.aload_n 0, 1) := by decide +kernel
theorem dX5_goRound_68 : decode cX5_goRound 68 = .ok (.getfield 15, 3) := by decide +kernel
theorem dX5_goRound_71 : decode cX5_goRound 71 = .ok (.iload_n 1, 1) := by decide +kernel
theorem dX5_goRound_72 : decode cX5_goRound 72 = .ok (.iload 5, 2) := by decide +kernel
theorem dX5_goRound_74 : decode cX5_goRound 74 = .ok (.iastore, 1) := by decide +kernel
theorem dX5_goRound_75 : decode cX5_goRound 75 = .ok (.aload_n 0, 1) := by decide +kernel
theorem dX5_goRound_76 : decode cX5_goRound 76 = .ok (.iload_n 1, 1) := by decide +kernel
theorem dX5_goRound_77 : decode cX5_goRound 77 = .ok (.iconst 1, 1) := by decide +kernel
theorem dX5_goRound_78 : decode cX5_goRound 78 = .ok (.iadd, 1) := by decide +kernel
theorem dX5_goRound_79 : decode cX5_goRound 79 = .ok (.iload_n 2, 1) := by decide +kernel
theorem dX5_goRound_80 : decode cX5_goRound 80 = .ok (.iconst 1, 1) := by decide +kernel
theorem dX5_goRound_81 : decode cX5_goRound 81 = .ok (.iload 5, 2) := by decide +kernel
theorem dX5_goRound_83 : decode cX5_goRound 83 = .ok (.ishl, 1) := by decide +kernel
theorem dX5_goRound_84 : decode cX5_goRound 84 = .ok (.ior, 1) := by decide +kernel
theorem dX5_goRound_85 : decode cX5_goRound 85 = .ok (.iload_n 3, 1) := by decide +kernel
theorem dX5_goRound_86 : decode cX5_goRound 86 = .ok (.invokestatic 98, 3) := by decide +kernel
theorem dX5_goRound_89 : decode cX5_goRound 89 = .ok (.iinc 5 1, 3) := by decide +kernel
theorem dX5_goRound_92 : decode cX5_goRound 92 = .ok (.goto (-42), 3) := by decide +kernel
theorem dX5_goRound_95 : decode cX5_goRound 95 = .ok (.return_, 1) := by decide +kernel
theorem dX5_endRound_0 : decode cX5_endRound 0 = .ok (.iload_n 1, 1) := by decide +kernel
theorem dX5_endRound_1 : decode cX5_endRound 1 = .ok (.aload_n 0, 1) := by decide +kernel
theorem dX5_endRound_2 : decode cX5_endRound 2 = .ok (.getfield 15, 3) := by decide +kernel
theorem dX5_endRound_5 : decode cX5_endRound 5 = .ok (.bipush 11, 2) := by decide +kernel
theorem dX5_endRound_7 : decode cX5_endRound 7 = .ok (.iaload, 1) := by decide +kernel
theorem dX5_endRound_8 : decode cX5_endRound 8 = .ok (.invokestatic 54, 3) := by decide +kernel
theorem dX5_endRound_11 : decode cX5_endRound 11 = .ok (.ifCond .ne 4, 3) := by decide +kernel
theorem dX5_endRound_14 : decode cX5_endRound 14 = .ok (.return_, 1) := by decide +kernel
theorem dX5_endRound_15 : decode cX5_endRound 15 = .ok (.aload_n 0, 1) := by decide +kernel
theorem dX5_endRound_16 : decode cX5_endRound 16 = .ok (.getfield 95, 3) := by decide +kernel
theorem dX5_endRound_19 : decode cX5_endRound 19 = .ok (.ifCond .ne 41, 3) := by decide +kernel
theorem dX5_endRound_22 : decode cX5_endRound 22 = .ok (.iconst 0, 1) := by decide +kernel
theorem dX5_endRound_23 : decode cX5_endRound 23 = .ok (.istore_n 2, 1) := by decide +kernel
theorem dX5_endRound_24 : decode cX5_endRound 24 = .ok (.iload_n 2, 1) := by decide +kernel
theorem dX5_endRound_25 : decode cX5_endRound 25 = .ok (.aload_n 0, 1) := by decide +kernel
theorem dX5_endRound_26 : decode cX5_endRound 26 = .ok (.getfield 18, 3) := by decide +kernel
theorem dX5_endRound_29 : decode cX5_endRound 29 = .ok (.arraylength, 1) := by decide +kernel
theorem dX5_endRound_30 : decode cX5_endRound 30 = .ok (.if_icmp .ge 30, 3) := by decide +kernel
theorem dX5_endRound_33 : decode cX5_endRound 33 = .ok (.iload_n 2, 1) := by decide +kernel
theorem dX5_endRound_34 : decode cX5_endRound 34 = .ok (.aload_n 0, 1) := by decide +kernel
theorem dX5_endRound_35 : decode cX5_endRound 35 = .ok (.getfield 15, 3) := by decide +kernel
theorem dX5_endRound_38 : decode cX5_endRound 38 = .ok (.arraylength, 1) := by decide +kernel
theorem dX5_endRound_39 : decode cX5_endRound 39 = .ok (.if_icmp .ge 21, 3) := by decide +kernel
theorem dX5_endRound_42 : decode cX5_endRound 42 = .ok (.aload_n 0, 1) := by decide +kernel
theorem dX5_endRound_43 : decode cX5_endRound 43 = .ok (.getfield 18, 3) := by decide +kernel
theorem dX5_endRound_46 : decode cX5_endRound 46 = .ok (.iload_n 2, 1) := by decide +kernel
theorem dX5_endRound_47 : decode cX5_endRound 47 = .ok (.aload_n 0, 1) := by decide +kernel
theorem dX5_endRound_48 : decode cX5_endRound 48 = .ok (.getfield 15, 3) := by decide +kernel
theorem dX5_endRound_51 : decode cX5_endRound 51 = .ok (.iload_n 2, 1) := by decide +kernel
theorem dX5_endRound_52 : decode cX5_endRound 52 = .ok (.iaload, 1) := by decide +kernel
theorem dX5_endRound_53 : decode cX5_endRound 53 = .ok (.iastore, 1) := by decide +kernel
theorem dX5_endRound_54 : decode cX5_endRound 54 = .ok (.iinc 2 1, 3) := by decide +kernel
theorem dX5_endRound_57 : decode cX5_endRound 57 = .ok (.goto (-33), 3) := by decide +kernel
theorem dX5_endRound_60 : decode cX5_endRound 60 = .ok (.aload_n 0, 1) := by decide +kernel
theorem dX5_endRound_61 : decode cX5_endRound 61 = .ok (.dup, 1) := by decide +kernel
theorem dX5_endRound_62 : decode cX5_endRound 62 = .ok (.getfield 95, 3) := by decide +kernel
theorem dX5_endRound_65 : decode cX5_endRound 65 = .ok (.iconst 1, 1) := by decide +kernel
theorem dX5_endRound_66 : decode cX5_endRound 66 = .ok (.iadd, 1) := by decide +kernel
theorem dX5_endRound_67 : decode cX5_endRound 67 = .ok (.putfield 95, 3) := by decide +kernel
theorem dX5_endRound_70 : decode cX5_endRound 70 = .ok (.return_, 1) := by decide +kernel
theorem dX6_init_0 : decode cX6_init 0 = .ok (.aload_n 0, 1) := by decide +kernel
theorem dX6_init_1 : decode cX6_init 1 = .ok (.invokespecial 3, 3) := by decide +kernel
theorem dX6_init_4 : decode cX6_init 4 = .ok (.aload_n 0, 1) := by decide +kernel
theorem dX6_init_5 : decode cX6_init 5 = .ok (.new 9, 3) := by decide +kernel
theorem dX6_init_8 : decode cX6_init 8 = .ok (.dup, 1) := by decide +kernel
theorem dX6_init_9 : decode cX6_init 9 = .ok (.invokespecial 11, 3) := by decide +kernel
theorem dX6_init_12 : decode cX6_init 12 = .ok (.putfield 12, 3) := by decide +kernel
theorem dX6_init_15 : decode cX6_init 15 = .ok (.aload_n 0, 1) := by decide +kernel
theorem dX6_init_16 : decode cX6_init 16 = .ok (.new 16, 3) := by decide +kernel
theorem dX6_init_19 : decode cX6_init 19 = .ok (.dup, 1) := by decide +kernel
theorem dX6_init_20 : decode cX6_init 20 = .ok (.invokespecial 18, 3) := by decide +kernel
theorem dX6_init_23 : decode cX6_init 23 = .ok (.putfield 19, 3) := by decide +kernel
theorem dX6_init_26 : decode cX6_init 26 = .ok (.aload_n 0, 1) := by decide +kernel
theorem dX6_init_27 : decode cX6_init 27 = .ok (.new 23, 3) := by decide +kernel
theorem dX6_init_30 : decode cX6_init 30 = .ok (.dup, 1) := by decide +kernel
theorem dX6_init_31 : decode cX6_init 31 = .ok (.invokespecial 25, 3) := by decide +kernel
theorem dX6_init_34 : decode cX6_init 34 = .ok (.putfield 26, 3) := by decide +kernel
theorem dX6_init_37 : decode cX6_init 37 = .ok (.aload_n 0, 1) := by decide +kernel
theorem dX6_init_38 : decode cX6_init 38 = .ok (.new 30, 3) := by decide +kernel
theorem dX6_init_41 : decode cX6_init 41 = .ok (.dup, 1) := by decide +kernel
theorem dX6_init_42 : decode cX6_init 42 = .ok (.invokespecial 32, 3) := by decide +kernel
theorem dX6_init_45 : decode cX6_init 45 = .ok (.putfield 33, 3) := by decide +kernel
theorem dX6_init_48 : decode cX6_init 48 = .ok (.aload_n 0, 1) := by decide +kernel
theorem dX6_init_49 : decode cX6_init 49 = .ok (.new 37, 3) := by decide +kernel
theorem dX6_init_52 : decode cX6_init 52 = .ok (.dup, 1) := by decide +kernel
theorem dX6_init_53 : decode cX6_init 53 = .ok (.invokespecial 39, 3) := by decide +kernel
theorem dX6_init_56 : decode cX6_init 56 = .ok (.putfield 40, 3) := by decide +kernel
theorem dX6_init_59 : decode cX6_init 59 = .ok (.aload_n 0, 1) := by decide +kernel
theorem dX6_init_60 : decode cX6_init 60 = .ok (.new 37, 3) := by decide +kernel
theorem dX6_init_63 : decode cX6_init 63 = .ok (.dup, 1) := by decide +kernel
theorem dX6_init_64 : decode cX6_init 64 = .ok (.invokespecial 39, 3) := by decide +kernel
theorem dX6_init_67 : decode cX6_init 67 = .ok (.putfield 44, 3) := by decide +kernel
theorem dX6_init_70 : decode cX6_init 70 = .ok (.aload_n 0, 1) := by decide +kernel
theorem dX6_init_71 : decode cX6_init 71 = .ok (.new 37, 3) := by decide +kernel
theorem dX6_init_74 : decode cX6_init 74 = .ok (.dup, 1) := by decide +kernel
theorem dX6_init_75 : decode cX6_init 75 = .ok (.invokespecial 39, 3) := by decide +kernel
theorem dX6_init_78 : decode cX6_init 78 = .ok (.putfield 47, 3) := by decide +kernel
theorem dX6_init_81 : decode cX6_init 81 = .ok (.aload_n 0, 1) := by decide +kernel
theorem dX6_init_82 : decode cX6_init 82 = .ok (.new 37, 3) := by decide +kernel
theorem dX6_init_85 : decode cX6_init 85 = .ok (.dup, 1) := by decide +kernel
theorem dX6_init_86 : decode cX6_init 86 = .ok (.invokespecial 39, 3) := by decide +kernel
theorem dX6_init_89 : decode cX6_init 89 = .ok (.putfield 50, 3) := by decide +kernel
theorem dX6_init_92 : decode cX6_init 92 = .ok (.return_, 1) := by decide +kernel
theorem dX6_write_0 : decode cX6_write 0 = .ok (.iload_n 3, 1) := by decide +kernel
theorem dX6_write_1 : decode cX6_write 1 = .ok (.iconst 1, 1) := by decide +kernel
theorem dX6_write_2 : decode cX6_write 2 = .ok (.if_icmp .lt 9, 3) := by decide +kernel
theorem dX6_write_5 : decode cX6_write 5 = .ok (.iload_n 3, 1) := by decide +kernel
theorem dX6_write_6 : decode cX6_write 6 = .ok (.bipush 8, 2) := by decide +kernel
theorem dX6_write_8 : decode cX6_write 8 = .ok (.if_icmp .le 6, 3) := by decide +kernel
theorem dX6_write_11 : decode cX6_write 11 = .ok (.bipush (-3), 2) := by decide +kernel
theorem dX6_write_13 : decode cX6_write 13 = .ok (.ireturn, 1) := by decide +kernel
theorem dX6_write_14 : decode cX6_write 14 = .ok (.aload_n 0, 1) := by decide +kernel
theorem dX6_write_15 : decode cX6_write 15 = .ok (.getfield 12, 3) := by decide +kernel
theorem dX6_write_18 : decode cX6_write 18 = .ok (.iload_n 3, 1) := by decide +kernel
theorem dX6_write_19 : decode cX6_write 19 = .ok (.invokevirtual 53, 3) := by decide +kernel
theorem dX6_write_22 : decode cX6_write 22 = .ok (.ifCond .ne 6, 3) := by decide +kernel
theorem dX6_write_25 : decode cX6_write 25 = .ok (.bipush (-5), 2) := by decide +kernel
theorem dX6_write_27 : decode cX6_write 27 = .ok (.ireturn, 1) := by decide +kernel
theorem dX6_write_28 : decode cX6_write 28 = .ok (.aload_n 0, 1) := by decide +kernel
theorem dX6_write_29 : decode cX6_write 29 = .ok (.getfield 12, 3) := by decide +kernel
theorem dX6_write_32 : decode cX6_write 32 = .ok (.lload_n 1, 1) := by decide +kernel
theorem dX6_write_33 : decode cX6_write 33 = .ok (.iload_n 3, 1) := by decide +kernel
theorem dX6_write_34 : decode cX6_write 34 = .ok (.invokevirtual 57, 3) := by decide +kernel
theorem dX6_write_37 : decode cX6_write 37 = .ok (.ireturn, 1) := by decide +kernel
theorem dX6_erase_0 : decode cX6_erase 0 = .ok (.aload_n 0, 1) := by decide +kernel
theorem dX6_erase_1 : decode cX6_erase 1 = .ok (.getfield 12, 3) := by decide +kernel
theorem dX6_erase_4 : decode cX6_erase 4 = .ok (.invokevirtual 61, 3) := by decide +kernel
theorem dX6_erase_7 : decode cX6_erase 7 = .ok (.ireturn, 1) := by decide +kernel
theorem dX6_fault_0 : decode cX6_fault 0 = .ok (.aload_n 0, 1) := by decide +kernel
theorem dX6_fault_1 : decode cX6_fault 1 = .ok (.getfield 12, 3) := by decide +kernel
theorem dX6_fault_4 : decode cX6_fault 4 = .ok (.invokevirtual 65, 3) := by decide +kernel
theorem dX6_fault_7 : decode cX6_fault 7 = .ok (.ireturn, 1) := by decide +kernel
theorem dX6_town_0 : decode cX6_town 0 = .ok (.aload_n 0, 1) := by decide +kernel
theorem dX6_town_1 : decode cX6_town 1 = .ok (.getfield 12, 3) := by decide +kernel
theorem dX6_town_4 : decode cX6_town 4 = .ok (.invokevirtual 65, 3) := by decide +kernel
theorem dX6_town_7 : decode cX6_town 7 = .ok (.iconst (-1), 1) := by decide +kernel
theorem dX6_town_8 : decode cX6_town 8 = .ok (.if_icmp .eq 6, 3) := by decide +kernel
theorem dX6_town_11 : decode cX6_town 11 = .ok (.bipush (-4), 2) := by decide +kernel
theorem dX6_town_13 : decode cX6_town 13 = .ok (.ireturn, 1) := by decide +kernel
theorem dX6_town_14 : decode cX6_town 14 = .ok (.aload_n 0, 1) := by decide +kernel
theorem dX6_town_15 : decode cX6_town 15 = .ok (.getfield 12, 3) := by decide +kernel
theorem dX6_town_18 : decode cX6_town 18 = .ok (.invokevirtual 68, 3) := by decide +kernel
theorem dX6_town_21 : decode cX6_town 21 = .ok (.istore_n 1, 1) := by decide +kernel
theorem dX6_town_22 : decode cX6_town 22 = .ok (.iconst 0, 1) := by decide +kernel
theorem dX6_town_23 : decode cX6_town 23 = .ok (.istore_n 2, 1) := by decide +kernel
theorem dX6_town_24 : decode cX6_town 24 = .ok (.iload_n 2, 1) := by decide +kernel
theorem dX6_town_25 : decode cX6_town 25 = .ok (.iload_n 1, 1) := by decide +kernel
theorem dX6_town_26 : decode cX6_town 26 = .ok (.if_icmp .ge 37, 3) := by decide +kernel
theorem dX6_town_29 : decode cX6_town 29 = .ok (.aload_n 0, 1) := by decide +kernel
theorem dX6_town_30 : decode cX6_town 30 = .ok (.aload_n 0, 1) := by decide +kernel
theorem dX6_town_31 : decode cX6_town 31 = .ok (.getfield 12, 3) := by decide +kernel
theorem dX6_town_34 : decode cX6_town 34 = .ok (.iload_n 2, 1) := by decide +kernel
theorem dX6_town_35 : decode cX6_town 35 = .ok (.invokevirtual 71, 3) := by decide +kernel
theorem dX6_town_38 : decode cX6_town 38 = .ok (.aload_n 0, 1) := by decide +kernel
theorem dX6_town_39 : decode cX6_town 39 = .ok (.getfield 12, 3) := by decide +kernel
theorem dX6_town_42 : decode cX6_town 42 = .ok (.iload_n 2, 1) := by decide +kernel
theorem dX6_town_43 : decode cX6_town 43 = .ok (.invokevirtual 75, 3) := by decide +kernel
theorem dX6_town_46 : decode cX6_town 46 = .ok (.aload_n 0, 1) := by decide +kernel
theorem dX6_town_47 : decode cX6_town 47 = .ok (.getfield 12, 3) := by decide +kernel
theorem dX6_town_50 : decode cX6_town 50 = .ok (.iload_n 2, 1) := by decide +kernel
theorem dX6_town_51 : decode cX6_town 51 = .ok (.invokevirtual 78, 3) := by decide +kernel
theorem dX6_town_54 : decode cX6_town 54 = .ok (.invokevirtual 81, 3) := by decide +kernel
theorem dX6_town_57 : decode cX6_town 57 = .ok (.iinc 2 1, 3) := by decide +kernel
theorem dX6_town_60 : decode cX6_town 60 = .ok (.goto (-36), 3) := by decide +kernel
theorem dX6_town_63 : decode cX6_town 63 = .ok (.aload_n 0, 1) := by decide +kernel
theorem dX6_town_64 : decode cX6_town 64 = .ok (.getfield 12, 3) := by decide +kernel
theorem dX6_town_67 : decode cX6_town 67 = .ok (.invokevirtual 61, 3) := by decide +kernel
theorem dX6_town_70 : decode cX6_town 70 = .ok (.pop, 1) := by decide +kernel
theorem dX6_town_71 : decode cX6_town 71 = .ok (.aload_n 0, 1) := by decide +kernel
theorem dX6_town_72 : decode cX6_town 72 = .ok (.getfield 44, 3) := by decide +kernel
theorem dX6_town_75 : decode cX6_town 75 = .ok (.aload_n 0, 1) := by decide +kernel
theorem dX6_town_76 : decode cX6_town 76 = .ok (.getfield 40, 3) := by decide +kernel
theorem dX6_town_79 : decode cX6_town 79 = .ok (.invokevirtual 85, 3) := by decide +kernel
theorem dX6_town_82 : decode cX6_town 82 = .ok (.aload_n 0, 1) := by decide +kernel
theorem dX6_town_83 : decode cX6_town 83 = .ok (.getfield 47, 3) := by decide +kernel
theorem dX6_town_86 : decode cX6_town 86 = .ok (.invokevirtual 89, 3) := by decide +kernel
theorem dX6_town_89 : decode cX6_town 89 = .ok (.aload_n 0, 1) := by decide +kernel
theorem dX6_town_90 : decode cX6_town 90 = .ok (.getfield 50, 3) := by decide +kernel
theorem dX6_town_93 : decode cX6_town 93 = .ok (.invokevirtual 89, 3) := by decide +kernel
theorem dX6_town_96 : decode cX6_town 96 = .ok (.iload_n 1, 1) := by decide +kernel
theorem dX6_town_97 : decode cX6_town 97 = .ok (.ireturn, 1) := by decide +kernel
theorem dX6_doLine_0 : decode cX6_doLine 0 = .ok (.iload_n 1, 1) := by decide +kernel
theorem dX6_doLine_1 : decode cX6_doLine 1 = .ok (.tableswitch 84 4 7 #[48, 60, 72, 31], 31) := by decide +kernel
theorem dX6_doLine_32 : decode cX6_doLine 32 = .ok (.aload_n 0, 1) := by decide +kernel
theorem dX6_doLine_33 : decode cX6_doLine 33 = .ok (.getfield 40, 3) := by decide +kernel
theorem dX6_doLine_36 : decode cX6_doLine 36 = .ok (.invokevirtual 92, 3) := by decide +kernel
theorem dX6_doLine_39 : decode cX6_doLine 39 = .ok (.aload_n 0, 1) := by decide +kernel
theorem dX6_doLine_40 : decode cX6_doLine 40 = .ok (.getfield 26, 3) := by decide +kernel
theorem dX6_doLine_43 : decode cX6_doLine 43 = .ok (.invokevirtual 95, 3) := by decide +kernel
theorem dX6_doLine_46 : decode cX6_doLine 46 = .ok (.goto 48, 3) := by decide +kernel
theorem dX6_doLine_49 : decode cX6_doLine 49 = .ok (.aload_n 0, 1) := by decide +kernel
theorem dX6_doLine_50 : decode cX6_doLine 50 = .ok (.getfield 26, 3) := by decide +kernel
theorem dX6_doLine_53 : decode cX6_doLine 53 = .ok (.iload_n 2, 1) := by decide +kernel
theorem dX6_doLine_54 : decode cX6_doLine 54 = .ok (.iload_n 3, 1) := by decide +kernel
theorem dX6_doLine_55 : decode cX6_doLine 55 = .ok (.invokevirtual 97, 3) := by decide +kernel
theorem dX6_doLine_58 : decode cX6_doLine 58 = .ok (.goto 36, 3) := by decide +kernel
theorem dX6_doLine_61 : decode cX6_doLine 61 = .ok (.aload_n 0, 1) := by decide +kernel
theorem dX6_doLine_62 : decode cX6_doLine 62 = .ok (.getfield 26, 3) := by decide +kernel
theorem dX6_doLine_65 : decode cX6_doLine 65 = .ok (.iload_n 2, 1) := by decide +kernel
theorem dX6_doLine_66 : decode cX6_doLine 66 = .ok (.iload_n 3, 1) := by decide +kernel
theorem dX6_doLine_67 : decode cX6_doLine 67 = .ok (.invokevirtual 101, 3) := by decide +kernel
theorem dX6_doLine_70 : decode cX6_doLine 70 = .ok (.goto 24, 3) := by decide +kernel
theorem dX6_doLine_73 : decode cX6_doLine 73 = .ok (.aload_n 0, 1) := by decide +kernel
theorem dX6_doLine_74 : decode cX6_doLine 74 = .ok (.getfield 40, 3) := by decide +kernel
theorem dX6_doLine_77 : decode cX6_doLine 77 = .ok (.iload_n 2, 1) := by decide +kernel
theorem dX6_doLine_78 : decode cX6_doLine 78 = .ok (.iload_n 3, 1) := by decide +kernel
theorem dX6_doLine_79 : decode cX6_doLine 79 = .ok (.invokevirtual 104, 3) := by decide +kernel
theorem dX6_doLine_82 : decode cX6_doLine 82 = .ok (.goto 12, 3) := by decide +kernel
theorem dX6_doLine_85 : decode cX6_doLine 85 = .ok (.aload_n 0, 1) := by decide +kernel
theorem dX6_doLine_86 : decode cX6_doLine 86 = .ok (.getfield 40, 3) := by decide +kernel
theorem dX6_doLine_89 : decode cX6_doLine 89 = .ok (.iload_n 2, 1) := by decide +kernel
theorem dX6_doLine_90 : decode cX6_doLine 90 = .ok (.iload_n 1, 1) := by decide +kernel
theorem dX6_doLine_91 : decode cX6_doLine 91 = .ok (.invokevirtual 107, 3) := by decide +kernel
theorem dX6_doLine_94 : decode cX6_doLine 94 = .ok (.return_, 1) := by decide +kernel
theorem dX6_beside_0 : decode cX6_beside 0 = .ok (.iload_n 1, 1) := by decide +kernel
theorem dX6_beside_1 : decode cX6_beside 1 = .ok (.iload_n 2, 1) := by decide +kernel
theorem dX6_beside_2 : decode cX6_beside 2 = .ok (.invokestatic 110, 3) := by decide +kernel
theorem dX6_beside_5 : decode cX6_beside 5 = .ok (.ireturn, 1) := by decide +kernel
theorem dX6_side_0 : decode cX6_side 0 = .ok (.iload_n 1, 1) := by decide +kernel
theorem dX6_side_1 : decode cX6_side 1 = .ok (.invokestatic 116, 3) := by decide +kernel
theorem dX6_side_4 : decode cX6_side 4 = .ok (.ifCond .eq 10, 3) := by decide +kernel
theorem dX6_side_7 : decode cX6_side 7 = .ok (.iload_n 2, 1) := by decide +kernel
theorem dX6_side_8 : decode cX6_side 8 = .ok (.invokestatic 116, 3) := by decide +kernel
theorem dX6_side_11 : decode cX6_side 11 = .ok (.ifCond .ne 6, 3) := by decide +kernel
theorem dX6_side_14 : decode cX6_side 14 = .ok (.bipush (-2), 2) := by decide +kernel
theorem dX6_side_16 : decode cX6_side 16 = .ok (.ireturn, 1) := by decide +kernel
theorem dX6_side_17 : decode cX6_side 17 = .ok (.iload_n 1, 1) := by decide +kernel
theorem dX6_side_18 : decode cX6_side 18 = .ok (.iload_n 2, 1) := by decide +kernel
theorem dX6_side_19 : decode cX6_side 19 = .ok (.invokestatic 119, 3) := by decide +kernel
theorem dX6_side_22 : decode cX6_side 22 = .ok (.ireturn, 1) := by decide +kernel
theorem dX6_far_0 : decode cX6_far 0 = .ok (.iload_n 1, 1) := by decide +kernel
theorem dX6_far_1 : decode cX6_far 1 = .ok (.invokestatic 116, 3) := by decide +kernel
theorem dX6_far_4 : decode cX6_far 4 = .ok (.ifCond .eq 10, 3) := by decide +kernel
theorem dX6_far_7 : decode cX6_far 7 = .ok (.iload_n 2, 1) := by decide +kernel
theorem dX6_far_8 : decode cX6_far 8 = .ok (.invokestatic 116, 3) := by decide +kernel
theorem dX6_far_11 : decode cX6_far 11 = .ok (.ifCond .ne 6, 3) := by decide +kernel
theorem dX6_far_14 : decode cX6_far 14 = .ok (.bipush (-2), 2) := by decide +kernel
theorem dX6_far_16 : decode cX6_far 16 = .ok (.ireturn, 1) := by decide +kernel
theorem dX6_far_17 : decode cX6_far 17 = .ok (.iload_n 1, 1) := by decide +kernel
theorem dX6_far_18 : decode cX6_far 18 = .ok (.iload_n 2, 1) := by decide +kernel
theorem dX6_far_19 : decode cX6_far 19 = .ok (.invokestatic 122, 3) := by decide +kernel
theorem dX6_far_22 : decode cX6_far 22 = .ok (.ireturn, 1) := by decide +kernel
theorem dX6_other_0 : decode cX6_other 0 = .ok (.iload_n 1, 1) := by decide +kernel
theorem dX6_other_1 : decode cX6_other 1 = .ok (.invokestatic 116, 3) := by decide +kernel
theorem dX6_other_4 : decode cX6_other 4 = .ok (.ifCond .ne 6, 3) := by decide +kernel
theorem dX6_other_7 : decode cX6_other 7 = .ok (.bipush (-2), 2) := by decide +kernel
theorem dX6_other_9 : decode cX6_other 9 = .ok (.ireturn, 1) := by decide +kernel
theorem dX6_other_10 : decode cX6_other 10 = .ok (.iload_n 1, 1) := by decide +kernel
theorem dX6_other_11 : decode cX6_other 11 = .ok (.invokestatic 125, 3) := by decide +kernel
theorem dX6_other_14 : decode cX6_other 14 = .ok (.ireturn, 1) := by decide +kernel
theorem dX6_goes_0 : decode cX6_goes 0 = .ok (.iload_n 1, 1) := by decide +kernel
theorem dX6_goes_1 : decode cX6_goes 1 = .ok (.invokestatic 116, 3) := by decide +kernel
theorem dX6_goes_4 : decode cX6_goes 4 = .ok (.ifCond .eq 17, 3) := by decide +kernel
theorem dX6_goes_7 : decode cX6_goes 7 = .ok (.iload_n 2, 1) := by decide +kernel
theorem dX6_goes_8 : decode cX6_goes 8 = .ok (.invokestatic 128, 3) := by decide +kernel
theorem dX6_goes_11 : decode cX6_goes 11 = .ok (.ifCond .eq 10, 3) := by decide +kernel
theorem dX6_goes_14 : decode cX6_goes 14 = .ok (.iload_n 3, 1) := by decide +kernel
theorem dX6_goes_15 : decode cX6_goes 15 = .ok (.invokestatic 116, 3) := by decide +kernel
theorem dX6_goes_18 : decode cX6_goes 18 = .ok (.ifCond .ne 6, 3) := by decide +kernel
theorem dX6_goes_21 : decode cX6_goes 21 = .ok (.bipush (-2), 2) := by decide +kernel
theorem dX6_goes_23 : decode cX6_goes 23 = .ok (.ireturn, 1) := by decide +kernel
theorem dX6_goes_24 : decode cX6_goes 24 = .ok (.aload_n 0, 1) := by decide +kernel
theorem dX6_goes_25 : decode cX6_goes 25 = .ok (.getfield 19, 3) := by decide +kernel
theorem dX6_goes_28 : decode cX6_goes 28 = .ok (.iload_n 1, 1) := by decide +kernel
theorem dX6_goes_29 : decode cX6_goes 29 = .ok (.iload_n 2, 1) := by decide +kernel
theorem dX6_goes_30 : decode cX6_goes 30 = .ok (.invokestatic 131, 3) := by decide +kernel
theorem dX6_goes_33 : decode cX6_goes 33 = .ok (.iload_n 3, 1) := by decide +kernel
theorem dX6_goes_34 : decode cX6_goes 34 = .ok (.invokevirtual 134, 3) := by decide +kernel
theorem dX6_goes_37 : decode cX6_goes 37 = .ok (.ireturn, 1) := by decide +kernel
theorem dX6_field_0 : decode cX6_field 0 = .ok (.iload_n 1, 1) := by decide +kernel
theorem dX6_field_1 : decode cX6_field 1 = .ok (.invokestatic 116, 3) := by decide +kernel
theorem dX6_field_4 : decode cX6_field 4 = .ok (.ifCond .ne 6, 3) := by decide +kernel
theorem dX6_field_7 : decode cX6_field 7 = .ok (.bipush (-2), 2) := by decide +kernel
theorem dX6_field_9 : decode cX6_field 9 = .ok (.ireturn, 1) := by decide +kernel
theorem dX6_field_10 : decode cX6_field 10 = .ok (.iload_n 2, 1) := by decide +kernel
theorem dX6_field_11 : decode cX6_field 11 = .ok (.tableswitch 62 0 3 #[29, 38, 47, 53], 29) := by decide +kernel
theorem dX6_field_40 : decode cX6_field 40 = .ok (.aload_n 0, 1) := by decide +kernel
theorem dX6_field_41 : decode cX6_field 41 = .ok (.getfield 44, 3) := by decide +kernel
theorem dX6_field_44 : decode cX6_field 44 = .ok (.iload_n 1, 1) := by decide +kernel
theorem dX6_field_45 : decode cX6_field 45 = .ok (.invokevirtual 137, 3) := by decide +kernel
theorem dX6_field_48 : decode cX6_field 48 = .ok (.ireturn, 1) := by decide +kernel
theorem dX6_field_49 : decode cX6_field 49 = .ok (.aload_n 0, 1) := by decide +kernel
theorem dX6_field_50 : decode cX6_field 50 = .ok (.getfield 26, 3) := by decide +kernel
theorem dX6_field_53 : decode cX6_field 53 = .ok (.iload_n 1, 1) := by decide +kernel
theorem dX6_field_54 : decode cX6_field 54 = .ok (.invokevirtual 140, 3) := by decide +kernel
theorem dX6_field_57 : decode cX6_field 57 = .ok (.ireturn, 1) := by decide +kernel
theorem dX6_field_58 : decode cX6_field 58 = .ok (.aload_n 0, 1) := by decide +kernel
theorem dX6_field_59 : decode cX6_field 59 = .ok (.iload_n 1, 1) := by decide +kernel
theorem dX6_field_60 : decode cX6_field 60 = .ok (.invokevirtual 143, 3) := by decide +kernel
theorem dX6_field_63 : decode cX6_field 63 = .ok (.ireturn, 1) := by decide +kernel
theorem dX6_field_64 : decode cX6_field 64 = .ok (.aload_n 0, 1) := by decide +kernel
theorem dX6_field_65 : decode cX6_field 65 = .ok (.getfield 26, 3) := by decide +kernel
theorem dX6_field_68 : decode cX6_field 68 = .ok (.iload_n 1, 1) := by decide +kernel
theorem dX6_field_69 : decode cX6_field 69 = .ok (.invokevirtual 146, 3) := by decide +kernel
theorem dX6_field_72 : decode cX6_field 72 = .ok (.ireturn, 1) := by decide +kernel
theorem dX6_field_73 : decode cX6_field 73 = .ok (.bipush (-3), 2) := by decide +kernel
theorem dX6_field_75 : decode cX6_field 75 = .ok (.ireturn, 1) := by decide +kernel
theorem dX6_as_0 : decode cX6_as 0 = .ok (.iload_n 1, 1) := by decide +kernel
theorem dX6_as_1 : decode cX6_as 1 = .ok (.invokestatic 116, 3) := by decide +kernel
theorem dX6_as_4 : decode cX6_as 4 = .ok (.ifCond .ne 6, 3) := by decide +kernel
theorem dX6_as_7 : decode cX6_as 7 = .ok (.bipush (-2), 2) := by decide +kernel
theorem dX6_as_9 : decode cX6_as 9 = .ok (.ireturn, 1) := by decide +kernel
theorem dX6_as_10 : decode cX6_as 10 = .ok (.iload_n 2, 1) := by decide +kernel
theorem dX6_as_11 : decode cX6_as 11 = .ok (.ifCond .lt 8, 3) := by decide +kernel
theorem dX6_as_14 : decode cX6_as 14 = .ok (.iload_n 2, 1) := by decide +kernel
theorem dX6_as_15 : decode cX6_as 15 = .ok (.iconst 4, 1) := by decide +kernel
theorem dX6_as_16 : decode cX6_as 16 = .ok (.if_icmp .le 6, 3) := by decide +kernel
theorem dX6_as_19 : decode cX6_as 19 = .ok (.bipush (-3), 2) := by decide +kernel
theorem dX6_as_21 : decode cX6_as 21 = .ok (.ireturn, 1) := by decide +kernel
theorem dX6_as_22 : decode cX6_as 22 = .ok (.aload_n 0, 1) := by decide +kernel
theorem dX6_as_23 : decode cX6_as 23 = .ok (.getfield 44, 3) := by decide +kernel
theorem dX6_as_26 : decode cX6_as 26 = .ok (.iload_n 1, 1) := by decide +kernel
theorem dX6_as_27 : decode cX6_as 27 = .ok (.invokevirtual 137, 3) := by decide +kernel
theorem dX6_as_30 : decode cX6_as 30 = .ok (.iload_n 2, 1) := by decide +kernel
theorem dX6_as_31 : decode cX6_as 31 = .ok (.invokestatic 149, 3) := by decide +kernel
theorem dX6_as_34 : decode cX6_as 34 = .ok (.ifCond .eq 11, 3) := by decide +kernel
theorem dX6_as_37 : decode cX6_as 37 = .ok (.aload_n 0, 1) := by decide +kernel
theorem dX6_as_38 : decode cX6_as 38 = .ok (.iload_n 1, 1) := by decide +kernel
theorem dX6_as_39 : decode cX6_as 39 = .ok (.invokevirtual 143, 3) := by decide +kernel
theorem dX6_as_42 : decode cX6_as 42 = .ok (.goto 5, 3) := by decide +kernel
theorem dX6_as_45 : decode cX6_as 45 = .ok (.bipush (-4), 2) := by decide +kernel
theorem dX6_as_47 : decode cX6_as 47 = .ok (.ireturn, 1) := by decide +kernel
theorem dX6_isSuch_0 : decode cX6_isSuch 0 = .ok (.iload_n 1, 1) := by decide +kernel
theorem dX6_isSuch_1 : decode cX6_isSuch 1 = .ok (.tableswitch 86 0 4 #[35, 37, 53, 64, 75], 35) := by decide +kernel
theorem dX6_isSuch_36 : decode cX6_isSuch 36 = .ok (.iconst 1, 1) := by decide +kernel
theorem dX6_isSuch_37 : decode cX6_isSuch 37 = .ok (.ireturn, 1) := by decide +kernel
theorem dX6_isSuch_38 : decode cX6_isSuch 38 = .ok (.iload_n 0, 1) := by decide +kernel
theorem dX6_isSuch_39 : decode cX6_isSuch 39 = .ok (.iconst 1, 1) := by decide +kernel
theorem dX6_isSuch_40 : decode cX6_isSuch 40 = .ok (.if_icmp .eq 8, 3) := by decide +kernel
theorem dX6_isSuch_43 : decode cX6_isSuch 43 = .ok (.iload_n 0, 1) := by decide +kernel
theorem dX6_isSuch_44 : decode cX6_isSuch 44 = .ok (.iconst 2, 1) := by decide +kernel
theorem dX6_isSuch_45 : decode cX6_isSuch 45 = .ok (.if_icmp .ne 7, 3) := by decide +kernel
theorem dX6_isSuch_48 : decode cX6_isSuch 48 = .ok (.iconst 1, 1) := by decide +kernel
theorem dX6_isSuch_49 : decode cX6_isSuch 49 = .ok (.goto 4, 3) := by decide +kernel
theorem dX6_isSuch_52 : decode cX6_isSuch 52 = .ok (.iconst 0, 1) := by decide +kernel
theorem dX6_isSuch_53 : decode cX6_isSuch 53 = .ok (.ireturn, 1) := by decide +kernel
theorem dX6_isSuch_54 : decode cX6_isSuch 54 = .ok (.iload_n 0, 1) := by decide +kernel
theorem dX6_isSuch_55 : decode cX6_isSuch 55 = .ok (.iconst 1, 1) := by decide +kernel
theorem dX6_isSuch_56 : decode cX6_isSuch 56 = .ok (.if_icmp .ne 7, 3) := by decide +kernel
theorem dX6_isSuch_59 : decode cX6_isSuch 59 = .ok (.iconst 1, 1) := by decide +kernel
theorem dX6_isSuch_60 : decode cX6_isSuch 60 = .ok (.goto 4, 3) := by decide +kernel
theorem dX6_isSuch_63 : decode cX6_isSuch 63 = .ok (.iconst 0, 1) := by decide +kernel
theorem dX6_isSuch_64 : decode cX6_isSuch 64 = .ok (.ireturn, 1) := by decide +kernel
theorem dX6_isSuch_65 : decode cX6_isSuch 65 = .ok (.iload_n 0, 1) := by decide +kernel
theorem dX6_isSuch_66 : decode cX6_isSuch 66 = .ok (.iconst 2, 1) := by decide +kernel
theorem dX6_isSuch_67 : decode cX6_isSuch 67 = .ok (.if_icmp .ne 7, 3) := by decide +kernel
theorem dX6_isSuch_70 : decode cX6_isSuch 70 = .ok (.iconst 1, 1) := by decide +kernel
theorem dX6_isSuch_71 : decode cX6_isSuch 71 = .ok (.goto 4, 3) := by decide +kernel
theorem dX6_isSuch_74 : decode cX6_isSuch 74 = .ok (.iconst 0, 1) := by decide +kernel
theorem dX6_isSuch_75 : decode cX6_isSuch 75 = .ok (.ireturn, 1) := by decide +kernel
theorem dX6_isSuch_76 : decode cX6_isSuch 76 = .ok (.iload_n 0, 1) := by decide +kernel
theorem dX6_isSuch_77 : decode cX6_isSuch 77 = .ok (.iconst 3, 1) := by decide +kernel
theorem dX6_isSuch_78 : decode cX6_isSuch 78 = .ok (.if_icmp .ne 7, 3) := by decide +kernel
theorem dX6_isSuch_81 : decode cX6_isSuch 81 = .ok (.iconst 1, 1) := by decide +kernel
theorem dX6_isSuch_82 : decode cX6_isSuch 82 = .ok (.goto 4, 3) := by decide +kernel
theorem dX6_isSuch_85 : decode cX6_isSuch 85 = .ok (.iconst 0, 1) := by decide +kernel
theorem dX6_isSuch_86 : decode cX6_isSuch 86 = .ok (.ireturn, 1) := by decide +kernel
theorem dX6_isSuch_87 : decode cX6_isSuch 87 = .ok (.iconst 0, 1) := by decide +kernel
theorem dX6_isSuch_88 : decode cX6_isSuch 88 = .ok (.ireturn, 1) := by decide +kernel
theorem dX6_taxOf_0 : decode cX6_taxOf 0 = .ok (.aload_n 0, 1) := by decide +kernel
theorem dX6_taxOf_1 : decode cX6_taxOf 1 = .ok (.getfield 44, 3) := by decide +kernel
theorem dX6_taxOf_4 : decode cX6_taxOf 4 = .ok (.iload_n 1, 1) := by decide +kernel
theorem dX6_taxOf_5 : decode cX6_taxOf 5 = .ok (.invokevirtual 137, 3) := by decide +kernel
theorem dX6_taxOf_8 : decode cX6_taxOf 8 = .ok (.tableswitch 52 1 3 #[28, 37, 50], 28) := by decide +kernel
theorem dX6_taxOf_36 : decode cX6_taxOf 36 = .ok (.iconst 2, 1) := by decide +kernel
theorem dX6_taxOf_37 : decode cX6_taxOf 37 = .ok (.aload_n 0, 1) := by decide +kernel
theorem dX6_taxOf_38 : decode cX6_taxOf 38 = .ok (.iload_n 1, 1) := by decide +kernel
theorem dX6_taxOf_39 : decode cX6_taxOf 39 = .ok (.iconst 3, 1) := by decide +kernel
theorem dX6_taxOf_40 : decode cX6_taxOf 40 = .ok (.invokevirtual 153, 3) := by decide +kernel
theorem dX6_taxOf_43 : decode cX6_taxOf 43 = .ok (.iadd, 1) := by decide +kernel
theorem dX6_taxOf_44 : decode cX6_taxOf 44 = .ok (.ireturn, 1) := by decide +kernel
theorem dX6_taxOf_45 : decode cX6_taxOf 45 = .ok (.iconst 0, 1) := by decide +kernel
theorem dX6_taxOf_46 : decode cX6_taxOf 46 = .ok (.iconst 3, 1) := by decide +kernel
theorem dX6_taxOf_47 : decode cX6_taxOf 47 = .ok (.aload_n 0, 1) := by decide +kernel
theorem dX6_taxOf_48 : decode cX6_taxOf 48 = .ok (.iload_n 1, 1) := by decide +kernel
theorem dX6_taxOf_49 : decode cX6_taxOf 49 = .ok (.iconst 1, 1) := by decide +kernel
theorem dX6_taxOf_50 : decode cX6_taxOf 50 = .ok (.invokevirtual 153, 3) := by decide +kernel
theorem dX6_taxOf_53 : decode cX6_taxOf 53 = .ok (.isub, 1) := by decide +kernel
theorem dX6_taxOf_54 : decode cX6_taxOf 54 = .ok (.invokestatic 156, 3) := by decide +kernel
theorem dX6_taxOf_57 : decode cX6_taxOf 57 = .ok (.ireturn, 1) := by decide +kernel
theorem dX6_taxOf_58 : decode cX6_taxOf 58 = .ok (.iconst 1, 1) := by decide +kernel
theorem dX6_taxOf_59 : decode cX6_taxOf 59 = .ok (.ireturn, 1) := by decide +kernel
theorem dX6_taxOf_60 : decode cX6_taxOf 60 = .ok (.iconst 0, 1) := by decide +kernel
theorem dX6_taxOf_61 : decode cX6_taxOf 61 = .ok (.ireturn, 1) := by decide +kernel
theorem dX6_openOfKind_0 : decode cX6_openOfKind 0 = .ok (.aload_n 0, 1) := by decide +kernel
theorem dX6_openOfKind_1 : decode cX6_openOfKind 1 = .ok (.getfield 26, 3) := by decide +kernel
theorem dX6_openOfKind_4 : decode cX6_openOfKind 4 = .ok (.iload_n 1, 1) := by decide +kernel
theorem dX6_openOfKind_5 : decode cX6_openOfKind 5 = .ok (.invokevirtual 146, 3) := by decide +kernel
theorem dX6_openOfKind_8 : decode cX6_openOfKind 8 = .ok (.aload_n 0, 1) := by decide +kernel
theorem dX6_openOfKind_9 : decode cX6_openOfKind 9 = .ok (.getfield 44, 3) := by decide +kernel
theorem dX6_openOfKind_12 : decode cX6_openOfKind 12 = .ok (.iload_n 2, 1) := by decide +kernel
theorem dX6_openOfKind_13 : decode cX6_openOfKind 13 = .ok (.invokevirtual 161, 3) := by decide +kernel
theorem dX6_openOfKind_16 : decode cX6_openOfKind 16 = .ok (.iand, 1) := by decide +kernel
theorem dX6_openOfKind_17 : decode cX6_openOfKind 17 = .ok (.invokestatic 164, 3) := by decide +kernel
theorem dX6_openOfKind_20 : decode cX6_openOfKind 20 = .ok (.ireturn, 1) := by decide +kernel
theorem dX6_rotate_0 : decode cX6_rotate 0 = .ok (.iload_n 1, 1) := by decide +kernel
theorem dX6_rotate_1 : decode cX6_rotate 1 = .ok (.invokestatic 116, 3) := by decide +kernel
theorem dX6_rotate_4 : decode cX6_rotate 4 = .ok (.ifCond .eq 10, 3) := by decide +kernel
theorem dX6_rotate_7 : decode cX6_rotate 7 = .ok (.iload_n 2, 1) := by decide +kernel
theorem dX6_rotate_8 : decode cX6_rotate 8 = .ok (.invokestatic 128, 3) := by decide +kernel
theorem dX6_rotate_11 : decode cX6_rotate 11 = .ok (.ifCond .ne 6, 3) := by decide +kernel
theorem dX6_rotate_14 : decode cX6_rotate 14 = .ok (.bipush (-2), 2) := by decide +kernel
theorem dX6_rotate_16 : decode cX6_rotate 16 = .ok (.ireturn, 1) := by decide +kernel
theorem dX6_rotate_17 : decode cX6_rotate 17 = .ok (.aload_n 0, 1) := by decide +kernel
theorem dX6_rotate_18 : decode cX6_rotate 18 = .ok (.getfield 44, 3) := by decide +kernel
theorem dX6_rotate_21 : decode cX6_rotate 21 = .ok (.aload_n 0, 1) := by decide +kernel
theorem dX6_rotate_22 : decode cX6_rotate 22 = .ok (.getfield 19, 3) := by decide +kernel
theorem dX6_rotate_25 : decode cX6_rotate 25 = .ok (.iload_n 1, 1) := by decide +kernel
theorem dX6_rotate_26 : decode cX6_rotate 26 = .ok (.iload_n 2, 1) := by decide +kernel
theorem dX6_rotate_27 : decode cX6_rotate 27 = .ok (.invokestatic 131, 3) := by decide +kernel
theorem dX6_rotate_30 : decode cX6_rotate 30 = .ok (.invokevirtual 169, 3) := by decide +kernel
theorem dX6_rotate_33 : decode cX6_rotate 33 = .ok (.ireturn, 1) := by decide +kernel
theorem dX6_step_0 : decode cX6_step 0 = .ok (.iload_n 1, 1) := by decide +kernel
theorem dX6_step_1 : decode cX6_step 1 = .ok (.invokestatic 128, 3) := by decide +kernel
theorem dX6_step_4 : decode cX6_step 4 = .ok (.ifCond .ne 6, 3) := by decide +kernel
theorem dX6_step_7 : decode cX6_step 7 = .ok (.bipush (-3), 2) := by decide +kernel
theorem dX6_step_9 : decode cX6_step 9 = .ok (.ireturn, 1) := by decide +kernel
theorem dX6_step_10 : decode cX6_step 10 = .ok (.aload_n 0, 1) := by decide +kernel
theorem dX6_step_11 : decode cX6_step 11 = .ok (.getfield 44, 3) := by decide +kernel
theorem dX6_step_14 : decode cX6_step 14 = .ok (.invokevirtual 173, 3) := by decide +kernel
theorem dX6_step_17 : decode cX6_step 17 = .ok (.istore_n 2, 1) := by decide +kernel
theorem dX6_step_18 : decode cX6_step 18 = .ok (.aload_n 0, 1) := by decide +kernel
theorem dX6_step_19 : decode cX6_step 19 = .ok (.getfield 26, 3) := by decide +kernel
theorem dX6_step_22 : decode cX6_step 22 = .ok (.iload_n 2, 1) := by decide +kernel
theorem dX6_step_23 : decode cX6_step 23 = .ok (.aload_n 0, 1) := by decide +kernel
theorem dX6_step_24 : decode cX6_step 24 = .ok (.getfield 44, 3) := by decide +kernel
theorem dX6_step_27 : decode cX6_step 27 = .ok (.invokevirtual 176, 3) := by decide +kernel
theorem dX6_step_30 : decode cX6_step 30 = .ok (.iload_n 1, 1) := by decide +kernel
theorem dX6_step_31 : decode cX6_step 31 = .ok (.invokestatic 179, 3) := by decide +kernel
theorem dX6_step_34 : decode cX6_step 34 = .ok (.invokevirtual 182, 3) := by decide +kernel
theorem dX6_step_37 : decode cX6_step 37 = .ok (.istore_n 3, 1) := by decide +kernel
theorem dX6_step_38 : decode cX6_step 38 = .ok (.iload_n 3, 1) := by decide +kernel
theorem dX6_step_39 : decode cX6_step 39 = .ok (.iconst (-1), 1) := by decide +kernel
theorem dX6_step_40 : decode cX6_step 40 = .ok (.if_icmp .ne 6, 3) := by decide +kernel
theorem dX6_step_43 : decode cX6_step 43 = .ok (.bipush (-4), 2) := by decide +kernel
theorem dX6_step_45 : decode cX6_step 45 = .ok (.ireturn, 1) := by decide +kernel
theorem dX6_step_46 : decode cX6_step 46 = .ok (.aload_n 0, 1) := by decide +kernel
theorem dX6_step_47 : decode cX6_step 47 = .ok (.getfield 44, 3) := by decide +kernel
theorem dX6_step_50 : decode cX6_step 50 = .ok (.invokevirtual 185, 3) := by decide +kernel
theorem dX6_step_53 : decode cX6_step 53 = .ok (.sipush 9999, 3) := by decide +kernel
theorem dX6_step_56 : decode cX6_step 56 = .ok (.if_icmp .lt 6, 3) := by decide +kernel
theorem dX6_step_59 : decode cX6_step 59 = .ok (.bipush (-5), 2) := by decide +kernel
theorem dX6_step_61 : decode cX6_step 61 = .ok (.ireturn, 1) := by decide +kernel
theorem dX6_step_62 : decode cX6_step 62 = .ok (.aload_n 0, 1) := by decide +kernel
theorem dX6_step_63 : decode cX6_step 63 = .ok (.getfield 44, 3) := by decide +kernel
theorem dX6_step_66 : decode cX6_step 66 = .ok (.iload_n 3, 1) := by decide +kernel
theorem dX6_step_67 : decode cX6_step 67 = .ok (.iload_n 3, 1) := by decide +kernel
theorem dX6_step_68 : decode cX6_step 68 = .ok (.iload_n 2, 1) := by decide +kernel
theorem dX6_step_69 : decode cX6_step 69 = .ok (.invokestatic 119, 3) := by decide +kernel
theorem dX6_step_72 : decode cX6_step 72 = .ok (.invokevirtual 188, 3) := by decide +kernel
theorem dX6_step_75 : decode cX6_step 75 = .ok (.iload_n 3, 1) := by decide +kernel
theorem dX6_step_76 : decode cX6_step 76 = .ok (.ireturn, 1) := by decide +kernel
theorem dX6_walker_0 : decode cX6_walker 0 = .ok (.iload_n 1, 1) := by decide +kernel
theorem dX6_walker_1 : decode cX6_walker 1 = .ok (.tableswitch 51 0 2 #[27, 35, 43], 27) := by decide +kernel
theorem dX6_walker_28 : decode cX6_walker 28 = .ok (.aload_n 0, 1) := by decide +kernel
theorem dX6_walker_29 : decode cX6_walker 29 = .ok (.getfield 44, 3) := by decide +kernel
theorem dX6_walker_32 : decode cX6_walker 32 = .ok (.invokevirtual 173, 3) := by decide +kernel
theorem dX6_walker_35 : decode cX6_walker 35 = .ok (.ireturn, 1) := by decide +kernel
theorem dX6_walker_36 : decode cX6_walker 36 = .ok (.aload_n 0, 1) := by decide +kernel
theorem dX6_walker_37 : decode cX6_walker 37 = .ok (.getfield 44, 3) := by decide +kernel
theorem dX6_walker_40 : decode cX6_walker 40 = .ok (.invokevirtual 176, 3) := by decide +kernel
theorem dX6_walker_43 : decode cX6_walker 43 = .ok (.ireturn, 1) := by decide +kernel
theorem dX6_walker_44 : decode cX6_walker 44 = .ok (.aload_n 0, 1) := by decide +kernel
theorem dX6_walker_45 : decode cX6_walker 45 = .ok (.getfield 44, 3) := by decide +kernel
theorem dX6_walker_48 : decode cX6_walker 48 = .ok (.invokevirtual 185, 3) := by decide +kernel
theorem dX6_walker_51 : decode cX6_walker 51 = .ok (.ireturn, 1) := by decide +kernel
theorem dX6_walker_52 : decode cX6_walker 52 = .ok (.bipush (-3), 2) := by decide +kernel
theorem dX6_walker_54 : decode cX6_walker 54 = .ok (.ireturn, 1) := by decide +kernel
theorem dX6_keep_0 : decode cX6_keep 0 = .ok (.iload_n 1, 1) := by decide +kernel
theorem dX6_keep_1 : decode cX6_keep 1 = .ok (.ifCond .eq 11, 3) := by decide +kernel
theorem dX6_keep_4 : decode cX6_keep 4 = .ok (.iload_n 1, 1) := by decide +kernel
theorem dX6_keep_5 : decode cX6_keep 5 = .ok (.iconst 1, 1) := by decide +kernel
theorem dX6_keep_6 : decode cX6_keep 6 = .ok (.if_icmp .eq 6, 3) := by decide +kernel
theorem dX6_keep_9 : decode cX6_keep 9 = .ok (.bipush (-2), 2) := by decide +kernel
theorem dX6_keep_11 : decode cX6_keep 11 = .ok (.ireturn, 1) := by decide +kernel
theorem dX6_keep_12 : decode cX6_keep 12 = .ok (.aload_n 0, 1) := by decide +kernel
theorem dX6_keep_13 : decode cX6_keep 13 = .ok (.iload_n 1, 1) := by decide +kernel
theorem dX6_keep_14 : decode cX6_keep 14 = .ok (.invokevirtual 191, 3) := by decide +kernel
theorem dX6_keep_17 : decode cX6_keep 17 = .ok (.aload_n 0, 1) := by decide +kernel
theorem dX6_keep_18 : decode cX6_keep 18 = .ok (.getfield 44, 3) := by decide +kernel
theorem dX6_keep_21 : decode cX6_keep 21 = .ok (.invokevirtual 85, 3) := by decide +kernel
theorem dX6_keep_24 : decode cX6_keep 24 = .ok (.aload_n 0, 1) := by decide +kernel
theorem dX6_keep_25 : decode cX6_keep 25 = .ok (.getfield 44, 3) := by decide +kernel
theorem dX6_keep_28 : decode cX6_keep 28 = .ok (.invokevirtual 185, 3) := by decide +kernel
theorem dX6_keep_31 : decode cX6_keep 31 = .ok (.ireturn, 1) := by decide +kernel
theorem dX6_back_0 : decode cX6_back 0 = .ok (.iload_n 1, 1) := by decide +kernel
theorem dX6_back_1 : decode cX6_back 1 = .ok (.ifCond .eq 11, 3) := by decide +kernel
theorem dX6_back_4 : decode cX6_back 4 = .ok (.iload_n 1, 1) := by decide +kernel
theorem dX6_back_5 : decode cX6_back 5 = .ok (.iconst 1, 1) := by decide +kernel
theorem dX6_back_6 : decode cX6_back 6 = .ok (.if_icmp .eq 6, 3) := by decide +kernel
theorem dX6_back_9 : decode cX6_back 9 = .ok (.bipush (-2), 2) := by decide +kernel
theorem dX6_back_11 : decode cX6_back 11 = .ok (.ireturn, 1) := by decide +kernel
theorem dX6_back_12 : decode cX6_back 12 = .ok (.aload_n 0, 1) := by decide +kernel
theorem dX6_back_13 : decode cX6_back 13 = .ok (.iload_n 1, 1) := by decide +kernel
theorem dX6_back_14 : decode cX6_back 14 = .ok (.invokevirtual 191, 3) := by decide +kernel
theorem dX6_back_17 : decode cX6_back 17 = .ok (.invokevirtual 195, 3) := by decide +kernel
theorem dX6_back_20 : decode cX6_back 20 = .ok (.ifCond .ne 6, 3) := by decide +kernel
theorem dX6_back_23 : decode cX6_back 23 = .ok (.bipush (-4), 2) := by decide +kernel
theorem dX6_back_25 : decode cX6_back 25 = .ok (.ireturn, 1) := by decide +kernel
theorem dX6_back_26 : decode cX6_back 26 = .ok (.aload_n 0, 1) := by decide +kernel
theorem dX6_back_27 : decode cX6_back 27 = .ok (.getfield 44, 3) := by decide +kernel
theorem dX6_back_30 : decode cX6_back 30 = .ok (.aload_n 0, 1) := by decide +kernel
theorem dX6_back_31 : decode cX6_back 31 = .ok (.iload_n 1, 1) := by decide +kernel
theorem dX6_back_32 : decode cX6_back 32 = .ok (.invokevirtual 191, 3) := by decide +kernel
theorem dX6_back_35 : decode cX6_back 35 = .ok (.invokevirtual 85, 3) := by decide +kernel
theorem dX6_back_38 : decode cX6_back 38 = .ok (.aload_n 0, 1) := by decide +kernel
theorem dX6_back_39 : decode cX6_back 39 = .ok (.getfield 44, 3) := by decide +kernel
theorem dX6_back_42 : decode cX6_back 42 = .ok (.invokevirtual 185, 3) := by decide +kernel
theorem dX6_back_45 : decode cX6_back 45 = .ok (.ireturn, 1) := by decide +kernel
theorem dX6_keptAt_0 : decode cX6_keptAt 0 = .ok (.iload_n 1, 1) := by decide +kernel
theorem dX6_keptAt_1 : decode cX6_keptAt 1 = .ok (.ifCond .ne 10, 3) := by decide +kernel
theorem dX6_keptAt_4 : decode cX6_keptAt 4 = .ok (.aload_n 0, 1) := by decide +kernel
theorem dX6_keptAt_5 : decode cX6_keptAt 5 = .ok (.getfield 47, 3) := by decide +kernel
theorem dX6_keptAt_8 : decode cX6_keptAt 8 = .ok (.goto 7, 3) := by decide +kernel
theorem dX6_keptAt_11 : decode cX6_keptAt 11 = .ok (.aload_n 0, 1) := by decide +kernel
theorem dX6_keptAt_12 : decode cX6_keptAt 12 = .ok (.getfield 50, 3) := by decide +kernel
theorem dX6_keptAt_15 : decode cX6_keptAt 15 = .ok (.areturn, 1) := by decide +kernel
theorem dX6_home_0 : decode cX6_home 0 = .ok (.iload_n 1, 1) := by decide +kernel
theorem dX6_home_1 : decode cX6_home 1 = .ok (.invokestatic 128, 3) := by decide +kernel
theorem dX6_home_4 : decode cX6_home 4 = .ok (.ifCond .ne 6, 3) := by decide +kernel
theorem dX6_home_7 : decode cX6_home 7 = .ok (.bipush (-3), 2) := by decide +kernel
theorem dX6_home_9 : decode cX6_home 9 = .ok (.ireturn, 1) := by decide +kernel
theorem dX6_home_10 : decode cX6_home 10 = .ok (.aload_n 0, 1) := by decide +kernel
theorem dX6_home_11 : decode cX6_home 11 = .ok (.getfield 44, 3) := by decide +kernel
theorem dX6_home_14 : decode cX6_home 14 = .ok (.invokevirtual 173, 3) := by decide +kernel
theorem dX6_home_17 : decode cX6_home 17 = .ok (.istore_n 2, 1) := by decide +kernel
theorem dX6_home_18 : decode cX6_home 18 = .ok (.aload_n 0, 1) := by decide +kernel
theorem dX6_home_19 : decode cX6_home 19 = .ok (.getfield 44, 3) := by decide +kernel
theorem dX6_home_22 : decode cX6_home 22 = .ok (.invokevirtual 176, 3) := by decide +kernel
theorem dX6_home_25 : decode cX6_home 25 = .ok (.istore_n 3, 1) := by decide +kernel
theorem dX6_home_26 : decode cX6_home 26 = .ok (.iconst 1, 1) := by decide +kernel
theorem dX6_home_27 : decode cX6_home 27 = .ok (.istore 4, 2) := by decide +kernel
theorem dX6_home_29 : decode cX6_home 29 = .ok (.iload 4, 2) := by decide +kernel
theorem dX6_home_31 : decode cX6_home 31 = .ok (.bipush 60, 2) := by decide +kernel
theorem dX6_home_33 : decode cX6_home 33 = .ok (.if_icmp .gt 67, 3) := by decide +kernel
theorem dX6_home_36 : decode cX6_home 36 = .ok (.aload_n 0, 1) := by decide +kernel
theorem dX6_home_37 : decode cX6_home 37 = .ok (.getfield 26, 3) := by decide +kernel
theorem dX6_home_40 : decode cX6_home 40 = .ok (.iload_n 2, 1) := by decide +kernel
theorem dX6_home_41 : decode cX6_home 41 = .ok (.iload_n 3, 1) := by decide +kernel
theorem dX6_home_42 : decode cX6_home 42 = .ok (.iload_n 1, 1) := by decide +kernel
theorem dX6_home_43 : decode cX6_home 43 = .ok (.invokestatic 179, 3) := by decide +kernel
theorem dX6_home_46 : decode cX6_home 46 = .ok (.invokevirtual 182, 3) := by decide +kernel
theorem dX6_home_49 : decode cX6_home 49 = .ok (.istore 5, 2) := by decide +kernel
theorem dX6_home_51 : decode cX6_home 51 = .ok (.iload 5, 2) := by decide +kernel
theorem dX6_home_53 : decode cX6_home 53 = .ok (.iconst (-1), 1) := by decide +kernel
theorem dX6_home_54 : decode cX6_home 54 = .ok (.if_icmp .ne 5, 3) := by decide +kernel
theorem dX6_home_57 : decode cX6_home 57 = .ok (.iconst (-1), 1) := by decide +kernel
theorem dX6_home_58 : decode cX6_home 58 = .ok (.ireturn, 1) := by decide +kernel
theorem dX6_home_59 : decode cX6_home 59 = .ok (.iload 5, 2) := by decide +kernel
theorem dX6_home_61 : decode cX6_home 61 = .ok (.iload_n 2, 1) := by decide +kernel
theorem dX6_home_62 : decode cX6_home 62 = .ok (.invokestatic 119, 3) := by decide +kernel
theorem dX6_home_65 : decode cX6_home 65 = .ok (.istore_n 3, 1) := by decide +kernel
theorem dX6_home_66 : decode cX6_home 66 = .ok (.iload 5, 2) := by decide +kernel
theorem dX6_home_68 : decode cX6_home 68 = .ok (.istore_n 2, 1) := by decide +kernel
theorem dX6_home_69 : decode cX6_home 69 = .ok (.iload_n 2, 1) := by decide +kernel
theorem dX6_home_70 : decode cX6_home 70 = .ok (.aload_n 0, 1) := by decide +kernel
theorem dX6_home_71 : decode cX6_home 71 = .ok (.getfield 44, 3) := by decide +kernel
theorem dX6_home_74 : decode cX6_home 74 = .ok (.invokevirtual 173, 3) := by decide +kernel
theorem dX6_home_77 : decode cX6_home 77 = .ok (.if_icmp .ne 17, 3) := by decide +kernel
theorem dX6_home_80 : decode cX6_home 80 = .ok (.iload_n 3, 1) := by decide +kernel
theorem dX6_home_81 : decode cX6_home 81 = .ok (.aload_n 0, 1) := by decide +kernel
theorem dX6_home_82 : decode cX6_home 82 = .ok (.getfield 44, 3) := by decide +kernel
theorem dX6_home_85 : decode cX6_home 85 = .ok (.invokevirtual 176, 3) := by decide +kernel
theorem dX6_home_88 : decode cX6_home 88 = .ok (.if_icmp .ne 6, 3) := by decide +kernel
theorem dX6_home_91 : decode cX6_home 91 = .ok (.iload 4, 2) := by decide +kernel
theorem dX6_home_93 : decode cX6_home 93 = .ok (.ireturn, 1) := by decide +kernel
theorem dX6_home_94 : decode cX6_home 94 = .ok (.iinc 4 1, 3) := by decide +kernel
theorem dX6_home_97 : decode cX6_home 97 = .ok (.goto (-68), 3) := by decide +kernel
theorem dX6_home_100 : decode cX6_home 100 = .ok (.iconst (-1), 1) := by decide +kernel
theorem dX6_home_101 : decode cX6_home 101 = .ok (.ireturn, 1) := by decide +kernel
theorem dX6_alike_0 : decode cX6_alike 0 = .ok (.aload_n 0, 1) := by decide +kernel
theorem dX6_alike_1 : decode cX6_alike 1 = .ok (.getfield 19, 3) := by decide +kernel
theorem dX6_alike_4 : decode cX6_alike 4 = .ok (.aload_n 0, 1) := by decide +kernel
theorem dX6_alike_5 : decode cX6_alike 5 = .ok (.getfield 44, 3) := by decide +kernel
theorem dX6_alike_8 : decode cX6_alike 8 = .ok (.aload_n 0, 1) := by decide +kernel
theorem dX6_alike_9 : decode cX6_alike 9 = .ok (.getfield 44, 3) := by decide +kernel
theorem dX6_alike_12 : decode cX6_alike 12 = .ok (.invokevirtual 199, 3) := by decide +kernel
theorem dX6_alike_15 : decode cX6_alike 15 = .ok (.ireturn, 1) := by decide +kernel
theorem dX6_like_0 : decode cX6_like 0 = .ok (.iload_n 1, 1) := by decide +kernel
theorem dX6_like_1 : decode cX6_like 1 = .ok (.ifCond .eq 11, 3) := by decide +kernel
theorem dX6_like_4 : decode cX6_like 4 = .ok (.iload_n 1, 1) := by decide +kernel
theorem dX6_like_5 : decode cX6_like 5 = .ok (.iconst 1, 1) := by decide +kernel
theorem dX6_like_6 : decode cX6_like 6 = .ok (.if_icmp .eq 6, 3) := by decide +kernel
theorem dX6_like_9 : decode cX6_like 9 = .ok (.bipush (-2), 2) := by decide +kernel
theorem dX6_like_11 : decode cX6_like 11 = .ok (.ireturn, 1) := by decide +kernel
theorem dX6_like_12 : decode cX6_like 12 = .ok (.aload_n 0, 1) := by decide +kernel
theorem dX6_like_13 : decode cX6_like 13 = .ok (.iload_n 1, 1) := by decide +kernel
theorem dX6_like_14 : decode cX6_like 14 = .ok (.invokevirtual 191, 3) := by decide +kernel
theorem dX6_like_17 : decode cX6_like 17 = .ok (.invokevirtual 195, 3) := by decide +kernel
theorem dX6_like_20 : decode cX6_like 20 = .ok (.ifCond .ne 6, 3) := by decide +kernel
theorem dX6_like_23 : decode cX6_like 23 = .ok (.bipush (-4), 2) := by decide +kernel
theorem dX6_like_25 : decode cX6_like 25 = .ok (.ireturn, 1) := by decide +kernel
theorem dX6_like_26 : decode cX6_like 26 = .ok (.aload_n 0, 1) := by decide +kernel
theorem dX6_like_27 : decode cX6_like 27 = .ok (.getfield 19, 3) := by decide +kernel
theorem dX6_like_30 : decode cX6_like 30 = .ok (.aload_n 0, 1) := by decide +kernel
theorem dX6_like_31 : decode cX6_like 31 = .ok (.iload_n 1, 1) := by decide +kernel
theorem dX6_like_32 : decode cX6_like 32 = .ok (.invokevirtual 191, 3) := by decide +kernel
theorem dX6_like_35 : decode cX6_like 35 = .ok (.aload_n 0, 1) := by decide +kernel
theorem dX6_like_36 : decode cX6_like 36 = .ok (.getfield 44, 3) := by decide +kernel
theorem dX6_like_39 : decode cX6_like 39 = .ok (.invokevirtual 199, 3) := by decide +kernel
theorem dX6_like_42 : decode cX6_like 42 = .ok (.ireturn, 1) := by decide +kernel
theorem dX6_fixed_0 : decode cX6_fixed 0 = .ok (.iload_n 1, 1) := by decide +kernel
theorem dX6_fixed_1 : decode cX6_fixed 1 = .ok (.invokestatic 116, 3) := by decide +kernel
theorem dX6_fixed_4 : decode cX6_fixed 4 = .ok (.ifCond .eq 10, 3) := by decide +kernel
theorem dX6_fixed_7 : decode cX6_fixed 7 = .ok (.iload_n 2, 1) := by decide +kernel
theorem dX6_fixed_8 : decode cX6_fixed 8 = .ok (.invokestatic 128, 3) := by decide +kernel
theorem dX6_fixed_11 : decode cX6_fixed 11 = .ok (.ifCond .ne 7, 3) := by decide +kernel
theorem dX6_fixed_14 : decode cX6_fixed 14 = .ok (.ldc2_w 203, 3) := by decide +kernel
theorem dX6_fixed_17 : decode cX6_fixed 17 = .ok (.lreturn, 1) := by decide +kernel
theorem dX6_fixed_18 : decode cX6_fixed 18 = .ok (.iload_n 3, 1) := by decide +kernel
theorem dX6_fixed_19 : decode cX6_fixed 19 = .ok (.iconst 1, 1) := by decide +kernel
theorem dX6_fixed_20 : decode cX6_fixed 20 = .ok (.if_icmp .lt 9, 3) := by decide +kernel
theorem dX6_fixed_23 : decode cX6_fixed 23 = .ok (.iload_n 3, 1) := by decide +kernel
theorem dX6_fixed_24 : decode cX6_fixed 24 = .ok (.bipush 8, 2) := by decide +kernel
theorem dX6_fixed_26 : decode cX6_fixed 26 = .ok (.if_icmp .le 7, 3) := by decide +kernel
theorem dX6_fixed_29 : decode cX6_fixed 29 = .ok (.ldc2_w 205, 3) := by decide +kernel
theorem dX6_fixed_32 : decode cX6_fixed 32 = .ok (.lreturn, 1) := by decide +kernel
theorem dX6_fixed_33 : decode cX6_fixed 33 = .ok (.aload_n 0, 1) := by decide +kernel
theorem dX6_fixed_34 : decode cX6_fixed 34 = .ok (.getfield 19, 3) := by decide +kernel
theorem dX6_fixed_37 : decode cX6_fixed 37 = .ok (.iload_n 1, 1) := by decide +kernel
theorem dX6_fixed_38 : decode cX6_fixed 38 = .ok (.iload_n 2, 1) := by decide +kernel
theorem dX6_fixed_39 : decode cX6_fixed 39 = .ok (.invokestatic 131, 3) := by decide +kernel
theorem dX6_fixed_42 : decode cX6_fixed 42 = .ok (.iload_n 3, 1) := by decide +kernel
theorem dX6_fixed_43 : decode cX6_fixed 43 = .ok (.invokevirtual 207, 3) := by decide +kernel
theorem dX6_fixed_46 : decode cX6_fixed 46 = .ok (.lreturn, 1) := by decide +kernel
theorem dX6_unlike_0 : decode cX6_unlike 0 = .ok (.iload_n 1, 1) := by decide +kernel
theorem dX6_unlike_1 : decode cX6_unlike 1 = .ok (.iconst 1, 1) := by decide +kernel
theorem dX6_unlike_2 : decode cX6_unlike 2 = .ok (.if_icmp .lt 9, 3) := by decide +kernel
theorem dX6_unlike_5 : decode cX6_unlike 5 = .ok (.iload_n 1, 1) := by decide +kernel
theorem dX6_unlike_6 : decode cX6_unlike 6 = .ok (.bipush 8, 2) := by decide +kernel
theorem dX6_unlike_8 : decode cX6_unlike 8 = .ok (.if_icmp .le 7, 3) := by decide +kernel
theorem dX6_unlike_11 : decode cX6_unlike 11 = .ok (.ldc2_w 205, 3) := by decide +kernel
theorem dX6_unlike_14 : decode cX6_unlike 14 = .ok (.lreturn, 1) := by decide +kernel
theorem dX6_unlike_15 : decode cX6_unlike 15 = .ok (.aload_n 0, 1) := by decide +kernel
theorem dX6_unlike_16 : decode cX6_unlike 16 = .ok (.getfield 19, 3) := by decide +kernel
theorem dX6_unlike_19 : decode cX6_unlike 19 = .ok (.iload_n 1, 1) := by decide +kernel
theorem dX6_unlike_20 : decode cX6_unlike 20 = .ok (.invokevirtual 211, 3) := by decide +kernel
theorem dX6_unlike_23 : decode cX6_unlike 23 = .ok (.lreturn, 1) := by decide +kernel
theorem dX6_wardens_0 : decode cX6_wardens 0 = .ok (.iload_n 1, 1) := by decide +kernel
theorem dX6_wardens_1 : decode cX6_wardens 1 = .ok (.tableswitch 51 0 2 #[27, 35, 43], 27) := by decide +kernel
theorem dX6_wardens_28 : decode cX6_wardens 28 = .ok (.aload_n 0, 1) := by decide +kernel
theorem dX6_wardens_29 : decode cX6_wardens 29 = .ok (.getfield 26, 3) := by decide +kernel
theorem dX6_wardens_32 : decode cX6_wardens 32 = .ok (.invokevirtual 215, 3) := by decide +kernel
theorem dX6_wardens_35 : decode cX6_wardens 35 = .ok (.ireturn, 1) := by decide +kernel
theorem dX6_wardens_36 : decode cX6_wardens 36 = .ok (.aload_n 0, 1) := by decide +kernel
theorem dX6_wardens_37 : decode cX6_wardens 37 = .ok (.getfield 26, 3) := by decide +kernel
theorem dX6_wardens_40 : decode cX6_wardens 40 = .ok (.invokevirtual 218, 3) := by decide +kernel
theorem dX6_wardens_43 : decode cX6_wardens 43 = .ok (.ireturn, 1) := by decide +kernel
theorem dX6_wardens_44 : decode cX6_wardens 44 = .ok (.aload_n 0, 1) := by decide +kernel
theorem dX6_wardens_45 : decode cX6_wardens 45 = .ok (.getfield 26, 3) := by decide +kernel
theorem dX6_wardens_48 : decode cX6_wardens 48 = .ok (.invokevirtual 221, 3) := by decide +kernel
theorem dX6_wardens_51 : decode cX6_wardens 51 = .ok (.ireturn, 1) := by decide +kernel
theorem dX6_wardens_52 : decode cX6_wardens 52 = .ok (.bipush (-3), 2) := by decide +kernel
theorem dX6_wardens_54 : decode cX6_wardens 54 = .ok (.ireturn, 1) := by decide +kernel
theorem dX6_inside_0 : decode cX6_inside 0 = .ok (.iload_n 1, 1) := by decide +kernel
theorem dX6_inside_1 : decode cX6_inside 1 = .ok (.invokestatic 116, 3) := by decide +kernel
theorem dX6_inside_4 : decode cX6_inside 4 = .ok (.ifCond .ne 6, 3) := by decide +kernel
theorem dX6_inside_7 : decode cX6_inside 7 = .ok (.bipush (-2), 2) := by decide +kernel
theorem dX6_inside_9 : decode cX6_inside 9 = .ok (.ireturn, 1) := by decide +kernel
theorem dX6_inside_10 : decode cX6_inside 10 = .ok (.aload_n 0, 1) := by decide +kernel
theorem dX6_inside_11 : decode cX6_inside 11 = .ok (.getfield 26, 3) := by decide +kernel
theorem dX6_inside_14 : decode cX6_inside 14 = .ok (.iload_n 1, 1) := by decide +kernel
theorem dX6_inside_15 : decode cX6_inside 15 = .ok (.invokevirtual 224, 3) := by decide +kernel
theorem dX6_inside_18 : decode cX6_inside 18 = .ok (.ireturn, 1) := by decide +kernel
theorem dX6_rounds_0 : decode cX6_rounds 0 = .ok (.iload_n 1, 1) := by decide +kernel
theorem dX6_rounds_1 : decode cX6_rounds 1 = .ok (.iconst (-1), 1) := by decide +kernel
theorem dX6_rounds_2 : decode cX6_rounds 2 = .ok (.if_icmp .ne 11, 3) := by decide +kernel
theorem dX6_rounds_5 : decode cX6_rounds 5 = .ok (.aload_n 0, 1) := by decide +kernel
theorem dX6_rounds_6 : decode cX6_rounds 6 = .ok (.getfield 26, 3) := by decide +kernel
theorem dX6_rounds_9 : decode cX6_rounds 9 = .ok (.invokevirtual 227, 3) := by decide +kernel
theorem dX6_rounds_12 : decode cX6_rounds 12 = .ok (.ireturn, 1) := by decide +kernel
theorem dX6_rounds_13 : decode cX6_rounds 13 = .ok (.iload_n 1, 1) := by decide +kernel
theorem dX6_rounds_14 : decode cX6_rounds 14 = .ok (.invokestatic 116, 3) := by decide +kernel
theorem dX6_rounds_17 : decode cX6_rounds 17 = .ok (.ifCond .ne 6, 3) := by decide +kernel
theorem dX6_rounds_20 : decode cX6_rounds 20 = .ok (.bipush (-3), 2) := by decide +kernel
theorem dX6_rounds_22 : decode cX6_rounds 22 = .ok (.ireturn, 1) := by decide +kernel
theorem dX6_rounds_23 : decode cX6_rounds 23 = .ok (.aload_n 0, 1) := by decide +kernel
theorem dX6_rounds_24 : decode cX6_rounds 24 = .ok (.getfield 26, 3) := by decide +kernel
theorem dX6_rounds_27 : decode cX6_rounds 27 = .ok (.iload_n 1, 1) := by decide +kernel
theorem dX6_rounds_28 : decode cX6_rounds 28 = .ok (.invokevirtual 230, 3) := by decide +kernel
theorem dX6_rounds_31 : decode cX6_rounds 31 = .ok (.ireturn, 1) := by decide +kernel
theorem dX6_walks_0 : decode cX6_walks 0 = .ok (.iload_n 1, 1) := by decide +kernel
theorem dX6_walks_1 : decode cX6_walks 1 = .ok (.invokestatic 116, 3) := by decide +kernel
theorem dX6_walks_4 : decode cX6_walks 4 = .ok (.ifCond .eq 10, 3) := by decide +kernel
theorem dX6_walks_7 : decode cX6_walks 7 = .ok (.iload_n 2, 1) := by decide +kernel
theorem dX6_walks_8 : decode cX6_walks 8 = .ok (.invokestatic 116, 3) := by decide +kernel
theorem dX6_walks_11 : decode cX6_walks 11 = .ok (.ifCond .ne 7, 3) := by decide +kernel
theorem dX6_walks_14 : decode cX6_walks 14 = .ok (.ldc2_w 203, 3) := by decide +kernel
theorem dX6_walks_17 : decode cX6_walks 17 = .ok (.lreturn, 1) := by decide +kernel
theorem dX6_walks_18 : decode cX6_walks 18 = .ok (.iload_n 3, 1) := by decide +kernel
theorem dX6_walks_19 : decode cX6_walks 19 = .ok (.ifCond .lt 9, 3) := by decide +kernel
theorem dX6_walks_22 : decode cX6_walks 22 = .ok (.iload_n 3, 1) := by decide +kernel
theorem dX6_walks_23 : decode cX6_walks 23 = .ok (.bipush 20, 2) := by decide +kernel
theorem dX6_walks_25 : decode cX6_walks 25 = .ok (.if_icmp .le 7, 3) := by decide +kernel
theorem dX6_walks_28 : decode cX6_walks 28 = .ok (.ldc2_w 205, 3) := by decide +kernel
theorem dX6_walks_31 : decode cX6_walks 31 = .ok (.lreturn, 1) := by decide +kernel
theorem dX6_walks_32 : decode cX6_walks 32 = .ok (.aload_n 0, 1) := by decide +kernel
theorem dX6_walks_33 : decode cX6_walks 33 = .ok (.getfield 33, 3) := by decide +kernel
theorem dX6_walks_36 : decode cX6_walks 36 = .ok (.aload_n 0, 1) := by decide +kernel
theorem dX6_walks_37 : decode cX6_walks 37 = .ok (.getfield 26, 3) := by decide +kernel
theorem dX6_walks_40 : decode cX6_walks 40 = .ok (.iload_n 1, 1) := by decide +kernel
theorem dX6_walks_41 : decode cX6_walks 41 = .ok (.iload_n 2, 1) := by decide +kernel
theorem dX6_walks_42 : decode cX6_walks 42 = .ok (.iload_n 3, 1) := by decide +kernel
theorem dX6_walks_43 : decode cX6_walks 43 = .ok (.invokevirtual 233, 3) := by decide +kernel
theorem dX6_walks_46 : decode cX6_walks 46 = .ok (.lreturn, 1) := by decide +kernel
theorem dX6_odds_0 : decode cX6_odds 0 = .ok (.iload_n 1, 1) := by decide +kernel
theorem dX6_odds_1 : decode cX6_odds 1 = .ok (.invokestatic 116, 3) := by decide +kernel
theorem dX6_odds_4 : decode cX6_odds 4 = .ok (.ifCond .eq 10, 3) := by decide +kernel
theorem dX6_odds_7 : decode cX6_odds 7 = .ok (.iload_n 2, 1) := by decide +kernel
theorem dX6_odds_8 : decode cX6_odds 8 = .ok (.invokestatic 116, 3) := by decide +kernel
theorem dX6_odds_11 : decode cX6_odds 11 = .ok (.ifCond .ne 7, 3) := by decide +kernel
theorem dX6_odds_14 : decode cX6_odds 14 = .ok (.ldc2_w 203, 3) := by decide +kernel
theorem dX6_odds_17 : decode cX6_odds 17 = .ok (.lreturn, 1) := by decide +kernel
theorem dX6_odds_18 : decode cX6_odds 18 = .ok (.iload_n 3, 1) := by decide +kernel
theorem dX6_odds_19 : decode cX6_odds 19 = .ok (.ifCond .lt 20, 3) := by decide +kernel
theorem dX6_odds_22 : decode cX6_odds 22 = .ok (.iload_n 3, 1) := by decide +kernel
theorem dX6_odds_23 : decode cX6_odds 23 = .ok (.bipush 8, 2) := by decide +kernel
theorem dX6_odds_25 : decode cX6_odds 25 = .ok (.if_icmp .gt 14, 3) := by decide +kernel
theorem dX6_odds_28 : decode cX6_odds 28 = .ok (.iload 4, 2) := by decide +kernel
theorem dX6_odds_30 : decode cX6_odds 30 = .ok (.ifCond .lt 9, 3) := by decide +kernel
theorem dX6_odds_33 : decode cX6_odds 33 = .ok (.iload 4, 2) := by decide +kernel
theorem dX6_odds_35 : decode cX6_odds 35 = .ok (.iconst 1, 1) := by decide +kernel
theorem dX6_odds_36 : decode cX6_odds 36 = .ok (.if_icmp .le 7, 3) := by decide +kernel
theorem dX6_odds_39 : decode cX6_odds 39 = .ok (.ldc2_w 205, 3) := by decide +kernel
theorem dX6_odds_42 : decode cX6_odds 42 = .ok (.lreturn, 1) := by decide +kernel
theorem dX6_odds_43 : decode cX6_odds 43 = .ok (.aload_n 0, 1) := by decide +kernel
theorem dX6_odds_44 : decode cX6_odds 44 = .ok (.getfield 33, 3) := by decide +kernel
theorem dX6_odds_47 : decode cX6_odds 47 = .ok (.aload_n 0, 1) := by decide +kernel
theorem dX6_odds_48 : decode cX6_odds 48 = .ok (.getfield 26, 3) := by decide +kernel
theorem dX6_odds_51 : decode cX6_odds 51 = .ok (.iload_n 1, 1) := by decide +kernel
theorem dX6_odds_52 : decode cX6_odds 52 = .ok (.iload_n 2, 1) := by decide +kernel
theorem dX6_odds_53 : decode cX6_odds 53 = .ok (.iload_n 3, 1) := by decide +kernel
theorem dX6_odds_54 : decode cX6_odds 54 = .ok (.iload 4, 2) := by decide +kernel
theorem dX6_odds_56 : decode cX6_odds 56 = .ok (.invokevirtual 237, 3) := by decide +kernel
theorem dX6_odds_59 : decode cX6_odds 59 = .ok (.lreturn, 1) := by decide +kernel
theorem dX6_count_0 : decode cX6_count 0 = .ok (.iload_n 1, 1) := by decide +kernel
theorem dX6_count_1 : decode cX6_count 1 = .ok (.tableswitch 88 0 7 #[47, 47, 47, 47, 59, 67, 72, 80], 47) := by decide +kernel
theorem dX6_count_48 : decode cX6_count 48 = .ok (.aload_n 0, 1) := by decide +kernel
theorem dX6_count_49 : decode cX6_count 49 = .ok (.getfield 44, 3) := by decide +kernel
theorem dX6_count_52 : decode cX6_count 52 = .ok (.iload_n 1, 1) := by decide +kernel
theorem dX6_count_53 : decode cX6_count 53 = .ok (.invokevirtual 161, 3) := by decide +kernel
theorem dX6_count_56 : decode cX6_count 56 = .ok (.invokestatic 164, 3) := by decide +kernel
theorem dX6_count_59 : decode cX6_count 59 = .ok (.ireturn, 1) := by decide +kernel
theorem dX6_count_60 : decode cX6_count 60 = .ok (.aload_n 0, 1) := by decide +kernel
theorem dX6_count_61 : decode cX6_count 61 = .ok (.getfield 26, 3) := by decide +kernel
theorem dX6_count_64 : decode cX6_count 64 = .ok (.invokevirtual 241, 3) := by decide +kernel
theorem dX6_count_67 : decode cX6_count 67 = .ok (.ireturn, 1) := by decide +kernel
theorem dX6_count_68 : decode cX6_count 68 = .ok (.aload_n 0, 1) := by decide +kernel
theorem dX6_count_69 : decode cX6_count 69 = .ok (.invokevirtual 244, 3) := by decide +kernel
theorem dX6_count_72 : decode cX6_count 72 = .ok (.ireturn, 1) := by decide +kernel
theorem dX6_count_73 : decode cX6_count 73 = .ok (.aload_n 0, 1) := by decide +kernel
theorem dX6_count_74 : decode cX6_count 74 = .ok (.getfield 26, 3) := by decide +kernel
theorem dX6_count_77 : decode cX6_count 77 = .ok (.invokevirtual 247, 3) := by decide +kernel
theorem dX6_count_80 : decode cX6_count 80 = .ok (.ireturn, 1) := by decide +kernel
theorem dX6_count_81 : decode cX6_count 81 = .ok (.aload_n 0, 1) := by decide +kernel
theorem dX6_count_82 : decode cX6_count 82 = .ok (.getfield 12, 3) := by decide +kernel
theorem dX6_count_85 : decode cX6_count 85 = .ok (.invokevirtual 250, 3) := by decide +kernel
theorem dX6_count_88 : decode cX6_count 88 = .ok (.ireturn, 1) := by decide +kernel
theorem dX6_count_89 : decode cX6_count 89 = .ok (.bipush (-3), 2) := by decide +kernel
theorem dX6_count_91 : decode cX6_count 91 = .ok (.ireturn, 1) := by decide +kernel
theorem dX6_taxOfAll_0 : decode cX6_taxOfAll 0 = .ok (.iconst 0, 1) := by decide +kernel
theorem dX6_taxOfAll_1 : decode cX6_taxOfAll 1 = .ok (.istore_n 1, 1) := by decide +kernel
theorem dX6_taxOfAll_2 : decode cX6_taxOfAll 2 = .ok (.iconst 0, 1) := by decide +kernel
theorem dX6_taxOfAll_3 : decode cX6_taxOfAll 3 = .ok (.istore_n 2, 1) := by decide +kernel
theorem dX6_taxOfAll_4 : decode cX6_taxOfAll 4 = .ok (.iload_n 2, 1) := by decide +kernel
theorem dX6_taxOfAll_5 : decode cX6_taxOfAll 5 = .ok (.bipush 12, 2) := by decide +kernel
theorem dX6_taxOfAll_7 : decode cX6_taxOfAll 7 = .ok (.if_icmp .ge 17, 3) := by decide +kernel
theorem dX6_taxOfAll_10 : decode cX6_taxOfAll 10 = .ok (.iload_n 1, 1) := by decide +kernel
theorem dX6_taxOfAll_11 : decode cX6_taxOfAll 11 = .ok (.aload_n 0, 1) := by decide +kernel
theorem dX6_taxOfAll_12 : decode cX6_taxOfAll 12 = .ok (.iload_n 2, 1) := by decide +kernel
theorem dX6_taxOfAll_13 : decode cX6_taxOfAll 13 = .ok (.invokevirtual 143, 3) := by decide +kernel
theorem dX6_taxOfAll_16 : decode cX6_taxOfAll 16 = .ok (.iadd, 1) := by decide +kernel
theorem dX6_taxOfAll_17 : decode cX6_taxOfAll 17 = .ok (.istore_n 1, 1) := by decide +kernel
theorem dX6_taxOfAll_18 : decode cX6_taxOfAll 18 = .ok (.iinc 2 1, 3) := by decide +kernel
theorem dX6_taxOfAll_21 : decode cX6_taxOfAll 21 = .ok (.goto (-17), 3) := by decide +kernel
theorem dX6_taxOfAll_24 : decode cX6_taxOfAll 24 = .ok (.iload_n 1, 1) := by decide +kernel
theorem dX6_taxOfAll_25 : decode cX6_taxOfAll 25 = .ok (.ireturn, 1) := by decide +kernel
theorem dX7_init_0 : decode cX7_init 0 = .ok (.aload_n 0, 1) := by decide +kernel
theorem dX7_init_1 : decode cX7_init 1 = .ok (.invokespecial 1, 3) := by decide +kernel
theorem dX7_init_4 : decode cX7_init 4 = .ok (.aload_n 0, 1) := by decide +kernel
theorem dX7_init_5 : decode cX7_init 5 = .ok (.bipush 60, 2) := by decide +kernel
theorem dX7_init_7 : decode cX7_init 7 = .ok (.newarray .int, 2) := by decide +kernel
theorem dX7_init_9 : decode cX7_init 9 = .ok (.putfield 7, 3) := by decide +kernel
theorem dX7_init_12 : decode cX7_init 12 = .ok (.aload_n 0, 1) := by decide +kernel
theorem dX7_init_13 : decode cX7_init 13 = .ok (.bipush 60, 2) := by decide +kernel
theorem dX7_init_15 : decode cX7_init 15 = .ok (.newarray .boolean, 2) := by decide +kernel
theorem dX7_init_17 : decode cX7_init 17 = .ok (.putfield 13, 3) := by decide +kernel
theorem dX7_init_20 : decode cX7_init 20 = .ok (.aload_n 0, 1) := by decide +kernel
theorem dX7_init_21 : decode cX7_init 21 = .ok (.bipush 12, 2) := by decide +kernel
theorem dX7_init_23 : decode cX7_init 23 = .ok (.newarray .int, 2) := by decide +kernel
theorem dX7_init_25 : decode cX7_init 25 = .ok (.putfield 17, 3) := by decide +kernel
theorem dX7_init_28 : decode cX7_init 28 = .ok (.aload_n 0, 1) := by decide +kernel
theorem dX7_init_29 : decode cX7_init 29 = .ok (.bipush 12, 2) := by decide +kernel
theorem dX7_init_31 : decode cX7_init 31 = .ok (.newarray .int, 2) := by decide +kernel
theorem dX7_init_33 : decode cX7_init 33 = .ok (.putfield 20, 3) := by decide +kernel
theorem dX7_init_36 : decode cX7_init 36 = .ok (.aload_n 0, 1) := by decide +kernel
theorem dX7_init_37 : decode cX7_init 37 = .ok (.sipush 200, 3) := by decide +kernel
theorem dX7_init_40 : decode cX7_init 40 = .ok (.newarray .int, 2) := by decide +kernel
theorem dX7_init_42 : decode cX7_init 42 = .ok (.putfield 23, 3) := by decide +kernel
theorem dX7_init_45 : decode cX7_init 45 = .ok (.aload_n 0, 1) := by decide +kernel
theorem dX7_init_46 : decode cX7_init 46 = .ok (.bipush 36, 2) := by decide +kernel
theorem dX7_init_48 : decode cX7_init 48 = .ok (.newarray .int, 2) := by decide +kernel
theorem dX7_init_50 : decode cX7_init 50 = .ok (.putfield 26, 3) := by decide +kernel
theorem dX7_init_53 : decode cX7_init 53 = .ok (.aload_n 0, 1) := by decide +kernel
theorem dX7_init_54 : decode cX7_init 54 = .ok (.bipush 30, 2) := by decide +kernel
theorem dX7_init_56 : decode cX7_init 56 = .ok (.newarray .int, 2) := by decide +kernel
theorem dX7_init_58 : decode cX7_init 58 = .ok (.putfield 29, 3) := by decide +kernel
theorem dX7_init_61 : decode cX7_init 61 = .ok (.aload_n 0, 1) := by decide +kernel
theorem dX7_init_62 : decode cX7_init 62 = .ok (.iconst 2, 1) := by decide +kernel
theorem dX7_init_63 : decode cX7_init 63 = .ok (.newarray .boolean, 2) := by decide +kernel
theorem dX7_init_65 : decode cX7_init 65 = .ok (.putfield 32, 3) := by decide +kernel
theorem dX7_init_68 : decode cX7_init 68 = .ok (.aload_n 0, 1) := by decide +kernel
theorem dX7_init_69 : decode cX7_init 69 = .ok (.bipush 12, 2) := by decide +kernel
theorem dX7_init_71 : decode cX7_init 71 = .ok (.newarray .int, 2) := by decide +kernel
theorem dX7_init_73 : decode cX7_init 73 = .ok (.putfield 35, 3) := by decide +kernel
theorem dX7_init_76 : decode cX7_init 76 = .ok (.aload_n 0, 1) := by decide +kernel
theorem dX7_init_77 : decode cX7_init 77 = .ok (.bipush 12, 2) := by decide +kernel
theorem dX7_init_79 : decode cX7_init 79 = .ok (.newarray .int, 2) := by decide +kernel
theorem dX7_init_81 : decode cX7_init 81 = .ok (.putfield 38, 3) := by decide +kernel
theorem dX7_init_84 : decode cX7_init 84 = .ok (.aload_n 0, 1) := by decide +kernel
theorem dX7_init_85 : decode cX7_init 85 = .ok (.bipush 12, 2) := by decide +kernel
theorem dX7_init_87 : decode cX7_init 87 = .ok (.newarray .int, 2) := by decide +kernel
theorem dX7_init_89 : decode cX7_init 89 = .ok (.putfield 41, 3) := by decide +kernel
theorem dX7_init_92 : decode cX7_init 92 = .ok (.aload_n 0, 1) := by decide +kernel
theorem dX7_init_93 : decode cX7_init 93 = .ok (.bipush 12, 2) := by decide +kernel
theorem dX7_init_95 : decode cX7_init 95 = .ok (.newarray .long, 2) := by decide +kernel
theorem dX7_init_97 : decode cX7_init 97 = .ok (.putfield 44, 3) := by decide +kernel
theorem dX7_init_100 : decode cX7_init 100 = .ok (.aload_n 0, 1) := by decide +kernel
theorem dX7_init_101 : decode cX7_init 101 = .ok (.bipush 12, 2) := by decide +kernel
theorem dX7_init_103 : decode cX7_init 103 = .ok (.newarray .long, 2) := by decide +kernel
theorem dX7_init_105 : decode cX7_init 105 = .ok (.putfield 48, 3) := by decide +kernel
theorem dX7_init_108 : decode cX7_init 108 = .ok (.aload_n 0, 1) := by decide +kernel
theorem dX7_init_109 : decode cX7_init 109 = .ok (.bipush 12, 2) := by decide +kernel
theorem dX7_init_111 : decode cX7_init 111 = .ok (.newarray .int, 2) := by decide +kernel
theorem dX7_init_113 : decode cX7_init 113 = .ok (.putfield 51, 3) := by decide +kernel
theorem dX7_init_116 : decode cX7_init 116 = .ok (.aload_n 0, 1) := by decide +kernel
theorem dX7_init_117 : decode cX7_init 117 = .ok (.iconst 0, 1) := by decide +kernel
theorem dX7_init_118 : decode cX7_init 118 = .ok (.ldc 54, 2) := by decide +kernel
theorem dX7_init_120 : decode cX7_init 120 = .ok (.invokevirtual 55, 3) := by decide +kernel
theorem dX7_init_123 : decode cX7_init 123 = .ok (.aload_n 0, 1) := by decide +kernel
theorem dX7_init_124 : decode cX7_init 124 = .ok (.iconst 1, 1) := by decide +kernel
theorem dX7_init_125 : decode cX7_init 125 = .ok (.sipush 23138, 3) := by decide +kernel
theorem dX7_init_128 : decode cX7_init 128 = .ok (.invokevirtual 55, 3) := by decide +kernel
theorem dX7_init_131 : decode cX7_init 131 = .ok (.aload_n 0, 1) := by decide +kernel
theorem dX7_init_132 : decode cX7_init 132 = .ok (.iconst 2, 1) := by decide +kernel
theorem dX7_init_133 : decode cX7_init 133 = .ok (.sipush 5747, 3) := by decide +kernel
theorem dX7_init_136 : decode cX7_init 136 = .ok (.invokevirtual 55, 3) := by decide +kernel
theorem dX7_init_139 : decode cX7_init 139 = .ok (.aload_n 0, 1) := by decide +kernel
theorem dX7_init_140 : decode cX7_init 140 = .ok (.iconst 3, 1) := by decide +kernel
theorem dX7_init_141 : decode cX7_init 141 = .ok (.sipush 10116, 3) := by decide +kernel
theorem dX7_init_144 : decode cX7_init 144 = .ok (.invokevirtual 55, 3) := by decide +kernel
theorem dX7_init_147 : decode cX7_init 147 = .ok (.aload_n 0, 1) := by decide +kernel
theorem dX7_init_148 : decode cX7_init 148 = .ok (.iconst 4, 1) := by decide +kernel
theorem dX7_init_149 : decode cX7_init 149 = .ok (.sipush 14485, 3) := by decide +kernel
theorem dX7_init_152 : decode cX7_init 152 = .ok (.invokevirtual 55, 3) := by decide +kernel
theorem dX7_init_155 : decode cX7_init 155 = .ok (.aload_n 0, 1) := by decide +kernel
theorem dX7_init_156 : decode cX7_init 156 = .ok (.iconst 5, 1) := by decide +kernel
theorem dX7_init_157 : decode cX7_init 157 = .ok (.sipush 18849, 3) := by decide +kernel
theorem dX7_init_160 : decode cX7_init 160 = .ok (.invokevirtual 55, 3) := by decide +kernel
theorem dX7_init_163 : decode cX7_init 163 = .ok (.aload_n 0, 1) := by decide +kernel
theorem dX7_init_164 : decode cX7_init 164 = .ok (.bipush 6, 2) := by decide +kernel
theorem dX7_init_166 : decode cX7_init 166 = .ok (.ldc 59, 2) := by decide +kernel
theorem dX7_init_168 : decode cX7_init 168 = .ok (.invokevirtual 55, 3) := by decide +kernel
theorem dX7_init_171 : decode cX7_init 171 = .ok (.aload_n 0, 1) := by decide +kernel
theorem dX7_init_172 : decode cX7_init 172 = .ok (.bipush 7, 2) := by decide +kernel
theorem dX7_init_174 : decode cX7_init 174 = .ok (.ldc 60, 2) := by decide +kernel
theorem dX7_init_176 : decode cX7_init 176 = .ok (.invokevirtual 55, 3) := by decide +kernel
theorem dX7_init_179 : decode cX7_init 179 = .ok (.aload_n 0, 1) := by decide +kernel
theorem dX7_init_180 : decode cX7_init 180 = .ok (.bipush 8, 2) := by decide +kernel
theorem dX7_init_182 : decode cX7_init 182 = .ok (.ldc 61, 2) := by decide +kernel
theorem dX7_init_184 : decode cX7_init 184 = .ok (.invokevirtual 55, 3) := by decide +kernel
theorem dX7_init_187 : decode cX7_init 187 = .ok (.aload_n 0, 1) := by decide +kernel
theorem dX7_init_188 : decode cX7_init 188 = .ok (.bipush 9, 2) := by decide +kernel
theorem dX7_init_190 : decode cX7_init 190 = .ok (.ldc 62, 2) := by decide +kernel
theorem dX7_init_192 : decode cX7_init 192 = .ok (.invokevirtual 55, 3) := by decide +kernel
theorem dX7_init_195 : decode cX7_init 195 = .ok (.aload_n 0, 1) := by decide +kernel
theorem dX7_init_196 : decode cX7_init 196 = .ok (.bipush 10, 2) := by decide +kernel
theorem dX7_init_198 : decode cX7_init 198 = .ok (.ldc 63, 2) := by decide +kernel
theorem dX7_init_200 : decode cX7_init 200 = .ok (.invokevirtual 55, 3) := by decide +kernel
theorem dX7_init_203 : decode cX7_init 203 = .ok (.aload_n 0, 1) := by decide +kernel
theorem dX7_init_204 : decode cX7_init 204 = .ok (.bipush 11, 2) := by decide +kernel
theorem dX7_init_206 : decode cX7_init 206 = .ok (.ldc 64, 2) := by decide +kernel
theorem dX7_init_208 : decode cX7_init 208 = .ok (.invokevirtual 55, 3) := by decide +kernel
theorem dX7_init_211 : decode cX7_init 211 = .ok (.return_, 1) := by decide +kernel
theorem dX7_lay_0 : decode cX7_lay 0 = .ok (.iconst 0, 1) := by decide +kernel
theorem dX7_lay_1 : decode cX7_lay 1 = .ok (.istore_n 3, 1) := by decide +kernel
theorem dX7_lay_2 : decode cX7_lay 2 = .ok (.iload_n 3, 1) := by decide +kernel
theorem dX7_lay_3 : decode cX7_lay 3 = .ok (.iconst 5, 1) := by decide +kernel
theorem dX7_lay_4 : decode cX7_lay 4 = .ok (.if_icmp .ge 29, 3) := by decide +kernel
theorem dX7_lay_7 : decode cX7_lay 7 = .ok (.aload_n 0, 1) := by decide +kernel
theorem dX7_lay_8 : decode cX7_lay 8 = .ok (.getfield 7, 3) := by decide +kernel
theorem dX7_lay_11 : decode cX7_lay 11 = .ok (.iconst 5, 1) := by decide +kernel
theorem dX7_lay_12 : decode cX7_lay 12 = .ok (.iload_n 1, 1) := by decide +kernel
theorem dX7_lay_13 : decode cX7_lay 13 = .ok (.imul, 1) := by decide +kernel
theorem dX7_lay_14 : decode cX7_lay 14 = .ok (.iload_n 3, 1) := by decide +kernel
theorem dX7_lay_15 : decode cX7_lay 15 = .ok (.iadd, 1) := by decide +kernel
theorem dX7_lay_16 : decode cX7_lay 16 = .ok (.iload_n 2, 1) := by decide +kernel
theorem dX7_lay_17 : decode cX7_lay 17 = .ok (.iconst 4, 1) := by decide +kernel
theorem dX7_lay_18 : decode cX7_lay 18 = .ok (.iconst 4, 1) := by decide +kernel
theorem dX7_lay_19 : decode cX7_lay 19 = .ok (.iload_n 3, 1) := by decide +kernel
theorem dX7_lay_20 : decode cX7_lay 20 = .ok (.isub, 1) := by decide +kernel
theorem dX7_lay_21 : decode cX7_lay 21 = .ok (.imul, 1) := by decide +kernel
theorem dX7_lay_22 : decode cX7_lay 22 = .ok (.ishr, 1) := by decide +kernel
theorem dX7_lay_23 : decode cX7_lay 23 = .ok (.bipush 15, 2) := by decide +kernel
theorem dX7_lay_25 : decode cX7_lay 25 = .ok (.iand, 1) := by decide +kernel
theorem dX7_lay_26 : decode cX7_lay 26 = .ok (.iastore, 1) := by decide +kernel
theorem dX7_lay_27 : decode cX7_lay 27 = .ok (.iinc 3 1, 3) := by decide +kernel
theorem dX7_lay_30 : decode cX7_lay 30 = .ok (.goto (-28), 3) := by decide +kernel
theorem dX7_lay_33 : decode cX7_lay 33 = .ok (.return_, 1) := by decide +kernel
theorem dX7_in_0 : decode cX7_in 0 = .ok (.iload_n 0, 1) := by decide +kernel
theorem dX7_in_1 : decode cX7_in 1 = .ok (.iload_n 1, 1) := by decide +kernel
theorem dX7_in_2 : decode cX7_in 2 = .ok (.if_icmp .lt 12, 3) := by decide +kernel
theorem dX7_in_5 : decode cX7_in 5 = .ok (.iload_n 0, 1) := by decide +kernel
theorem dX7_in_6 : decode cX7_in 6 = .ok (.iload_n 2, 1) := by decide +kernel
theorem dX7_in_7 : decode cX7_in 7 = .ok (.if_icmp .gt 7, 3) := by decide +kernel
theorem dX7_in_10 : decode cX7_in 10 = .ok (.iconst 1, 1) := by decide +kernel
theorem dX7_in_11 : decode cX7_in 11 = .ok (.goto 4, 3) := by decide +kernel
theorem dX7_in_14 : decode cX7_in 14 = .ok (.iconst 0, 1) := by decide +kernel
theorem dX7_in_15 : decode cX7_in 15 = .ok (.ireturn, 1) := by decide +kernel
theorem dX7_has_0 : decode cX7_has 0 = .ok (.iload_n 0, 1) := by decide +kernel
theorem dX7_has_1 : decode cX7_has 1 = .ok (.iload_n 1, 1) := by decide +kernel
theorem dX7_has_2 : decode cX7_has 2 = .ok (.ishr, 1) := by decide +kernel
theorem dX7_has_3 : decode cX7_has 3 = .ok (.iconst 1, 1) := by decide +kernel
theorem dX7_has_4 : decode cX7_has 4 = .ok (.iand, 1) := by decide +kernel
theorem dX7_has_5 : decode cX7_has 5 = .ok (.iconst 1, 1) := by decide +kernel
theorem dX7_has_6 : decode cX7_has 6 = .ok (.if_icmp .ne 7, 3) := by decide +kernel
theorem dX7_has_9 : decode cX7_has 9 = .ok (.iconst 1, 1) := by decide +kernel
theorem dX7_has_10 : decode cX7_has 10 = .ok (.goto 4, 3) := by decide +kernel
theorem dX7_has_13 : decode cX7_has 13 = .ok (.iconst 0, 1) := by decide +kernel
theorem dX7_has_14 : decode cX7_has 14 = .ok (.ireturn, 1) := by decide +kernel
theorem dX7_isField_0 : decode cX7_isField 0 = .ok (.iload_n 0, 1) := by decide +kernel
theorem dX7_isField_1 : decode cX7_isField 1 = .ok (.iconst 0, 1) := by decide +kernel
theorem dX7_isField_2 : decode cX7_isField 2 = .ok (.bipush 11, 2) := by decide +kernel
theorem dX7_isField_4 : decode cX7_isField 4 = .ok (.invokestatic 65, 3) := by decide +kernel
theorem dX7_isField_7 : decode cX7_isField 7 = .ok (.ireturn, 1) := by decide +kernel
theorem dX7_isSide_0 : decode cX7_isSide 0 = .ok (.iload_n 0, 1) := by decide +kernel
theorem dX7_isSide_1 : decode cX7_isSide 1 = .ok (.iconst 0, 1) := by decide +kernel
theorem dX7_isSide_2 : decode cX7_isSide 2 = .ok (.iconst 4, 1) := by decide +kernel
theorem dX7_isSide_3 : decode cX7_isSide 3 = .ok (.invokestatic 65, 3) := by decide +kernel
theorem dX7_isSide_6 : decode cX7_isSide 6 = .ok (.ireturn, 1) := by decide +kernel
theorem dX7_sideOf_0 : decode cX7_sideOf 0 = .ok (.iconst 0, 1) := by decide +kernel
theorem dX7_sideOf_1 : decode cX7_sideOf 1 = .ok (.istore_n 3, 1) := by decide +kernel
theorem dX7_sideOf_2 : decode cX7_sideOf 2 = .ok (.iload_n 3, 1) := by decide +kernel
theorem dX7_sideOf_3 : decode cX7_sideOf 3 = .ok (.iconst 5, 1) := by decide +kernel
theorem dX7_sideOf_4 : decode cX7_sideOf 4 = .ok (.if_icmp .ge 25, 3) := by decide +kernel
theorem dX7_sideOf_7 : decode cX7_sideOf 7 = .ok (.aload_n 0, 1) := by decide +kernel
theorem dX7_sideOf_8 : decode cX7_sideOf 8 = .ok (.getfield 7, 3) := by decide +kernel
theorem dX7_sideOf_11 : decode cX7_sideOf 11 = .ok (.iconst 5, 1) := by decide +kernel
theorem dX7_sideOf_12 : decode cX7_sideOf 12 = .ok (.iload_n 1, 1) := by decide +kernel
theorem dX7_sideOf_13 : decode cX7_sideOf 13 = .ok (.imul, 1) := by decide +kernel
theorem dX7_sideOf_14 : decode cX7_sideOf 14 = .ok (.iload_n 3, 1) := by decide +kernel
theorem dX7_sideOf_15 : decode cX7_sideOf 15 = .ok (.iadd, 1) := by decide +kernel
theorem dX7_sideOf_16 : decode cX7_sideOf 16 = .ok (.iaload, 1) := by decide +kernel
theorem dX7_sideOf_17 : decode cX7_sideOf 17 = .ok (.iload_n 2, 1) := by decide +kernel
theorem dX7_sideOf_18 : decode cX7_sideOf 18 = .ok (.if_icmp .ne 5, 3) := by decide +kernel
theorem dX7_sideOf_21 : decode cX7_sideOf 21 = .ok (.iload_n 3, 1) := by decide +kernel
theorem dX7_sideOf_22 : decode cX7_sideOf 22 = .ok (.ireturn, 1) := by decide +kernel
theorem dX7_sideOf_23 : decode cX7_sideOf 23 = .ok (.iinc 3 1, 3) := by decide +kernel
theorem dX7_sideOf_26 : decode cX7_sideOf 26 = .ok (.goto (-24), 3) := by decide +kernel
theorem dX7_sideOf_29 : decode cX7_sideOf 29 = .ok (.iconst (-1), 1) := by decide +kernel
theorem dX7_sideOf_30 : decode cX7_sideOf 30 = .ok (.ireturn, 1) := by decide +kernel
theorem dX7_write_0 : decode cX7_write 0 = .ok (.iload_n 3, 1) := by decide +kernel
theorem dX7_write_1 : decode cX7_write 1 = .ok (.iconst 1, 1) := by decide +kernel
theorem dX7_write_2 : decode cX7_write 2 = .ok (.bipush 8, 2) := by decide +kernel
theorem dX7_write_4 : decode cX7_write 4 = .ok (.invokestatic 65, 3) := by decide +kernel
theorem dX7_write_7 : decode cX7_write 7 = .ok (.ifCond .ne 6, 3) := by decide +kernel
theorem dX7_write_10 : decode cX7_write 10 = .ok (.bipush (-3), 2) := by decide +kernel
theorem dX7_write_12 : decode cX7_write 12 = .ok (.ireturn, 1) := by decide +kernel
theorem dX7_write_13 : decode cX7_write 13 = .ok (.aload_n 0, 1) := by decide +kernel
theorem dX7_write_14 : decode cX7_write 14 = .ok (.getfield 69, 3) := by decide +kernel
theorem dX7_write_17 : decode cX7_write 17 = .ok (.iload_n 3, 1) := by decide +kernel
theorem dX7_write_18 : decode cX7_write 18 = .ok (.iadd, 1) := by decide +kernel
theorem dX7_write_19 : decode cX7_write 19 = .ok (.sipush 200, 3) := by decide +kernel
theorem dX7_write_22 : decode cX7_write 22 = .ok (.if_icmp .le 6, 3) := by decide +kernel
theorem dX7_write_25 : decode cX7_write 25 = .ok (.bipush (-5), 2) := by decide +kernel
theorem dX7_write_27 : decode cX7_write 27 = .ok (.ireturn, 1) := by decide +kernel
theorem dX7_write_28 : decode cX7_write 28 = .ok (.iconst 0, 1) := by decide +kernel
theorem dX7_write_29 : decode cX7_write 29 = .ok (.istore 4, 2) := by decide +kernel
theorem dX7_write_31 : decode cX7_write 31 = .ok (.iload 4, 2) := by decide +kernel
theorem dX7_write_33 : decode cX7_write 33 = .ok (.iload_n 3, 1) := by decide +kernel
theorem dX7_write_34 : decode cX7_write 34 = .ok (.if_icmp .ge 33, 3) := by decide +kernel
theorem dX7_write_37 : decode cX7_write 37 = .ok (.aload_n 0, 1) := by decide +kernel
theorem dX7_write_38 : decode cX7_write 38 = .ok (.getfield 23, 3) := by decide +kernel
theorem dX7_write_41 : decode cX7_write 41 = .ok (.aload_n 0, 1) := by decide +kernel
theorem dX7_write_42 : decode cX7_write 42 = .ok (.getfield 69, 3) := by decide +kernel
theorem dX7_write_45 : decode cX7_write 45 = .ok (.iload 4, 2) := by decide +kernel
theorem dX7_write_47 : decode cX7_write 47 = .ok (.iadd, 1) := by decide +kernel
theorem dX7_write_48 : decode cX7_write 48 = .ok (.lload_n 1, 1) := by decide +kernel
theorem dX7_write_49 : decode cX7_write 49 = .ok (.bipush 8, 2) := by decide +kernel
theorem dX7_write_51 : decode cX7_write 51 = .ok (.iload 4, 2) := by decide +kernel
theorem dX7_write_53 : decode cX7_write 53 = .ok (.imul, 1) := by decide +kernel
theorem dX7_write_54 : decode cX7_write 54 = .ok (.lshr, 1) := by decide +kernel
theorem dX7_write_55 : decode cX7_write 55 = .ok (.ldc2_w 73, 3) := by decide +kernel
theorem dX7_write_58 : decode cX7_write 58 = .ok (.land, 1) := by decide +kernel
theorem dX7_write_59 : decode cX7_write 59 = .ok (.l2i, 1) := by decide +kernel
theorem dX7_write_60 : decode cX7_write 60 = .ok (.iastore, 1) := by decide +kernel
theorem dX7_write_61 : decode cX7_write 61 = .ok (.iinc 4 1, 3) := by decide +kernel
theorem dX7_write_64 : decode cX7_write 64 = .ok (.goto (-33), 3) := by decide +kernel
theorem dX7_write_67 : decode cX7_write 67 = .ok (.aload_n 0, 1) := by decide +kernel
theorem dX7_write_68 : decode cX7_write 68 = .ok (.dup, 1) := by decide +kernel
theorem dX7_write_69 : decode cX7_write 69 = .ok (.getfield 69, 3) := by decide +kernel
theorem dX7_write_72 : decode cX7_write 72 = .ok (.iload_n 3, 1) := by decide +kernel
theorem dX7_write_73 : decode cX7_write 73 = .ok (.iadd, 1) := by decide +kernel
theorem dX7_write_74 : decode cX7_write 74 = .ok (.putfield 69, 3) := by decide +kernel
theorem dX7_write_77 : decode cX7_write 77 = .ok (.aload_n 0, 1) := by decide +kernel
theorem dX7_write_78 : decode cX7_write 78 = .ok (.getfield 69, 3) := by decide +kernel
theorem dX7_write_81 : decode cX7_write 81 = .ok (.ireturn, 1) := by decide +kernel
theorem dX7_erase_0 : decode cX7_erase 0 = .ok (.aload_n 0, 1) := by decide +kernel
theorem dX7_erase_1 : decode cX7_erase 1 = .ok (.getfield 69, 3) := by decide +kernel
theorem dX7_erase_4 : decode cX7_erase 4 = .ok (.istore_n 1, 1) := by decide +kernel
theorem dX7_erase_5 : decode cX7_erase 5 = .ok (.aload_n 0, 1) := by decide +kernel
theorem dX7_erase_6 : decode cX7_erase 6 = .ok (.iconst 0, 1) := by decide +kernel
theorem dX7_erase_7 : decode cX7_erase 7 = .ok (.putfield 69, 3) := by decide +kernel
theorem dX7_erase_10 : decode cX7_erase 10 = .ok (.iload_n 1, 1) := by decide +kernel
theorem dX7_erase_11 : decode cX7_erase 11 = .ok (.ireturn, 1) := by decide +kernel
theorem dX7_nextToken_0 : decode cX7_nextToken 0 = .ok (.aload_n 0, 1) := by decide +kernel
theorem dX7_nextToken_1 : decode cX7_nextToken 1 = .ok (.getfield 75, 3) := by decide +kernel
theorem dX7_nextToken_4 : decode cX7_nextToken 4 = .ok (.aload_n 0, 1) := by decide +kernel
theorem dX7_nextToken_5 : decode cX7_nextToken 5 = .ok (.getfield 69, 3) := by decide +kernel
theorem dX7_nextToken_8 : decode cX7_nextToken 8 = .ok (.if_icmp .ge 30, 3) := by decide +kernel
theorem dX7_nextToken_11 : decode cX7_nextToken 11 = .ok (.aload_n 0, 1) := by decide +kernel
theorem dX7_nextToken_12 : decode cX7_nextToken 12 = .ok (.getfield 23, 3) := by decide +kernel
theorem dX7_nextToken_15 : decode cX7_nextToken 15 = .ok (.aload_n 0, 1) := by decide +kernel
theorem dX7_nextToken_16 : decode cX7_nextToken 16 = .ok (.getfield 75, 3) := by decide +kernel
theorem dX7_nextToken_19 : decode cX7_nextToken 19 = .ok (.iaload, 1) := by decide +kernel
theorem dX7_nextToken_20 : decode cX7_nextToken 20 = .ok (.bipush 32, 2) := by decide +kernel
theorem dX7_nextToken_22 : decode cX7_nextToken 22 = .ok (.if_icmp .ne 16, 3) := by decide +kernel
theorem dX7_nextToken_25 : decode cX7_nextToken 25 = .ok (.aload_n 0, 1) := by decide +kernel
theorem dX7_nextToken_26 : decode cX7_nextToken 26 = .ok (.dup, 1) := by decide +kernel
theorem dX7_nextToken_27 : decode cX7_nextToken 27 = .ok (.getfield 75, 3) := by decide +kernel
theorem dX7_nextToken_30 : decode cX7_nextToken 30 = .ok (.iconst 1, 1) := by decide +kernel
theorem dX7_nextToken_31 : decode cX7_nextToken 31 = .ok (.iadd, 1) := by decide +kernel
theorem dX7_nextToken_32 : decode cX7_nextToken 32 = .ok (.putfield 75, 3) := by decide +kernel
theorem dX7_nextToken_35 : decode cX7_nextToken 35 = .ok (.goto (-35), 3) := by decide +kernel
theorem dX7_nextToken_38 : decode cX7_nextToken 38 = .ok (.aload_n 0, 1) := by decide +kernel
theorem dX7_nextToken_39 : decode cX7_nextToken 39 = .ok (.aload_n 0, 1) := by decide +kernel
theorem dX7_nextToken_40 : decode cX7_nextToken 40 = .ok (.getfield 75, 3) := by decide +kernel
theorem dX7_nextToken_43 : decode cX7_nextToken 43 = .ok (.putfield 78, 3) := by decide +kernel
theorem dX7_nextToken_46 : decode cX7_nextToken 46 = .ok (.aload_n 0, 1) := by decide +kernel
theorem dX7_nextToken_47 : decode cX7_nextToken 47 = .ok (.iconst 0, 1) := by decide +kernel
theorem dX7_nextToken_48 : decode cX7_nextToken 48 = .ok (.putfield 81, 3) := by decide +kernel
theorem dX7_nextToken_51 : decode cX7_nextToken 51 = .ok (.aload_n 0, 1) := by decide +kernel
theorem dX7_nextToken_52 : decode cX7_nextToken 52 = .ok (.iconst 0, 1) := by decide +kernel
theorem dX7_nextToken_53 : decode cX7_nextToken 53 = .ok (.putfield 84, 3) := by decide +kernel
theorem dX7_nextToken_56 : decode cX7_nextToken 56 = .ok (.aload_n 0, 1) := by decide +kernel
theorem dX7_nextToken_57 : decode cX7_nextToken 57 = .ok (.getfield 75, 3) := by decide +kernel
theorem dX7_nextToken_60 : decode cX7_nextToken 60 = .ok (.aload_n 0, 1) := by decide +kernel
theorem dX7_nextToken_61 : decode cX7_nextToken 61 = .ok (.getfield 69, 3) := by decide +kernel
theorem dX7_nextToken_64 : decode cX7_nextToken 64 = .ok (.if_icmp .ne 13, 3) := by decide +kernel
theorem dX7_nextToken_67 : decode cX7_nextToken 67 = .ok (.aload_n 0, 1) := by decide +kernel
theorem dX7_nextToken_68 : decode cX7_nextToken 68 = .ok (.ldc2_w 87, 3) := by decide +kernel
theorem dX7_nextToken_71 : decode cX7_nextToken 71 = .ok (.putfield 89, 3) := by decide +kernel
theorem dX7_nextToken_74 : decode cX7_nextToken 74 = .ok (.goto 320, 3) := by decide +kernel
theorem dX7_nextToken_77 : decode cX7_nextToken 77 = .ok (.aload_n 0, 1) := by decide +kernel
theorem dX7_nextToken_78 : decode cX7_nextToken 78 = .ok (.getfield 23, 3) := by decide +kernel
theorem dX7_nextToken_81 : decode cX7_nextToken 81 = .ok (.aload_n 0, 1) := by decide +kernel
theorem dX7_nextToken_82 : decode cX7_nextToken 82 = .ok (.getfield 75, 3) := by decide +kernel
theorem dX7_nextToken_85 : decode cX7_nextToken 85 = .ok (.iaload, 1) := by decide +kernel
theorem dX7_nextToken_86 : decode cX7_nextToken 86 = .ok (.bipush 97, 2) := by decide +kernel
theorem dX7_nextToken_88 : decode cX7_nextToken 88 = .ok (.bipush 122, 2) := by decide +kernel
theorem dX7_nextToken_90 : decode cX7_nextToken 90 = .ok (.invokestatic 65, 3) := by decide +kernel
theorem dX7_nextToken_93 : decode cX7_nextToken 93 = .ok (.ifCond .eq 129, 3) := by decide +kernel
theorem dX7_nextToken_96 : decode cX7_nextToken 96 = .ok (.aload_n 0, 1) := by decide +kernel
theorem dX7_nextToken_97 : decode cX7_nextToken 97 = .ok (.lconst 0, 1) := by decide +kernel
theorem dX7_nextToken_98 : decode cX7_nextToken 98 = .ok (.putfield 89, 3) := by decide +kernel
theorem dX7_nextToken_101 : decode cX7_nextToken 101 = .ok (.aload_n 0, 1) := by decide +kernel
theorem dX7_nextToken_102 : decode cX7_nextToken 102 = .ok (.getfield 75, 3) := by decide +kernel
theorem dX7_nextToken_105 : decode cX7_nextToken 105 = .ok (.aload_n 0, 1) := by decide +kernel
theorem dX7_nextToken_106 : decode cX7_nextToken 106 = .ok (.getfield 69, 3) := by decide +kernel
theorem dX7_nextToken_109 : decode cX7_nextToken 109 = .ok (.if_icmp .ge 82, 3) := by decide +kernel
theorem dX7_nextToken_112 : decode cX7_nextToken 112 = .ok (.aload_n 0, 1) := by decide +kernel
theorem dX7_nextToken_113 : decode cX7_nextToken 113 = .ok (.getfield 23, 3) := by decide +kernel
theorem dX7_nextToken_116 : decode cX7_nextToken 116 = .ok (.aload_n 0, 1) := by decide +kernel
theorem dX7_nextToken_117 : decode cX7_nextToken 117 = .ok (.getfield 75, 3) := by decide +kernel
theorem dX7_nextToken_120 : decode cX7_nextToken 120 = .ok (.iaload, 1) := by decide +kernel
theorem dX7_nextToken_121 : decode cX7_nextToken 121 = .ok (.bipush 97, 2) := by decide +kernel
theorem dX7_nextToken_123 : decode cX7_nextToken 123 = .ok (.bipush 122, 2) := by decide +kernel
theorem dX7_nextToken_125 : decode cX7_nextToken 125 = .ok (.invokestatic 65, 3) := by decide +kernel
theorem dX7_nextToken_128 : decode cX7_nextToken 128 = .ok (.ifCond .eq 63, 3) := by decide +kernel
theorem dX7_nextToken_131 : decode cX7_nextToken 131 = .ok (.aload_n 0, 1) := by decide +kernel
theorem dX7_nextToken_132 : decode cX7_nextToken 132 = .ok (.aload_n 0, 1) := by decide +kernel
theorem dX7_nextToken_133 : decode cX7_nextToken 133 = .ok (.getfield 75, 3) := by decide +kernel
theorem dX7_nextToken_136 : decode cX7_nextToken 136 = .ok (.aload_n 0, 1) := by decide +kernel
theorem dX7_nextToken_137 : decode cX7_nextToken 137 = .ok (.getfield 78, 3) := by decide +kernel
theorem dX7_nextToken_140 : decode cX7_nextToken 140 = .ok (.isub, 1) := by decide +kernel
theorem dX7_nextToken_141 : decode cX7_nextToken 141 = .ok (.bipush 9, 2) := by decide +kernel
theorem dX7_nextToken_143 : decode cX7_nextToken 143 = .ok (.if_icmp .ge 29, 3) := by decide +kernel
theorem dX7_nextToken_146 : decode cX7_nextToken 146 = .ok (.ldc2_w 93, 3) := by decide +kernel
theorem dX7_nextToken_149 : decode cX7_nextToken 149 = .ok (.aload_n 0, 1) := by decide +kernel
theorem dX7_nextToken_150 : decode cX7_nextToken 150 = .ok (.getfield 89, 3) := by decide +kernel
theorem dX7_nextToken_153 : decode cX7_nextToken 153 = .ok (.lmul, 1) := by decide +kernel
theorem dX7_nextToken_154 : decode cX7_nextToken 154 = .ok (.aload_n 0, 1) := by decide +kernel
theorem dX7_nextToken_155 : decode cX7_nextToken 155 = .ok (.getfield 23, 3) := by decide +kernel
theorem dX7_nextToken_158 : decode cX7_nextToken 158 = .ok (.aload_n 0, 1) := by decide +kernel
theorem dX7_nextToken_159 : decode cX7_nextToken 159 = .ok (.getfield 75, 3) := by decide +kernel
theorem dX7_nextToken_162 : decode cX7_nextToken 162 = .ok (.iaload, 1) := by decide +kernel
theorem dX7_nextToken_163 : decode cX7_nextToken 163 = .ok (.i2l, 1) := by decide +kernel
theorem dX7_nextToken_164 : decode cX7_nextToken 164 = .ok (.ladd, 1) := by decide +kernel
theorem dX7_nextToken_165 : decode cX7_nextToken 165 = .ok (.ldc2_w 95, 3) := by decide +kernel
theorem dX7_nextToken_168 : decode cX7_nextToken 168 = .ok (.lsub, 1) := by decide +kernel
theorem dX7_nextToken_169 : decode cX7_nextToken 169 = .ok (.goto 6, 3) := by decide +kernel
theorem dX7_nextToken_172 : decode cX7_nextToken 172 = .ok (.ldc2_w 97, 3) := by decide +kernel
theorem dX7_nextToken_175 : decode cX7_nextToken 175 = .ok (.putfield 89, 3) := by decide +kernel
theorem dX7_nextToken_178 : decode cX7_nextToken 178 = .ok (.aload_n 0, 1) := by decide +kernel
theorem dX7_nextToken_179 : decode cX7_nextToken 179 = .ok (.dup, 1) := by decide +kernel
theorem dX7_nextToken_180 : decode cX7_nextToken 180 = .ok (.getfield 75, 3) := by decide +kernel
theorem dX7_nextToken_183 : decode cX7_nextToken 183 = .ok (.iconst 1, 1) := by decide +kernel
theorem dX7_nextToken_184 : decode cX7_nextToken 184 = .ok (.iadd, 1) := by decide +kernel
theorem dX7_nextToken_185 : decode cX7_nextToken 185 = .ok (.putfield 75, 3) := by decide +kernel
theorem dX7_nextToken_188 : decode cX7_nextToken 188 = .ok (.goto (-87), 3) := by decide +kernel
theorem dX7_nextToken_191 : decode cX7_nextToken 191 = .ok (.aload_n 0, 1) := by decide +kernel
theorem dX7_nextToken_192 : decode cX7_nextToken 192 = .ok (.aload_n 0, 1) := by decide +kernel
theorem dX7_nextToken_193 : decode cX7_nextToken 193 = .ok (.getfield 75, 3) := by decide +kernel
theorem dX7_nextToken_196 : decode cX7_nextToken 196 = .ok (.aload_n 0, 1) := by decide +kernel
theorem dX7_nextToken_197 : decode cX7_nextToken 197 = .ok (.getfield 78, 3) := by decide +kernel
theorem dX7_nextToken_200 : decode cX7_nextToken 200 = .ok (.isub, 1) := by decide +kernel
theorem dX7_nextToken_201 : decode cX7_nextToken 201 = .ok (.bipush 9, 2) := by decide +kernel
end
section
theorem dX7_nextToken_203 : decode cX7_nextToken 203 = .ok (.if_icmp .le 9, 3) := by decide +kernel
theorem dX7_nextToken_206 : decode cX7_nextToken 206 = .ok (.ldc2_w 97, 3) := by decide +kernel
theorem dX7_nextToken_209 : decode cX7_nextToken 209 = .ok (.goto 7, 3) := by decide +kernel
theorem dX7_nextToken_212 : decode cX7_nextToken 212 = .ok (.aload_n 0, 1) := by decide +kernel
theorem dX7_nextToken_213 : decode cX7_nextToken 213 = .ok (.getfield 89, 3) := by decide +kernel
theorem dX7_nextToken_216 : decode cX7_nextToken 216 = .ok (.putfield 89, 3) := by decide +kernel
theorem dX7_nextToken_219 : decode cX7_nextToken 219 = .ok (.goto 175, 3) := by decide +kernel
theorem dX7_nextToken_222 : decode cX7_nextToken 222 = .ok (.aload_n 0, 1) := by decide +kernel
theorem dX7_nextToken_223 : decode cX7_nextToken 223 = .ok (.getfield 23, 3) := by decide +kernel
theorem dX7_nextToken_226 : decode cX7_nextToken 226 = .ok (.aload_n 0, 1) := by decide +kernel
theorem dX7_nextToken_227 : decode cX7_nextToken 227 = .ok (.getfield 75, 3) := by decide +kernel
theorem dX7_nextToken_230 : decode cX7_nextToken 230 = .ok (.iaload, 1) := by decide +kernel
theorem dX7_nextToken_231 : decode cX7_nextToken 231 = .ok (.bipush 48, 2) := by decide +kernel
theorem dX7_nextToken_233 : decode cX7_nextToken 233 = .ok (.bipush 57, 2) := by decide +kernel
theorem dX7_nextToken_235 : decode cX7_nextToken 235 = .ok (.invokestatic 65, 3) := by decide +kernel
theorem dX7_nextToken_238 : decode cX7_nextToken 238 = .ok (.ifCond .eq 119, 3) := by decide +kernel
theorem dX7_nextToken_241 : decode cX7_nextToken 241 = .ok (.aload_n 0, 1) := by decide +kernel
theorem dX7_nextToken_242 : decode cX7_nextToken 242 = .ok (.getfield 75, 3) := by decide +kernel
theorem dX7_nextToken_245 : decode cX7_nextToken 245 = .ok (.aload_n 0, 1) := by decide +kernel
theorem dX7_nextToken_246 : decode cX7_nextToken 246 = .ok (.getfield 69, 3) := by decide +kernel
theorem dX7_nextToken_249 : decode cX7_nextToken 249 = .ok (.if_icmp .ge 84, 3) := by decide +kernel
theorem dX7_nextToken_252 : decode cX7_nextToken 252 = .ok (.aload_n 0, 1) := by decide +kernel
theorem dX7_nextToken_253 : decode cX7_nextToken 253 = .ok (.getfield 23, 3) := by decide +kernel
theorem dX7_nextToken_256 : decode cX7_nextToken 256 = .ok (.aload_n 0, 1) := by decide +kernel
theorem dX7_nextToken_257 : decode cX7_nextToken 257 = .ok (.getfield 75, 3) := by decide +kernel
theorem dX7_nextToken_260 : decode cX7_nextToken 260 = .ok (.iaload, 1) := by decide +kernel
theorem dX7_nextToken_261 : decode cX7_nextToken 261 = .ok (.bipush 48, 2) := by decide +kernel
theorem dX7_nextToken_263 : decode cX7_nextToken 263 = .ok (.bipush 57, 2) := by decide +kernel
theorem dX7_nextToken_265 : decode cX7_nextToken 265 = .ok (.invokestatic 65, 3) := by decide +kernel
theorem dX7_nextToken_268 : decode cX7_nextToken 268 = .ok (.ifCond .eq 65, 3) := by decide +kernel
theorem dX7_nextToken_271 : decode cX7_nextToken 271 = .ok (.aload_n 0, 1) := by decide +kernel
theorem dX7_nextToken_272 : decode cX7_nextToken 272 = .ok (.aload_n 0, 1) := by decide +kernel
theorem dX7_nextToken_273 : decode cX7_nextToken 273 = .ok (.getfield 81, 3) := by decide +kernel
theorem dX7_nextToken_276 : decode cX7_nextToken 276 = .ok (.iconst 2, 1) := by decide +kernel
theorem dX7_nextToken_277 : decode cX7_nextToken 277 = .ok (.if_icmp .ge 26, 3) := by decide +kernel
theorem dX7_nextToken_280 : decode cX7_nextToken 280 = .ok (.bipush 10, 2) := by decide +kernel
theorem dX7_nextToken_282 : decode cX7_nextToken 282 = .ok (.aload_n 0, 1) := by decide +kernel
theorem dX7_nextToken_283 : decode cX7_nextToken 283 = .ok (.getfield 84, 3) := by decide +kernel
theorem dX7_nextToken_286 : decode cX7_nextToken 286 = .ok (.imul, 1) := by decide +kernel
theorem dX7_nextToken_287 : decode cX7_nextToken 287 = .ok (.aload_n 0, 1) := by decide +kernel
theorem dX7_nextToken_288 : decode cX7_nextToken 288 = .ok (.getfield 23, 3) := by decide +kernel
theorem dX7_nextToken_291 : decode cX7_nextToken 291 = .ok (.aload_n 0, 1) := by decide +kernel
theorem dX7_nextToken_292 : decode cX7_nextToken 292 = .ok (.getfield 75, 3) := by decide +kernel
theorem dX7_nextToken_295 : decode cX7_nextToken 295 = .ok (.iaload, 1) := by decide +kernel
theorem dX7_nextToken_296 : decode cX7_nextToken 296 = .ok (.iadd, 1) := by decide +kernel
theorem dX7_nextToken_297 : decode cX7_nextToken 297 = .ok (.bipush 48, 2) := by decide +kernel
theorem dX7_nextToken_299 : decode cX7_nextToken 299 = .ok (.isub, 1) := by decide +kernel
theorem dX7_nextToken_300 : decode cX7_nextToken 300 = .ok (.goto 7, 3) := by decide +kernel
theorem dX7_nextToken_303 : decode cX7_nextToken 303 = .ok (.aload_n 0, 1) := by decide +kernel
theorem dX7_nextToken_304 : decode cX7_nextToken 304 = .ok (.getfield 84, 3) := by decide +kernel
theorem dX7_nextToken_307 : decode cX7_nextToken 307 = .ok (.putfield 84, 3) := by decide +kernel
theorem dX7_nextToken_310 : decode cX7_nextToken 310 = .ok (.aload_n 0, 1) := by decide +kernel
theorem dX7_nextToken_311 : decode cX7_nextToken 311 = .ok (.dup, 1) := by decide +kernel
theorem dX7_nextToken_312 : decode cX7_nextToken 312 = .ok (.getfield 81, 3) := by decide +kernel
theorem dX7_nextToken_315 : decode cX7_nextToken 315 = .ok (.iconst 1, 1) := by decide +kernel
theorem dX7_nextToken_316 : decode cX7_nextToken 316 = .ok (.iadd, 1) := by decide +kernel
theorem dX7_nextToken_317 : decode cX7_nextToken 317 = .ok (.putfield 81, 3) := by decide +kernel
theorem dX7_nextToken_320 : decode cX7_nextToken 320 = .ok (.aload_n 0, 1) := by decide +kernel
theorem dX7_nextToken_321 : decode cX7_nextToken 321 = .ok (.dup, 1) := by decide +kernel
theorem dX7_nextToken_322 : decode cX7_nextToken 322 = .ok (.getfield 75, 3) := by decide +kernel
theorem dX7_nextToken_325 : decode cX7_nextToken 325 = .ok (.iconst 1, 1) := by decide +kernel
theorem dX7_nextToken_326 : decode cX7_nextToken 326 = .ok (.iadd, 1) := by decide +kernel
theorem dX7_nextToken_327 : decode cX7_nextToken 327 = .ok (.putfield 75, 3) := by decide +kernel
theorem dX7_nextToken_330 : decode cX7_nextToken 330 = .ok (.goto (-89), 3) := by decide +kernel
theorem dX7_nextToken_333 : decode cX7_nextToken 333 = .ok (.aload_n 0, 1) := by decide +kernel
theorem dX7_nextToken_334 : decode cX7_nextToken 334 = .ok (.aload_n 0, 1) := by decide +kernel
theorem dX7_nextToken_335 : decode cX7_nextToken 335 = .ok (.getfield 81, 3) := by decide +kernel
theorem dX7_nextToken_338 : decode cX7_nextToken 338 = .ok (.iconst 2, 1) := by decide +kernel
theorem dX7_nextToken_339 : decode cX7_nextToken 339 = .ok (.if_icmp .le 9, 3) := by decide +kernel
theorem dX7_nextToken_342 : decode cX7_nextToken 342 = .ok (.ldc2_w 97, 3) := by decide +kernel
theorem dX7_nextToken_345 : decode cX7_nextToken 345 = .ok (.goto 6, 3) := by decide +kernel
theorem dX7_nextToken_348 : decode cX7_nextToken 348 = .ok (.ldc2_w 99, 3) := by decide +kernel
theorem dX7_nextToken_351 : decode cX7_nextToken 351 = .ok (.putfield 89, 3) := by decide +kernel
theorem dX7_nextToken_354 : decode cX7_nextToken 354 = .ok (.goto 40, 3) := by decide +kernel
theorem dX7_nextToken_357 : decode cX7_nextToken 357 = .ok (.aload_n 0, 1) := by decide +kernel
theorem dX7_nextToken_358 : decode cX7_nextToken 358 = .ok (.aload_n 0, 1) := by decide +kernel
theorem dX7_nextToken_359 : decode cX7_nextToken 359 = .ok (.getfield 23, 3) := by decide +kernel
theorem dX7_nextToken_362 : decode cX7_nextToken 362 = .ok (.aload_n 0, 1) := by decide +kernel
theorem dX7_nextToken_363 : decode cX7_nextToken 363 = .ok (.getfield 75, 3) := by decide +kernel
theorem dX7_nextToken_366 : decode cX7_nextToken 366 = .ok (.iaload, 1) := by decide +kernel
theorem dX7_nextToken_367 : decode cX7_nextToken 367 = .ok (.bipush 59, 2) := by decide +kernel
theorem dX7_nextToken_369 : decode cX7_nextToken 369 = .ok (.if_icmp .ne 9, 3) := by decide +kernel
theorem dX7_nextToken_372 : decode cX7_nextToken 372 = .ok (.ldc2_w 101, 3) := by decide +kernel
theorem dX7_nextToken_375 : decode cX7_nextToken 375 = .ok (.goto 6, 3) := by decide +kernel
theorem dX7_nextToken_378 : decode cX7_nextToken 378 = .ok (.ldc2_w 97, 3) := by decide +kernel
theorem dX7_nextToken_381 : decode cX7_nextToken 381 = .ok (.putfield 89, 3) := by decide +kernel
theorem dX7_nextToken_384 : decode cX7_nextToken 384 = .ok (.aload_n 0, 1) := by decide +kernel
theorem dX7_nextToken_385 : decode cX7_nextToken 385 = .ok (.dup, 1) := by decide +kernel
theorem dX7_nextToken_386 : decode cX7_nextToken 386 = .ok (.getfield 75, 3) := by decide +kernel
theorem dX7_nextToken_389 : decode cX7_nextToken 389 = .ok (.iconst 1, 1) := by decide +kernel
theorem dX7_nextToken_390 : decode cX7_nextToken 390 = .ok (.iadd, 1) := by decide +kernel
theorem dX7_nextToken_391 : decode cX7_nextToken 391 = .ok (.putfield 75, 3) := by decide +kernel
theorem dX7_nextToken_394 : decode cX7_nextToken 394 = .ok (.return_, 1) := by decide +kernel
theorem dX7_fails_0 : decode cX7_fails 0 = .ok (.aload_n 0, 1) := by decide +kernel
theorem dX7_fails_1 : decode cX7_fails 1 = .ok (.aload_n 0, 1) := by decide +kernel
theorem dX7_fails_2 : decode cX7_fails 2 = .ok (.getfield 78, 3) := by decide +kernel
theorem dX7_fails_5 : decode cX7_fails 5 = .ok (.putfield 103, 3) := by decide +kernel
theorem dX7_fails_8 : decode cX7_fails 8 = .ok (.iconst 0, 1) := by decide +kernel
theorem dX7_fails_9 : decode cX7_fails 9 = .ok (.ireturn, 1) := by decide +kernel
theorem dX7_isNumber_0 : decode cX7_isNumber 0 = .ok (.aload_n 0, 1) := by decide +kernel
theorem dX7_isNumber_1 : decode cX7_isNumber 1 = .ok (.invokevirtual 106, 3) := by decide +kernel
theorem dX7_isNumber_4 : decode cX7_isNumber 4 = .ok (.aload_n 0, 1) := by decide +kernel
theorem dX7_isNumber_5 : decode cX7_isNumber 5 = .ok (.getfield 89, 3) := by decide +kernel
theorem dX7_isNumber_8 : decode cX7_isNumber 8 = .ok (.ldc2_w 99, 3) := by decide +kernel
theorem dX7_isNumber_11 : decode cX7_isNumber 11 = .ok (.lcmp, 1) := by decide +kernel
theorem dX7_isNumber_12 : decode cX7_isNumber 12 = .ok (.ifCond .ne 11, 3) := by decide +kernel
theorem dX7_isNumber_15 : decode cX7_isNumber 15 = .ok (.aload_n 0, 1) := by decide +kernel
theorem dX7_isNumber_16 : decode cX7_isNumber 16 = .ok (.getfield 84, 3) := by decide +kernel
theorem dX7_isNumber_19 : decode cX7_isNumber 19 = .ok (.iload_n 2, 1) := by decide +kernel
theorem dX7_isNumber_20 : decode cX7_isNumber 20 = .ok (.if_icmp .le 8, 3) := by decide +kernel
theorem dX7_isNumber_23 : decode cX7_isNumber 23 = .ok (.aload_n 0, 1) := by decide +kernel
theorem dX7_isNumber_24 : decode cX7_isNumber 24 = .ok (.invokevirtual 109, 3) := by decide +kernel
theorem dX7_isNumber_27 : decode cX7_isNumber 27 = .ok (.ireturn, 1) := by decide +kernel
theorem dX7_isNumber_28 : decode cX7_isNumber 28 = .ok (.aload_n 0, 1) := by decide +kernel
theorem dX7_isNumber_29 : decode cX7_isNumber 29 = .ok (.getfield 26, 3) := by decide +kernel
theorem dX7_isNumber_32 : decode cX7_isNumber 32 = .ok (.iload_n 1, 1) := by decide +kernel
theorem dX7_isNumber_33 : decode cX7_isNumber 33 = .ok (.aload_n 0, 1) := by decide +kernel
theorem dX7_isNumber_34 : decode cX7_isNumber 34 = .ok (.getfield 84, 3) := by decide +kernel
theorem dX7_isNumber_37 : decode cX7_isNumber 37 = .ok (.iastore, 1) := by decide +kernel
theorem dX7_isNumber_38 : decode cX7_isNumber 38 = .ok (.iconst 1, 1) := by decide +kernel
theorem dX7_isNumber_39 : decode cX7_isNumber 39 = .ok (.ireturn, 1) := by decide +kernel
theorem dX7_arePair_0 : decode cX7_arePair 0 = .ok (.aload_n 0, 1) := by decide +kernel
theorem dX7_arePair_1 : decode cX7_arePair 1 = .ok (.iload_n 1, 1) := by decide +kernel
theorem dX7_arePair_2 : decode cX7_arePair 2 = .ok (.iconst 1, 1) := by decide +kernel
theorem dX7_arePair_3 : decode cX7_arePair 3 = .ok (.iadd, 1) := by decide +kernel
theorem dX7_arePair_4 : decode cX7_arePair 4 = .ok (.bipush 11, 2) := by decide +kernel
theorem dX7_arePair_6 : decode cX7_arePair 6 = .ok (.invokevirtual 113, 3) := by decide +kernel
theorem dX7_arePair_9 : decode cX7_arePair 9 = .ok (.ifCond .eq 15, 3) := by decide +kernel
theorem dX7_arePair_12 : decode cX7_arePair 12 = .ok (.aload_n 0, 1) := by decide +kernel
theorem dX7_arePair_13 : decode cX7_arePair 13 = .ok (.iload_n 1, 1) := by decide +kernel
theorem dX7_arePair_14 : decode cX7_arePair 14 = .ok (.iconst 2, 1) := by decide +kernel
theorem dX7_arePair_15 : decode cX7_arePair 15 = .ok (.iadd, 1) := by decide +kernel
theorem dX7_arePair_16 : decode cX7_arePair 16 = .ok (.bipush 11, 2) := by decide +kernel
theorem dX7_arePair_18 : decode cX7_arePair 18 = .ok (.invokevirtual 113, 3) := by decide +kernel
theorem dX7_arePair_21 : decode cX7_arePair 21 = .ok (.ifCond .ne 5, 3) := by decide +kernel
theorem dX7_arePair_24 : decode cX7_arePair 24 = .ok (.iconst 0, 1) := by decide +kernel
theorem dX7_arePair_25 : decode cX7_arePair 25 = .ok (.ireturn, 1) := by decide +kernel
theorem dX7_arePair_26 : decode cX7_arePair 26 = .ok (.aload_n 0, 1) := by decide +kernel
theorem dX7_arePair_27 : decode cX7_arePair 27 = .ok (.aload_n 0, 1) := by decide +kernel
theorem dX7_arePair_28 : decode cX7_arePair 28 = .ok (.getfield 26, 3) := by decide +kernel
theorem dX7_arePair_31 : decode cX7_arePair 31 = .ok (.iload_n 1, 1) := by decide +kernel
theorem dX7_arePair_32 : decode cX7_arePair 32 = .ok (.iconst 1, 1) := by decide +kernel
theorem dX7_arePair_33 : decode cX7_arePair 33 = .ok (.iadd, 1) := by decide +kernel
theorem dX7_arePair_34 : decode cX7_arePair 34 = .ok (.iaload, 1) := by decide +kernel
theorem dX7_arePair_35 : decode cX7_arePair 35 = .ok (.aload_n 0, 1) := by decide +kernel
theorem dX7_arePair_36 : decode cX7_arePair 36 = .ok (.getfield 26, 3) := by decide +kernel
theorem dX7_arePair_39 : decode cX7_arePair 39 = .ok (.iload_n 1, 1) := by decide +kernel
theorem dX7_arePair_40 : decode cX7_arePair 40 = .ok (.iconst 2, 1) := by decide +kernel
theorem dX7_arePair_41 : decode cX7_arePair 41 = .ok (.iadd, 1) := by decide +kernel
theorem dX7_arePair_42 : decode cX7_arePair 42 = .ok (.iaload, 1) := by decide +kernel
theorem dX7_arePair_43 : decode cX7_arePair 43 = .ok (.invokevirtual 117, 3) := by decide +kernel
theorem dX7_arePair_46 : decode cX7_arePair 46 = .ok (.iconst (-1), 1) := by decide +kernel
theorem dX7_arePair_47 : decode cX7_arePair 47 = .ok (.if_icmp .ne 10, 3) := by decide +kernel
theorem dX7_arePair_50 : decode cX7_arePair 50 = .ok (.aload_n 0, 1) := by decide +kernel
theorem dX7_arePair_51 : decode cX7_arePair 51 = .ok (.invokevirtual 109, 3) := by decide +kernel
theorem dX7_arePair_54 : decode cX7_arePair 54 = .ok (.ifCond .eq 7, 3) := by decide +kernel
theorem dX7_arePair_57 : decode cX7_arePair 57 = .ok (.iconst 1, 1) := by decide +kernel
theorem dX7_arePair_58 : decode cX7_arePair 58 = .ok (.goto 4, 3) := by decide +kernel
theorem dX7_arePair_61 : decode cX7_arePair 61 = .ok (.iconst 0, 1) := by decide +kernel
theorem dX7_arePair_62 : decode cX7_arePair 62 = .ok (.ireturn, 1) := by decide +kernel
theorem dX7_isLine_0 : decode cX7_isLine 0 = .ok (.aload_n 0, 1) := by decide +kernel
theorem dX7_isLine_1 : decode cX7_isLine 1 = .ok (.invokevirtual 106, 3) := by decide +kernel
theorem dX7_isLine_4 : decode cX7_isLine 4 = .ok (.aload_n 0, 1) := by decide +kernel
theorem dX7_isLine_5 : decode cX7_isLine 5 = .ok (.getfield 89, 3) := by decide +kernel
theorem dX7_isLine_8 : decode cX7_isLine 8 = .ok (.ldc2_w 121, 3) := by decide +kernel
theorem dX7_isLine_11 : decode cX7_isLine 11 = .ok (.lcmp, 1) := by decide +kernel
theorem dX7_isLine_12 : decode cX7_isLine 12 = .ok (.ifCond .ne 7, 3) := by decide +kernel
theorem dX7_isLine_15 : decode cX7_isLine 15 = .ok (.iconst 0, 1) := by decide +kernel
theorem dX7_isLine_16 : decode cX7_isLine 16 = .ok (.goto 49, 3) := by decide +kernel
theorem dX7_isLine_19 : decode cX7_isLine 19 = .ok (.aload_n 0, 1) := by decide +kernel
theorem dX7_isLine_20 : decode cX7_isLine 20 = .ok (.getfield 89, 3) := by decide +kernel
theorem dX7_isLine_23 : decode cX7_isLine 23 = .ok (.ldc2_w 123, 3) := by decide +kernel
theorem dX7_isLine_26 : decode cX7_isLine 26 = .ok (.lcmp, 1) := by decide +kernel
theorem dX7_isLine_27 : decode cX7_isLine 27 = .ok (.ifCond .ne 7, 3) := by decide +kernel
theorem dX7_isLine_30 : decode cX7_isLine 30 = .ok (.iconst 1, 1) := by decide +kernel
theorem dX7_isLine_31 : decode cX7_isLine 31 = .ok (.goto 34, 3) := by decide +kernel
theorem dX7_isLine_34 : decode cX7_isLine 34 = .ok (.aload_n 0, 1) := by decide +kernel
theorem dX7_isLine_35 : decode cX7_isLine 35 = .ok (.getfield 89, 3) := by decide +kernel
theorem dX7_isLine_38 : decode cX7_isLine 38 = .ok (.ldc2_w 125, 3) := by decide +kernel
theorem dX7_isLine_41 : decode cX7_isLine 41 = .ok (.lcmp, 1) := by decide +kernel
theorem dX7_isLine_42 : decode cX7_isLine 42 = .ok (.ifCond .ne 7, 3) := by decide +kernel
theorem dX7_isLine_45 : decode cX7_isLine 45 = .ok (.iconst 2, 1) := by decide +kernel
theorem dX7_isLine_46 : decode cX7_isLine 46 = .ok (.goto 19, 3) := by decide +kernel
theorem dX7_isLine_49 : decode cX7_isLine 49 = .ok (.aload_n 0, 1) := by decide +kernel
theorem dX7_isLine_50 : decode cX7_isLine 50 = .ok (.getfield 89, 3) := by decide +kernel
theorem dX7_isLine_53 : decode cX7_isLine 53 = .ok (.ldc2_w 127, 3) := by decide +kernel
theorem dX7_isLine_56 : decode cX7_isLine 56 = .ok (.lcmp, 1) := by decide +kernel
theorem dX7_isLine_57 : decode cX7_isLine 57 = .ok (.ifCond .ne 7, 3) := by decide +kernel
theorem dX7_isLine_60 : decode cX7_isLine 60 = .ok (.iconst 3, 1) := by decide +kernel
theorem dX7_isLine_61 : decode cX7_isLine 61 = .ok (.goto 4, 3) := by decide +kernel
theorem dX7_isLine_64 : decode cX7_isLine 64 = .ok (.iconst (-1), 1) := by decide +kernel
theorem dX7_isLine_65 : decode cX7_isLine 65 = .ok (.istore_n 2, 1) := by decide +kernel
theorem dX7_isLine_66 : decode cX7_isLine 66 = .ok (.aload_n 0, 1) := by decide +kernel
theorem dX7_isLine_67 : decode cX7_isLine 67 = .ok (.getfield 89, 3) := by decide +kernel
theorem dX7_isLine_70 : decode cX7_isLine 70 = .ok (.ldc2_w 129, 3) := by decide +kernel
theorem dX7_isLine_73 : decode cX7_isLine 73 = .ok (.lcmp, 1) := by decide +kernel
theorem dX7_isLine_74 : decode cX7_isLine 74 = .ok (.ifCond .ne 7, 3) := by decide +kernel
theorem dX7_isLine_77 : decode cX7_isLine 77 = .ok (.iconst 4, 1) := by decide +kernel
theorem dX7_isLine_78 : decode cX7_isLine 78 = .ok (.goto 51, 3) := by decide +kernel
theorem dX7_isLine_81 : decode cX7_isLine 81 = .ok (.aload_n 0, 1) := by decide +kernel
theorem dX7_isLine_82 : decode cX7_isLine 82 = .ok (.getfield 89, 3) := by decide +kernel
theorem dX7_isLine_85 : decode cX7_isLine 85 = .ok (.ldc2_w 131, 3) := by decide +kernel
theorem dX7_isLine_88 : decode cX7_isLine 88 = .ok (.lcmp, 1) := by decide +kernel
theorem dX7_isLine_89 : decode cX7_isLine 89 = .ok (.ifCond .ne 7, 3) := by decide +kernel
theorem dX7_isLine_92 : decode cX7_isLine 92 = .ok (.iconst 5, 1) := by decide +kernel
theorem dX7_isLine_93 : decode cX7_isLine 93 = .ok (.goto 36, 3) := by decide +kernel
theorem dX7_isLine_96 : decode cX7_isLine 96 = .ok (.aload_n 0, 1) := by decide +kernel
theorem dX7_isLine_97 : decode cX7_isLine 97 = .ok (.getfield 89, 3) := by decide +kernel
theorem dX7_isLine_100 : decode cX7_isLine 100 = .ok (.ldc2_w 133, 3) := by decide +kernel
theorem dX7_isLine_103 : decode cX7_isLine 103 = .ok (.lcmp, 1) := by decide +kernel
theorem dX7_isLine_104 : decode cX7_isLine 104 = .ok (.ifCond .ne 8, 3) := by decide +kernel
theorem dX7_isLine_107 : decode cX7_isLine 107 = .ok (.bipush 6, 2) := by decide +kernel
theorem dX7_isLine_109 : decode cX7_isLine 109 = .ok (.goto 20, 3) := by decide +kernel
theorem dX7_isLine_112 : decode cX7_isLine 112 = .ok (.aload_n 0, 1) := by decide +kernel
theorem dX7_isLine_113 : decode cX7_isLine 113 = .ok (.getfield 89, 3) := by decide +kernel
theorem dX7_isLine_116 : decode cX7_isLine 116 = .ok (.ldc2_w 135, 3) := by decide +kernel
theorem dX7_isLine_119 : decode cX7_isLine 119 = .ok (.lcmp, 1) := by decide +kernel
theorem dX7_isLine_120 : decode cX7_isLine 120 = .ok (.ifCond .ne 8, 3) := by decide +kernel
theorem dX7_isLine_123 : decode cX7_isLine 123 = .ok (.bipush 7, 2) := by decide +kernel
theorem dX7_isLine_125 : decode cX7_isLine 125 = .ok (.goto 4, 3) := by decide +kernel
theorem dX7_isLine_128 : decode cX7_isLine 128 = .ok (.iconst (-1), 1) := by decide +kernel
theorem dX7_isLine_129 : decode cX7_isLine 129 = .ok (.istore_n 3, 1) := by decide +kernel
theorem dX7_isLine_130 : decode cX7_isLine 130 = .ok (.aload_n 0, 1) := by decide +kernel
theorem dX7_isLine_131 : decode cX7_isLine 131 = .ok (.getfield 26, 3) := by decide +kernel
theorem dX7_isLine_134 : decode cX7_isLine 134 = .ok (.iload_n 1, 1) := by decide +kernel
theorem dX7_isLine_135 : decode cX7_isLine 135 = .ok (.iload_n 2, 1) := by decide +kernel
theorem dX7_isLine_136 : decode cX7_isLine 136 = .ok (.iconst (-1), 1) := by decide +kernel
theorem dX7_isLine_137 : decode cX7_isLine 137 = .ok (.if_icmp .ne 7, 3) := by decide +kernel
theorem dX7_isLine_140 : decode cX7_isLine 140 = .ok (.iload_n 3, 1) := by decide +kernel
theorem dX7_isLine_141 : decode cX7_isLine 141 = .ok (.goto 4, 3) := by decide +kernel
theorem dX7_isLine_144 : decode cX7_isLine 144 = .ok (.iload_n 2, 1) := by decide +kernel
theorem dX7_isLine_145 : decode cX7_isLine 145 = .ok (.iastore, 1) := by decide +kernel
theorem dX7_isLine_146 : decode cX7_isLine 146 = .ok (.aload_n 0, 1) := by decide +kernel
theorem dX7_isLine_147 : decode cX7_isLine 147 = .ok (.getfield 26, 3) := by decide +kernel
theorem dX7_isLine_150 : decode cX7_isLine 150 = .ok (.iload_n 1, 1) := by decide +kernel
theorem dX7_isLine_151 : decode cX7_isLine 151 = .ok (.iaload, 1) := by decide +kernel
theorem dX7_isLine_152 : decode cX7_isLine 152 = .ok (.tableswitch 95 0 7 #[48, 48, 48, 48, 58, 60, 60, 66], 48) := by decide +kernel
theorem dX7_isLine_200 : decode cX7_isLine 200 = .ok (.aload_n 0, 1) := by decide +kernel
theorem dX7_isLine_201 : decode cX7_isLine 201 = .ok (.iload_n 1, 1) := by decide +kernel
theorem dX7_isLine_202 : decode cX7_isLine 202 = .ok (.iconst 1, 1) := by decide +kernel
theorem dX7_isLine_203 : decode cX7_isLine 203 = .ok (.iadd, 1) := by decide +kernel
theorem dX7_isLine_204 : decode cX7_isLine 204 = .ok (.bipush 11, 2) := by decide +kernel
theorem dX7_isLine_206 : decode cX7_isLine 206 = .ok (.invokevirtual 113, 3) := by decide +kernel
theorem dX7_isLine_209 : decode cX7_isLine 209 = .ok (.ireturn, 1) := by decide +kernel
theorem dX7_isLine_210 : decode cX7_isLine 210 = .ok (.iconst 1, 1) := by decide +kernel
theorem dX7_isLine_211 : decode cX7_isLine 211 = .ok (.ireturn, 1) := by decide +kernel
theorem dX7_isLine_212 : decode cX7_isLine 212 = .ok (.aload_n 0, 1) := by decide +kernel
theorem dX7_isLine_213 : decode cX7_isLine 213 = .ok (.iload_n 1, 1) := by decide +kernel
theorem dX7_isLine_214 : decode cX7_isLine 214 = .ok (.invokevirtual 137, 3) := by decide +kernel
theorem dX7_isLine_217 : decode cX7_isLine 217 = .ok (.ireturn, 1) := by decide +kernel
theorem dX7_isLine_218 : decode cX7_isLine 218 = .ok (.aload_n 0, 1) := by decide +kernel
theorem dX7_isLine_219 : decode cX7_isLine 219 = .ok (.iload_n 1, 1) := by decide +kernel
theorem dX7_isLine_220 : decode cX7_isLine 220 = .ok (.iconst 1, 1) := by decide +kernel
theorem dX7_isLine_221 : decode cX7_isLine 221 = .ok (.iadd, 1) := by decide +kernel
theorem dX7_isLine_222 : decode cX7_isLine 222 = .ok (.bipush 11, 2) := by decide +kernel
theorem dX7_isLine_224 : decode cX7_isLine 224 = .ok (.invokevirtual 113, 3) := by decide +kernel
theorem dX7_isLine_227 : decode cX7_isLine 227 = .ok (.ifCond .eq 18, 3) := by decide +kernel
theorem dX7_isLine_230 : decode cX7_isLine 230 = .ok (.aload_n 0, 1) := by decide +kernel
theorem dX7_isLine_231 : decode cX7_isLine 231 = .ok (.iload_n 1, 1) := by decide +kernel
theorem dX7_isLine_232 : decode cX7_isLine 232 = .ok (.iconst 2, 1) := by decide +kernel
theorem dX7_isLine_233 : decode cX7_isLine 233 = .ok (.iadd, 1) := by decide +kernel
theorem dX7_isLine_234 : decode cX7_isLine 234 = .ok (.iconst 4, 1) := by decide +kernel
theorem dX7_isLine_235 : decode cX7_isLine 235 = .ok (.invokevirtual 113, 3) := by decide +kernel
theorem dX7_isLine_238 : decode cX7_isLine 238 = .ok (.ifCond .eq 7, 3) := by decide +kernel
theorem dX7_isLine_241 : decode cX7_isLine 241 = .ok (.iconst 1, 1) := by decide +kernel
theorem dX7_isLine_242 : decode cX7_isLine 242 = .ok (.goto 4, 3) := by decide +kernel
theorem dX7_isLine_245 : decode cX7_isLine 245 = .ok (.iconst 0, 1) := by decide +kernel
theorem dX7_isLine_246 : decode cX7_isLine 246 = .ok (.ireturn, 1) := by decide +kernel
theorem dX7_isLine_247 : decode cX7_isLine 247 = .ok (.aload_n 0, 1) := by decide +kernel
theorem dX7_isLine_248 : decode cX7_isLine 248 = .ok (.invokevirtual 109, 3) := by decide +kernel
theorem dX7_isLine_251 : decode cX7_isLine 251 = .ok (.ireturn, 1) := by decide +kernel
theorem dX7_isRead_0 : decode cX7_isRead 0 = .ok (.aload_n 0, 1) := by decide +kernel
theorem dX7_isRead_1 : decode cX7_isRead 1 = .ok (.iconst 0, 1) := by decide +kernel
theorem dX7_isRead_2 : decode cX7_isRead 2 = .ok (.putfield 75, 3) := by decide +kernel
theorem dX7_isRead_5 : decode cX7_isRead 5 = .ok (.aload_n 0, 1) := by decide +kernel
theorem dX7_isRead_6 : decode cX7_isRead 6 = .ok (.iconst 0, 1) := by decide +kernel
theorem dX7_isRead_7 : decode cX7_isRead 7 = .ok (.putfield 141, 3) := by decide +kernel
theorem dX7_isRead_10 : decode cX7_isRead 10 = .ok (.iconst 1, 1) := by decide +kernel
theorem dX7_isRead_11 : decode cX7_isRead 11 = .ok (.istore_n 1, 1) := by decide +kernel
theorem dX7_isRead_12 : decode cX7_isRead 12 = .ok (.iload_n 1, 1) := by decide +kernel
theorem dX7_isRead_13 : decode cX7_isRead 13 = .ok (.ifCond .eq 61, 3) := by decide +kernel
theorem dX7_isRead_16 : decode cX7_isRead 16 = .ok (.aload_n 0, 1) := by decide +kernel
theorem dX7_isRead_17 : decode cX7_isRead 17 = .ok (.iconst 3, 1) := by decide +kernel
theorem dX7_isRead_18 : decode cX7_isRead 18 = .ok (.aload_n 0, 1) := by decide +kernel
theorem dX7_isRead_19 : decode cX7_isRead 19 = .ok (.getfield 141, 3) := by decide +kernel
theorem dX7_isRead_22 : decode cX7_isRead 22 = .ok (.imul, 1) := by decide +kernel
theorem dX7_isRead_23 : decode cX7_isRead 23 = .ok (.invokevirtual 144, 3) := by decide +kernel
theorem dX7_isRead_26 : decode cX7_isRead 26 = .ok (.ifCond .ne 5, 3) := by decide +kernel
theorem dX7_isRead_29 : decode cX7_isRead 29 = .ok (.iconst 0, 1) := by decide +kernel
theorem dX7_isRead_30 : decode cX7_isRead 30 = .ok (.ireturn, 1) := by decide +kernel
theorem dX7_isRead_31 : decode cX7_isRead 31 = .ok (.aload_n 0, 1) := by decide +kernel
theorem dX7_isRead_32 : decode cX7_isRead 32 = .ok (.dup, 1) := by decide +kernel
theorem dX7_isRead_33 : decode cX7_isRead 33 = .ok (.getfield 141, 3) := by decide +kernel
theorem dX7_isRead_36 : decode cX7_isRead 36 = .ok (.iconst 1, 1) := by decide +kernel
theorem dX7_isRead_37 : decode cX7_isRead 37 = .ok (.iadd, 1) := by decide +kernel
theorem dX7_isRead_38 : decode cX7_isRead 38 = .ok (.putfield 141, 3) := by decide +kernel
theorem dX7_isRead_41 : decode cX7_isRead 41 = .ok (.aload_n 0, 1) := by decide +kernel
theorem dX7_isRead_42 : decode cX7_isRead 42 = .ok (.invokevirtual 106, 3) := by decide +kernel
theorem dX7_isRead_45 : decode cX7_isRead 45 = .ok (.aload_n 0, 1) := by decide +kernel
theorem dX7_isRead_46 : decode cX7_isRead 46 = .ok (.getfield 89, 3) := by decide +kernel
theorem dX7_isRead_49 : decode cX7_isRead 49 = .ok (.ldc2_w 101, 3) := by decide +kernel
theorem dX7_isRead_52 : decode cX7_isRead 52 = .ok (.lcmp, 1) := by decide +kernel
theorem dX7_isRead_53 : decode cX7_isRead 53 = .ok (.ifCond .ne 16, 3) := by decide +kernel
theorem dX7_isRead_56 : decode cX7_isRead 56 = .ok (.aload_n 0, 1) := by decide +kernel
theorem dX7_isRead_57 : decode cX7_isRead 57 = .ok (.getfield 141, 3) := by decide +kernel
theorem dX7_isRead_60 : decode cX7_isRead 60 = .ok (.bipush 12, 2) := by decide +kernel
theorem dX7_isRead_62 : decode cX7_isRead 62 = .ok (.if_icmp .ge 7, 3) := by decide +kernel
theorem dX7_isRead_65 : decode cX7_isRead 65 = .ok (.iconst 1, 1) := by decide +kernel
theorem dX7_isRead_66 : decode cX7_isRead 66 = .ok (.goto 4, 3) := by decide +kernel
theorem dX7_isRead_69 : decode cX7_isRead 69 = .ok (.iconst 0, 1) := by decide +kernel
theorem dX7_isRead_70 : decode cX7_isRead 70 = .ok (.istore_n 1, 1) := by decide +kernel
theorem dX7_isRead_71 : decode cX7_isRead 71 = .ok (.goto (-59), 3) := by decide +kernel
theorem dX7_isRead_74 : decode cX7_isRead 74 = .ok (.aload_n 0, 1) := by decide +kernel
theorem dX7_isRead_75 : decode cX7_isRead 75 = .ok (.getfield 89, 3) := by decide +kernel
theorem dX7_isRead_78 : decode cX7_isRead 78 = .ok (.ldc2_w 87, 3) := by decide +kernel
theorem dX7_isRead_81 : decode cX7_isRead 81 = .ok (.lcmp, 1) := by decide +kernel
theorem dX7_isRead_82 : decode cX7_isRead 82 = .ok (.ifCond .eq 10, 3) := by decide +kernel
theorem dX7_isRead_85 : decode cX7_isRead 85 = .ok (.aload_n 0, 1) := by decide +kernel
theorem dX7_isRead_86 : decode cX7_isRead 86 = .ok (.invokevirtual 109, 3) := by decide +kernel
theorem dX7_isRead_89 : decode cX7_isRead 89 = .ok (.ifCond .eq 7, 3) := by decide +kernel
theorem dX7_isRead_92 : decode cX7_isRead 92 = .ok (.iconst 1, 1) := by decide +kernel
theorem dX7_isRead_93 : decode cX7_isRead 93 = .ok (.goto 4, 3) := by decide +kernel
theorem dX7_isRead_96 : decode cX7_isRead 96 = .ok (.iconst 0, 1) := by decide +kernel
theorem dX7_isRead_97 : decode cX7_isRead 97 = .ok (.ireturn, 1) := by decide +kernel
theorem dX7_fault_0 : decode cX7_fault 0 = .ok (.aload_n 0, 1) := by decide +kernel
theorem dX7_fault_1 : decode cX7_fault 1 = .ok (.invokevirtual 147, 3) := by decide +kernel
theorem dX7_fault_4 : decode cX7_fault 4 = .ok (.ifCond .eq 7, 3) := by decide +kernel
theorem dX7_fault_7 : decode cX7_fault 7 = .ok (.iconst (-1), 1) := by decide +kernel
theorem dX7_fault_8 : decode cX7_fault 8 = .ok (.goto 7, 3) := by decide +kernel
theorem dX7_fault_11 : decode cX7_fault 11 = .ok (.aload_n 0, 1) := by decide +kernel
theorem dX7_fault_12 : decode cX7_fault 12 = .ok (.getfield 103, 3) := by decide +kernel
theorem dX7_fault_15 : decode cX7_fault 15 = .ok (.ireturn, 1) := by decide +kernel
theorem dX7_doLine_0 : decode cX7_doLine 0 = .ok (.aload_n 0, 1) := by decide +kernel
theorem dX7_doLine_1 : decode cX7_doLine 1 = .ok (.getfield 26, 3) := by decide +kernel
theorem dX7_doLine_4 : decode cX7_doLine 4 = .ok (.iload_n 1, 1) := by decide +kernel
theorem dX7_doLine_5 : decode cX7_doLine 5 = .ok (.iconst 1, 1) := by decide +kernel
theorem dX7_doLine_6 : decode cX7_doLine 6 = .ok (.iadd, 1) := by decide +kernel
theorem dX7_doLine_7 : decode cX7_doLine 7 = .ok (.iaload, 1) := by decide +kernel
theorem dX7_doLine_8 : decode cX7_doLine 8 = .ok (.istore_n 2, 1) := by decide +kernel
theorem dX7_doLine_9 : decode cX7_doLine 9 = .ok (.aload_n 0, 1) := by decide +kernel
theorem dX7_doLine_10 : decode cX7_doLine 10 = .ok (.getfield 26, 3) := by decide +kernel
theorem dX7_doLine_13 : decode cX7_doLine 13 = .ok (.iload_n 1, 1) := by decide +kernel
theorem dX7_doLine_14 : decode cX7_doLine 14 = .ok (.iconst 2, 1) := by decide +kernel
theorem dX7_doLine_15 : decode cX7_doLine 15 = .ok (.iadd, 1) := by decide +kernel
theorem dX7_doLine_16 : decode cX7_doLine 16 = .ok (.iaload, 1) := by decide +kernel
theorem dX7_doLine_17 : decode cX7_doLine 17 = .ok (.istore_n 3, 1) := by decide +kernel
theorem dX7_doLine_18 : decode cX7_doLine 18 = .ok (.aload_n 0, 1) := by decide +kernel
theorem dX7_doLine_19 : decode cX7_doLine 19 = .ok (.getfield 26, 3) := by decide +kernel
theorem dX7_doLine_22 : decode cX7_doLine 22 = .ok (.iload_n 1, 1) := by decide +kernel
theorem dX7_doLine_23 : decode cX7_doLine 23 = .ok (.iaload, 1) := by decide +kernel
theorem dX7_doLine_24 : decode cX7_doLine 24 = .ok (.tableswitch 169 4 7 #[32, 93, 93, 156], 32) := by decide +kernel
theorem dX7_doLine_56 : decode cX7_doLine 56 = .ok (.iconst 0, 1) := by decide +kernel
theorem dX7_doLine_57 : decode cX7_doLine 57 = .ok (.istore 4, 2) := by decide +kernel
theorem dX7_doLine_59 : decode cX7_doLine 59 = .ok (.iload 4, 2) := by decide +kernel
theorem dX7_doLine_61 : decode cX7_doLine 61 = .ok (.bipush 60, 2) := by decide +kernel
theorem dX7_doLine_63 : decode cX7_doLine 63 = .ok (.if_icmp .ge 17, 3) := by decide +kernel
theorem dX7_doLine_66 : decode cX7_doLine 66 = .ok (.aload_n 0, 1) := by decide +kernel
theorem dX7_doLine_67 : decode cX7_doLine 67 = .ok (.getfield 13, 3) := by decide +kernel
theorem dX7_doLine_70 : decode cX7_doLine 70 = .ok (.iload 4, 2) := by decide +kernel
theorem dX7_doLine_72 : decode cX7_doLine 72 = .ok (.iconst 0, 1) := by decide +kernel
theorem dX7_doLine_73 : decode cX7_doLine 73 = .ok (.bastore, 1) := by decide +kernel
theorem dX7_doLine_74 : decode cX7_doLine 74 = .ok (.iinc 4 1, 3) := by decide +kernel
theorem dX7_doLine_77 : decode cX7_doLine 77 = .ok (.goto (-18), 3) := by decide +kernel
theorem dX7_doLine_80 : decode cX7_doLine 80 = .ok (.iconst 0, 1) := by decide +kernel
theorem dX7_doLine_81 : decode cX7_doLine 81 = .ok (.istore 4, 2) := by decide +kernel
theorem dX7_doLine_83 : decode cX7_doLine 83 = .ok (.iload 4, 2) := by decide +kernel
theorem dX7_doLine_85 : decode cX7_doLine 85 = .ok (.bipush 12, 2) := by decide +kernel
theorem dX7_doLine_87 : decode cX7_doLine 87 = .ok (.if_icmp .ge 17, 3) := by decide +kernel
theorem dX7_doLine_90 : decode cX7_doLine 90 = .ok (.aload_n 0, 1) := by decide +kernel
theorem dX7_doLine_91 : decode cX7_doLine 91 = .ok (.getfield 17, 3) := by decide +kernel
theorem dX7_doLine_94 : decode cX7_doLine 94 = .ok (.iload 4, 2) := by decide +kernel
theorem dX7_doLine_96 : decode cX7_doLine 96 = .ok (.iconst 0, 1) := by decide +kernel
theorem dX7_doLine_97 : decode cX7_doLine 97 = .ok (.iastore, 1) := by decide +kernel
theorem dX7_doLine_98 : decode cX7_doLine 98 = .ok (.iinc 4 1, 3) := by decide +kernel
theorem dX7_doLine_101 : decode cX7_doLine 101 = .ok (.goto (-18), 3) := by decide +kernel
theorem dX7_doLine_104 : decode cX7_doLine 104 = .ok (.aload_n 0, 1) := by decide +kernel
theorem dX7_doLine_105 : decode cX7_doLine 105 = .ok (.iconst 0, 1) := by decide +kernel
theorem dX7_doLine_106 : decode cX7_doLine 106 = .ok (.putfield 150, 3) := by decide +kernel
theorem dX7_doLine_109 : decode cX7_doLine 109 = .ok (.aload_n 0, 1) := by decide +kernel
theorem dX7_doLine_110 : decode cX7_doLine 110 = .ok (.iconst 0, 1) := by decide +kernel
theorem dX7_doLine_111 : decode cX7_doLine 111 = .ok (.putfield 153, 3) := by decide +kernel
theorem dX7_doLine_114 : decode cX7_doLine 114 = .ok (.goto 91, 3) := by decide +kernel
theorem dX7_doLine_117 : decode cX7_doLine 117 = .ok (.aload_n 0, 1) := by decide +kernel
theorem dX7_doLine_118 : decode cX7_doLine 118 = .ok (.getfield 13, 3) := by decide +kernel
theorem dX7_doLine_121 : decode cX7_doLine 121 = .ok (.iconst 5, 1) := by decide +kernel
theorem dX7_doLine_122 : decode cX7_doLine 122 = .ok (.iload_n 2, 1) := by decide +kernel
theorem dX7_doLine_123 : decode cX7_doLine 123 = .ok (.imul, 1) := by decide +kernel
theorem dX7_doLine_124 : decode cX7_doLine 124 = .ok (.aload_n 0, 1) := by decide +kernel
theorem dX7_doLine_125 : decode cX7_doLine 125 = .ok (.iload_n 2, 1) := by decide +kernel
theorem dX7_doLine_126 : decode cX7_doLine 126 = .ok (.iload_n 3, 1) := by decide +kernel
theorem dX7_doLine_127 : decode cX7_doLine 127 = .ok (.invokevirtual 117, 3) := by decide +kernel
theorem dX7_doLine_130 : decode cX7_doLine 130 = .ok (.iadd, 1) := by decide +kernel
theorem dX7_doLine_131 : decode cX7_doLine 131 = .ok (.aload_n 0, 1) := by decide +kernel
theorem dX7_doLine_132 : decode cX7_doLine 132 = .ok (.getfield 26, 3) := by decide +kernel
theorem dX7_doLine_135 : decode cX7_doLine 135 = .ok (.iload_n 1, 1) := by decide +kernel
theorem dX7_doLine_136 : decode cX7_doLine 136 = .ok (.iaload, 1) := by decide +kernel
theorem dX7_doLine_137 : decode cX7_doLine 137 = .ok (.iconst 5, 1) := by decide +kernel
theorem dX7_doLine_138 : decode cX7_doLine 138 = .ok (.if_icmp .ne 7, 3) := by decide +kernel
theorem dX7_doLine_141 : decode cX7_doLine 141 = .ok (.iconst 1, 1) := by decide +kernel
theorem dX7_doLine_142 : decode cX7_doLine 142 = .ok (.goto 4, 3) := by decide +kernel
theorem dX7_doLine_145 : decode cX7_doLine 145 = .ok (.iconst 0, 1) := by decide +kernel
theorem dX7_doLine_146 : decode cX7_doLine 146 = .ok (.bastore, 1) := by decide +kernel
theorem dX7_doLine_147 : decode cX7_doLine 147 = .ok (.aload_n 0, 1) := by decide +kernel
theorem dX7_doLine_148 : decode cX7_doLine 148 = .ok (.getfield 13, 3) := by decide +kernel
theorem dX7_doLine_151 : decode cX7_doLine 151 = .ok (.iconst 5, 1) := by decide +kernel
theorem dX7_doLine_152 : decode cX7_doLine 152 = .ok (.iload_n 3, 1) := by decide +kernel
theorem dX7_doLine_153 : decode cX7_doLine 153 = .ok (.imul, 1) := by decide +kernel
theorem dX7_doLine_154 : decode cX7_doLine 154 = .ok (.aload_n 0, 1) := by decide +kernel
theorem dX7_doLine_155 : decode cX7_doLine 155 = .ok (.iload_n 3, 1) := by decide +kernel
theorem dX7_doLine_156 : decode cX7_doLine 156 = .ok (.iload_n 2, 1) := by decide +kernel
theorem dX7_doLine_157 : decode cX7_doLine 157 = .ok (.invokevirtual 117, 3) := by decide +kernel
theorem dX7_doLine_160 : decode cX7_doLine 160 = .ok (.iadd, 1) := by decide +kernel
theorem dX7_doLine_161 : decode cX7_doLine 161 = .ok (.aload_n 0, 1) := by decide +kernel
theorem dX7_doLine_162 : decode cX7_doLine 162 = .ok (.getfield 26, 3) := by decide +kernel
theorem dX7_doLine_165 : decode cX7_doLine 165 = .ok (.iload_n 1, 1) := by decide +kernel
theorem dX7_doLine_166 : decode cX7_doLine 166 = .ok (.iaload, 1) := by decide +kernel
theorem dX7_doLine_167 : decode cX7_doLine 167 = .ok (.iconst 5, 1) := by decide +kernel
theorem dX7_doLine_168 : decode cX7_doLine 168 = .ok (.if_icmp .ne 7, 3) := by decide +kernel
theorem dX7_doLine_171 : decode cX7_doLine 171 = .ok (.iconst 1, 1) := by decide +kernel
theorem dX7_doLine_172 : decode cX7_doLine 172 = .ok (.goto 4, 3) := by decide +kernel
theorem dX7_doLine_175 : decode cX7_doLine 175 = .ok (.iconst 0, 1) := by decide +kernel
theorem dX7_doLine_176 : decode cX7_doLine 176 = .ok (.bastore, 1) := by decide +kernel
theorem dX7_doLine_177 : decode cX7_doLine 177 = .ok (.goto 28, 3) := by decide +kernel
theorem dX7_doLine_180 : decode cX7_doLine 180 = .ok (.aload_n 0, 1) := by decide +kernel
theorem dX7_doLine_181 : decode cX7_doLine 181 = .ok (.iload_n 2, 1) := by decide +kernel
theorem dX7_doLine_182 : decode cX7_doLine 182 = .ok (.putfield 150, 3) := by decide +kernel
theorem dX7_doLine_185 : decode cX7_doLine 185 = .ok (.aload_n 0, 1) := by decide +kernel
theorem dX7_doLine_186 : decode cX7_doLine 186 = .ok (.iload_n 3, 1) := by decide +kernel
theorem dX7_doLine_187 : decode cX7_doLine 187 = .ok (.putfield 153, 3) := by decide +kernel
theorem dX7_doLine_190 : decode cX7_doLine 190 = .ok (.goto 15, 3) := by decide +kernel
theorem dX7_doLine_193 : decode cX7_doLine 193 = .ok (.aload_n 0, 1) := by decide +kernel
theorem dX7_doLine_194 : decode cX7_doLine 194 = .ok (.getfield 17, 3) := by decide +kernel
theorem dX7_doLine_197 : decode cX7_doLine 197 = .ok (.iload_n 2, 1) := by decide +kernel
theorem dX7_doLine_198 : decode cX7_doLine 198 = .ok (.aload_n 0, 1) := by decide +kernel
theorem dX7_doLine_199 : decode cX7_doLine 199 = .ok (.getfield 26, 3) := by decide +kernel
theorem dX7_doLine_202 : decode cX7_doLine 202 = .ok (.iload_n 1, 1) := by decide +kernel
theorem dX7_doLine_203 : decode cX7_doLine 203 = .ok (.iaload, 1) := by decide +kernel
theorem dX7_doLine_204 : decode cX7_doLine 204 = .ok (.iastore, 1) := by decide +kernel
theorem dX7_doLine_205 : decode cX7_doLine 205 = .ok (.return_, 1) := by decide +kernel
theorem dX7_town_0 : decode cX7_town 0 = .ok (.aload_n 0, 1) := by decide +kernel
theorem dX7_town_1 : decode cX7_town 1 = .ok (.invokevirtual 147, 3) := by decide +kernel
theorem dX7_town_4 : decode cX7_town 4 = .ok (.ifCond .ne 6, 3) := by decide +kernel
theorem dX7_town_7 : decode cX7_town 7 = .ok (.bipush (-4), 2) := by decide +kernel
theorem dX7_town_9 : decode cX7_town 9 = .ok (.ireturn, 1) := by decide +kernel
theorem dX7_town_10 : decode cX7_town 10 = .ok (.iconst 0, 1) := by decide +kernel
theorem dX7_town_11 : decode cX7_town 11 = .ok (.istore_n 1, 1) := by decide +kernel
theorem dX7_town_12 : decode cX7_town 12 = .ok (.iload_n 1, 1) := by decide +kernel
theorem dX7_town_13 : decode cX7_town 13 = .ok (.aload_n 0, 1) := by decide +kernel
theorem dX7_town_14 : decode cX7_town 14 = .ok (.getfield 141, 3) := by decide +kernel
theorem dX7_town_17 : decode cX7_town 17 = .ok (.if_icmp .ge 16, 3) := by decide +kernel
theorem dX7_town_20 : decode cX7_town 20 = .ok (.aload_n 0, 1) := by decide +kernel
theorem dX7_town_21 : decode cX7_town 21 = .ok (.iconst 3, 1) := by decide +kernel
theorem dX7_town_22 : decode cX7_town 22 = .ok (.iload_n 1, 1) := by decide +kernel
theorem dX7_town_23 : decode cX7_town 23 = .ok (.imul, 1) := by decide +kernel
theorem dX7_town_24 : decode cX7_town 24 = .ok (.invokevirtual 156, 3) := by decide +kernel
theorem dX7_town_27 : decode cX7_town 27 = .ok (.iinc 1 1, 3) := by decide +kernel
theorem dX7_town_30 : decode cX7_town 30 = .ok (.goto (-18), 3) := by decide +kernel
theorem dX7_town_33 : decode cX7_town 33 = .ok (.aload_n 0, 1) := by decide +kernel
theorem dX7_town_34 : decode cX7_town 34 = .ok (.iconst 0, 1) := by decide +kernel
theorem dX7_town_35 : decode cX7_town 35 = .ok (.putfield 69, 3) := by decide +kernel
theorem dX7_town_38 : decode cX7_town 38 = .ok (.iconst 0, 1) := by decide +kernel
theorem dX7_town_39 : decode cX7_town 39 = .ok (.istore_n 1, 1) := by decide +kernel
theorem dX7_town_40 : decode cX7_town 40 = .ok (.iload_n 1, 1) := by decide +kernel
theorem dX7_town_41 : decode cX7_town 41 = .ok (.bipush 12, 2) := by decide +kernel
theorem dX7_town_43 : decode cX7_town 43 = .ok (.if_icmp .ge 21, 3) := by decide +kernel
theorem dX7_town_46 : decode cX7_town 46 = .ok (.aload_n 0, 1) := by decide +kernel
theorem dX7_town_47 : decode cX7_town 47 = .ok (.getfield 20, 3) := by decide +kernel
theorem dX7_town_50 : decode cX7_town 50 = .ok (.iload_n 1, 1) := by decide +kernel
theorem dX7_town_51 : decode cX7_town 51 = .ok (.aload_n 0, 1) := by decide +kernel
theorem dX7_town_52 : decode cX7_town 52 = .ok (.getfield 17, 3) := by decide +kernel
theorem dX7_town_55 : decode cX7_town 55 = .ok (.iload_n 1, 1) := by decide +kernel
theorem dX7_town_56 : decode cX7_town 56 = .ok (.iaload, 1) := by decide +kernel
theorem dX7_town_57 : decode cX7_town 57 = .ok (.iastore, 1) := by decide +kernel
theorem dX7_town_58 : decode cX7_town 58 = .ok (.iinc 1 1, 3) := by decide +kernel
theorem dX7_town_61 : decode cX7_town 61 = .ok (.goto (-21), 3) := by decide +kernel
theorem dX7_town_64 : decode cX7_town 64 = .ok (.aload_n 0, 1) := by decide +kernel
theorem dX7_town_65 : decode cX7_town 65 = .ok (.aload_n 0, 1) := by decide +kernel
theorem dX7_town_66 : decode cX7_town 66 = .ok (.getfield 150, 3) := by decide +kernel
theorem dX7_town_69 : decode cX7_town 69 = .ok (.putfield 160, 3) := by decide +kernel
theorem dX7_town_72 : decode cX7_town 72 = .ok (.aload_n 0, 1) := by decide +kernel
theorem dX7_town_73 : decode cX7_town 73 = .ok (.aload_n 0, 1) := by decide +kernel
theorem dX7_town_74 : decode cX7_town 74 = .ok (.getfield 153, 3) := by decide +kernel
theorem dX7_town_77 : decode cX7_town 77 = .ok (.putfield 163, 3) := by decide +kernel
theorem dX7_town_80 : decode cX7_town 80 = .ok (.aload_n 0, 1) := by decide +kernel
theorem dX7_town_81 : decode cX7_town 81 = .ok (.iconst 0, 1) := by decide +kernel
theorem dX7_town_82 : decode cX7_town 82 = .ok (.putfield 166, 3) := by decide +kernel
theorem dX7_town_85 : decode cX7_town 85 = .ok (.aload_n 0, 1) := by decide +kernel
theorem dX7_town_86 : decode cX7_town 86 = .ok (.getfield 32, 3) := by decide +kernel
theorem dX7_town_89 : decode cX7_town 89 = .ok (.iconst 0, 1) := by decide +kernel
theorem dX7_town_90 : decode cX7_town 90 = .ok (.iconst 0, 1) := by decide +kernel
theorem dX7_town_91 : decode cX7_town 91 = .ok (.bastore, 1) := by decide +kernel
theorem dX7_town_92 : decode cX7_town 92 = .ok (.aload_n 0, 1) := by decide +kernel
theorem dX7_town_93 : decode cX7_town 93 = .ok (.getfield 32, 3) := by decide +kernel
theorem dX7_town_96 : decode cX7_town 96 = .ok (.iconst 1, 1) := by decide +kernel
theorem dX7_town_97 : decode cX7_town 97 = .ok (.iconst 0, 1) := by decide +kernel
theorem dX7_town_98 : decode cX7_town 98 = .ok (.bastore, 1) := by decide +kernel
theorem dX7_town_99 : decode cX7_town 99 = .ok (.aload_n 0, 1) := by decide +kernel
theorem dX7_town_100 : decode cX7_town 100 = .ok (.getfield 141, 3) := by decide +kernel
theorem dX7_town_103 : decode cX7_town 103 = .ok (.ireturn, 1) := by decide +kernel
theorem dX7_beside_0 : decode cX7_beside 0 = .ok (.iload_n 1, 1) := by decide +kernel
theorem dX7_beside_1 : decode cX7_beside 1 = .ok (.invokestatic 169, 3) := by decide +kernel
theorem dX7_beside_4 : decode cX7_beside 4 = .ok (.ifCond .eq 23, 3) := by decide +kernel
theorem dX7_beside_7 : decode cX7_beside 7 = .ok (.iload_n 2, 1) := by decide +kernel
theorem dX7_beside_8 : decode cX7_beside 8 = .ok (.invokestatic 172, 3) := by decide +kernel
theorem dX7_beside_11 : decode cX7_beside 11 = .ok (.ifCond .eq 16, 3) := by decide +kernel
theorem dX7_beside_14 : decode cX7_beside 14 = .ok (.aload_n 0, 1) := by decide +kernel
theorem dX7_beside_15 : decode cX7_beside 15 = .ok (.getfield 7, 3) := by decide +kernel
theorem dX7_beside_18 : decode cX7_beside 18 = .ok (.iconst 5, 1) := by decide +kernel
theorem dX7_beside_19 : decode cX7_beside 19 = .ok (.iload_n 1, 1) := by decide +kernel
theorem dX7_beside_20 : decode cX7_beside 20 = .ok (.imul, 1) := by decide +kernel
theorem dX7_beside_21 : decode cX7_beside 21 = .ok (.iload_n 2, 1) := by decide +kernel
theorem dX7_beside_22 : decode cX7_beside 22 = .ok (.iadd, 1) := by decide +kernel
theorem dX7_beside_23 : decode cX7_beside 23 = .ok (.iaload, 1) := by decide +kernel
theorem dX7_beside_24 : decode cX7_beside 24 = .ok (.goto 5, 3) := by decide +kernel
theorem dX7_beside_27 : decode cX7_beside 27 = .ok (.bipush (-2), 2) := by decide +kernel
theorem dX7_beside_29 : decode cX7_beside 29 = .ok (.ireturn, 1) := by decide +kernel
theorem dX7_side_0 : decode cX7_side 0 = .ok (.iload_n 1, 1) := by decide +kernel
theorem dX7_side_1 : decode cX7_side 1 = .ok (.invokestatic 169, 3) := by decide +kernel
theorem dX7_side_4 : decode cX7_side 4 = .ok (.ifCond .eq 19, 3) := by decide +kernel
theorem dX7_side_7 : decode cX7_side 7 = .ok (.iload_n 2, 1) := by decide +kernel
theorem dX7_side_8 : decode cX7_side 8 = .ok (.invokestatic 169, 3) := by decide +kernel
theorem dX7_side_11 : decode cX7_side 11 = .ok (.ifCond .eq 12, 3) := by decide +kernel
theorem dX7_side_14 : decode cX7_side 14 = .ok (.aload_n 0, 1) := by decide +kernel
theorem dX7_side_15 : decode cX7_side 15 = .ok (.iload_n 1, 1) := by decide +kernel
theorem dX7_side_16 : decode cX7_side 16 = .ok (.iload_n 2, 1) := by decide +kernel
theorem dX7_side_17 : decode cX7_side 17 = .ok (.invokevirtual 117, 3) := by decide +kernel
theorem dX7_side_20 : decode cX7_side 20 = .ok (.goto 5, 3) := by decide +kernel
theorem dX7_side_23 : decode cX7_side 23 = .ok (.bipush (-2), 2) := by decide +kernel
theorem dX7_side_25 : decode cX7_side 25 = .ok (.ireturn, 1) := by decide +kernel
theorem dX7_farOf_0 : decode cX7_farOf 0 = .ok (.iconst 1, 1) := by decide +kernel
theorem dX7_farOf_1 : decode cX7_farOf 1 = .ok (.iload_n 1, 1) := by decide +kernel
theorem dX7_farOf_2 : decode cX7_farOf 2 = .ok (.ishl, 1) := by decide +kernel
theorem dX7_farOf_3 : decode cX7_farOf 3 = .ok (.istore_n 3, 1) := by decide +kernel
theorem dX7_farOf_4 : decode cX7_farOf 4 = .ok (.iconst 0, 1) := by decide +kernel
theorem dX7_farOf_5 : decode cX7_farOf 5 = .ok (.istore 4, 2) := by decide +kernel
theorem dX7_farOf_7 : decode cX7_farOf 7 = .ok (.iload_n 3, 1) := by decide +kernel
theorem dX7_farOf_8 : decode cX7_farOf 8 = .ok (.iload_n 2, 1) := by decide +kernel
theorem dX7_farOf_9 : decode cX7_farOf 9 = .ok (.invokestatic 175, 3) := by decide +kernel
theorem dX7_farOf_12 : decode cX7_farOf 12 = .ok (.ifCond .ne 60, 3) := by decide +kernel
theorem dX7_farOf_15 : decode cX7_farOf 15 = .ok (.iload_n 3, 1) := by decide +kernel
theorem dX7_farOf_16 : decode cX7_farOf 16 = .ok (.istore 5, 2) := by decide +kernel
theorem dX7_farOf_18 : decode cX7_farOf 18 = .ok (.iconst 0, 1) := by decide +kernel
theorem dX7_farOf_19 : decode cX7_farOf 19 = .ok (.istore 6, 2) := by decide +kernel
theorem dX7_farOf_21 : decode cX7_farOf 21 = .ok (.iload 6, 2) := by decide +kernel
theorem dX7_farOf_23 : decode cX7_farOf 23 = .ok (.bipush 60, 2) := by decide +kernel
theorem dX7_farOf_25 : decode cX7_farOf 25 = .ok (.if_icmp .ge 38, 3) := by decide +kernel
theorem dX7_farOf_28 : decode cX7_farOf 28 = .ok (.iload 5, 2) := by decide +kernel
theorem dX7_farOf_30 : decode cX7_farOf 30 = .ok (.iload_n 3, 1) := by decide +kernel
theorem dX7_farOf_31 : decode cX7_farOf 31 = .ok (.iload 6, 2) := by decide +kernel
theorem dX7_farOf_33 : decode cX7_farOf 33 = .ok (.iconst 5, 1) := by decide +kernel
theorem dX7_farOf_34 : decode cX7_farOf 34 = .ok (.idiv, 1) := by decide +kernel
theorem dX7_farOf_35 : decode cX7_farOf 35 = .ok (.invokestatic 175, 3) := by decide +kernel
theorem dX7_farOf_38 : decode cX7_farOf 38 = .ok (.ifCond .eq 15, 3) := by decide +kernel
theorem dX7_farOf_41 : decode cX7_farOf 41 = .ok (.iconst 1, 1) := by decide +kernel
theorem dX7_farOf_42 : decode cX7_farOf 42 = .ok (.aload_n 0, 1) := by decide +kernel
theorem dX7_farOf_43 : decode cX7_farOf 43 = .ok (.getfield 7, 3) := by decide +kernel
theorem dX7_farOf_46 : decode cX7_farOf 46 = .ok (.iload 6, 2) := by decide +kernel
theorem dX7_farOf_48 : decode cX7_farOf 48 = .ok (.iaload, 1) := by decide +kernel
theorem dX7_farOf_49 : decode cX7_farOf 49 = .ok (.ishl, 1) := by decide +kernel
theorem dX7_farOf_50 : decode cX7_farOf 50 = .ok (.goto 4, 3) := by decide +kernel
theorem dX7_farOf_53 : decode cX7_farOf 53 = .ok (.iconst 0, 1) := by decide +kernel
theorem dX7_farOf_54 : decode cX7_farOf 54 = .ok (.ior, 1) := by decide +kernel
theorem dX7_farOf_55 : decode cX7_farOf 55 = .ok (.istore 5, 2) := by decide +kernel
theorem dX7_farOf_57 : decode cX7_farOf 57 = .ok (.iinc 6 1, 3) := by decide +kernel
theorem dX7_farOf_60 : decode cX7_farOf 60 = .ok (.goto (-39), 3) := by decide +kernel
theorem dX7_farOf_63 : decode cX7_farOf 63 = .ok (.iload 5, 2) := by decide +kernel
theorem dX7_farOf_65 : decode cX7_farOf 65 = .ok (.istore_n 3, 1) := by decide +kernel
theorem dX7_farOf_66 : decode cX7_farOf 66 = .ok (.iinc 4 1, 3) := by decide +kernel
theorem dX7_farOf_69 : decode cX7_farOf 69 = .ok (.goto (-62), 3) := by decide +kernel
theorem dX7_farOf_72 : decode cX7_farOf 72 = .ok (.iload 4, 2) := by decide +kernel
theorem dX7_farOf_74 : decode cX7_farOf 74 = .ok (.ireturn, 1) := by decide +kernel
theorem dX7_far_0 : decode cX7_far 0 = .ok (.iload_n 1, 1) := by decide +kernel
theorem dX7_far_1 : decode cX7_far 1 = .ok (.invokestatic 169, 3) := by decide +kernel
theorem dX7_far_4 : decode cX7_far 4 = .ok (.ifCond .eq 19, 3) := by decide +kernel
theorem dX7_far_7 : decode cX7_far 7 = .ok (.iload_n 2, 1) := by decide +kernel
theorem dX7_far_8 : decode cX7_far 8 = .ok (.invokestatic 169, 3) := by decide +kernel
theorem dX7_far_11 : decode cX7_far 11 = .ok (.ifCond .eq 12, 3) := by decide +kernel
theorem dX7_far_14 : decode cX7_far 14 = .ok (.aload_n 0, 1) := by decide +kernel
theorem dX7_far_15 : decode cX7_far 15 = .ok (.iload_n 1, 1) := by decide +kernel
theorem dX7_far_16 : decode cX7_far 16 = .ok (.iload_n 2, 1) := by decide +kernel
theorem dX7_far_17 : decode cX7_far 17 = .ok (.invokevirtual 178, 3) := by decide +kernel
theorem dX7_far_20 : decode cX7_far 20 = .ok (.goto 5, 3) := by decide +kernel
theorem dX7_far_23 : decode cX7_far 23 = .ok (.bipush (-2), 2) := by decide +kernel
theorem dX7_far_25 : decode cX7_far 25 = .ok (.ireturn, 1) := by decide +kernel
theorem dX7_other_0 : decode cX7_other 0 = .ok (.iload_n 1, 1) := by decide +kernel
theorem dX7_other_1 : decode cX7_other 1 = .ok (.invokestatic 169, 3) := by decide +kernel
theorem dX7_other_4 : decode cX7_other 4 = .ok (.ifCond .ne 6, 3) := by decide +kernel
theorem dX7_other_7 : decode cX7_other 7 = .ok (.bipush (-2), 2) := by decide +kernel
theorem dX7_other_9 : decode cX7_other 9 = .ok (.ireturn, 1) := by decide +kernel
theorem dX7_other_10 : decode cX7_other 10 = .ok (.iconst (-1), 1) := by decide +kernel
theorem dX7_other_11 : decode cX7_other 11 = .ok (.istore_n 2, 1) := by decide +kernel
theorem dX7_other_12 : decode cX7_other 12 = .ok (.iconst 0, 1) := by decide +kernel
theorem dX7_other_13 : decode cX7_other 13 = .ok (.istore_n 3, 1) := by decide +kernel
theorem dX7_other_14 : decode cX7_other 14 = .ok (.iload_n 3, 1) := by decide +kernel
theorem dX7_other_15 : decode cX7_other 15 = .ok (.bipush 12, 2) := by decide +kernel
theorem dX7_other_17 : decode cX7_other 17 = .ok (.if_icmp .ge 25, 3) := by decide +kernel
theorem dX7_other_20 : decode cX7_other 20 = .ok (.aload_n 0, 1) := by decide +kernel
theorem dX7_other_21 : decode cX7_other 21 = .ok (.iload_n 1, 1) := by decide +kernel
theorem dX7_other_22 : decode cX7_other 22 = .ok (.iload_n 3, 1) := by decide +kernel
theorem dX7_other_23 : decode cX7_other 23 = .ok (.invokevirtual 178, 3) := by decide +kernel
theorem dX7_other_26 : decode cX7_other 26 = .ok (.iconst 3, 1) := by decide +kernel
theorem dX7_other_27 : decode cX7_other 27 = .ok (.if_icmp .ne 7, 3) := by decide +kernel
theorem dX7_other_30 : decode cX7_other 30 = .ok (.iload_n 3, 1) := by decide +kernel
theorem dX7_other_31 : decode cX7_other 31 = .ok (.goto 4, 3) := by decide +kernel
theorem dX7_other_34 : decode cX7_other 34 = .ok (.iload_n 2, 1) := by decide +kernel
theorem dX7_other_35 : decode cX7_other 35 = .ok (.istore_n 2, 1) := by decide +kernel
theorem dX7_other_36 : decode cX7_other 36 = .ok (.iinc 3 1, 3) := by decide +kernel
theorem dX7_other_39 : decode cX7_other 39 = .ok (.goto (-25), 3) := by decide +kernel
theorem dX7_other_42 : decode cX7_other 42 = .ok (.iload_n 2, 1) := by decide +kernel
theorem dX7_other_43 : decode cX7_other 43 = .ok (.ireturn, 1) := by decide +kernel
theorem dX7_layTurning_0 : decode cX7_layTurning 0 = .ok (.iconst 0, 1) := by decide +kernel
theorem dX7_layTurning_1 : decode cX7_layTurning 1 = .ok (.istore_n 3, 1) := by decide +kernel
theorem dX7_layTurning_2 : decode cX7_layTurning 2 = .ok (.iload_n 3, 1) := by decide +kernel
theorem dX7_layTurning_3 : decode cX7_layTurning 3 = .ok (.bipush 12, 2) := by decide +kernel
theorem dX7_layTurning_5 : decode cX7_layTurning 5 = .ok (.if_icmp .ge 16, 3) := by decide +kernel
theorem dX7_layTurning_8 : decode cX7_layTurning 8 = .ok (.aload_n 0, 1) := by decide +kernel
theorem dX7_layTurning_9 : decode cX7_layTurning 9 = .ok (.getfield 35, 3) := by decide +kernel
theorem dX7_layTurning_12 : decode cX7_layTurning 12 = .ok (.iload_n 3, 1) := by decide +kernel
theorem dX7_layTurning_13 : decode cX7_layTurning 13 = .ok (.iconst (-1), 1) := by decide +kernel
theorem dX7_layTurning_14 : decode cX7_layTurning 14 = .ok (.iastore, 1) := by decide +kernel
theorem dX7_layTurning_15 : decode cX7_layTurning 15 = .ok (.iinc 3 1, 3) := by decide +kernel
theorem dX7_layTurning_18 : decode cX7_layTurning 18 = .ok (.goto (-16), 3) := by decide +kernel
theorem dX7_layTurning_21 : decode cX7_layTurning 21 = .ok (.aload_n 0, 1) := by decide +kernel
theorem dX7_layTurning_22 : decode cX7_layTurning 22 = .ok (.getfield 35, 3) := by decide +kernel
theorem dX7_layTurning_25 : decode cX7_layTurning 25 = .ok (.iconst 0, 1) := by decide +kernel
theorem dX7_layTurning_26 : decode cX7_layTurning 26 = .ok (.iload_n 1, 1) := by decide +kernel
theorem dX7_layTurning_27 : decode cX7_layTurning 27 = .ok (.iastore, 1) := by decide +kernel
theorem dX7_layTurning_28 : decode cX7_layTurning 28 = .ok (.aload_n 0, 1) := by decide +kernel
theorem dX7_layTurning_29 : decode cX7_layTurning 29 = .ok (.getfield 38, 3) := by decide +kernel
theorem dX7_layTurning_32 : decode cX7_layTurning 32 = .ok (.iconst 0, 1) := by decide +kernel
theorem dX7_layTurning_33 : decode cX7_layTurning 33 = .ok (.iload_n 2, 1) := by decide +kernel
theorem dX7_layTurning_34 : decode cX7_layTurning 34 = .ok (.iastore, 1) := by decide +kernel
theorem dX7_layTurning_35 : decode cX7_layTurning 35 = .ok (.iconst 0, 1) := by decide +kernel
theorem dX7_layTurning_36 : decode cX7_layTurning 36 = .ok (.istore_n 3, 1) := by decide +kernel
theorem dX7_layTurning_37 : decode cX7_layTurning 37 = .ok (.iload_n 3, 1) := by decide +kernel
theorem dX7_layTurning_38 : decode cX7_layTurning 38 = .ok (.iconst 3, 1) := by decide +kernel
theorem dX7_layTurning_39 : decode cX7_layTurning 39 = .ok (.if_icmp .ge 148, 3) := by decide +kernel
theorem dX7_layTurning_42 : decode cX7_layTurning 42 = .ok (.iconst 0, 1) := by decide +kernel
theorem dX7_layTurning_43 : decode cX7_layTurning 43 = .ok (.istore 4, 2) := by decide +kernel
theorem dX7_layTurning_45 : decode cX7_layTurning 45 = .ok (.iload 4, 2) := by decide +kernel
theorem dX7_layTurning_47 : decode cX7_layTurning 47 = .ok (.bipush 12, 2) := by decide +kernel
theorem dX7_layTurning_49 : decode cX7_layTurning 49 = .ok (.if_icmp .ge 132, 3) := by decide +kernel
theorem dX7_layTurning_52 : decode cX7_layTurning 52 = .ok (.iconst 0, 1) := by decide +kernel
theorem dX7_layTurning_53 : decode cX7_layTurning 53 = .ok (.istore 5, 2) := by decide +kernel
theorem dX7_layTurning_55 : decode cX7_layTurning 55 = .ok (.iload 5, 2) := by decide +kernel
theorem dX7_layTurning_57 : decode cX7_layTurning 57 = .ok (.iconst 5, 1) := by decide +kernel
theorem dX7_layTurning_58 : decode cX7_layTurning 58 = .ok (.if_icmp .ge 117, 3) := by decide +kernel
theorem dX7_layTurning_61 : decode cX7_layTurning 61 = .ok (.aload_n 0, 1) := by decide +kernel
theorem dX7_layTurning_62 : decode cX7_layTurning 62 = .ok (.getfield 35, 3) := by decide +kernel
theorem dX7_layTurning_65 : decode cX7_layTurning 65 = .ok (.iload 4, 2) := by decide +kernel
theorem dX7_layTurning_67 : decode cX7_layTurning 67 = .ok (.iaload, 1) := by decide +kernel
theorem dX7_layTurning_68 : decode cX7_layTurning 68 = .ok (.iconst (-1), 1) := by decide +kernel
theorem dX7_layTurning_69 : decode cX7_layTurning 69 = .ok (.if_icmp .eq 106, 3) := by decide +kernel
theorem dX7_layTurning_72 : decode cX7_layTurning 72 = .ok (.aload_n 0, 1) := by decide +kernel
theorem dX7_layTurning_73 : decode cX7_layTurning 73 = .ok (.getfield 7, 3) := by decide +kernel
theorem dX7_layTurning_76 : decode cX7_layTurning 76 = .ok (.iconst 5, 1) := by decide +kernel
theorem dX7_layTurning_77 : decode cX7_layTurning 77 = .ok (.iload 4, 2) := by decide +kernel
theorem dX7_layTurning_79 : decode cX7_layTurning 79 = .ok (.imul, 1) := by decide +kernel
theorem dX7_layTurning_80 : decode cX7_layTurning 80 = .ok (.iload 5, 2) := by decide +kernel
theorem dX7_layTurning_82 : decode cX7_layTurning 82 = .ok (.iadd, 1) := by decide +kernel
theorem dX7_layTurning_83 : decode cX7_layTurning 83 = .ok (.iaload, 1) := by decide +kernel
theorem dX7_layTurning_84 : decode cX7_layTurning 84 = .ok (.istore 6, 2) := by decide +kernel
theorem dX7_layTurning_86 : decode cX7_layTurning 86 = .ok (.aload_n 0, 1) := by decide +kernel
theorem dX7_layTurning_87 : decode cX7_layTurning 87 = .ok (.getfield 35, 3) := by decide +kernel
theorem dX7_layTurning_90 : decode cX7_layTurning 90 = .ok (.iload 6, 2) := by decide +kernel
theorem dX7_layTurning_92 : decode cX7_layTurning 92 = .ok (.iaload, 1) := by decide +kernel
theorem dX7_layTurning_93 : decode cX7_layTurning 93 = .ok (.iconst (-1), 1) := by decide +kernel
theorem dX7_layTurning_94 : decode cX7_layTurning 94 = .ok (.if_icmp .ne 75, 3) := by decide +kernel
theorem dX7_layTurning_97 : decode cX7_layTurning 97 = .ok (.aload_n 0, 1) := by decide +kernel
theorem dX7_layTurning_98 : decode cX7_layTurning 98 = .ok (.getfield 35, 3) := by decide +kernel
theorem dX7_layTurning_101 : decode cX7_layTurning 101 = .ok (.iload 6, 2) := by decide +kernel
theorem dX7_layTurning_103 : decode cX7_layTurning 103 = .ok (.aload_n 0, 1) := by decide +kernel
theorem dX7_layTurning_104 : decode cX7_layTurning 104 = .ok (.getfield 7, 3) := by decide +kernel
theorem dX7_layTurning_107 : decode cX7_layTurning 107 = .ok (.iconst 5, 1) := by decide +kernel
theorem dX7_layTurning_108 : decode cX7_layTurning 108 = .ok (.aload_n 0, 1) := by decide +kernel
theorem dX7_layTurning_109 : decode cX7_layTurning 109 = .ok (.getfield 35, 3) := by decide +kernel
theorem dX7_layTurning_112 : decode cX7_layTurning 112 = .ok (.iload 4, 2) := by decide +kernel
theorem dX7_layTurning_114 : decode cX7_layTurning 114 = .ok (.iaload, 1) := by decide +kernel
theorem dX7_layTurning_115 : decode cX7_layTurning 115 = .ok (.imul, 1) := by decide +kernel
theorem dX7_layTurning_116 : decode cX7_layTurning 116 = .ok (.iload 5, 2) := by decide +kernel
theorem dX7_layTurning_118 : decode cX7_layTurning 118 = .ok (.aload_n 0, 1) := by decide +kernel
theorem dX7_layTurning_119 : decode cX7_layTurning 119 = .ok (.getfield 38, 3) := by decide +kernel
theorem dX7_layTurning_122 : decode cX7_layTurning 122 = .ok (.iload 4, 2) := by decide +kernel
theorem dX7_layTurning_124 : decode cX7_layTurning 124 = .ok (.iaload, 1) := by decide +kernel
theorem dX7_layTurning_125 : decode cX7_layTurning 125 = .ok (.iadd, 1) := by decide +kernel
theorem dX7_layTurning_126 : decode cX7_layTurning 126 = .ok (.iconst 5, 1) := by decide +kernel
theorem dX7_layTurning_127 : decode cX7_layTurning 127 = .ok (.irem, 1) := by decide +kernel
theorem dX7_layTurning_128 : decode cX7_layTurning 128 = .ok (.iadd, 1) := by decide +kernel
theorem dX7_layTurning_129 : decode cX7_layTurning 129 = .ok (.iaload, 1) := by decide +kernel
theorem dX7_layTurning_130 : decode cX7_layTurning 130 = .ok (.iastore, 1) := by decide +kernel
theorem dX7_layTurning_131 : decode cX7_layTurning 131 = .ok (.aload_n 0, 1) := by decide +kernel
theorem dX7_layTurning_132 : decode cX7_layTurning 132 = .ok (.getfield 38, 3) := by decide +kernel
theorem dX7_layTurning_135 : decode cX7_layTurning 135 = .ok (.iload 6, 2) := by decide +kernel
theorem dX7_layTurning_137 : decode cX7_layTurning 137 = .ok (.aload_n 0, 1) := by decide +kernel
theorem dX7_layTurning_138 : decode cX7_layTurning 138 = .ok (.aload_n 0, 1) := by decide +kernel
theorem dX7_layTurning_139 : decode cX7_layTurning 139 = .ok (.getfield 35, 3) := by decide +kernel
theorem dX7_layTurning_142 : decode cX7_layTurning 142 = .ok (.iload 6, 2) := by decide +kernel
theorem dX7_layTurning_144 : decode cX7_layTurning 144 = .ok (.iaload, 1) := by decide +kernel
theorem dX7_layTurning_145 : decode cX7_layTurning 145 = .ok (.aload_n 0, 1) := by decide +kernel
theorem dX7_layTurning_146 : decode cX7_layTurning 146 = .ok (.getfield 35, 3) := by decide +kernel
theorem dX7_layTurning_149 : decode cX7_layTurning 149 = .ok (.iload 4, 2) := by decide +kernel
theorem dX7_layTurning_151 : decode cX7_layTurning 151 = .ok (.iaload, 1) := by decide +kernel
theorem dX7_layTurning_152 : decode cX7_layTurning 152 = .ok (.invokevirtual 117, 3) := by decide +kernel
theorem dX7_layTurning_155 : decode cX7_layTurning 155 = .ok (.aload_n 0, 1) := by decide +kernel
theorem dX7_layTurning_156 : decode cX7_layTurning 156 = .ok (.iload 6, 2) := by decide +kernel
theorem dX7_layTurning_158 : decode cX7_layTurning 158 = .ok (.iload 4, 2) := by decide +kernel
theorem dX7_layTurning_160 : decode cX7_layTurning 160 = .ok (.invokevirtual 117, 3) := by decide +kernel
theorem dX7_layTurning_163 : decode cX7_layTurning 163 = .ok (.isub, 1) := by decide +kernel
theorem dX7_layTurning_164 : decode cX7_layTurning 164 = .ok (.iconst 5, 1) := by decide +kernel
theorem dX7_layTurning_165 : decode cX7_layTurning 165 = .ok (.iadd, 1) := by decide +kernel
theorem dX7_layTurning_166 : decode cX7_layTurning 166 = .ok (.iconst 5, 1) := by decide +kernel
theorem dX7_layTurning_167 : decode cX7_layTurning 167 = .ok (.irem, 1) := by decide +kernel
theorem dX7_layTurning_168 : decode cX7_layTurning 168 = .ok (.iastore, 1) := by decide +kernel
theorem dX7_layTurning_169 : decode cX7_layTurning 169 = .ok (.iinc 5 1, 3) := by decide +kernel
theorem dX7_layTurning_172 : decode cX7_layTurning 172 = .ok (.goto (-117), 3) := by decide +kernel
theorem dX7_layTurning_175 : decode cX7_layTurning 175 = .ok (.iinc 4 1, 3) := by decide +kernel
theorem dX7_layTurning_178 : decode cX7_layTurning 178 = .ok (.goto (-133), 3) := by decide +kernel
theorem dX7_layTurning_181 : decode cX7_layTurning 181 = .ok (.iinc 3 1, 3) := by decide +kernel
theorem dX7_layTurning_184 : decode cX7_layTurning 184 = .ok (.goto (-147), 3) := by decide +kernel
theorem dX7_layTurning_187 : decode cX7_layTurning 187 = .ok (.return_, 1) := by decide +kernel
theorem dX7_goes_0 : decode cX7_goes 0 = .ok (.iload_n 1, 1) := by decide +kernel
theorem dX7_goes_1 : decode cX7_goes 1 = .ok (.invokestatic 169, 3) := by decide +kernel
theorem dX7_goes_4 : decode cX7_goes 4 = .ok (.ifCond .eq 17, 3) := by decide +kernel
theorem dX7_goes_7 : decode cX7_goes 7 = .ok (.iload_n 2, 1) := by decide +kernel
theorem dX7_goes_8 : decode cX7_goes 8 = .ok (.invokestatic 172, 3) := by decide +kernel
theorem dX7_goes_11 : decode cX7_goes 11 = .ok (.ifCond .eq 10, 3) := by decide +kernel
theorem dX7_goes_14 : decode cX7_goes 14 = .ok (.iload_n 3, 1) := by decide +kernel
theorem dX7_goes_15 : decode cX7_goes 15 = .ok (.invokestatic 169, 3) := by decide +kernel
theorem dX7_goes_18 : decode cX7_goes 18 = .ok (.ifCond .ne 6, 3) := by decide +kernel
theorem dX7_goes_21 : decode cX7_goes 21 = .ok (.bipush (-2), 2) := by decide +kernel
theorem dX7_goes_23 : decode cX7_goes 23 = .ok (.ireturn, 1) := by decide +kernel
theorem dX7_goes_24 : decode cX7_goes 24 = .ok (.aload_n 0, 1) := by decide +kernel
theorem dX7_goes_25 : decode cX7_goes 25 = .ok (.iload_n 1, 1) := by decide +kernel
theorem dX7_goes_26 : decode cX7_goes 26 = .ok (.iload_n 2, 1) := by decide +kernel
theorem dX7_goes_27 : decode cX7_goes 27 = .ok (.invokevirtual 181, 3) := by decide +kernel
theorem dX7_goes_30 : decode cX7_goes 30 = .ok (.aload_n 0, 1) := by decide +kernel
theorem dX7_goes_31 : decode cX7_goes 31 = .ok (.getfield 35, 3) := by decide +kernel
theorem dX7_goes_34 : decode cX7_goes 34 = .ok (.iload_n 3, 1) := by decide +kernel
theorem dX7_goes_35 : decode cX7_goes 35 = .ok (.iaload, 1) := by decide +kernel
theorem dX7_goes_36 : decode cX7_goes 36 = .ok (.ireturn, 1) := by decide +kernel
theorem dX7_openOf_0 : decode cX7_openOf 0 = .ok (.iconst 0, 1) := by decide +kernel
theorem dX7_openOf_1 : decode cX7_openOf 1 = .ok (.istore_n 2, 1) := by decide +kernel
theorem dX7_openOf_2 : decode cX7_openOf 2 = .ok (.iconst 0, 1) := by decide +kernel
theorem dX7_openOf_3 : decode cX7_openOf 3 = .ok (.istore_n 3, 1) := by decide +kernel
theorem dX7_openOf_4 : decode cX7_openOf 4 = .ok (.iload_n 3, 1) := by decide +kernel
theorem dX7_openOf_5 : decode cX7_openOf 5 = .ok (.iconst 5, 1) := by decide +kernel
theorem dX7_openOf_6 : decode cX7_openOf 6 = .ok (.if_icmp .ge 41, 3) := by decide +kernel
theorem dX7_openOf_9 : decode cX7_openOf 9 = .ok (.iload_n 2, 1) := by decide +kernel
theorem dX7_openOf_10 : decode cX7_openOf 10 = .ok (.aload_n 0, 1) := by decide +kernel
theorem dX7_openOf_11 : decode cX7_openOf 11 = .ok (.getfield 13, 3) := by decide +kernel
theorem dX7_openOf_14 : decode cX7_openOf 14 = .ok (.iconst 5, 1) := by decide +kernel
theorem dX7_openOf_15 : decode cX7_openOf 15 = .ok (.iload_n 1, 1) := by decide +kernel
theorem dX7_openOf_16 : decode cX7_openOf 16 = .ok (.imul, 1) := by decide +kernel
theorem dX7_openOf_17 : decode cX7_openOf 17 = .ok (.iload_n 3, 1) := by decide +kernel
theorem dX7_openOf_18 : decode cX7_openOf 18 = .ok (.iadd, 1) := by decide +kernel
theorem dX7_openOf_19 : decode cX7_openOf 19 = .ok (.baload, 1) := by decide +kernel
theorem dX7_openOf_20 : decode cX7_openOf 20 = .ok (.ifCond .eq 7, 3) := by decide +kernel
theorem dX7_openOf_23 : decode cX7_openOf 23 = .ok (.iconst 0, 1) := by decide +kernel
theorem dX7_openOf_24 : decode cX7_openOf 24 = .ok (.goto 15, 3) := by decide +kernel
theorem dX7_openOf_27 : decode cX7_openOf 27 = .ok (.iconst 1, 1) := by decide +kernel
theorem dX7_openOf_28 : decode cX7_openOf 28 = .ok (.aload_n 0, 1) := by decide +kernel
theorem dX7_openOf_29 : decode cX7_openOf 29 = .ok (.getfield 7, 3) := by decide +kernel
theorem dX7_openOf_32 : decode cX7_openOf 32 = .ok (.iconst 5, 1) := by decide +kernel
theorem dX7_openOf_33 : decode cX7_openOf 33 = .ok (.iload_n 1, 1) := by decide +kernel
theorem dX7_openOf_34 : decode cX7_openOf 34 = .ok (.imul, 1) := by decide +kernel
theorem dX7_openOf_35 : decode cX7_openOf 35 = .ok (.iload_n 3, 1) := by decide +kernel
theorem dX7_openOf_36 : decode cX7_openOf 36 = .ok (.iadd, 1) := by decide +kernel
theorem dX7_openOf_37 : decode cX7_openOf 37 = .ok (.iaload, 1) := by decide +kernel
theorem dX7_openOf_38 : decode cX7_openOf 38 = .ok (.ishl, 1) := by decide +kernel
theorem dX7_openOf_39 : decode cX7_openOf 39 = .ok (.ior, 1) := by decide +kernel
theorem dX7_openOf_40 : decode cX7_openOf 40 = .ok (.istore_n 2, 1) := by decide +kernel
theorem dX7_openOf_41 : decode cX7_openOf 41 = .ok (.iinc 3 1, 3) := by decide +kernel
theorem dX7_openOf_44 : decode cX7_openOf 44 = .ok (.goto (-40), 3) := by decide +kernel
theorem dX7_openOf_47 : decode cX7_openOf 47 = .ok (.iload_n 2, 1) := by decide +kernel
theorem dX7_openOf_48 : decode cX7_openOf 48 = .ok (.ireturn, 1) := by decide +kernel
theorem dX7_openOfKind_0 : decode cX7_openOfKind 0 = .ok (.aload_n 0, 1) := by decide +kernel
theorem dX7_openOfKind_1 : decode cX7_openOfKind 1 = .ok (.iload_n 1, 1) := by decide +kernel
theorem dX7_openOfKind_2 : decode cX7_openOfKind 2 = .ok (.invokevirtual 184, 3) := by decide +kernel
theorem dX7_openOfKind_5 : decode cX7_openOfKind 5 = .ok (.istore_n 3, 1) := by decide +kernel
theorem dX7_openOfKind_6 : decode cX7_openOfKind 6 = .ok (.iconst 0, 1) := by decide +kernel
theorem dX7_openOfKind_7 : decode cX7_openOfKind 7 = .ok (.istore 4, 2) := by decide +kernel
theorem dX7_openOfKind_9 : decode cX7_openOfKind 9 = .ok (.iconst 0, 1) := by decide +kernel
theorem dX7_openOfKind_10 : decode cX7_openOfKind 10 = .ok (.istore 5, 2) := by decide +kernel
theorem dX7_openOfKind_12 : decode cX7_openOfKind 12 = .ok (.iload 5, 2) := by decide +kernel
theorem dX7_openOfKind_14 : decode cX7_openOfKind 14 = .ok (.bipush 12, 2) := by decide +kernel
theorem dX7_openOfKind_16 : decode cX7_openOfKind 16 = .ok (.if_icmp .ge 39, 3) := by decide +kernel
theorem dX7_openOfKind_19 : decode cX7_openOfKind 19 = .ok (.iload 4, 2) := by decide +kernel
theorem dX7_openOfKind_21 : decode cX7_openOfKind 21 = .ok (.iload_n 3, 1) := by decide +kernel
theorem dX7_openOfKind_22 : decode cX7_openOfKind 22 = .ok (.iload 5, 2) := by decide +kernel
theorem dX7_openOfKind_24 : decode cX7_openOfKind 24 = .ok (.invokestatic 175, 3) := by decide +kernel
theorem dX7_openOfKind_27 : decode cX7_openOfKind 27 = .ok (.ifCond .eq 18, 3) := by decide +kernel
theorem dX7_openOfKind_30 : decode cX7_openOfKind 30 = .ok (.aload_n 0, 1) := by decide +kernel
theorem dX7_openOfKind_31 : decode cX7_openOfKind 31 = .ok (.getfield 20, 3) := by decide +kernel
theorem dX7_openOfKind_34 : decode cX7_openOfKind 34 = .ok (.iload 5, 2) := by decide +kernel
theorem dX7_openOfKind_36 : decode cX7_openOfKind 36 = .ok (.iaload, 1) := by decide +kernel
theorem dX7_openOfKind_37 : decode cX7_openOfKind 37 = .ok (.iload_n 2, 1) := by decide +kernel
theorem dX7_openOfKind_38 : decode cX7_openOfKind 38 = .ok (.if_icmp .ne 7, 3) := by decide +kernel
theorem dX7_openOfKind_41 : decode cX7_openOfKind 41 = .ok (.iconst 1, 1) := by decide +kernel
theorem dX7_openOfKind_42 : decode cX7_openOfKind 42 = .ok (.goto 4, 3) := by decide +kernel
theorem dX7_openOfKind_45 : decode cX7_openOfKind 45 = .ok (.iconst 0, 1) := by decide +kernel
theorem dX7_openOfKind_46 : decode cX7_openOfKind 46 = .ok (.iadd, 1) := by decide +kernel
theorem dX7_openOfKind_47 : decode cX7_openOfKind 47 = .ok (.istore 4, 2) := by decide +kernel
theorem dX7_openOfKind_49 : decode cX7_openOfKind 49 = .ok (.iinc 5 1, 3) := by decide +kernel
theorem dX7_openOfKind_52 : decode cX7_openOfKind 52 = .ok (.goto (-40), 3) := by decide +kernel
theorem dX7_openOfKind_55 : decode cX7_openOfKind 55 = .ok (.iload 4, 2) := by decide +kernel
theorem dX7_openOfKind_57 : decode cX7_openOfKind 57 = .ok (.ireturn, 1) := by decide +kernel
theorem dX7_taxOf_0 : decode cX7_taxOf 0 = .ok (.aload_n 0, 1) := by decide +kernel
theorem dX7_taxOf_1 : decode cX7_taxOf 1 = .ok (.getfield 20, 3) := by decide +kernel
theorem dX7_taxOf_4 : decode cX7_taxOf 4 = .ok (.iload_n 1, 1) := by decide +kernel
theorem dX7_taxOf_5 : decode cX7_taxOf 5 = .ok (.iaload, 1) := by decide +kernel
theorem dX7_taxOf_6 : decode cX7_taxOf 6 = .ok (.tableswitch 56 0 2 #[26, 28, 37], 26) := by decide +kernel
theorem dX7_taxOf_32 : decode cX7_taxOf 32 = .ok (.iconst 0, 1) := by decide +kernel
theorem dX7_taxOf_33 : decode cX7_taxOf 33 = .ok (.ireturn, 1) := by decide +kernel
theorem dX7_taxOf_34 : decode cX7_taxOf 34 = .ok (.iconst 2, 1) := by decide +kernel
theorem dX7_taxOf_35 : decode cX7_taxOf 35 = .ok (.aload_n 0, 1) := by decide +kernel
theorem dX7_taxOf_36 : decode cX7_taxOf 36 = .ok (.iload_n 1, 1) := by decide +kernel
theorem dX7_taxOf_37 : decode cX7_taxOf 37 = .ok (.iconst 3, 1) := by decide +kernel
theorem dX7_taxOf_38 : decode cX7_taxOf 38 = .ok (.invokevirtual 188, 3) := by decide +kernel
theorem dX7_taxOf_41 : decode cX7_taxOf 41 = .ok (.iadd, 1) := by decide +kernel
theorem dX7_taxOf_42 : decode cX7_taxOf 42 = .ok (.ireturn, 1) := by decide +kernel
theorem dX7_taxOf_43 : decode cX7_taxOf 43 = .ok (.iconst 3, 1) := by decide +kernel
theorem dX7_taxOf_44 : decode cX7_taxOf 44 = .ok (.aload_n 0, 1) := by decide +kernel
theorem dX7_taxOf_45 : decode cX7_taxOf 45 = .ok (.iload_n 1, 1) := by decide +kernel
theorem dX7_taxOf_46 : decode cX7_taxOf 46 = .ok (.iconst 1, 1) := by decide +kernel
theorem dX7_taxOf_47 : decode cX7_taxOf 47 = .ok (.invokevirtual 188, 3) := by decide +kernel
theorem dX7_taxOf_50 : decode cX7_taxOf 50 = .ok (.isub, 1) := by decide +kernel
theorem dX7_taxOf_51 : decode cX7_taxOf 51 = .ok (.istore_n 2, 1) := by decide +kernel
theorem dX7_taxOf_52 : decode cX7_taxOf 52 = .ok (.iload_n 2, 1) := by decide +kernel
theorem dX7_taxOf_53 : decode cX7_taxOf 53 = .ok (.ifCond .ge 7, 3) := by decide +kernel
theorem dX7_taxOf_56 : decode cX7_taxOf 56 = .ok (.iconst 0, 1) := by decide +kernel
theorem dX7_taxOf_57 : decode cX7_taxOf 57 = .ok (.goto 4, 3) := by decide +kernel
theorem dX7_taxOf_60 : decode cX7_taxOf 60 = .ok (.iload_n 2, 1) := by decide +kernel
theorem dX7_taxOf_61 : decode cX7_taxOf 61 = .ok (.ireturn, 1) := by decide +kernel
theorem dX7_taxOf_62 : decode cX7_taxOf 62 = .ok (.iconst 1, 1) := by decide +kernel
theorem dX7_taxOf_63 : decode cX7_taxOf 63 = .ok (.ireturn, 1) := by decide +kernel
theorem dX7_field_0 : decode cX7_field 0 = .ok (.iload_n 1, 1) := by decide +kernel
theorem dX7_field_1 : decode cX7_field 1 = .ok (.invokestatic 169, 3) := by decide +kernel
theorem dX7_field_4 : decode cX7_field 4 = .ok (.ifCond .ne 6, 3) := by decide +kernel
theorem dX7_field_7 : decode cX7_field 7 = .ok (.bipush (-2), 2) := by decide +kernel
theorem dX7_field_9 : decode cX7_field 9 = .ok (.ireturn, 1) := by decide +kernel
theorem dX7_field_10 : decode cX7_field 10 = .ok (.iconst 0, 1) := by decide +kernel
theorem dX7_field_11 : decode cX7_field 11 = .ok (.istore_n 3, 1) := by decide +kernel
theorem dX7_field_12 : decode cX7_field 12 = .ok (.iconst 0, 1) := by decide +kernel
theorem dX7_field_13 : decode cX7_field 13 = .ok (.istore 4, 2) := by decide +kernel
theorem dX7_field_15 : decode cX7_field 15 = .ok (.iload 4, 2) := by decide +kernel
theorem dX7_field_17 : decode cX7_field 17 = .ok (.iconst 5, 1) := by decide +kernel
theorem dX7_field_18 : decode cX7_field 18 = .ok (.if_icmp .ge 34, 3) := by decide +kernel
theorem dX7_field_21 : decode cX7_field 21 = .ok (.iload_n 3, 1) := by decide +kernel
theorem dX7_field_22 : decode cX7_field 22 = .ok (.aload_n 0, 1) := by decide +kernel
theorem dX7_field_23 : decode cX7_field 23 = .ok (.getfield 13, 3) := by decide +kernel
theorem dX7_field_26 : decode cX7_field 26 = .ok (.iconst 5, 1) := by decide +kernel
theorem dX7_field_27 : decode cX7_field 27 = .ok (.iload_n 1, 1) := by decide +kernel
theorem dX7_field_28 : decode cX7_field 28 = .ok (.imul, 1) := by decide +kernel
theorem dX7_field_29 : decode cX7_field 29 = .ok (.iload 4, 2) := by decide +kernel
theorem dX7_field_31 : decode cX7_field 31 = .ok (.iadd, 1) := by decide +kernel
theorem dX7_field_32 : decode cX7_field 32 = .ok (.baload, 1) := by decide +kernel
theorem dX7_field_33 : decode cX7_field 33 = .ok (.ifCond .eq 10, 3) := by decide +kernel
theorem dX7_field_36 : decode cX7_field 36 = .ok (.iconst 1, 1) := by decide +kernel
theorem dX7_field_37 : decode cX7_field 37 = .ok (.iload 4, 2) := by decide +kernel
theorem dX7_field_39 : decode cX7_field 39 = .ok (.ishl, 1) := by decide +kernel
theorem dX7_field_40 : decode cX7_field 40 = .ok (.goto 4, 3) := by decide +kernel
theorem dX7_field_43 : decode cX7_field 43 = .ok (.iconst 0, 1) := by decide +kernel
theorem dX7_field_44 : decode cX7_field 44 = .ok (.ior, 1) := by decide +kernel
theorem dX7_field_45 : decode cX7_field 45 = .ok (.istore_n 3, 1) := by decide +kernel
theorem dX7_field_46 : decode cX7_field 46 = .ok (.iinc 4 1, 3) := by decide +kernel
theorem dX7_field_49 : decode cX7_field 49 = .ok (.goto (-34), 3) := by decide +kernel
theorem dX7_field_52 : decode cX7_field 52 = .ok (.iload_n 2, 1) := by decide +kernel
theorem dX7_field_53 : decode cX7_field 53 = .ok (.tableswitch 52 0 3 #[31, 38, 40, 46], 31) := by decide +kernel
theorem dX7_field_84 : decode cX7_field 84 = .ok (.aload_n 0, 1) := by decide +kernel
theorem dX7_field_85 : decode cX7_field 85 = .ok (.getfield 20, 3) := by decide +kernel
theorem dX7_field_88 : decode cX7_field 88 = .ok (.iload_n 1, 1) := by decide +kernel
theorem dX7_field_89 : decode cX7_field 89 = .ok (.iaload, 1) := by decide +kernel
theorem dX7_field_90 : decode cX7_field 90 = .ok (.ireturn, 1) := by decide +kernel
theorem dX7_field_91 : decode cX7_field 91 = .ok (.iload_n 3, 1) := by decide +kernel
theorem dX7_field_92 : decode cX7_field 92 = .ok (.ireturn, 1) := by decide +kernel
theorem dX7_field_93 : decode cX7_field 93 = .ok (.aload_n 0, 1) := by decide +kernel
theorem dX7_field_94 : decode cX7_field 94 = .ok (.iload_n 1, 1) := by decide +kernel
theorem dX7_field_95 : decode cX7_field 95 = .ok (.invokevirtual 191, 3) := by decide +kernel
theorem dX7_field_98 : decode cX7_field 98 = .ok (.ireturn, 1) := by decide +kernel
theorem dX7_field_99 : decode cX7_field 99 = .ok (.aload_n 0, 1) := by decide +kernel
theorem dX7_field_100 : decode cX7_field 100 = .ok (.iload_n 1, 1) := by decide +kernel
theorem dX7_field_101 : decode cX7_field 101 = .ok (.invokevirtual 184, 3) := by decide +kernel
theorem dX7_field_104 : decode cX7_field 104 = .ok (.ireturn, 1) := by decide +kernel
theorem dX7_field_105 : decode cX7_field 105 = .ok (.bipush (-3), 2) := by decide +kernel
theorem dX7_field_107 : decode cX7_field 107 = .ok (.ireturn, 1) := by decide +kernel
theorem dX7_as_0 : decode cX7_as 0 = .ok (.iload_n 1, 1) := by decide +kernel
theorem dX7_as_1 : decode cX7_as 1 = .ok (.invokestatic 169, 3) := by decide +kernel
theorem dX7_as_4 : decode cX7_as 4 = .ok (.ifCond .ne 6, 3) := by decide +kernel
theorem dX7_as_7 : decode cX7_as 7 = .ok (.bipush (-2), 2) := by decide +kernel
theorem dX7_as_9 : decode cX7_as 9 = .ok (.ireturn, 1) := by decide +kernel
theorem dX7_as_10 : decode cX7_as 10 = .ok (.iload_n 2, 1) := by decide +kernel
theorem dX7_as_11 : decode cX7_as 11 = .ok (.iconst 0, 1) := by decide +kernel
theorem dX7_as_12 : decode cX7_as 12 = .ok (.iconst 4, 1) := by decide +kernel
theorem dX7_as_13 : decode cX7_as 13 = .ok (.invokestatic 65, 3) := by decide +kernel
theorem dX7_as_16 : decode cX7_as 16 = .ok (.ifCond .ne 6, 3) := by decide +kernel
theorem dX7_as_19 : decode cX7_as 19 = .ok (.bipush (-3), 2) := by decide +kernel
theorem dX7_as_21 : decode cX7_as 21 = .ok (.ireturn, 1) := by decide +kernel
theorem dX7_as_22 : decode cX7_as 22 = .ok (.aload_n 0, 1) := by decide +kernel
theorem dX7_as_23 : decode cX7_as 23 = .ok (.getfield 20, 3) := by decide +kernel
theorem dX7_as_26 : decode cX7_as 26 = .ok (.iload_n 1, 1) := by decide +kernel
theorem dX7_as_27 : decode cX7_as 27 = .ok (.iaload, 1) := by decide +kernel
theorem dX7_as_28 : decode cX7_as 28 = .ok (.istore_n 3, 1) := by decide +kernel
theorem dX7_as_29 : decode cX7_as 29 = .ok (.iload_n 2, 1) := by decide +kernel
theorem dX7_as_30 : decode cX7_as 30 = .ok (.ifCond .eq 27, 3) := by decide +kernel
theorem dX7_as_33 : decode cX7_as 33 = .ok (.iload_n 2, 1) := by decide +kernel
theorem dX7_as_34 : decode cX7_as 34 = .ok (.iconst 1, 1) := by decide +kernel
theorem dX7_as_35 : decode cX7_as 35 = .ok (.if_icmp .ne 15, 3) := by decide +kernel
theorem dX7_as_38 : decode cX7_as 38 = .ok (.iload_n 3, 1) := by decide +kernel
theorem dX7_as_39 : decode cX7_as 39 = .ok (.iconst 1, 1) := by decide +kernel
theorem dX7_as_40 : decode cX7_as 40 = .ok (.iconst 2, 1) := by decide +kernel
theorem dX7_as_41 : decode cX7_as 41 = .ok (.invokestatic 65, 3) := by decide +kernel
theorem dX7_as_44 : decode cX7_as 44 = .ok (.ifCond .eq 17, 3) := by decide +kernel
theorem dX7_as_47 : decode cX7_as 47 = .ok (.goto 10, 3) := by decide +kernel
theorem dX7_as_50 : decode cX7_as 50 = .ok (.iload_n 3, 1) := by decide +kernel
theorem dX7_as_51 : decode cX7_as 51 = .ok (.iload_n 2, 1) := by decide +kernel
theorem dX7_as_52 : decode cX7_as 52 = .ok (.iconst 1, 1) := by decide +kernel
theorem dX7_as_53 : decode cX7_as 53 = .ok (.isub, 1) := by decide +kernel
theorem dX7_as_54 : decode cX7_as 54 = .ok (.if_icmp .ne 7, 3) := by decide +kernel
theorem dX7_as_57 : decode cX7_as 57 = .ok (.iconst 1, 1) := by decide +kernel
theorem dX7_as_58 : decode cX7_as 58 = .ok (.goto 4, 3) := by decide +kernel
theorem dX7_as_61 : decode cX7_as 61 = .ok (.iconst 0, 1) := by decide +kernel
theorem dX7_as_62 : decode cX7_as 62 = .ok (.istore 4, 2) := by decide +kernel
theorem dX7_as_64 : decode cX7_as 64 = .ok (.iload 4, 2) := by decide +kernel
theorem dX7_as_66 : decode cX7_as 66 = .ok (.ifCond .eq 11, 3) := by decide +kernel
theorem dX7_as_69 : decode cX7_as 69 = .ok (.aload_n 0, 1) := by decide +kernel
theorem dX7_as_70 : decode cX7_as 70 = .ok (.iload_n 1, 1) := by decide +kernel
theorem dX7_as_71 : decode cX7_as 71 = .ok (.invokevirtual 191, 3) := by decide +kernel
theorem dX7_as_74 : decode cX7_as 74 = .ok (.goto 5, 3) := by decide +kernel
theorem dX7_as_77 : decode cX7_as 77 = .ok (.bipush (-4), 2) := by decide +kernel
theorem dX7_as_79 : decode cX7_as 79 = .ok (.ireturn, 1) := by decide +kernel
theorem dX7_rotate_0 : decode cX7_rotate 0 = .ok (.iload_n 1, 1) := by decide +kernel
theorem dX7_rotate_1 : decode cX7_rotate 1 = .ok (.invokestatic 169, 3) := by decide +kernel
theorem dX7_rotate_4 : decode cX7_rotate 4 = .ok (.ifCond .eq 10, 3) := by decide +kernel
theorem dX7_rotate_7 : decode cX7_rotate 7 = .ok (.iload_n 2, 1) := by decide +kernel
theorem dX7_rotate_8 : decode cX7_rotate 8 = .ok (.invokestatic 172, 3) := by decide +kernel
theorem dX7_rotate_11 : decode cX7_rotate 11 = .ok (.ifCond .ne 6, 3) := by decide +kernel
theorem dX7_rotate_14 : decode cX7_rotate 14 = .ok (.bipush (-2), 2) := by decide +kernel
theorem dX7_rotate_16 : decode cX7_rotate 16 = .ok (.ireturn, 1) := by decide +kernel
theorem dX7_rotate_17 : decode cX7_rotate 17 = .ok (.aload_n 0, 1) := by decide +kernel
theorem dX7_rotate_18 : decode cX7_rotate 18 = .ok (.iload_n 1, 1) := by decide +kernel
theorem dX7_rotate_19 : decode cX7_rotate 19 = .ok (.iload_n 2, 1) := by decide +kernel
theorem dX7_rotate_20 : decode cX7_rotate 20 = .ok (.invokevirtual 181, 3) := by decide +kernel
theorem dX7_rotate_23 : decode cX7_rotate 23 = .ok (.iconst 0, 1) := by decide +kernel
theorem dX7_rotate_24 : decode cX7_rotate 24 = .ok (.istore_n 3, 1) := by decide +kernel
theorem dX7_rotate_25 : decode cX7_rotate 25 = .ok (.iload_n 3, 1) := by decide +kernel
theorem dX7_rotate_26 : decode cX7_rotate 26 = .ok (.bipush 12, 2) := by decide +kernel
theorem dX7_rotate_28 : decode cX7_rotate 28 = .ok (.if_icmp .ge 26, 3) := by decide +kernel
theorem dX7_rotate_31 : decode cX7_rotate 31 = .ok (.aload_n 0, 1) := by decide +kernel
theorem dX7_rotate_32 : decode cX7_rotate 32 = .ok (.getfield 41, 3) := by decide +kernel
theorem dX7_rotate_35 : decode cX7_rotate 35 = .ok (.aload_n 0, 1) := by decide +kernel
theorem dX7_rotate_36 : decode cX7_rotate 36 = .ok (.getfield 35, 3) := by decide +kernel
theorem dX7_rotate_39 : decode cX7_rotate 39 = .ok (.iload_n 3, 1) := by decide +kernel
theorem dX7_rotate_40 : decode cX7_rotate 40 = .ok (.iaload, 1) := by decide +kernel
theorem dX7_rotate_41 : decode cX7_rotate 41 = .ok (.aload_n 0, 1) := by decide +kernel
theorem dX7_rotate_42 : decode cX7_rotate 42 = .ok (.getfield 20, 3) := by decide +kernel
theorem dX7_rotate_45 : decode cX7_rotate 45 = .ok (.iload_n 3, 1) := by decide +kernel
theorem dX7_rotate_46 : decode cX7_rotate 46 = .ok (.iaload, 1) := by decide +kernel
theorem dX7_rotate_47 : decode cX7_rotate 47 = .ok (.iastore, 1) := by decide +kernel
theorem dX7_rotate_48 : decode cX7_rotate 48 = .ok (.iinc 3 1, 3) := by decide +kernel
theorem dX7_rotate_51 : decode cX7_rotate 51 = .ok (.goto (-26), 3) := by decide +kernel
theorem dX7_rotate_54 : decode cX7_rotate 54 = .ok (.iconst 0, 1) := by decide +kernel
theorem dX7_rotate_55 : decode cX7_rotate 55 = .ok (.istore_n 3, 1) := by decide +kernel
theorem dX7_rotate_56 : decode cX7_rotate 56 = .ok (.iconst 0, 1) := by decide +kernel
theorem dX7_rotate_57 : decode cX7_rotate 57 = .ok (.istore 4, 2) := by decide +kernel
theorem dX7_rotate_59 : decode cX7_rotate 59 = .ok (.iload 4, 2) := by decide +kernel
theorem dX7_rotate_61 : decode cX7_rotate 61 = .ok (.bipush 12, 2) := by decide +kernel
theorem dX7_rotate_63 : decode cX7_rotate 63 = .ok (.if_icmp .ge 48, 3) := by decide +kernel
theorem dX7_rotate_66 : decode cX7_rotate 66 = .ok (.iload_n 3, 1) := by decide +kernel
theorem dX7_rotate_67 : decode cX7_rotate 67 = .ok (.aload_n 0, 1) := by decide +kernel
theorem dX7_rotate_68 : decode cX7_rotate 68 = .ok (.getfield 41, 3) := by decide +kernel
theorem dX7_rotate_71 : decode cX7_rotate 71 = .ok (.iload 4, 2) := by decide +kernel
theorem dX7_rotate_73 : decode cX7_rotate 73 = .ok (.iaload, 1) := by decide +kernel
theorem dX7_rotate_74 : decode cX7_rotate 74 = .ok (.aload_n 0, 1) := by decide +kernel
theorem dX7_rotate_75 : decode cX7_rotate 75 = .ok (.getfield 20, 3) := by decide +kernel
theorem dX7_rotate_78 : decode cX7_rotate 78 = .ok (.iload 4, 2) := by decide +kernel
theorem dX7_rotate_80 : decode cX7_rotate 80 = .ok (.iaload, 1) := by decide +kernel
theorem dX7_rotate_81 : decode cX7_rotate 81 = .ok (.if_icmp .ne 7, 3) := by decide +kernel
theorem dX7_rotate_84 : decode cX7_rotate 84 = .ok (.iconst 0, 1) := by decide +kernel
theorem dX7_rotate_85 : decode cX7_rotate 85 = .ok (.goto 4, 3) := by decide +kernel
theorem dX7_rotate_88 : decode cX7_rotate 88 = .ok (.iconst 1, 1) := by decide +kernel
theorem dX7_rotate_89 : decode cX7_rotate 89 = .ok (.iadd, 1) := by decide +kernel
theorem dX7_rotate_90 : decode cX7_rotate 90 = .ok (.istore_n 3, 1) := by decide +kernel
theorem dX7_rotate_91 : decode cX7_rotate 91 = .ok (.aload_n 0, 1) := by decide +kernel
theorem dX7_rotate_92 : decode cX7_rotate 92 = .ok (.getfield 20, 3) := by decide +kernel
theorem dX7_rotate_95 : decode cX7_rotate 95 = .ok (.iload 4, 2) := by decide +kernel
theorem dX7_rotate_97 : decode cX7_rotate 97 = .ok (.aload_n 0, 1) := by decide +kernel
theorem dX7_rotate_98 : decode cX7_rotate 98 = .ok (.getfield 41, 3) := by decide +kernel
theorem dX7_rotate_101 : decode cX7_rotate 101 = .ok (.iload 4, 2) := by decide +kernel
theorem dX7_rotate_103 : decode cX7_rotate 103 = .ok (.iaload, 1) := by decide +kernel
theorem dX7_rotate_104 : decode cX7_rotate 104 = .ok (.iastore, 1) := by decide +kernel
theorem dX7_rotate_105 : decode cX7_rotate 105 = .ok (.iinc 4 1, 3) := by decide +kernel
theorem dX7_rotate_108 : decode cX7_rotate 108 = .ok (.goto (-49), 3) := by decide +kernel
theorem dX7_rotate_111 : decode cX7_rotate 111 = .ok (.iload_n 3, 1) := by decide +kernel
theorem dX7_rotate_112 : decode cX7_rotate 112 = .ok (.ireturn, 1) := by decide +kernel
theorem dX7_step_0 : decode cX7_step 0 = .ok (.iload_n 1, 1) := by decide +kernel
theorem dX7_step_1 : decode cX7_step 1 = .ok (.iconst 0, 1) := by decide +kernel
theorem dX7_step_2 : decode cX7_step 2 = .ok (.iconst 4, 1) := by decide +kernel
theorem dX7_step_3 : decode cX7_step 3 = .ok (.invokestatic 65, 3) := by decide +kernel
theorem dX7_step_6 : decode cX7_step 6 = .ok (.ifCond .ne 6, 3) := by decide +kernel
theorem dX7_step_9 : decode cX7_step 9 = .ok (.bipush (-3), 2) := by decide +kernel
theorem dX7_step_11 : decode cX7_step 11 = .ok (.ireturn, 1) := by decide +kernel
theorem dX7_step_12 : decode cX7_step 12 = .ok (.iconst 5, 1) := by decide +kernel
theorem dX7_step_13 : decode cX7_step 13 = .ok (.aload_n 0, 1) := by decide +kernel
theorem dX7_step_14 : decode cX7_step 14 = .ok (.getfield 160, 3) := by decide +kernel
theorem dX7_step_17 : decode cX7_step 17 = .ok (.imul, 1) := by decide +kernel
theorem dX7_step_18 : decode cX7_step 18 = .ok (.aload_n 0, 1) := by decide +kernel
theorem dX7_step_19 : decode cX7_step 19 = .ok (.getfield 163, 3) := by decide +kernel
theorem dX7_step_22 : decode cX7_step 22 = .ok (.iload_n 1, 1) := by decide +kernel
theorem dX7_step_23 : decode cX7_step 23 = .ok (.iadd, 1) := by decide +kernel
theorem dX7_step_24 : decode cX7_step 24 = .ok (.iconst 5, 1) := by decide +kernel
theorem dX7_step_25 : decode cX7_step 25 = .ok (.irem, 1) := by decide +kernel
theorem dX7_step_26 : decode cX7_step 26 = .ok (.iadd, 1) := by decide +kernel
theorem dX7_step_27 : decode cX7_step 27 = .ok (.istore_n 2, 1) := by decide +kernel
theorem dX7_step_28 : decode cX7_step 28 = .ok (.aload_n 0, 1) := by decide +kernel
theorem dX7_step_29 : decode cX7_step 29 = .ok (.getfield 13, 3) := by decide +kernel
theorem dX7_step_32 : decode cX7_step 32 = .ok (.iload_n 2, 1) := by decide +kernel
theorem dX7_step_33 : decode cX7_step 33 = .ok (.baload, 1) := by decide +kernel
theorem dX7_step_34 : decode cX7_step 34 = .ok (.ifCond .eq 6, 3) := by decide +kernel
theorem dX7_step_37 : decode cX7_step 37 = .ok (.bipush (-4), 2) := by decide +kernel
theorem dX7_step_39 : decode cX7_step 39 = .ok (.ireturn, 1) := by decide +kernel
theorem dX7_step_40 : decode cX7_step 40 = .ok (.aload_n 0, 1) := by decide +kernel
theorem dX7_step_41 : decode cX7_step 41 = .ok (.getfield 166, 3) := by decide +kernel
theorem dX7_step_44 : decode cX7_step 44 = .ok (.sipush 9999, 3) := by decide +kernel
theorem dX7_step_47 : decode cX7_step 47 = .ok (.if_icmp .ne 6, 3) := by decide +kernel
theorem dX7_step_50 : decode cX7_step 50 = .ok (.bipush (-5), 2) := by decide +kernel
theorem dX7_step_52 : decode cX7_step 52 = .ok (.ireturn, 1) := by decide +kernel
theorem dX7_step_53 : decode cX7_step 53 = .ok (.aload_n 0, 1) := by decide +kernel
theorem dX7_step_54 : decode cX7_step 54 = .ok (.getfield 160, 3) := by decide +kernel
theorem dX7_step_57 : decode cX7_step 57 = .ok (.istore_n 3, 1) := by decide +kernel
theorem dX7_step_58 : decode cX7_step 58 = .ok (.aload_n 0, 1) := by decide +kernel
theorem dX7_step_59 : decode cX7_step 59 = .ok (.aload_n 0, 1) := by decide +kernel
theorem dX7_step_60 : decode cX7_step 60 = .ok (.getfield 7, 3) := by decide +kernel
theorem dX7_step_63 : decode cX7_step 63 = .ok (.iload_n 2, 1) := by decide +kernel
theorem dX7_step_64 : decode cX7_step 64 = .ok (.iaload, 1) := by decide +kernel
theorem dX7_step_65 : decode cX7_step 65 = .ok (.putfield 160, 3) := by decide +kernel
theorem dX7_step_68 : decode cX7_step 68 = .ok (.aload_n 0, 1) := by decide +kernel
theorem dX7_step_69 : decode cX7_step 69 = .ok (.aload_n 0, 1) := by decide +kernel
theorem dX7_step_70 : decode cX7_step 70 = .ok (.aload_n 0, 1) := by decide +kernel
theorem dX7_step_71 : decode cX7_step 71 = .ok (.getfield 160, 3) := by decide +kernel
theorem dX7_step_74 : decode cX7_step 74 = .ok (.iload_n 3, 1) := by decide +kernel
theorem dX7_step_75 : decode cX7_step 75 = .ok (.invokevirtual 117, 3) := by decide +kernel
theorem dX7_step_78 : decode cX7_step 78 = .ok (.putfield 163, 3) := by decide +kernel
theorem dX7_step_81 : decode cX7_step 81 = .ok (.aload_n 0, 1) := by decide +kernel
theorem dX7_step_82 : decode cX7_step 82 = .ok (.dup, 1) := by decide +kernel
theorem dX7_step_83 : decode cX7_step 83 = .ok (.getfield 166, 3) := by decide +kernel
theorem dX7_step_86 : decode cX7_step 86 = .ok (.iconst 1, 1) := by decide +kernel
theorem dX7_step_87 : decode cX7_step 87 = .ok (.iadd, 1) := by decide +kernel
theorem dX7_step_88 : decode cX7_step 88 = .ok (.putfield 166, 3) := by decide +kernel
theorem dX7_step_91 : decode cX7_step 91 = .ok (.aload_n 0, 1) := by decide +kernel
theorem dX7_step_92 : decode cX7_step 92 = .ok (.getfield 160, 3) := by decide +kernel
theorem dX7_step_95 : decode cX7_step 95 = .ok (.ireturn, 1) := by decide +kernel
theorem dX7_walker_0 : decode cX7_walker 0 = .ok (.iload_n 1, 1) := by decide +kernel
theorem dX7_walker_1 : decode cX7_walker 1 = .ok (.ifCond .ne 10, 3) := by decide +kernel
theorem dX7_walker_4 : decode cX7_walker 4 = .ok (.aload_n 0, 1) := by decide +kernel
theorem dX7_walker_5 : decode cX7_walker 5 = .ok (.getfield 160, 3) := by decide +kernel
theorem dX7_walker_8 : decode cX7_walker 8 = .ok (.goto 29, 3) := by decide +kernel
theorem dX7_walker_11 : decode cX7_walker 11 = .ok (.iload_n 1, 1) := by decide +kernel
theorem dX7_walker_12 : decode cX7_walker 12 = .ok (.iconst 1, 1) := by decide +kernel
theorem dX7_walker_13 : decode cX7_walker 13 = .ok (.if_icmp .ne 10, 3) := by decide +kernel
theorem dX7_walker_16 : decode cX7_walker 16 = .ok (.aload_n 0, 1) := by decide +kernel
theorem dX7_walker_17 : decode cX7_walker 17 = .ok (.getfield 163, 3) := by decide +kernel
theorem dX7_walker_20 : decode cX7_walker 20 = .ok (.goto 17, 3) := by decide +kernel
theorem dX7_walker_23 : decode cX7_walker 23 = .ok (.iload_n 1, 1) := by decide +kernel
theorem dX7_walker_24 : decode cX7_walker 24 = .ok (.iconst 2, 1) := by decide +kernel
theorem dX7_walker_25 : decode cX7_walker 25 = .ok (.if_icmp .ne 10, 3) := by decide +kernel
theorem dX7_walker_28 : decode cX7_walker 28 = .ok (.aload_n 0, 1) := by decide +kernel
theorem dX7_walker_29 : decode cX7_walker 29 = .ok (.getfield 166, 3) := by decide +kernel
theorem dX7_walker_32 : decode cX7_walker 32 = .ok (.goto 5, 3) := by decide +kernel
theorem dX7_walker_35 : decode cX7_walker 35 = .ok (.bipush (-3), 2) := by decide +kernel
theorem dX7_walker_37 : decode cX7_walker 37 = .ok (.ireturn, 1) := by decide +kernel
theorem dX7_keep_0 : decode cX7_keep 0 = .ok (.iload_n 1, 1) := by decide +kernel
theorem dX7_keep_1 : decode cX7_keep 1 = .ok (.iconst 0, 1) := by decide +kernel
theorem dX7_keep_2 : decode cX7_keep 2 = .ok (.iconst 1, 1) := by decide +kernel
theorem dX7_keep_3 : decode cX7_keep 3 = .ok (.invokestatic 65, 3) := by decide +kernel
theorem dX7_keep_6 : decode cX7_keep 6 = .ok (.ifCond .ne 6, 3) := by decide +kernel
theorem dX7_keep_9 : decode cX7_keep 9 = .ok (.bipush (-2), 2) := by decide +kernel
theorem dX7_keep_11 : decode cX7_keep 11 = .ok (.ireturn, 1) := by decide +kernel
theorem dX7_keep_12 : decode cX7_keep 12 = .ok (.iconst 0, 1) := by decide +kernel
theorem dX7_keep_13 : decode cX7_keep 13 = .ok (.istore_n 2, 1) := by decide +kernel
theorem dX7_keep_14 : decode cX7_keep 14 = .ok (.iload_n 2, 1) := by decide +kernel
theorem dX7_keep_15 : decode cX7_keep 15 = .ok (.bipush 12, 2) := by decide +kernel
theorem dX7_keep_17 : decode cX7_keep 17 = .ok (.if_icmp .ge 26, 3) := by decide +kernel
theorem dX7_keep_20 : decode cX7_keep 20 = .ok (.aload_n 0, 1) := by decide +kernel
theorem dX7_keep_21 : decode cX7_keep 21 = .ok (.getfield 29, 3) := by decide +kernel
theorem dX7_keep_24 : decode cX7_keep 24 = .ok (.bipush 15, 2) := by decide +kernel
theorem dX7_keep_26 : decode cX7_keep 26 = .ok (.iload_n 1, 1) := by decide +kernel
theorem dX7_keep_27 : decode cX7_keep 27 = .ok (.imul, 1) := by decide +kernel
theorem dX7_keep_28 : decode cX7_keep 28 = .ok (.iload_n 2, 1) := by decide +kernel
theorem dX7_keep_29 : decode cX7_keep 29 = .ok (.iadd, 1) := by decide +kernel
theorem dX7_keep_30 : decode cX7_keep 30 = .ok (.aload_n 0, 1) := by decide +kernel
theorem dX7_keep_31 : decode cX7_keep 31 = .ok (.getfield 20, 3) := by decide +kernel
theorem dX7_keep_34 : decode cX7_keep 34 = .ok (.iload_n 2, 1) := by decide +kernel
theorem dX7_keep_35 : decode cX7_keep 35 = .ok (.iaload, 1) := by decide +kernel
theorem dX7_keep_36 : decode cX7_keep 36 = .ok (.iastore, 1) := by decide +kernel
theorem dX7_keep_37 : decode cX7_keep 37 = .ok (.iinc 2 1, 3) := by decide +kernel
theorem dX7_keep_40 : decode cX7_keep 40 = .ok (.goto (-26), 3) := by decide +kernel
theorem dX7_keep_43 : decode cX7_keep 43 = .ok (.aload_n 0, 1) := by decide +kernel
theorem dX7_keep_44 : decode cX7_keep 44 = .ok (.getfield 29, 3) := by decide +kernel
theorem dX7_keep_47 : decode cX7_keep 47 = .ok (.bipush 15, 2) := by decide +kernel
theorem dX7_keep_49 : decode cX7_keep 49 = .ok (.iload_n 1, 1) := by decide +kernel
theorem dX7_keep_50 : decode cX7_keep 50 = .ok (.imul, 1) := by decide +kernel
theorem dX7_keep_51 : decode cX7_keep 51 = .ok (.bipush 12, 2) := by decide +kernel
theorem dX7_keep_53 : decode cX7_keep 53 = .ok (.iadd, 1) := by decide +kernel
theorem dX7_keep_54 : decode cX7_keep 54 = .ok (.aload_n 0, 1) := by decide +kernel
theorem dX7_keep_55 : decode cX7_keep 55 = .ok (.getfield 160, 3) := by decide +kernel
theorem dX7_keep_58 : decode cX7_keep 58 = .ok (.iastore, 1) := by decide +kernel
theorem dX7_keep_59 : decode cX7_keep 59 = .ok (.aload_n 0, 1) := by decide +kernel
theorem dX7_keep_60 : decode cX7_keep 60 = .ok (.getfield 29, 3) := by decide +kernel
theorem dX7_keep_63 : decode cX7_keep 63 = .ok (.bipush 15, 2) := by decide +kernel
theorem dX7_keep_65 : decode cX7_keep 65 = .ok (.iload_n 1, 1) := by decide +kernel
theorem dX7_keep_66 : decode cX7_keep 66 = .ok (.imul, 1) := by decide +kernel
theorem dX7_keep_67 : decode cX7_keep 67 = .ok (.bipush 13, 2) := by decide +kernel
theorem dX7_keep_69 : decode cX7_keep 69 = .ok (.iadd, 1) := by decide +kernel
theorem dX7_keep_70 : decode cX7_keep 70 = .ok (.aload_n 0, 1) := by decide +kernel
theorem dX7_keep_71 : decode cX7_keep 71 = .ok (.getfield 163, 3) := by decide +kernel
theorem dX7_keep_74 : decode cX7_keep 74 = .ok (.iastore, 1) := by decide +kernel
theorem dX7_keep_75 : decode cX7_keep 75 = .ok (.aload_n 0, 1) := by decide +kernel
theorem dX7_keep_76 : decode cX7_keep 76 = .ok (.getfield 29, 3) := by decide +kernel
theorem dX7_keep_79 : decode cX7_keep 79 = .ok (.bipush 15, 2) := by decide +kernel
theorem dX7_keep_81 : decode cX7_keep 81 = .ok (.iload_n 1, 1) := by decide +kernel
theorem dX7_keep_82 : decode cX7_keep 82 = .ok (.imul, 1) := by decide +kernel
theorem dX7_keep_83 : decode cX7_keep 83 = .ok (.bipush 14, 2) := by decide +kernel
theorem dX7_keep_85 : decode cX7_keep 85 = .ok (.iadd, 1) := by decide +kernel
theorem dX7_keep_86 : decode cX7_keep 86 = .ok (.aload_n 0, 1) := by decide +kernel
theorem dX7_keep_87 : decode cX7_keep 87 = .ok (.getfield 166, 3) := by decide +kernel
theorem dX7_keep_90 : decode cX7_keep 90 = .ok (.iastore, 1) := by decide +kernel
theorem dX7_keep_91 : decode cX7_keep 91 = .ok (.aload_n 0, 1) := by decide +kernel
theorem dX7_keep_92 : decode cX7_keep 92 = .ok (.getfield 32, 3) := by decide +kernel
theorem dX7_keep_95 : decode cX7_keep 95 = .ok (.iload_n 1, 1) := by decide +kernel
theorem dX7_keep_96 : decode cX7_keep 96 = .ok (.iconst 1, 1) := by decide +kernel
theorem dX7_keep_97 : decode cX7_keep 97 = .ok (.bastore, 1) := by decide +kernel
theorem dX7_keep_98 : decode cX7_keep 98 = .ok (.aload_n 0, 1) := by decide +kernel
theorem dX7_keep_99 : decode cX7_keep 99 = .ok (.getfield 166, 3) := by decide +kernel
theorem dX7_keep_102 : decode cX7_keep 102 = .ok (.ireturn, 1) := by decide +kernel
theorem dX7_back_0 : decode cX7_back 0 = .ok (.iload_n 1, 1) := by decide +kernel
theorem dX7_back_1 : decode cX7_back 1 = .ok (.iconst 0, 1) := by decide +kernel
theorem dX7_back_2 : decode cX7_back 2 = .ok (.iconst 1, 1) := by decide +kernel
theorem dX7_back_3 : decode cX7_back 3 = .ok (.invokestatic 65, 3) := by decide +kernel
theorem dX7_back_6 : decode cX7_back 6 = .ok (.ifCond .ne 6, 3) := by decide +kernel
theorem dX7_back_9 : decode cX7_back 9 = .ok (.bipush (-2), 2) := by decide +kernel
theorem dX7_back_11 : decode cX7_back 11 = .ok (.ireturn, 1) := by decide +kernel
theorem dX7_back_12 : decode cX7_back 12 = .ok (.aload_n 0, 1) := by decide +kernel
theorem dX7_back_13 : decode cX7_back 13 = .ok (.getfield 32, 3) := by decide +kernel
theorem dX7_back_16 : decode cX7_back 16 = .ok (.iload_n 1, 1) := by decide +kernel
theorem dX7_back_17 : decode cX7_back 17 = .ok (.baload, 1) := by decide +kernel
theorem dX7_back_18 : decode cX7_back 18 = .ok (.ifCond .ne 6, 3) := by decide +kernel
theorem dX7_back_21 : decode cX7_back 21 = .ok (.bipush (-4), 2) := by decide +kernel
theorem dX7_back_23 : decode cX7_back 23 = .ok (.ireturn, 1) := by decide +kernel
theorem dX7_back_24 : decode cX7_back 24 = .ok (.iconst 0, 1) := by decide +kernel
theorem dX7_back_25 : decode cX7_back 25 = .ok (.istore_n 2, 1) := by decide +kernel
theorem dX7_back_26 : decode cX7_back 26 = .ok (.iload_n 2, 1) := by decide +kernel
theorem dX7_back_27 : decode cX7_back 27 = .ok (.bipush 12, 2) := by decide +kernel
theorem dX7_back_29 : decode cX7_back 29 = .ok (.if_icmp .ge 26, 3) := by decide +kernel
theorem dX7_back_32 : decode cX7_back 32 = .ok (.aload_n 0, 1) := by decide +kernel
theorem dX7_back_33 : decode cX7_back 33 = .ok (.getfield 20, 3) := by decide +kernel
theorem dX7_back_36 : decode cX7_back 36 = .ok (.iload_n 2, 1) := by decide +kernel
theorem dX7_back_37 : decode cX7_back 37 = .ok (.aload_n 0, 1) := by decide +kernel
theorem dX7_back_38 : decode cX7_back 38 = .ok (.getfield 29, 3) := by decide +kernel
theorem dX7_back_41 : decode cX7_back 41 = .ok (.bipush 15, 2) := by decide +kernel
theorem dX7_back_43 : decode cX7_back 43 = .ok (.iload_n 1, 1) := by decide +kernel
theorem dX7_back_44 : decode cX7_back 44 = .ok (.imul, 1) := by decide +kernel
theorem dX7_back_45 : decode cX7_back 45 = .ok (.iload_n 2, 1) := by decide +kernel
theorem dX7_back_46 : decode cX7_back 46 = .ok (.iadd, 1) := by decide +kernel
theorem dX7_back_47 : decode cX7_back 47 = .ok (.iaload, 1) := by decide +kernel
theorem dX7_back_48 : decode cX7_back 48 = .ok (.iastore, 1) := by decide +kernel
theorem dX7_back_49 : decode cX7_back 49 = .ok (.iinc 2 1, 3) := by decide +kernel
theorem dX7_back_52 : decode cX7_back 52 = .ok (.goto (-26), 3) := by decide +kernel
theorem dX7_back_55 : decode cX7_back 55 = .ok (.aload_n 0, 1) := by decide +kernel
theorem dX7_back_56 : decode cX7_back 56 = .ok (.aload_n 0, 1) := by decide +kernel
theorem dX7_back_57 : decode cX7_back 57 = .ok (.getfield 29, 3) := by decide +kernel
theorem dX7_back_60 : decode cX7_back 60 = .ok (.bipush 15, 2) := by decide +kernel
theorem dX7_back_62 : decode cX7_back 62 = .ok (.iload_n 1, 1) := by decide +kernel
theorem dX7_back_63 : decode cX7_back 63 = .ok (.imul, 1) := by decide +kernel
theorem dX7_back_64 : decode cX7_back 64 = .ok (.bipush 12, 2) := by decide +kernel
theorem dX7_back_66 : decode cX7_back 66 = .ok (.iadd, 1) := by decide +kernel
theorem dX7_back_67 : decode cX7_back 67 = .ok (.iaload, 1) := by decide +kernel
theorem dX7_back_68 : decode cX7_back 68 = .ok (.putfield 160, 3) := by decide +kernel
theorem dX7_back_71 : decode cX7_back 71 = .ok (.aload_n 0, 1) := by decide +kernel
theorem dX7_back_72 : decode cX7_back 72 = .ok (.aload_n 0, 1) := by decide +kernel
theorem dX7_back_73 : decode cX7_back 73 = .ok (.getfield 29, 3) := by decide +kernel
theorem dX7_back_76 : decode cX7_back 76 = .ok (.bipush 15, 2) := by decide +kernel
theorem dX7_back_78 : decode cX7_back 78 = .ok (.iload_n 1, 1) := by decide +kernel
theorem dX7_back_79 : decode cX7_back 79 = .ok (.imul, 1) := by decide +kernel
theorem dX7_back_80 : decode cX7_back 80 = .ok (.bipush 13, 2) := by decide +kernel
theorem dX7_back_82 : decode cX7_back 82 = .ok (.iadd, 1) := by decide +kernel
theorem dX7_back_83 : decode cX7_back 83 = .ok (.iaload, 1) := by decide +kernel
theorem dX7_back_84 : decode cX7_back 84 = .ok (.putfield 163, 3) := by decide +kernel
theorem dX7_back_87 : decode cX7_back 87 = .ok (.aload_n 0, 1) := by decide +kernel
theorem dX7_back_88 : decode cX7_back 88 = .ok (.aload_n 0, 1) := by decide +kernel
theorem dX7_back_89 : decode cX7_back 89 = .ok (.getfield 29, 3) := by decide +kernel
theorem dX7_back_92 : decode cX7_back 92 = .ok (.bipush 15, 2) := by decide +kernel
theorem dX7_back_94 : decode cX7_back 94 = .ok (.iload_n 1, 1) := by decide +kernel
theorem dX7_back_95 : decode cX7_back 95 = .ok (.imul, 1) := by decide +kernel
theorem dX7_back_96 : decode cX7_back 96 = .ok (.bipush 14, 2) := by decide +kernel
theorem dX7_back_98 : decode cX7_back 98 = .ok (.iadd, 1) := by decide +kernel
theorem dX7_back_99 : decode cX7_back 99 = .ok (.iaload, 1) := by decide +kernel
theorem dX7_back_100 : decode cX7_back 100 = .ok (.putfield 166, 3) := by decide +kernel
theorem dX7_back_103 : decode cX7_back 103 = .ok (.aload_n 0, 1) := by decide +kernel
theorem dX7_back_104 : decode cX7_back 104 = .ok (.getfield 166, 3) := by decide +kernel
theorem dX7_back_107 : decode cX7_back 107 = .ok (.ireturn, 1) := by decide +kernel
theorem dX7_home_0 : decode cX7_home 0 = .ok (.iload_n 1, 1) := by decide +kernel
theorem dX7_home_1 : decode cX7_home 1 = .ok (.iconst 0, 1) := by decide +kernel
theorem dX7_home_2 : decode cX7_home 2 = .ok (.iconst 4, 1) := by decide +kernel
theorem dX7_home_3 : decode cX7_home 3 = .ok (.invokestatic 65, 3) := by decide +kernel
theorem dX7_home_6 : decode cX7_home 6 = .ok (.ifCond .ne 6, 3) := by decide +kernel
theorem dX7_home_9 : decode cX7_home 9 = .ok (.bipush (-3), 2) := by decide +kernel
theorem dX7_home_11 : decode cX7_home 11 = .ok (.ireturn, 1) := by decide +kernel
theorem dX7_home_12 : decode cX7_home 12 = .ok (.aload_n 0, 1) := by decide +kernel
theorem dX7_home_13 : decode cX7_home 13 = .ok (.getfield 160, 3) := by decide +kernel
theorem dX7_home_16 : decode cX7_home 16 = .ok (.istore_n 2, 1) := by decide +kernel
theorem dX7_home_17 : decode cX7_home 17 = .ok (.aload_n 0, 1) := by decide +kernel
theorem dX7_home_18 : decode cX7_home 18 = .ok (.getfield 163, 3) := by decide +kernel
theorem dX7_home_21 : decode cX7_home 21 = .ok (.istore_n 3, 1) := by decide +kernel
theorem dX7_home_22 : decode cX7_home 22 = .ok (.iconst 0, 1) := by decide +kernel
theorem dX7_home_23 : decode cX7_home 23 = .ok (.istore 4, 2) := by decide +kernel
theorem dX7_home_25 : decode cX7_home 25 = .ok (.iconst 0, 1) := by decide +kernel
theorem dX7_home_26 : decode cX7_home 26 = .ok (.istore 5, 2) := by decide +kernel
theorem dX7_home_28 : decode cX7_home 28 = .ok (.iload 5, 2) := by decide +kernel
theorem dX7_home_30 : decode cX7_home 30 = .ok (.ifCond .ne 76, 3) := by decide +kernel
theorem dX7_home_33 : decode cX7_home 33 = .ok (.iconst 5, 1) := by decide +kernel
theorem dX7_home_34 : decode cX7_home 34 = .ok (.iload_n 2, 1) := by decide +kernel
theorem dX7_home_35 : decode cX7_home 35 = .ok (.imul, 1) := by decide +kernel
theorem dX7_home_36 : decode cX7_home 36 = .ok (.iload_n 3, 1) := by decide +kernel
theorem dX7_home_37 : decode cX7_home 37 = .ok (.iload_n 1, 1) := by decide +kernel
theorem dX7_home_38 : decode cX7_home 38 = .ok (.iadd, 1) := by decide +kernel
theorem dX7_home_39 : decode cX7_home 39 = .ok (.iconst 5, 1) := by decide +kernel
theorem dX7_home_40 : decode cX7_home 40 = .ok (.irem, 1) := by decide +kernel
theorem dX7_home_41 : decode cX7_home 41 = .ok (.iadd, 1) := by decide +kernel
theorem dX7_home_42 : decode cX7_home 42 = .ok (.istore 6, 2) := by decide +kernel
theorem dX7_home_44 : decode cX7_home 44 = .ok (.aload_n 0, 1) := by decide +kernel
theorem dX7_home_45 : decode cX7_home 45 = .ok (.getfield 13, 3) := by decide +kernel
theorem dX7_home_48 : decode cX7_home 48 = .ok (.iload 6, 2) := by decide +kernel
theorem dX7_home_50 : decode cX7_home 50 = .ok (.baload, 1) := by decide +kernel
theorem dX7_home_51 : decode cX7_home 51 = .ok (.ifCond .eq 5, 3) := by decide +kernel
theorem dX7_home_54 : decode cX7_home 54 = .ok (.iconst (-1), 1) := by decide +kernel
theorem dX7_home_55 : decode cX7_home 55 = .ok (.ireturn, 1) := by decide +kernel
theorem dX7_home_56 : decode cX7_home 56 = .ok (.aload_n 0, 1) := by decide +kernel
theorem dX7_home_57 : decode cX7_home 57 = .ok (.aload_n 0, 1) := by decide +kernel
theorem dX7_home_58 : decode cX7_home 58 = .ok (.getfield 7, 3) := by decide +kernel
theorem dX7_home_61 : decode cX7_home 61 = .ok (.iload 6, 2) := by decide +kernel
theorem dX7_home_63 : decode cX7_home 63 = .ok (.iaload, 1) := by decide +kernel
theorem dX7_home_64 : decode cX7_home 64 = .ok (.iload_n 2, 1) := by decide +kernel
theorem dX7_home_65 : decode cX7_home 65 = .ok (.invokevirtual 117, 3) := by decide +kernel
theorem dX7_home_68 : decode cX7_home 68 = .ok (.istore_n 3, 1) := by decide +kernel
theorem dX7_home_69 : decode cX7_home 69 = .ok (.aload_n 0, 1) := by decide +kernel
theorem dX7_home_70 : decode cX7_home 70 = .ok (.getfield 7, 3) := by decide +kernel
theorem dX7_home_73 : decode cX7_home 73 = .ok (.iload 6, 2) := by decide +kernel
theorem dX7_home_75 : decode cX7_home 75 = .ok (.iaload, 1) := by decide +kernel
theorem dX7_home_76 : decode cX7_home 76 = .ok (.istore_n 2, 1) := by decide +kernel
theorem dX7_home_77 : decode cX7_home 77 = .ok (.iinc 4 1, 3) := by decide +kernel
theorem dX7_home_80 : decode cX7_home 80 = .ok (.iload_n 2, 1) := by decide +kernel
theorem dX7_home_81 : decode cX7_home 81 = .ok (.aload_n 0, 1) := by decide +kernel
theorem dX7_home_82 : decode cX7_home 82 = .ok (.getfield 160, 3) := by decide +kernel
theorem dX7_home_85 : decode cX7_home 85 = .ok (.if_icmp .ne 15, 3) := by decide +kernel
theorem dX7_home_88 : decode cX7_home 88 = .ok (.iload_n 3, 1) := by decide +kernel
theorem dX7_home_89 : decode cX7_home 89 = .ok (.aload_n 0, 1) := by decide +kernel
theorem dX7_home_90 : decode cX7_home 90 = .ok (.getfield 163, 3) := by decide +kernel
theorem dX7_home_93 : decode cX7_home 93 = .ok (.if_icmp .ne 7, 3) := by decide +kernel
theorem dX7_home_96 : decode cX7_home 96 = .ok (.iconst 1, 1) := by decide +kernel
theorem dX7_home_97 : decode cX7_home 97 = .ok (.goto 4, 3) := by decide +kernel
theorem dX7_home_100 : decode cX7_home 100 = .ok (.iconst 0, 1) := by decide +kernel
theorem dX7_home_101 : decode cX7_home 101 = .ok (.istore 5, 2) := by decide +kernel
theorem dX7_home_103 : decode cX7_home 103 = .ok (.goto (-75), 3) := by decide +kernel
theorem dX7_home_106 : decode cX7_home 106 = .ok (.iload 4, 2) := by decide +kernel
theorem dX7_home_108 : decode cX7_home 108 = .ok (.ireturn, 1) := by decide +kernel
theorem dX7_alike_0 : decode cX7_alike 0 = .ok (.iconst 0, 1) := by decide +kernel
theorem dX7_alike_1 : decode cX7_alike 1 = .ok (.istore_n 1, 1) := by decide +kernel
theorem dX7_alike_2 : decode cX7_alike 2 = .ok (.iconst 0, 1) := by decide +kernel
theorem dX7_alike_3 : decode cX7_alike 3 = .ok (.istore_n 2, 1) := by decide +kernel
theorem dX7_alike_4 : decode cX7_alike 4 = .ok (.iload_n 2, 1) := by decide +kernel
theorem dX7_alike_5 : decode cX7_alike 5 = .ok (.bipush 60, 2) := by decide +kernel
theorem dX7_alike_7 : decode cX7_alike 7 = .ok (.if_icmp .ge 81, 3) := by decide +kernel
theorem dX7_alike_10 : decode cX7_alike 10 = .ok (.aload_n 0, 1) := by decide +kernel
theorem dX7_alike_11 : decode cX7_alike 11 = .ok (.iload_n 2, 1) := by decide +kernel
theorem dX7_alike_12 : decode cX7_alike 12 = .ok (.iconst 5, 1) := by decide +kernel
theorem dX7_alike_13 : decode cX7_alike 13 = .ok (.idiv, 1) := by decide +kernel
theorem dX7_alike_14 : decode cX7_alike 14 = .ok (.iload_n 2, 1) := by decide +kernel
theorem dX7_alike_15 : decode cX7_alike 15 = .ok (.iconst 5, 1) := by decide +kernel
theorem dX7_alike_16 : decode cX7_alike 16 = .ok (.irem, 1) := by decide +kernel
theorem dX7_alike_17 : decode cX7_alike 17 = .ok (.invokevirtual 181, 3) := by decide +kernel
theorem dX7_alike_20 : decode cX7_alike 20 = .ok (.iconst 1, 1) := by decide +kernel
theorem dX7_alike_21 : decode cX7_alike 21 = .ok (.istore_n 3, 1) := by decide +kernel
theorem dX7_alike_22 : decode cX7_alike 22 = .ok (.iconst 0, 1) := by decide +kernel
theorem dX7_alike_23 : decode cX7_alike 23 = .ok (.istore 4, 2) := by decide +kernel
theorem dX7_alike_25 : decode cX7_alike 25 = .ok (.iload 4, 2) := by decide +kernel
theorem dX7_alike_27 : decode cX7_alike 27 = .ok (.bipush 12, 2) := by decide +kernel
theorem dX7_alike_29 : decode cX7_alike 29 = .ok (.if_icmp .ge 41, 3) := by decide +kernel
theorem dX7_alike_32 : decode cX7_alike 32 = .ok (.iload_n 3, 1) := by decide +kernel
theorem dX7_alike_33 : decode cX7_alike 33 = .ok (.ifCond .eq 29, 3) := by decide +kernel
theorem dX7_alike_36 : decode cX7_alike 36 = .ok (.aload_n 0, 1) := by decide +kernel
theorem dX7_alike_37 : decode cX7_alike 37 = .ok (.getfield 20, 3) := by decide +kernel
theorem dX7_alike_40 : decode cX7_alike 40 = .ok (.aload_n 0, 1) := by decide +kernel
theorem dX7_alike_41 : decode cX7_alike 41 = .ok (.getfield 35, 3) := by decide +kernel
theorem dX7_alike_44 : decode cX7_alike 44 = .ok (.iload 4, 2) := by decide +kernel
theorem dX7_alike_46 : decode cX7_alike 46 = .ok (.iaload, 1) := by decide +kernel
theorem dX7_alike_47 : decode cX7_alike 47 = .ok (.iaload, 1) := by decide +kernel
theorem dX7_alike_48 : decode cX7_alike 48 = .ok (.aload_n 0, 1) := by decide +kernel
theorem dX7_alike_49 : decode cX7_alike 49 = .ok (.getfield 20, 3) := by decide +kernel
theorem dX7_alike_52 : decode cX7_alike 52 = .ok (.iload 4, 2) := by decide +kernel
theorem dX7_alike_54 : decode cX7_alike 54 = .ok (.iaload, 1) := by decide +kernel
theorem dX7_alike_55 : decode cX7_alike 55 = .ok (.if_icmp .ne 7, 3) := by decide +kernel
theorem dX7_alike_58 : decode cX7_alike 58 = .ok (.iconst 1, 1) := by decide +kernel
theorem dX7_alike_59 : decode cX7_alike 59 = .ok (.goto 4, 3) := by decide +kernel
theorem dX7_alike_62 : decode cX7_alike 62 = .ok (.iconst 0, 1) := by decide +kernel
theorem dX7_alike_63 : decode cX7_alike 63 = .ok (.istore_n 3, 1) := by decide +kernel
theorem dX7_alike_64 : decode cX7_alike 64 = .ok (.iinc 4 1, 3) := by decide +kernel
theorem dX7_alike_67 : decode cX7_alike 67 = .ok (.goto (-42), 3) := by decide +kernel
theorem dX7_alike_70 : decode cX7_alike 70 = .ok (.iload_n 1, 1) := by decide +kernel
theorem dX7_alike_71 : decode cX7_alike 71 = .ok (.iload_n 3, 1) := by decide +kernel
theorem dX7_alike_72 : decode cX7_alike 72 = .ok (.ifCond .eq 7, 3) := by decide +kernel
theorem dX7_alike_75 : decode cX7_alike 75 = .ok (.iconst 1, 1) := by decide +kernel
theorem dX7_alike_76 : decode cX7_alike 76 = .ok (.goto 4, 3) := by decide +kernel
theorem dX7_alike_79 : decode cX7_alike 79 = .ok (.iconst 0, 1) := by decide +kernel
theorem dX7_alike_80 : decode cX7_alike 80 = .ok (.iadd, 1) := by decide +kernel
theorem dX7_alike_81 : decode cX7_alike 81 = .ok (.istore_n 1, 1) := by decide +kernel
theorem dX7_alike_82 : decode cX7_alike 82 = .ok (.iinc 2 1, 3) := by decide +kernel
theorem dX7_alike_85 : decode cX7_alike 85 = .ok (.goto (-81), 3) := by decide +kernel
theorem dX7_alike_88 : decode cX7_alike 88 = .ok (.iload_n 1, 1) := by decide +kernel
theorem dX7_alike_89 : decode cX7_alike 89 = .ok (.ireturn, 1) := by decide +kernel
theorem dX7_like_0 : decode cX7_like 0 = .ok (.iload_n 1, 1) := by decide +kernel
theorem dX7_like_1 : decode cX7_like 1 = .ok (.iconst 0, 1) := by decide +kernel
theorem dX7_like_2 : decode cX7_like 2 = .ok (.iconst 1, 1) := by decide +kernel
theorem dX7_like_3 : decode cX7_like 3 = .ok (.invokestatic 65, 3) := by decide +kernel
theorem dX7_like_6 : decode cX7_like 6 = .ok (.ifCond .ne 6, 3) := by decide +kernel
theorem dX7_like_9 : decode cX7_like 9 = .ok (.bipush (-2), 2) := by decide +kernel
theorem dX7_like_11 : decode cX7_like 11 = .ok (.ireturn, 1) := by decide +kernel
theorem dX7_like_12 : decode cX7_like 12 = .ok (.aload_n 0, 1) := by decide +kernel
theorem dX7_like_13 : decode cX7_like 13 = .ok (.getfield 32, 3) := by decide +kernel
theorem dX7_like_16 : decode cX7_like 16 = .ok (.iload_n 1, 1) := by decide +kernel
theorem dX7_like_17 : decode cX7_like 17 = .ok (.baload, 1) := by decide +kernel
theorem dX7_like_18 : decode cX7_like 18 = .ok (.ifCond .ne 6, 3) := by decide +kernel
theorem dX7_like_21 : decode cX7_like 21 = .ok (.bipush (-4), 2) := by decide +kernel
theorem dX7_like_23 : decode cX7_like 23 = .ok (.ireturn, 1) := by decide +kernel
theorem dX7_like_24 : decode cX7_like 24 = .ok (.iconst 0, 1) := by decide +kernel
theorem dX7_like_25 : decode cX7_like 25 = .ok (.istore_n 2, 1) := by decide +kernel
theorem dX7_like_26 : decode cX7_like 26 = .ok (.iconst 0, 1) := by decide +kernel
theorem dX7_like_27 : decode cX7_like 27 = .ok (.istore_n 3, 1) := by decide +kernel
theorem dX7_like_28 : decode cX7_like 28 = .ok (.iload_n 3, 1) := by decide +kernel
theorem dX7_like_29 : decode cX7_like 29 = .ok (.bipush 60, 2) := by decide +kernel
theorem dX7_like_31 : decode cX7_like 31 = .ok (.if_icmp .ge 90, 3) := by decide +kernel
theorem dX7_like_34 : decode cX7_like 34 = .ok (.aload_n 0, 1) := by decide +kernel
theorem dX7_like_35 : decode cX7_like 35 = .ok (.iload_n 3, 1) := by decide +kernel
theorem dX7_like_36 : decode cX7_like 36 = .ok (.iconst 5, 1) := by decide +kernel
theorem dX7_like_37 : decode cX7_like 37 = .ok (.idiv, 1) := by decide +kernel
theorem dX7_like_38 : decode cX7_like 38 = .ok (.iload_n 3, 1) := by decide +kernel
theorem dX7_like_39 : decode cX7_like 39 = .ok (.iconst 5, 1) := by decide +kernel
theorem dX7_like_40 : decode cX7_like 40 = .ok (.irem, 1) := by decide +kernel
theorem dX7_like_41 : decode cX7_like 41 = .ok (.invokevirtual 181, 3) := by decide +kernel
theorem dX7_like_44 : decode cX7_like 44 = .ok (.iconst 1, 1) := by decide +kernel
theorem dX7_like_45 : decode cX7_like 45 = .ok (.istore 4, 2) := by decide +kernel
theorem dX7_like_47 : decode cX7_like 47 = .ok (.iconst 0, 1) := by decide +kernel
theorem dX7_like_48 : decode cX7_like 48 = .ok (.istore 5, 2) := by decide +kernel
theorem dX7_like_50 : decode cX7_like 50 = .ok (.iload 5, 2) := by decide +kernel
theorem dX7_like_52 : decode cX7_like 52 = .ok (.bipush 12, 2) := by decide +kernel
theorem dX7_like_54 : decode cX7_like 54 = .ok (.if_icmp .ge 48, 3) := by decide +kernel
theorem dX7_like_57 : decode cX7_like 57 = .ok (.iload 4, 2) := by decide +kernel
theorem dX7_like_59 : decode cX7_like 59 = .ok (.ifCond .eq 34, 3) := by decide +kernel
theorem dX7_like_62 : decode cX7_like 62 = .ok (.aload_n 0, 1) := by decide +kernel
theorem dX7_like_63 : decode cX7_like 63 = .ok (.getfield 29, 3) := by decide +kernel
theorem dX7_like_66 : decode cX7_like 66 = .ok (.bipush 15, 2) := by decide +kernel
theorem dX7_like_68 : decode cX7_like 68 = .ok (.iload_n 1, 1) := by decide +kernel
theorem dX7_like_69 : decode cX7_like 69 = .ok (.imul, 1) := by decide +kernel
theorem dX7_like_70 : decode cX7_like 70 = .ok (.aload_n 0, 1) := by decide +kernel
theorem dX7_like_71 : decode cX7_like 71 = .ok (.getfield 35, 3) := by decide +kernel
theorem dX7_like_74 : decode cX7_like 74 = .ok (.iload 5, 2) := by decide +kernel
theorem dX7_like_76 : decode cX7_like 76 = .ok (.iaload, 1) := by decide +kernel
theorem dX7_like_77 : decode cX7_like 77 = .ok (.iadd, 1) := by decide +kernel
theorem dX7_like_78 : decode cX7_like 78 = .ok (.iaload, 1) := by decide +kernel
theorem dX7_like_79 : decode cX7_like 79 = .ok (.aload_n 0, 1) := by decide +kernel
theorem dX7_like_80 : decode cX7_like 80 = .ok (.getfield 20, 3) := by decide +kernel
theorem dX7_like_83 : decode cX7_like 83 = .ok (.iload 5, 2) := by decide +kernel
theorem dX7_like_85 : decode cX7_like 85 = .ok (.iaload, 1) := by decide +kernel
theorem dX7_like_86 : decode cX7_like 86 = .ok (.if_icmp .ne 7, 3) := by decide +kernel
theorem dX7_like_89 : decode cX7_like 89 = .ok (.iconst 1, 1) := by decide +kernel
theorem dX7_like_90 : decode cX7_like 90 = .ok (.goto 4, 3) := by decide +kernel
theorem dX7_like_93 : decode cX7_like 93 = .ok (.iconst 0, 1) := by decide +kernel
theorem dX7_like_94 : decode cX7_like 94 = .ok (.istore 4, 2) := by decide +kernel
theorem dX7_like_96 : decode cX7_like 96 = .ok (.iinc 5 1, 3) := by decide +kernel
theorem dX7_like_99 : decode cX7_like 99 = .ok (.goto (-49), 3) := by decide +kernel
theorem dX7_like_102 : decode cX7_like 102 = .ok (.iload_n 2, 1) := by decide +kernel
theorem dX7_like_103 : decode cX7_like 103 = .ok (.iload 4, 2) := by decide +kernel
theorem dX7_like_105 : decode cX7_like 105 = .ok (.ifCond .eq 7, 3) := by decide +kernel
theorem dX7_like_108 : decode cX7_like 108 = .ok (.iconst 1, 1) := by decide +kernel
theorem dX7_like_109 : decode cX7_like 109 = .ok (.goto 4, 3) := by decide +kernel
theorem dX7_like_112 : decode cX7_like 112 = .ok (.iconst 0, 1) := by decide +kernel
theorem dX7_like_113 : decode cX7_like 113 = .ok (.iadd, 1) := by decide +kernel
theorem dX7_like_114 : decode cX7_like 114 = .ok (.istore_n 2, 1) := by decide +kernel
theorem dX7_like_115 : decode cX7_like 115 = .ok (.iinc 3 1, 3) := by decide +kernel
theorem dX7_like_118 : decode cX7_like 118 = .ok (.goto (-90), 3) := by decide +kernel
theorem dX7_like_121 : decode cX7_like 121 = .ok (.iload_n 2, 1) := by decide +kernel
theorem dX7_like_122 : decode cX7_like 122 = .ok (.ireturn, 1) := by decide +kernel
theorem dX7_fixedOf_0 : decode cX7_fixedOf 0 = .ok (.aload_n 0, 1) := by decide +kernel
theorem dX7_fixedOf_1 : decode cX7_fixedOf 1 = .ok (.iload_n 1, 1) := by decide +kernel
theorem dX7_fixedOf_2 : decode cX7_fixedOf 2 = .ok (.iload_n 2, 1) := by decide +kernel
theorem dX7_fixedOf_3 : decode cX7_fixedOf 3 = .ok (.invokevirtual 181, 3) := by decide +kernel
theorem dX7_fixedOf_6 : decode cX7_fixedOf 6 = .ok (.lconst 1, 1) := by decide +kernel
theorem dX7_fixedOf_7 : decode cX7_fixedOf 7 = .ok (.lstore 4, 2) := by decide +kernel
theorem dX7_fixedOf_9 : decode cX7_fixedOf 9 = .ok (.iconst 0, 1) := by decide +kernel
theorem dX7_fixedOf_10 : decode cX7_fixedOf 10 = .ok (.istore 6, 2) := by decide +kernel
theorem dX7_fixedOf_12 : decode cX7_fixedOf 12 = .ok (.iconst 0, 1) := by decide +kernel
theorem dX7_fixedOf_13 : decode cX7_fixedOf 13 = .ok (.istore 7, 2) := by decide +kernel
theorem dX7_fixedOf_15 : decode cX7_fixedOf 15 = .ok (.iload 7, 2) := by decide +kernel
theorem dX7_fixedOf_17 : decode cX7_fixedOf 17 = .ok (.bipush 12, 2) := by decide +kernel
theorem dX7_fixedOf_19 : decode cX7_fixedOf 19 = .ok (.if_icmp .ge 61, 3) := by decide +kernel
theorem dX7_fixedOf_22 : decode cX7_fixedOf 22 = .ok (.iload 6, 2) := by decide +kernel
theorem dX7_fixedOf_24 : decode cX7_fixedOf 24 = .ok (.iload 7, 2) := by decide +kernel
theorem dX7_fixedOf_26 : decode cX7_fixedOf 26 = .ok (.invokestatic 175, 3) := by decide +kernel
theorem dX7_fixedOf_29 : decode cX7_fixedOf 29 = .ok (.ifCond .ne 45, 3) := by decide +kernel
theorem dX7_fixedOf_32 : decode cX7_fixedOf 32 = .ok (.lload 4, 2) := by decide +kernel
theorem dX7_fixedOf_34 : decode cX7_fixedOf 34 = .ok (.iload_n 3, 1) := by decide +kernel
theorem dX7_fixedOf_35 : decode cX7_fixedOf 35 = .ok (.i2l, 1) := by decide +kernel
theorem dX7_fixedOf_36 : decode cX7_fixedOf 36 = .ok (.lmul, 1) := by decide +kernel
theorem dX7_fixedOf_37 : decode cX7_fixedOf 37 = .ok (.lstore 4, 2) := by decide +kernel
theorem dX7_fixedOf_39 : decode cX7_fixedOf 39 = .ok (.iload 7, 2) := by decide +kernel
theorem dX7_fixedOf_41 : decode cX7_fixedOf 41 = .ok (.istore 8, 2) := by decide +kernel
theorem dX7_fixedOf_43 : decode cX7_fixedOf 43 = .ok (.iload 6, 2) := by decide +kernel
theorem dX7_fixedOf_45 : decode cX7_fixedOf 45 = .ok (.iload 8, 2) := by decide +kernel
theorem dX7_fixedOf_47 : decode cX7_fixedOf 47 = .ok (.invokestatic 175, 3) := by decide +kernel
theorem dX7_fixedOf_50 : decode cX7_fixedOf 50 = .ok (.ifCond .ne 24, 3) := by decide +kernel
theorem dX7_fixedOf_53 : decode cX7_fixedOf 53 = .ok (.iload 6, 2) := by decide +kernel
theorem dX7_fixedOf_55 : decode cX7_fixedOf 55 = .ok (.iconst 1, 1) := by decide +kernel
theorem dX7_fixedOf_56 : decode cX7_fixedOf 56 = .ok (.iload 8, 2) := by decide +kernel
theorem dX7_fixedOf_58 : decode cX7_fixedOf 58 = .ok (.ishl, 1) := by decide +kernel
theorem dX7_fixedOf_59 : decode cX7_fixedOf 59 = .ok (.ior, 1) := by decide +kernel
theorem dX7_fixedOf_60 : decode cX7_fixedOf 60 = .ok (.istore 6, 2) := by decide +kernel
theorem dX7_fixedOf_62 : decode cX7_fixedOf 62 = .ok (.aload_n 0, 1) := by decide +kernel
theorem dX7_fixedOf_63 : decode cX7_fixedOf 63 = .ok (.getfield 35, 3) := by decide +kernel
theorem dX7_fixedOf_66 : decode cX7_fixedOf 66 = .ok (.iload 8, 2) := by decide +kernel
theorem dX7_fixedOf_68 : decode cX7_fixedOf 68 = .ok (.iaload, 1) := by decide +kernel
theorem dX7_fixedOf_69 : decode cX7_fixedOf 69 = .ok (.istore 8, 2) := by decide +kernel
theorem dX7_fixedOf_71 : decode cX7_fixedOf 71 = .ok (.goto (-28), 3) := by decide +kernel
theorem dX7_fixedOf_74 : decode cX7_fixedOf 74 = .ok (.iinc 7 1, 3) := by decide +kernel
theorem dX7_fixedOf_77 : decode cX7_fixedOf 77 = .ok (.goto (-62), 3) := by decide +kernel
theorem dX7_fixedOf_80 : decode cX7_fixedOf 80 = .ok (.lload 4, 2) := by decide +kernel
theorem dX7_fixedOf_82 : decode cX7_fixedOf 82 = .ok (.lreturn, 1) := by decide +kernel
theorem dX7_fixed_0 : decode cX7_fixed 0 = .ok (.iload_n 1, 1) := by decide +kernel
theorem dX7_fixed_1 : decode cX7_fixed 1 = .ok (.invokestatic 169, 3) := by decide +kernel
theorem dX7_fixed_4 : decode cX7_fixed 4 = .ok (.ifCond .eq 10, 3) := by decide +kernel
theorem dX7_fixed_7 : decode cX7_fixed 7 = .ok (.iload_n 2, 1) := by decide +kernel
theorem dX7_fixed_8 : decode cX7_fixed 8 = .ok (.invokestatic 172, 3) := by decide +kernel
theorem dX7_fixed_11 : decode cX7_fixed 11 = .ok (.ifCond .ne 7, 3) := by decide +kernel
theorem dX7_fixed_14 : decode cX7_fixed 14 = .ok (.ldc2_w 87, 3) := by decide +kernel
theorem dX7_fixed_17 : decode cX7_fixed 17 = .ok (.lreturn, 1) := by decide +kernel
theorem dX7_fixed_18 : decode cX7_fixed 18 = .ok (.iload_n 3, 1) := by decide +kernel
theorem dX7_fixed_19 : decode cX7_fixed 19 = .ok (.iconst 1, 1) := by decide +kernel
theorem dX7_fixed_20 : decode cX7_fixed 20 = .ok (.bipush 8, 2) := by decide +kernel
theorem dX7_fixed_22 : decode cX7_fixed 22 = .ok (.invokestatic 65, 3) := by decide +kernel
theorem dX7_fixed_25 : decode cX7_fixed 25 = .ok (.ifCond .eq 13, 3) := by decide +kernel
theorem dX7_fixed_28 : decode cX7_fixed 28 = .ok (.aload_n 0, 1) := by decide +kernel
theorem dX7_fixed_29 : decode cX7_fixed 29 = .ok (.iload_n 1, 1) := by decide +kernel
theorem dX7_fixed_30 : decode cX7_fixed 30 = .ok (.iload_n 2, 1) := by decide +kernel
theorem dX7_fixed_31 : decode cX7_fixed 31 = .ok (.iload_n 3, 1) := by decide +kernel
theorem dX7_fixed_32 : decode cX7_fixed 32 = .ok (.invokevirtual 194, 3) := by decide +kernel
theorem dX7_fixed_35 : decode cX7_fixed 35 = .ok (.goto 6, 3) := by decide +kernel
theorem dX7_fixed_38 : decode cX7_fixed 38 = .ok (.ldc2_w 101, 3) := by decide +kernel
theorem dX7_fixed_41 : decode cX7_fixed 41 = .ok (.lreturn, 1) := by decide +kernel
theorem dX7_unlike_0 : decode cX7_unlike 0 = .ok (.iload_n 1, 1) := by decide +kernel
theorem dX7_unlike_1 : decode cX7_unlike 1 = .ok (.iconst 1, 1) := by decide +kernel
theorem dX7_unlike_2 : decode cX7_unlike 2 = .ok (.bipush 8, 2) := by decide +kernel
theorem dX7_unlike_4 : decode cX7_unlike 4 = .ok (.invokestatic 65, 3) := by decide +kernel
theorem dX7_unlike_7 : decode cX7_unlike 7 = .ok (.ifCond .ne 7, 3) := by decide +kernel
theorem dX7_unlike_10 : decode cX7_unlike 10 = .ok (.ldc2_w 101, 3) := by decide +kernel
end
section
theorem dX7_unlike_13 : decode cX7_unlike 13 = .ok (.lreturn, 1) := by decide +kernel
theorem dX7_unlike_14 : decode cX7_unlike 14 = .ok (.lconst 0, 1) := by decide +kernel
theorem dX7_unlike_15 : decode cX7_unlike 15 = .ok (.lstore_n 2, 1) := by decide +kernel
theorem dX7_unlike_16 : decode cX7_unlike 16 = .ok (.iconst 0, 1) := by decide +kernel
theorem dX7_unlike_17 : decode cX7_unlike 17 = .ok (.istore 4, 2) := by decide +kernel
theorem dX7_unlike_19 : decode cX7_unlike 19 = .ok (.iload 4, 2) := by decide +kernel
theorem dX7_unlike_21 : decode cX7_unlike 21 = .ok (.bipush 60, 2) := by decide +kernel
theorem dX7_unlike_23 : decode cX7_unlike 23 = .ok (.if_icmp .ge 25, 3) := by decide +kernel
theorem dX7_unlike_26 : decode cX7_unlike 26 = .ok (.lload_n 2, 1) := by decide +kernel
theorem dX7_unlike_27 : decode cX7_unlike 27 = .ok (.aload_n 0, 1) := by decide +kernel
theorem dX7_unlike_28 : decode cX7_unlike 28 = .ok (.iload 4, 2) := by decide +kernel
theorem dX7_unlike_30 : decode cX7_unlike 30 = .ok (.iconst 5, 1) := by decide +kernel
theorem dX7_unlike_31 : decode cX7_unlike 31 = .ok (.idiv, 1) := by decide +kernel
theorem dX7_unlike_32 : decode cX7_unlike 32 = .ok (.iload 4, 2) := by decide +kernel
theorem dX7_unlike_34 : decode cX7_unlike 34 = .ok (.iconst 5, 1) := by decide +kernel
theorem dX7_unlike_35 : decode cX7_unlike 35 = .ok (.irem, 1) := by decide +kernel
theorem dX7_unlike_36 : decode cX7_unlike 36 = .ok (.iload_n 1, 1) := by decide +kernel
theorem dX7_unlike_37 : decode cX7_unlike 37 = .ok (.invokevirtual 194, 3) := by decide +kernel
theorem dX7_unlike_40 : decode cX7_unlike 40 = .ok (.ladd, 1) := by decide +kernel
theorem dX7_unlike_41 : decode cX7_unlike 41 = .ok (.lstore_n 2, 1) := by decide +kernel
theorem dX7_unlike_42 : decode cX7_unlike 42 = .ok (.iinc 4 1, 3) := by decide +kernel
theorem dX7_unlike_45 : decode cX7_unlike 45 = .ok (.goto (-26), 3) := by decide +kernel
theorem dX7_unlike_48 : decode cX7_unlike 48 = .ok (.lload_n 2, 1) := by decide +kernel
theorem dX7_unlike_49 : decode cX7_unlike 49 = .ok (.ldc2_w 198, 3) := by decide +kernel
theorem dX7_unlike_52 : decode cX7_unlike 52 = .ok (.ldiv, 1) := by decide +kernel
theorem dX7_unlike_53 : decode cX7_unlike 53 = .ok (.lreturn, 1) := by decide +kernel
theorem dX7_bits_0 : decode cX7_bits 0 = .ok (.iconst 0, 1) := by decide +kernel
theorem dX7_bits_1 : decode cX7_bits 1 = .ok (.istore_n 1, 1) := by decide +kernel
theorem dX7_bits_2 : decode cX7_bits 2 = .ok (.iconst 0, 1) := by decide +kernel
theorem dX7_bits_3 : decode cX7_bits 3 = .ok (.istore_n 2, 1) := by decide +kernel
theorem dX7_bits_4 : decode cX7_bits 4 = .ok (.iload_n 2, 1) := by decide +kernel
theorem dX7_bits_5 : decode cX7_bits 5 = .ok (.bipush 12, 2) := by decide +kernel
theorem dX7_bits_7 : decode cX7_bits 7 = .ok (.if_icmp .ge 17, 3) := by decide +kernel
theorem dX7_bits_10 : decode cX7_bits 10 = .ok (.iload_n 1, 1) := by decide +kernel
theorem dX7_bits_11 : decode cX7_bits 11 = .ok (.iload_n 0, 1) := by decide +kernel
theorem dX7_bits_12 : decode cX7_bits 12 = .ok (.iload_n 2, 1) := by decide +kernel
theorem dX7_bits_13 : decode cX7_bits 13 = .ok (.ishr, 1) := by decide +kernel
theorem dX7_bits_14 : decode cX7_bits 14 = .ok (.iconst 1, 1) := by decide +kernel
theorem dX7_bits_15 : decode cX7_bits 15 = .ok (.iand, 1) := by decide +kernel
theorem dX7_bits_16 : decode cX7_bits 16 = .ok (.iadd, 1) := by decide +kernel
theorem dX7_bits_17 : decode cX7_bits 17 = .ok (.istore_n 1, 1) := by decide +kernel
theorem dX7_bits_18 : decode cX7_bits 18 = .ok (.iinc 2 1, 3) := by decide +kernel
theorem dX7_bits_21 : decode cX7_bits 21 = .ok (.goto (-17), 3) := by decide +kernel
theorem dX7_bits_24 : decode cX7_bits 24 = .ok (.iload_n 1, 1) := by decide +kernel
theorem dX7_bits_25 : decode cX7_bits 25 = .ok (.ireturn, 1) := by decide +kernel
theorem dX7_wardens_0 : decode cX7_wardens 0 = .ok (.iload_n 1, 1) := by decide +kernel
theorem dX7_wardens_1 : decode cX7_wardens 1 = .ok (.iconst 0, 1) := by decide +kernel
theorem dX7_wardens_2 : decode cX7_wardens 2 = .ok (.iconst 2, 1) := by decide +kernel
theorem dX7_wardens_3 : decode cX7_wardens 3 = .ok (.invokestatic 65, 3) := by decide +kernel
theorem dX7_wardens_6 : decode cX7_wardens 6 = .ok (.ifCond .ne 6, 3) := by decide +kernel
theorem dX7_wardens_9 : decode cX7_wardens 9 = .ok (.bipush (-3), 2) := by decide +kernel
theorem dX7_wardens_11 : decode cX7_wardens 11 = .ok (.ireturn, 1) := by decide +kernel
theorem dX7_wardens_12 : decode cX7_wardens 12 = .ok (.iconst (-1), 1) := by decide +kernel
theorem dX7_wardens_13 : decode cX7_wardens 13 = .ok (.istore_n 2, 1) := by decide +kernel
theorem dX7_wardens_14 : decode cX7_wardens 14 = .ok (.iconst 0, 1) := by decide +kernel
theorem dX7_wardens_15 : decode cX7_wardens 15 = .ok (.istore_n 3, 1) := by decide +kernel
theorem dX7_wardens_16 : decode cX7_wardens 16 = .ok (.iconst 0, 1) := by decide +kernel
theorem dX7_wardens_17 : decode cX7_wardens 17 = .ok (.istore 4, 2) := by decide +kernel
theorem dX7_wardens_19 : decode cX7_wardens 19 = .ok (.iload 4, 2) := by decide +kernel
theorem dX7_wardens_21 : decode cX7_wardens 21 = .ok (.sipush 4096, 3) := by decide +kernel
theorem dX7_wardens_24 : decode cX7_wardens 24 = .ok (.if_icmp .ge 128, 3) := by decide +kernel
theorem dX7_wardens_27 : decode cX7_wardens 27 = .ok (.iload 4, 2) := by decide +kernel
theorem dX7_wardens_29 : decode cX7_wardens 29 = .ok (.invokestatic 200, 3) := by decide +kernel
theorem dX7_wardens_32 : decode cX7_wardens 32 = .ok (.istore 5, 2) := by decide +kernel
theorem dX7_wardens_34 : decode cX7_wardens 34 = .ok (.iload_n 2, 1) := by decide +kernel
theorem dX7_wardens_35 : decode cX7_wardens 35 = .ok (.iconst (-1), 1) := by decide +kernel
theorem dX7_wardens_36 : decode cX7_wardens 36 = .ok (.if_icmp .eq 12, 3) := by decide +kernel
theorem dX7_wardens_39 : decode cX7_wardens 39 = .ok (.iload 5, 2) := by decide +kernel
theorem dX7_wardens_41 : decode cX7_wardens 41 = .ok (.iload_n 2, 1) := by decide +kernel
theorem dX7_wardens_42 : decode cX7_wardens 42 = .ok (.invokestatic 200, 3) := by decide +kernel
theorem dX7_wardens_45 : decode cX7_wardens 45 = .ok (.if_icmp .gt 7, 3) := by decide +kernel
theorem dX7_wardens_48 : decode cX7_wardens 48 = .ok (.iconst 1, 1) := by decide +kernel
theorem dX7_wardens_49 : decode cX7_wardens 49 = .ok (.goto 4, 3) := by decide +kernel
theorem dX7_wardens_52 : decode cX7_wardens 52 = .ok (.iconst 0, 1) := by decide +kernel
theorem dX7_wardens_53 : decode cX7_wardens 53 = .ok (.istore 6, 2) := by decide +kernel
theorem dX7_wardens_55 : decode cX7_wardens 55 = .ok (.iconst 0, 1) := by decide +kernel
theorem dX7_wardens_56 : decode cX7_wardens 56 = .ok (.istore 7, 2) := by decide +kernel
theorem dX7_wardens_58 : decode cX7_wardens 58 = .ok (.iload 7, 2) := by decide +kernel
theorem dX7_wardens_60 : decode cX7_wardens 60 = .ok (.bipush 12, 2) := by decide +kernel
theorem dX7_wardens_62 : decode cX7_wardens 62 = .ok (.if_icmp .ge 33, 3) := by decide +kernel
theorem dX7_wardens_65 : decode cX7_wardens 65 = .ok (.iload 6, 2) := by decide +kernel
theorem dX7_wardens_67 : decode cX7_wardens 67 = .ok (.ifCond .eq 28, 3) := by decide +kernel
theorem dX7_wardens_70 : decode cX7_wardens 70 = .ok (.aload_n 0, 1) := by decide +kernel
theorem dX7_wardens_71 : decode cX7_wardens 71 = .ok (.iload 7, 2) := by decide +kernel
theorem dX7_wardens_73 : decode cX7_wardens 73 = .ok (.invokevirtual 184, 3) := by decide +kernel
theorem dX7_wardens_76 : decode cX7_wardens 76 = .ok (.iload 4, 2) := by decide +kernel
theorem dX7_wardens_78 : decode cX7_wardens 78 = .ok (.iand, 1) := by decide +kernel
theorem dX7_wardens_79 : decode cX7_wardens 79 = .ok (.ifCond .eq 7, 3) := by decide +kernel
theorem dX7_wardens_82 : decode cX7_wardens 82 = .ok (.iconst 1, 1) := by decide +kernel
theorem dX7_wardens_83 : decode cX7_wardens 83 = .ok (.goto 4, 3) := by decide +kernel
theorem dX7_wardens_86 : decode cX7_wardens 86 = .ok (.iconst 0, 1) := by decide +kernel
theorem dX7_wardens_87 : decode cX7_wardens 87 = .ok (.istore 6, 2) := by decide +kernel
theorem dX7_wardens_89 : decode cX7_wardens 89 = .ok (.iinc 7 1, 3) := by decide +kernel
theorem dX7_wardens_92 : decode cX7_wardens 92 = .ok (.goto (-34), 3) := by decide +kernel
theorem dX7_wardens_95 : decode cX7_wardens 95 = .ok (.iload 6, 2) := by decide +kernel
theorem dX7_wardens_97 : decode cX7_wardens 97 = .ok (.ifCond .eq 49, 3) := by decide +kernel
theorem dX7_wardens_100 : decode cX7_wardens 100 = .ok (.iload_n 2, 1) := by decide +kernel
theorem dX7_wardens_101 : decode cX7_wardens 101 = .ok (.iconst (-1), 1) := by decide +kernel
theorem dX7_wardens_102 : decode cX7_wardens 102 = .ok (.if_icmp .eq 12, 3) := by decide +kernel
theorem dX7_wardens_105 : decode cX7_wardens 105 = .ok (.iload 5, 2) := by decide +kernel
theorem dX7_wardens_107 : decode cX7_wardens 107 = .ok (.iload_n 2, 1) := by decide +kernel
theorem dX7_wardens_108 : decode cX7_wardens 108 = .ok (.invokestatic 200, 3) := by decide +kernel
theorem dX7_wardens_111 : decode cX7_wardens 111 = .ok (.if_icmp .ge 7, 3) := by decide +kernel
theorem dX7_wardens_114 : decode cX7_wardens 114 = .ok (.iconst 1, 1) := by decide +kernel
theorem dX7_wardens_115 : decode cX7_wardens 115 = .ok (.goto 4, 3) := by decide +kernel
theorem dX7_wardens_118 : decode cX7_wardens 118 = .ok (.iconst 0, 1) := by decide +kernel
theorem dX7_wardens_119 : decode cX7_wardens 119 = .ok (.istore 7, 2) := by decide +kernel
theorem dX7_wardens_121 : decode cX7_wardens 121 = .ok (.iload 7, 2) := by decide +kernel
theorem dX7_wardens_123 : decode cX7_wardens 123 = .ok (.ifCond .eq 7, 3) := by decide +kernel
theorem dX7_wardens_126 : decode cX7_wardens 126 = .ok (.iconst 1, 1) := by decide +kernel
theorem dX7_wardens_127 : decode cX7_wardens 127 = .ok (.goto 6, 3) := by decide +kernel
theorem dX7_wardens_130 : decode cX7_wardens 130 = .ok (.iload_n 3, 1) := by decide +kernel
theorem dX7_wardens_131 : decode cX7_wardens 131 = .ok (.iconst 1, 1) := by decide +kernel
theorem dX7_wardens_132 : decode cX7_wardens 132 = .ok (.iadd, 1) := by decide +kernel
theorem dX7_wardens_133 : decode cX7_wardens 133 = .ok (.istore_n 3, 1) := by decide +kernel
theorem dX7_wardens_134 : decode cX7_wardens 134 = .ok (.iload 7, 2) := by decide +kernel
theorem dX7_wardens_136 : decode cX7_wardens 136 = .ok (.ifCond .eq 8, 3) := by decide +kernel
theorem dX7_wardens_139 : decode cX7_wardens 139 = .ok (.iload 4, 2) := by decide +kernel
theorem dX7_wardens_141 : decode cX7_wardens 141 = .ok (.goto 4, 3) := by decide +kernel
theorem dX7_wardens_144 : decode cX7_wardens 144 = .ok (.iload_n 2, 1) := by decide +kernel
theorem dX7_wardens_145 : decode cX7_wardens 145 = .ok (.istore_n 2, 1) := by decide +kernel
theorem dX7_wardens_146 : decode cX7_wardens 146 = .ok (.iinc 4 1, 3) := by decide +kernel
theorem dX7_wardens_149 : decode cX7_wardens 149 = .ok (.goto (-130), 3) := by decide +kernel
theorem dX7_wardens_152 : decode cX7_wardens 152 = .ok (.iload_n 1, 1) := by decide +kernel
theorem dX7_wardens_153 : decode cX7_wardens 153 = .ok (.iconst 2, 1) := by decide +kernel
theorem dX7_wardens_154 : decode cX7_wardens 154 = .ok (.if_icmp .ne 7, 3) := by decide +kernel
theorem dX7_wardens_157 : decode cX7_wardens 157 = .ok (.iload_n 3, 1) := by decide +kernel
theorem dX7_wardens_158 : decode cX7_wardens 158 = .ok (.goto 21, 3) := by decide +kernel
theorem dX7_wardens_161 : decode cX7_wardens 161 = .ok (.iload_n 2, 1) := by decide +kernel
theorem dX7_wardens_162 : decode cX7_wardens 162 = .ok (.iconst (-1), 1) := by decide +kernel
theorem dX7_wardens_163 : decode cX7_wardens 163 = .ok (.if_icmp .eq 8, 3) := by decide +kernel
theorem dX7_wardens_166 : decode cX7_wardens 166 = .ok (.iload_n 1, 1) := by decide +kernel
theorem dX7_wardens_167 : decode cX7_wardens 167 = .ok (.iconst 1, 1) := by decide +kernel
theorem dX7_wardens_168 : decode cX7_wardens 168 = .ok (.if_icmp .ne 7, 3) := by decide +kernel
theorem dX7_wardens_171 : decode cX7_wardens 171 = .ok (.iload_n 2, 1) := by decide +kernel
theorem dX7_wardens_172 : decode cX7_wardens 172 = .ok (.goto 7, 3) := by decide +kernel
theorem dX7_wardens_175 : decode cX7_wardens 175 = .ok (.iload_n 2, 1) := by decide +kernel
theorem dX7_wardens_176 : decode cX7_wardens 176 = .ok (.invokestatic 200, 3) := by decide +kernel
theorem dX7_wardens_179 : decode cX7_wardens 179 = .ok (.ireturn, 1) := by decide +kernel
theorem dX7_insideOf_0 : decode cX7_insideOf 0 = .ok (.iconst 1, 1) := by decide +kernel
theorem dX7_insideOf_1 : decode cX7_insideOf 1 = .ok (.iload_n 1, 1) := by decide +kernel
theorem dX7_insideOf_2 : decode cX7_insideOf 2 = .ok (.ishl, 1) := by decide +kernel
theorem dX7_insideOf_3 : decode cX7_insideOf 3 = .ok (.istore_n 2, 1) := by decide +kernel
theorem dX7_insideOf_4 : decode cX7_insideOf 4 = .ok (.iconst 0, 1) := by decide +kernel
theorem dX7_insideOf_5 : decode cX7_insideOf 5 = .ok (.istore_n 3, 1) := by decide +kernel
theorem dX7_insideOf_6 : decode cX7_insideOf 6 = .ok (.iload_n 3, 1) := by decide +kernel
theorem dX7_insideOf_7 : decode cX7_insideOf 7 = .ok (.bipush 12, 2) := by decide +kernel
theorem dX7_insideOf_9 : decode cX7_insideOf 9 = .ok (.if_icmp .ge 47, 3) := by decide +kernel
theorem dX7_insideOf_12 : decode cX7_insideOf 12 = .ok (.iconst 0, 1) := by decide +kernel
theorem dX7_insideOf_13 : decode cX7_insideOf 13 = .ok (.istore 4, 2) := by decide +kernel
theorem dX7_insideOf_15 : decode cX7_insideOf 15 = .ok (.iload 4, 2) := by decide +kernel
theorem dX7_insideOf_17 : decode cX7_insideOf 17 = .ok (.bipush 12, 2) := by decide +kernel
theorem dX7_insideOf_19 : decode cX7_insideOf 19 = .ok (.if_icmp .ge 31, 3) := by decide +kernel
theorem dX7_insideOf_22 : decode cX7_insideOf 22 = .ok (.iload_n 2, 1) := by decide +kernel
theorem dX7_insideOf_23 : decode cX7_insideOf 23 = .ok (.iload_n 2, 1) := by decide +kernel
theorem dX7_insideOf_24 : decode cX7_insideOf 24 = .ok (.iload 4, 2) := by decide +kernel
theorem dX7_insideOf_26 : decode cX7_insideOf 26 = .ok (.invokestatic 175, 3) := by decide +kernel
theorem dX7_insideOf_29 : decode cX7_insideOf 29 = .ok (.ifCond .eq 12, 3) := by decide +kernel
theorem dX7_insideOf_32 : decode cX7_insideOf 32 = .ok (.aload_n 0, 1) := by decide +kernel
theorem dX7_insideOf_33 : decode cX7_insideOf 33 = .ok (.iload 4, 2) := by decide +kernel
theorem dX7_insideOf_35 : decode cX7_insideOf 35 = .ok (.invokevirtual 184, 3) := by decide +kernel
theorem dX7_insideOf_38 : decode cX7_insideOf 38 = .ok (.goto 4, 3) := by decide +kernel
theorem dX7_insideOf_41 : decode cX7_insideOf 41 = .ok (.iconst 0, 1) := by decide +kernel
theorem dX7_insideOf_42 : decode cX7_insideOf 42 = .ok (.ior, 1) := by decide +kernel
theorem dX7_insideOf_43 : decode cX7_insideOf 43 = .ok (.istore_n 2, 1) := by decide +kernel
theorem dX7_insideOf_44 : decode cX7_insideOf 44 = .ok (.iinc 4 1, 3) := by decide +kernel
theorem dX7_insideOf_47 : decode cX7_insideOf 47 = .ok (.goto (-32), 3) := by decide +kernel
theorem dX7_insideOf_50 : decode cX7_insideOf 50 = .ok (.iinc 3 1, 3) := by decide +kernel
theorem dX7_insideOf_53 : decode cX7_insideOf 53 = .ok (.goto (-47), 3) := by decide +kernel
theorem dX7_insideOf_56 : decode cX7_insideOf 56 = .ok (.iload_n 2, 1) := by decide +kernel
theorem dX7_insideOf_57 : decode cX7_insideOf 57 = .ok (.ireturn, 1) := by decide +kernel
theorem dX7_inside_0 : decode cX7_inside 0 = .ok (.iload_n 1, 1) := by decide +kernel
theorem dX7_inside_1 : decode cX7_inside 1 = .ok (.invokestatic 169, 3) := by decide +kernel
theorem dX7_inside_4 : decode cX7_inside 4 = .ok (.ifCond .eq 11, 3) := by decide +kernel
theorem dX7_inside_7 : decode cX7_inside 7 = .ok (.aload_n 0, 1) := by decide +kernel
theorem dX7_inside_8 : decode cX7_inside 8 = .ok (.iload_n 1, 1) := by decide +kernel
theorem dX7_inside_9 : decode cX7_inside 9 = .ok (.invokevirtual 203, 3) := by decide +kernel
theorem dX7_inside_12 : decode cX7_inside 12 = .ok (.goto 5, 3) := by decide +kernel
theorem dX7_inside_15 : decode cX7_inside 15 = .ok (.bipush (-2), 2) := by decide +kernel
theorem dX7_inside_17 : decode cX7_inside 17 = .ok (.ireturn, 1) := by decide +kernel
theorem dX7_layRounds_0 : decode cX7_layRounds 0 = .ok (.iconst 0, 1) := by decide +kernel
theorem dX7_layRounds_1 : decode cX7_layRounds 1 = .ok (.istore_n 1, 1) := by decide +kernel
theorem dX7_layRounds_2 : decode cX7_layRounds 2 = .ok (.iconst 1, 1) := by decide +kernel
theorem dX7_layRounds_3 : decode cX7_layRounds 3 = .ok (.istore_n 2, 1) := by decide +kernel
theorem dX7_layRounds_4 : decode cX7_layRounds 4 = .ok (.iconst 1, 1) := by decide +kernel
theorem dX7_layRounds_5 : decode cX7_layRounds 5 = .ok (.istore_n 3, 1) := by decide +kernel
theorem dX7_layRounds_6 : decode cX7_layRounds 6 = .ok (.aload_n 0, 1) := by decide +kernel
theorem dX7_layRounds_7 : decode cX7_layRounds 7 = .ok (.getfield 41, 3) := by decide +kernel
theorem dX7_layRounds_10 : decode cX7_layRounds 10 = .ok (.iconst 0, 1) := by decide +kernel
theorem dX7_layRounds_11 : decode cX7_layRounds 11 = .ok (.iconst 0, 1) := by decide +kernel
theorem dX7_layRounds_12 : decode cX7_layRounds 12 = .ok (.iastore, 1) := by decide +kernel
theorem dX7_layRounds_13 : decode cX7_layRounds 13 = .ok (.aload_n 0, 1) := by decide +kernel
theorem dX7_layRounds_14 : decode cX7_layRounds 14 = .ok (.getfield 41, 3) := by decide +kernel
theorem dX7_layRounds_17 : decode cX7_layRounds 17 = .ok (.iconst 1, 1) := by decide +kernel
theorem dX7_layRounds_18 : decode cX7_layRounds 18 = .ok (.iconst 0, 1) := by decide +kernel
theorem dX7_layRounds_19 : decode cX7_layRounds 19 = .ok (.iastore, 1) := by decide +kernel
theorem dX7_layRounds_20 : decode cX7_layRounds 20 = .ok (.iload_n 2, 1) := by decide +kernel
theorem dX7_layRounds_21 : decode cX7_layRounds 21 = .ok (.ifCond .le 210, 3) := by decide +kernel
theorem dX7_layRounds_24 : decode cX7_layRounds 24 = .ok (.aload_n 0, 1) := by decide +kernel
theorem dX7_layRounds_25 : decode cX7_layRounds 25 = .ok (.getfield 41, 3) := by decide +kernel
theorem dX7_layRounds_28 : decode cX7_layRounds 28 = .ok (.iload_n 2, 1) := by decide +kernel
theorem dX7_layRounds_29 : decode cX7_layRounds 29 = .ok (.iaload, 1) := by decide +kernel
theorem dX7_layRounds_30 : decode cX7_layRounds 30 = .ok (.iconst 1, 1) := by decide +kernel
theorem dX7_layRounds_31 : decode cX7_layRounds 31 = .ok (.iadd, 1) := by decide +kernel
theorem dX7_layRounds_32 : decode cX7_layRounds 32 = .ok (.istore 4, 2) := by decide +kernel
theorem dX7_layRounds_34 : decode cX7_layRounds 34 = .ok (.aload_n 0, 1) := by decide +kernel
theorem dX7_layRounds_35 : decode cX7_layRounds 35 = .ok (.getfield 41, 3) := by decide +kernel
theorem dX7_layRounds_38 : decode cX7_layRounds 38 = .ok (.iload_n 2, 1) := by decide +kernel
theorem dX7_layRounds_39 : decode cX7_layRounds 39 = .ok (.iaload, 1) := by decide +kernel
theorem dX7_layRounds_40 : decode cX7_layRounds 40 = .ok (.ifCond .le 16, 3) := by decide +kernel
theorem dX7_layRounds_43 : decode cX7_layRounds 43 = .ok (.iload_n 3, 1) := by decide +kernel
theorem dX7_layRounds_44 : decode cX7_layRounds 44 = .ok (.iconst 1, 1) := by decide +kernel
theorem dX7_layRounds_45 : decode cX7_layRounds 45 = .ok (.aload_n 0, 1) := by decide +kernel
theorem dX7_layRounds_46 : decode cX7_layRounds 46 = .ok (.getfield 41, 3) := by decide +kernel
theorem dX7_layRounds_49 : decode cX7_layRounds 49 = .ok (.iload_n 2, 1) := by decide +kernel
theorem dX7_layRounds_50 : decode cX7_layRounds 50 = .ok (.iaload, 1) := by decide +kernel
theorem dX7_layRounds_51 : decode cX7_layRounds 51 = .ok (.ishl, 1) := by decide +kernel
theorem dX7_layRounds_52 : decode cX7_layRounds 52 = .ok (.iconst (-1), 1) := by decide +kernel
theorem dX7_layRounds_53 : decode cX7_layRounds 53 = .ok (.ixor, 1) := by decide +kernel
theorem dX7_layRounds_54 : decode cX7_layRounds 54 = .ok (.iand, 1) := by decide +kernel
theorem dX7_layRounds_55 : decode cX7_layRounds 55 = .ok (.istore_n 3, 1) := by decide +kernel
theorem dX7_layRounds_56 : decode cX7_layRounds 56 = .ok (.iload 4, 2) := by decide +kernel
theorem dX7_layRounds_58 : decode cX7_layRounds 58 = .ok (.bipush 12, 2) := by decide +kernel
theorem dX7_layRounds_60 : decode cX7_layRounds 60 = .ok (.if_icmp .ge 38, 3) := by decide +kernel
theorem dX7_layRounds_63 : decode cX7_layRounds 63 = .ok (.iload_n 3, 1) := by decide +kernel
theorem dX7_layRounds_64 : decode cX7_layRounds 64 = .ok (.iload 4, 2) := by decide +kernel
theorem dX7_layRounds_66 : decode cX7_layRounds 66 = .ok (.invokestatic 175, 3) := by decide +kernel
theorem dX7_layRounds_69 : decode cX7_layRounds 69 = .ok (.ifCond .ne 23, 3) := by decide +kernel
theorem dX7_layRounds_72 : decode cX7_layRounds 72 = .ok (.aload_n 0, 1) := by decide +kernel
theorem dX7_layRounds_73 : decode cX7_layRounds 73 = .ok (.aload_n 0, 1) := by decide +kernel
theorem dX7_layRounds_74 : decode cX7_layRounds 74 = .ok (.getfield 41, 3) := by decide +kernel
theorem dX7_layRounds_77 : decode cX7_layRounds 77 = .ok (.iload_n 2, 1) := by decide +kernel
theorem dX7_layRounds_78 : decode cX7_layRounds 78 = .ok (.iconst 1, 1) := by decide +kernel
theorem dX7_layRounds_79 : decode cX7_layRounds 79 = .ok (.isub, 1) := by decide +kernel
theorem dX7_layRounds_80 : decode cX7_layRounds 80 = .ok (.iaload, 1) := by decide +kernel
theorem dX7_layRounds_81 : decode cX7_layRounds 81 = .ok (.invokevirtual 184, 3) := by decide +kernel
theorem dX7_layRounds_84 : decode cX7_layRounds 84 = .ok (.iload 4, 2) := by decide +kernel
theorem dX7_layRounds_86 : decode cX7_layRounds 86 = .ok (.invokestatic 175, 3) := by decide +kernel
theorem dX7_layRounds_89 : decode cX7_layRounds 89 = .ok (.ifCond .ne 9, 3) := by decide +kernel
theorem dX7_layRounds_92 : decode cX7_layRounds 92 = .ok (.iinc 4 1, 3) := by decide +kernel
theorem dX7_layRounds_95 : decode cX7_layRounds 95 = .ok (.goto (-39), 3) := by decide +kernel
theorem dX7_layRounds_98 : decode cX7_layRounds 98 = .ok (.iload 4, 2) := by decide +kernel
theorem dX7_layRounds_100 : decode cX7_layRounds 100 = .ok (.bipush 12, 2) := by decide +kernel
theorem dX7_layRounds_102 : decode cX7_layRounds 102 = .ok (.if_icmp .ne 16, 3) := by decide +kernel
theorem dX7_layRounds_105 : decode cX7_layRounds 105 = .ok (.aload_n 0, 1) := by decide +kernel
theorem dX7_layRounds_106 : decode cX7_layRounds 106 = .ok (.getfield 41, 3) := by decide +kernel
theorem dX7_layRounds_109 : decode cX7_layRounds 109 = .ok (.iload_n 2, 1) := by decide +kernel
theorem dX7_layRounds_110 : decode cX7_layRounds 110 = .ok (.iconst 0, 1) := by decide +kernel
theorem dX7_layRounds_111 : decode cX7_layRounds 111 = .ok (.iastore, 1) := by decide +kernel
theorem dX7_layRounds_112 : decode cX7_layRounds 112 = .ok (.iinc 2 (-1), 3) := by decide +kernel
theorem dX7_layRounds_115 : decode cX7_layRounds 115 = .ok (.goto 113, 3) := by decide +kernel
theorem dX7_layRounds_118 : decode cX7_layRounds 118 = .ok (.iload_n 2, 1) := by decide +kernel
theorem dX7_layRounds_119 : decode cX7_layRounds 119 = .ok (.bipush 11, 2) := by decide +kernel
theorem dX7_layRounds_121 : decode cX7_layRounds 121 = .ok (.if_icmp .ne 82, 3) := by decide +kernel
theorem dX7_layRounds_124 : decode cX7_layRounds 124 = .ok (.aload_n 0, 1) := by decide +kernel
theorem dX7_layRounds_125 : decode cX7_layRounds 125 = .ok (.getfield 41, 3) := by decide +kernel
theorem dX7_layRounds_128 : decode cX7_layRounds 128 = .ok (.iload_n 2, 1) := by decide +kernel
theorem dX7_layRounds_129 : decode cX7_layRounds 129 = .ok (.iload 4, 2) := by decide +kernel
theorem dX7_layRounds_131 : decode cX7_layRounds 131 = .ok (.iastore, 1) := by decide +kernel
theorem dX7_layRounds_132 : decode cX7_layRounds 132 = .ok (.iload_n 3, 1) := by decide +kernel
theorem dX7_layRounds_133 : decode cX7_layRounds 133 = .ok (.iconst 1, 1) := by decide +kernel
theorem dX7_layRounds_134 : decode cX7_layRounds 134 = .ok (.iload 4, 2) := by decide +kernel
theorem dX7_layRounds_136 : decode cX7_layRounds 136 = .ok (.ishl, 1) := by decide +kernel
theorem dX7_layRounds_137 : decode cX7_layRounds 137 = .ok (.ior, 1) := by decide +kernel
theorem dX7_layRounds_138 : decode cX7_layRounds 138 = .ok (.istore_n 3, 1) := by decide +kernel
theorem dX7_layRounds_139 : decode cX7_layRounds 139 = .ok (.aload_n 0, 1) := by decide +kernel
theorem dX7_layRounds_140 : decode cX7_layRounds 140 = .ok (.getfield 41, 3) := by decide +kernel
theorem dX7_layRounds_143 : decode cX7_layRounds 143 = .ok (.iconst 1, 1) := by decide +kernel
theorem dX7_layRounds_144 : decode cX7_layRounds 144 = .ok (.iaload, 1) := by decide +kernel
theorem dX7_layRounds_145 : decode cX7_layRounds 145 = .ok (.iload 4, 2) := by decide +kernel
theorem dX7_layRounds_147 : decode cX7_layRounds 147 = .ok (.if_icmp .ge 81, 3) := by decide +kernel
theorem dX7_layRounds_150 : decode cX7_layRounds 150 = .ok (.aload_n 0, 1) := by decide +kernel
theorem dX7_layRounds_151 : decode cX7_layRounds 151 = .ok (.iload 4, 2) := by decide +kernel
theorem dX7_layRounds_153 : decode cX7_layRounds 153 = .ok (.invokevirtual 184, 3) := by decide +kernel
theorem dX7_layRounds_156 : decode cX7_layRounds 156 = .ok (.iconst 0, 1) := by decide +kernel
theorem dX7_layRounds_157 : decode cX7_layRounds 157 = .ok (.invokestatic 175, 3) := by decide +kernel
theorem dX7_layRounds_160 : decode cX7_layRounds 160 = .ok (.ifCond .eq 68, 3) := by decide +kernel
theorem dX7_layRounds_163 : decode cX7_layRounds 163 = .ok (.iconst 0, 1) := by decide +kernel
theorem dX7_layRounds_164 : decode cX7_layRounds 164 = .ok (.istore 5, 2) := by decide +kernel
theorem dX7_layRounds_166 : decode cX7_layRounds 166 = .ok (.iload 5, 2) := by decide +kernel
theorem dX7_layRounds_168 : decode cX7_layRounds 168 = .ok (.bipush 12, 2) := by decide +kernel
theorem dX7_layRounds_170 : decode cX7_layRounds 170 = .ok (.if_icmp .ge 27, 3) := by decide +kernel
theorem dX7_layRounds_173 : decode cX7_layRounds 173 = .ok (.iload_n 1, 1) := by decide +kernel
theorem dX7_layRounds_174 : decode cX7_layRounds 174 = .ok (.ifCond .ne 23, 3) := by decide +kernel
theorem dX7_layRounds_177 : decode cX7_layRounds 177 = .ok (.aload_n 0, 1) := by decide +kernel
theorem dX7_layRounds_178 : decode cX7_layRounds 178 = .ok (.getfield 51, 3) := by decide +kernel
theorem dX7_layRounds_181 : decode cX7_layRounds 181 = .ok (.iload 5, 2) := by decide +kernel
theorem dX7_layRounds_183 : decode cX7_layRounds 183 = .ok (.aload_n 0, 1) := by decide +kernel
theorem dX7_layRounds_184 : decode cX7_layRounds 184 = .ok (.getfield 41, 3) := by decide +kernel
theorem dX7_layRounds_187 : decode cX7_layRounds 187 = .ok (.iload 5, 2) := by decide +kernel
theorem dX7_layRounds_189 : decode cX7_layRounds 189 = .ok (.iaload, 1) := by decide +kernel
theorem dX7_layRounds_190 : decode cX7_layRounds 190 = .ok (.iastore, 1) := by decide +kernel
theorem dX7_layRounds_191 : decode cX7_layRounds 191 = .ok (.iinc 5 1, 3) := by decide +kernel
theorem dX7_layRounds_194 : decode cX7_layRounds 194 = .ok (.goto (-28), 3) := by decide +kernel
theorem dX7_layRounds_197 : decode cX7_layRounds 197 = .ok (.iinc 1 1, 3) := by decide +kernel
theorem dX7_layRounds_200 : decode cX7_layRounds 200 = .ok (.goto 28, 3) := by decide +kernel
theorem dX7_layRounds_203 : decode cX7_layRounds 203 = .ok (.aload_n 0, 1) := by decide +kernel
theorem dX7_layRounds_204 : decode cX7_layRounds 204 = .ok (.getfield 41, 3) := by decide +kernel
theorem dX7_layRounds_207 : decode cX7_layRounds 207 = .ok (.iload_n 2, 1) := by decide +kernel
theorem dX7_layRounds_208 : decode cX7_layRounds 208 = .ok (.iload 4, 2) := by decide +kernel
theorem dX7_layRounds_210 : decode cX7_layRounds 210 = .ok (.iastore, 1) := by decide +kernel
theorem dX7_layRounds_211 : decode cX7_layRounds 211 = .ok (.iload_n 3, 1) := by decide +kernel
theorem dX7_layRounds_212 : decode cX7_layRounds 212 = .ok (.iconst 1, 1) := by decide +kernel
theorem dX7_layRounds_213 : decode cX7_layRounds 213 = .ok (.iload 4, 2) := by decide +kernel
theorem dX7_layRounds_215 : decode cX7_layRounds 215 = .ok (.ishl, 1) := by decide +kernel
theorem dX7_layRounds_216 : decode cX7_layRounds 216 = .ok (.ior, 1) := by decide +kernel
theorem dX7_layRounds_217 : decode cX7_layRounds 217 = .ok (.istore_n 3, 1) := by decide +kernel
theorem dX7_layRounds_218 : decode cX7_layRounds 218 = .ok (.iinc 2 1, 3) := by decide +kernel
theorem dX7_layRounds_221 : decode cX7_layRounds 221 = .ok (.aload_n 0, 1) := by decide +kernel
theorem dX7_layRounds_222 : decode cX7_layRounds 222 = .ok (.getfield 41, 3) := by decide +kernel
theorem dX7_layRounds_225 : decode cX7_layRounds 225 = .ok (.iload_n 2, 1) := by decide +kernel
theorem dX7_layRounds_226 : decode cX7_layRounds 226 = .ok (.iconst 0, 1) := by decide +kernel
theorem dX7_layRounds_227 : decode cX7_layRounds 227 = .ok (.iastore, 1) := by decide +kernel
theorem dX7_layRounds_228 : decode cX7_layRounds 228 = .ok (.goto (-208), 3) := by decide +kernel
theorem dX7_layRounds_231 : decode cX7_layRounds 231 = .ok (.iload_n 1, 1) := by decide +kernel
theorem dX7_layRounds_232 : decode cX7_layRounds 232 = .ok (.ireturn, 1) := by decide +kernel
theorem dX7_rounds_0 : decode cX7_rounds 0 = .ok (.iload_n 1, 1) := by decide +kernel
theorem dX7_rounds_1 : decode cX7_rounds 1 = .ok (.iconst (-1), 1) := by decide +kernel
theorem dX7_rounds_2 : decode cX7_rounds 2 = .ok (.bipush 11, 2) := by decide +kernel
theorem dX7_rounds_4 : decode cX7_rounds 4 = .ok (.invokestatic 65, 3) := by decide +kernel
theorem dX7_rounds_7 : decode cX7_rounds 7 = .ok (.ifCond .ne 6, 3) := by decide +kernel
theorem dX7_rounds_10 : decode cX7_rounds 10 = .ok (.bipush (-3), 2) := by decide +kernel
theorem dX7_rounds_12 : decode cX7_rounds 12 = .ok (.ireturn, 1) := by decide +kernel
theorem dX7_rounds_13 : decode cX7_rounds 13 = .ok (.aload_n 0, 1) := by decide +kernel
theorem dX7_rounds_14 : decode cX7_rounds 14 = .ok (.invokevirtual 206, 3) := by decide +kernel
theorem dX7_rounds_17 : decode cX7_rounds 17 = .ok (.istore_n 2, 1) := by decide +kernel
theorem dX7_rounds_18 : decode cX7_rounds 18 = .ok (.iload_n 1, 1) := by decide +kernel
theorem dX7_rounds_19 : decode cX7_rounds 19 = .ok (.iconst (-1), 1) := by decide +kernel
theorem dX7_rounds_20 : decode cX7_rounds 20 = .ok (.if_icmp .ne 7, 3) := by decide +kernel
theorem dX7_rounds_23 : decode cX7_rounds 23 = .ok (.iload_n 2, 1) := by decide +kernel
theorem dX7_rounds_24 : decode cX7_rounds 24 = .ok (.goto 17, 3) := by decide +kernel
theorem dX7_rounds_27 : decode cX7_rounds 27 = .ok (.iload_n 2, 1) := by decide +kernel
theorem dX7_rounds_28 : decode cX7_rounds 28 = .ok (.ifCond .ne 7, 3) := by decide +kernel
theorem dX7_rounds_31 : decode cX7_rounds 31 = .ok (.iconst (-1), 1) := by decide +kernel
theorem dX7_rounds_32 : decode cX7_rounds 32 = .ok (.goto 9, 3) := by decide +kernel
theorem dX7_rounds_35 : decode cX7_rounds 35 = .ok (.aload_n 0, 1) := by decide +kernel
theorem dX7_rounds_36 : decode cX7_rounds 36 = .ok (.getfield 51, 3) := by decide +kernel
theorem dX7_rounds_39 : decode cX7_rounds 39 = .ok (.iload_n 1, 1) := by decide +kernel
theorem dX7_rounds_40 : decode cX7_rounds 40 = .ok (.iaload, 1) := by decide +kernel
theorem dX7_rounds_41 : decode cX7_rounds 41 = .ok (.ireturn, 1) := by decide +kernel
theorem dX7_walks_0 : decode cX7_walks 0 = .ok (.iload_n 1, 1) := by decide +kernel
theorem dX7_walks_1 : decode cX7_walks 1 = .ok (.invokestatic 169, 3) := by decide +kernel
theorem dX7_walks_4 : decode cX7_walks 4 = .ok (.ifCond .eq 10, 3) := by decide +kernel
theorem dX7_walks_7 : decode cX7_walks 7 = .ok (.iload_n 2, 1) := by decide +kernel
theorem dX7_walks_8 : decode cX7_walks 8 = .ok (.invokestatic 169, 3) := by decide +kernel
theorem dX7_walks_11 : decode cX7_walks 11 = .ok (.ifCond .ne 7, 3) := by decide +kernel
theorem dX7_walks_14 : decode cX7_walks 14 = .ok (.ldc2_w 87, 3) := by decide +kernel
theorem dX7_walks_17 : decode cX7_walks 17 = .ok (.lreturn, 1) := by decide +kernel
theorem dX7_walks_18 : decode cX7_walks 18 = .ok (.iload_n 3, 1) := by decide +kernel
theorem dX7_walks_19 : decode cX7_walks 19 = .ok (.iconst 0, 1) := by decide +kernel
theorem dX7_walks_20 : decode cX7_walks 20 = .ok (.bipush 20, 2) := by decide +kernel
theorem dX7_walks_22 : decode cX7_walks 22 = .ok (.invokestatic 65, 3) := by decide +kernel
theorem dX7_walks_25 : decode cX7_walks 25 = .ok (.ifCond .ne 7, 3) := by decide +kernel
theorem dX7_walks_28 : decode cX7_walks 28 = .ok (.ldc2_w 101, 3) := by decide +kernel
theorem dX7_walks_31 : decode cX7_walks 31 = .ok (.lreturn, 1) := by decide +kernel
theorem dX7_walks_32 : decode cX7_walks 32 = .ok (.aload_n 0, 1) := by decide +kernel
theorem dX7_walks_33 : decode cX7_walks 33 = .ok (.iload_n 1, 1) := by decide +kernel
theorem dX7_walks_34 : decode cX7_walks 34 = .ok (.iload_n 3, 1) := by decide +kernel
theorem dX7_walks_35 : decode cX7_walks 35 = .ok (.iconst 0, 1) := by decide +kernel
theorem dX7_walks_36 : decode cX7_walks 36 = .ok (.invokevirtual 210, 3) := by decide +kernel
theorem dX7_walks_39 : decode cX7_walks 39 = .ok (.aload_n 0, 1) := by decide +kernel
theorem dX7_walks_40 : decode cX7_walks 40 = .ok (.getfield 44, 3) := by decide +kernel
theorem dX7_walks_43 : decode cX7_walks 43 = .ok (.iload_n 2, 1) := by decide +kernel
theorem dX7_walks_44 : decode cX7_walks 44 = .ok (.laload, 1) := by decide +kernel
theorem dX7_walks_45 : decode cX7_walks 45 = .ok (.lreturn, 1) := by decide +kernel
theorem dX7_spread_0 : decode cX7_spread 0 = .ok (.iconst 0, 1) := by decide +kernel
theorem dX7_spread_1 : decode cX7_spread 1 = .ok (.istore 4, 2) := by decide +kernel
theorem dX7_spread_3 : decode cX7_spread 3 = .ok (.iload 4, 2) := by decide +kernel
theorem dX7_spread_5 : decode cX7_spread 5 = .ok (.bipush 12, 2) := by decide +kernel
theorem dX7_spread_7 : decode cX7_spread 7 = .ok (.if_icmp .ge 27, 3) := by decide +kernel
theorem dX7_spread_10 : decode cX7_spread 10 = .ok (.aload_n 0, 1) := by decide +kernel
theorem dX7_spread_11 : decode cX7_spread 11 = .ok (.getfield 44, 3) := by decide +kernel
theorem dX7_spread_14 : decode cX7_spread 14 = .ok (.iload 4, 2) := by decide +kernel
theorem dX7_spread_16 : decode cX7_spread 16 = .ok (.iload 4, 2) := by decide +kernel
theorem dX7_spread_18 : decode cX7_spread 18 = .ok (.iload_n 1, 1) := by decide +kernel
theorem dX7_spread_19 : decode cX7_spread 19 = .ok (.if_icmp .ne 7, 3) := by decide +kernel
theorem dX7_spread_22 : decode cX7_spread 22 = .ok (.lconst 1, 1) := by decide +kernel
theorem dX7_spread_23 : decode cX7_spread 23 = .ok (.goto 4, 3) := by decide +kernel
theorem dX7_spread_26 : decode cX7_spread 26 = .ok (.lconst 0, 1) := by decide +kernel
theorem dX7_spread_27 : decode cX7_spread 27 = .ok (.lastore, 1) := by decide +kernel
theorem dX7_spread_28 : decode cX7_spread 28 = .ok (.iinc 4 1, 3) := by decide +kernel
theorem dX7_spread_31 : decode cX7_spread 31 = .ok (.goto (-28), 3) := by decide +kernel
theorem dX7_spread_34 : decode cX7_spread 34 = .ok (.iconst 0, 1) := by decide +kernel
theorem dX7_spread_35 : decode cX7_spread 35 = .ok (.istore 4, 2) := by decide +kernel
theorem dX7_spread_37 : decode cX7_spread 37 = .ok (.iload 4, 2) := by decide +kernel
theorem dX7_spread_39 : decode cX7_spread 39 = .ok (.iload_n 2, 1) := by decide +kernel
theorem dX7_spread_40 : decode cX7_spread 40 = .ok (.if_icmp .ge 193, 3) := by decide +kernel
theorem dX7_spread_43 : decode cX7_spread 43 = .ok (.iconst 0, 1) := by decide +kernel
theorem dX7_spread_44 : decode cX7_spread 44 = .ok (.istore 5, 2) := by decide +kernel
theorem dX7_spread_46 : decode cX7_spread 46 = .ok (.iload 5, 2) := by decide +kernel
theorem dX7_spread_48 : decode cX7_spread 48 = .ok (.bipush 12, 2) := by decide +kernel
theorem dX7_spread_50 : decode cX7_spread 50 = .ok (.if_icmp .ge 17, 3) := by decide +kernel
theorem dX7_spread_53 : decode cX7_spread 53 = .ok (.aload_n 0, 1) := by decide +kernel
theorem dX7_spread_54 : decode cX7_spread 54 = .ok (.getfield 48, 3) := by decide +kernel
theorem dX7_spread_57 : decode cX7_spread 57 = .ok (.iload 5, 2) := by decide +kernel
theorem dX7_spread_59 : decode cX7_spread 59 = .ok (.lconst 0, 1) := by decide +kernel
theorem dX7_spread_60 : decode cX7_spread 60 = .ok (.lastore, 1) := by decide +kernel
theorem dX7_spread_61 : decode cX7_spread 61 = .ok (.iinc 5 1, 3) := by decide +kernel
theorem dX7_spread_64 : decode cX7_spread 64 = .ok (.goto (-18), 3) := by decide +kernel
theorem dX7_spread_67 : decode cX7_spread 67 = .ok (.iconst 0, 1) := by decide +kernel
theorem dX7_spread_68 : decode cX7_spread 68 = .ok (.istore 5, 2) := by decide +kernel
theorem dX7_spread_70 : decode cX7_spread 70 = .ok (.iload 5, 2) := by decide +kernel
theorem dX7_spread_72 : decode cX7_spread 72 = .ok (.bipush 12, 2) := by decide +kernel
theorem dX7_spread_74 : decode cX7_spread 74 = .ok (.if_icmp .ge 123, 3) := by decide +kernel
theorem dX7_spread_77 : decode cX7_spread 77 = .ok (.aload_n 0, 1) := by decide +kernel
theorem dX7_spread_78 : decode cX7_spread 78 = .ok (.iload 5, 2) := by decide +kernel
theorem dX7_spread_80 : decode cX7_spread 80 = .ok (.invokevirtual 184, 3) := by decide +kernel
theorem dX7_spread_83 : decode cX7_spread 83 = .ok (.istore 6, 2) := by decide +kernel
theorem dX7_spread_85 : decode cX7_spread 85 = .ok (.iload 6, 2) := by decide +kernel
theorem dX7_spread_87 : decode cX7_spread 87 = .ok (.invokestatic 200, 3) := by decide +kernel
theorem dX7_spread_90 : decode cX7_spread 90 = .ok (.istore 7, 2) := by decide +kernel
theorem dX7_spread_92 : decode cX7_spread 92 = .ok (.aload_n 0, 1) := by decide +kernel
theorem dX7_spread_93 : decode cX7_spread 93 = .ok (.getfield 48, 3) := by decide +kernel
theorem dX7_spread_96 : decode cX7_spread 96 = .ok (.iload 5, 2) := by decide +kernel
theorem dX7_spread_98 : decode cX7_spread 98 = .ok (.dup2, 1) := by decide +kernel
theorem dX7_spread_99 : decode cX7_spread 99 = .ok (.laload, 1) := by decide +kernel
theorem dX7_spread_100 : decode cX7_spread 100 = .ok (.iload_n 3, 1) := by decide +kernel
theorem dX7_spread_101 : decode cX7_spread 101 = .ok (.ifCond .eq 22, 3) := by decide +kernel
theorem dX7_spread_104 : decode cX7_spread 104 = .ok (.iload 7, 2) := by decide +kernel
theorem dX7_spread_106 : decode cX7_spread 106 = .ok (.ifCond .ne 17, 3) := by decide +kernel
theorem dX7_spread_109 : decode cX7_spread 109 = .ok (.ldc2_w 198, 3) := by decide +kernel
theorem dX7_spread_112 : decode cX7_spread 112 = .ok (.aload_n 0, 1) := by decide +kernel
theorem dX7_spread_113 : decode cX7_spread 113 = .ok (.getfield 44, 3) := by decide +kernel
theorem dX7_spread_116 : decode cX7_spread 116 = .ok (.iload 5, 2) := by decide +kernel
theorem dX7_spread_118 : decode cX7_spread 118 = .ok (.laload, 1) := by decide +kernel
theorem dX7_spread_119 : decode cX7_spread 119 = .ok (.lmul, 1) := by decide +kernel
theorem dX7_spread_120 : decode cX7_spread 120 = .ok (.goto 4, 3) := by decide +kernel
theorem dX7_spread_123 : decode cX7_spread 123 = .ok (.lconst 0, 1) := by decide +kernel
theorem dX7_spread_124 : decode cX7_spread 124 = .ok (.ladd, 1) := by decide +kernel
theorem dX7_spread_125 : decode cX7_spread 125 = .ok (.lastore, 1) := by decide +kernel
theorem dX7_spread_126 : decode cX7_spread 126 = .ok (.iconst 0, 1) := by decide +kernel
theorem dX7_spread_127 : decode cX7_spread 127 = .ok (.istore 8, 2) := by decide +kernel
theorem dX7_spread_129 : decode cX7_spread 129 = .ok (.iload 8, 2) := by decide +kernel
theorem dX7_spread_131 : decode cX7_spread 131 = .ok (.bipush 12, 2) := by decide +kernel
theorem dX7_spread_133 : decode cX7_spread 133 = .ok (.if_icmp .ge 58, 3) := by decide +kernel
theorem dX7_spread_136 : decode cX7_spread 136 = .ok (.iload 6, 2) := by decide +kernel
theorem dX7_spread_138 : decode cX7_spread 138 = .ok (.iload 8, 2) := by decide +kernel
theorem dX7_spread_140 : decode cX7_spread 140 = .ok (.invokestatic 175, 3) := by decide +kernel
theorem dX7_spread_143 : decode cX7_spread 143 = .ok (.ifCond .eq 42, 3) := by decide +kernel
theorem dX7_spread_146 : decode cX7_spread 146 = .ok (.aload_n 0, 1) := by decide +kernel
theorem dX7_spread_147 : decode cX7_spread 147 = .ok (.getfield 48, 3) := by decide +kernel
theorem dX7_spread_150 : decode cX7_spread 150 = .ok (.iload 8, 2) := by decide +kernel
theorem dX7_spread_152 : decode cX7_spread 152 = .ok (.dup2, 1) := by decide +kernel
theorem dX7_spread_153 : decode cX7_spread 153 = .ok (.laload, 1) := by decide +kernel
theorem dX7_spread_154 : decode cX7_spread 154 = .ok (.iload_n 3, 1) := by decide +kernel
theorem dX7_spread_155 : decode cX7_spread 155 = .ok (.ifCond .eq 21, 3) := by decide +kernel
theorem dX7_spread_158 : decode cX7_spread 158 = .ok (.ldc2_w 198, 3) := by decide +kernel
theorem dX7_spread_161 : decode cX7_spread 161 = .ok (.iload 7, 2) := by decide +kernel
theorem dX7_spread_163 : decode cX7_spread 163 = .ok (.i2l, 1) := by decide +kernel
theorem dX7_spread_164 : decode cX7_spread 164 = .ok (.ldiv, 1) := by decide +kernel
theorem dX7_spread_165 : decode cX7_spread 165 = .ok (.aload_n 0, 1) := by decide +kernel
theorem dX7_spread_166 : decode cX7_spread 166 = .ok (.getfield 44, 3) := by decide +kernel
theorem dX7_spread_169 : decode cX7_spread 169 = .ok (.iload 5, 2) := by decide +kernel
theorem dX7_spread_171 : decode cX7_spread 171 = .ok (.laload, 1) := by decide +kernel
theorem dX7_spread_172 : decode cX7_spread 172 = .ok (.lmul, 1) := by decide +kernel
theorem dX7_spread_173 : decode cX7_spread 173 = .ok (.goto 10, 3) := by decide +kernel
theorem dX7_spread_176 : decode cX7_spread 176 = .ok (.aload_n 0, 1) := by decide +kernel
theorem dX7_spread_177 : decode cX7_spread 177 = .ok (.getfield 44, 3) := by decide +kernel
theorem dX7_spread_180 : decode cX7_spread 180 = .ok (.iload 5, 2) := by decide +kernel
theorem dX7_spread_182 : decode cX7_spread 182 = .ok (.laload, 1) := by decide +kernel
theorem dX7_spread_183 : decode cX7_spread 183 = .ok (.ladd, 1) := by decide +kernel
theorem dX7_spread_184 : decode cX7_spread 184 = .ok (.lastore, 1) := by decide +kernel
theorem dX7_spread_185 : decode cX7_spread 185 = .ok (.iinc 8 1, 3) := by decide +kernel
theorem dX7_spread_188 : decode cX7_spread 188 = .ok (.goto (-59), 3) := by decide +kernel
theorem dX7_spread_191 : decode cX7_spread 191 = .ok (.iinc 5 1, 3) := by decide +kernel
theorem dX7_spread_194 : decode cX7_spread 194 = .ok (.goto (-124), 3) := by decide +kernel
theorem dX7_spread_197 : decode cX7_spread 197 = .ok (.iconst 0, 1) := by decide +kernel
theorem dX7_spread_198 : decode cX7_spread 198 = .ok (.istore 5, 2) := by decide +kernel
theorem dX7_spread_200 : decode cX7_spread 200 = .ok (.iload 5, 2) := by decide +kernel
theorem dX7_spread_202 : decode cX7_spread 202 = .ok (.bipush 12, 2) := by decide +kernel
theorem dX7_spread_204 : decode cX7_spread 204 = .ok (.if_icmp .ge 23, 3) := by decide +kernel
theorem dX7_spread_207 : decode cX7_spread 207 = .ok (.aload_n 0, 1) := by decide +kernel
theorem dX7_spread_208 : decode cX7_spread 208 = .ok (.getfield 44, 3) := by decide +kernel
theorem dX7_spread_211 : decode cX7_spread 211 = .ok (.iload 5, 2) := by decide +kernel
theorem dX7_spread_213 : decode cX7_spread 213 = .ok (.aload_n 0, 1) := by decide +kernel
theorem dX7_spread_214 : decode cX7_spread 214 = .ok (.getfield 48, 3) := by decide +kernel
theorem dX7_spread_217 : decode cX7_spread 217 = .ok (.iload 5, 2) := by decide +kernel
theorem dX7_spread_219 : decode cX7_spread 219 = .ok (.laload, 1) := by decide +kernel
theorem dX7_spread_220 : decode cX7_spread 220 = .ok (.lastore, 1) := by decide +kernel
theorem dX7_spread_221 : decode cX7_spread 221 = .ok (.iinc 5 1, 3) := by decide +kernel
theorem dX7_spread_224 : decode cX7_spread 224 = .ok (.goto (-24), 3) := by decide +kernel
theorem dX7_spread_227 : decode cX7_spread 227 = .ok (.iinc 4 1, 3) := by decide +kernel
theorem dX7_spread_230 : decode cX7_spread 230 = .ok (.goto (-193), 3) := by decide +kernel
theorem dX7_spread_233 : decode cX7_spread 233 = .ok (.return_, 1) := by decide +kernel
theorem dX7_odds_0 : decode cX7_odds 0 = .ok (.iload_n 1, 1) := by decide +kernel
theorem dX7_odds_1 : decode cX7_odds 1 = .ok (.invokestatic 169, 3) := by decide +kernel
theorem dX7_odds_4 : decode cX7_odds 4 = .ok (.ifCond .eq 10, 3) := by decide +kernel
theorem dX7_odds_7 : decode cX7_odds 7 = .ok (.iload_n 2, 1) := by decide +kernel
theorem dX7_odds_8 : decode cX7_odds 8 = .ok (.invokestatic 169, 3) := by decide +kernel
theorem dX7_odds_11 : decode cX7_odds 11 = .ok (.ifCond .ne 7, 3) := by decide +kernel
theorem dX7_odds_14 : decode cX7_odds 14 = .ok (.ldc2_w 87, 3) := by decide +kernel
theorem dX7_odds_17 : decode cX7_odds 17 = .ok (.lreturn, 1) := by decide +kernel
theorem dX7_odds_18 : decode cX7_odds 18 = .ok (.iload_n 3, 1) := by decide +kernel
theorem dX7_odds_19 : decode cX7_odds 19 = .ok (.iconst 0, 1) := by decide +kernel
theorem dX7_odds_20 : decode cX7_odds 20 = .ok (.bipush 8, 2) := by decide +kernel
theorem dX7_odds_22 : decode cX7_odds 22 = .ok (.invokestatic 65, 3) := by decide +kernel
theorem dX7_odds_25 : decode cX7_odds 25 = .ok (.ifCond .eq 13, 3) := by decide +kernel
theorem dX7_odds_28 : decode cX7_odds 28 = .ok (.iload 4, 2) := by decide +kernel
theorem dX7_odds_30 : decode cX7_odds 30 = .ok (.iconst 0, 1) := by decide +kernel
theorem dX7_odds_31 : decode cX7_odds 31 = .ok (.iconst 1, 1) := by decide +kernel
theorem dX7_odds_32 : decode cX7_odds 32 = .ok (.invokestatic 65, 3) := by decide +kernel
theorem dX7_odds_35 : decode cX7_odds 35 = .ok (.ifCond .ne 7, 3) := by decide +kernel
theorem dX7_odds_38 : decode cX7_odds 38 = .ok (.ldc2_w 101, 3) := by decide +kernel
theorem dX7_odds_41 : decode cX7_odds 41 = .ok (.lreturn, 1) := by decide +kernel
theorem dX7_odds_42 : decode cX7_odds 42 = .ok (.aload_n 0, 1) := by decide +kernel
theorem dX7_odds_43 : decode cX7_odds 43 = .ok (.iload_n 1, 1) := by decide +kernel
theorem dX7_odds_44 : decode cX7_odds 44 = .ok (.iload_n 3, 1) := by decide +kernel
theorem dX7_odds_45 : decode cX7_odds 45 = .ok (.iconst 1, 1) := by decide +kernel
theorem dX7_odds_46 : decode cX7_odds 46 = .ok (.invokevirtual 210, 3) := by decide +kernel
theorem dX7_odds_49 : decode cX7_odds 49 = .ok (.lconst 1, 1) := by decide +kernel
theorem dX7_odds_50 : decode cX7_odds 50 = .ok (.lstore 5, 2) := by decide +kernel
theorem dX7_odds_52 : decode cX7_odds 52 = .ok (.iconst 0, 1) := by decide +kernel
theorem dX7_odds_53 : decode cX7_odds 53 = .ok (.istore 7, 2) := by decide +kernel
theorem dX7_odds_55 : decode cX7_odds 55 = .ok (.iload 7, 2) := by decide +kernel
theorem dX7_odds_57 : decode cX7_odds 57 = .ok (.iload_n 3, 1) := by decide +kernel
theorem dX7_odds_58 : decode cX7_odds 58 = .ok (.if_icmp .ge 17, 3) := by decide +kernel
theorem dX7_odds_61 : decode cX7_odds 61 = .ok (.lload 5, 2) := by decide +kernel
theorem dX7_odds_63 : decode cX7_odds 63 = .ok (.ldc2_w 198, 3) := by decide +kernel
theorem dX7_odds_66 : decode cX7_odds 66 = .ok (.lmul, 1) := by decide +kernel
theorem dX7_odds_67 : decode cX7_odds 67 = .ok (.lstore 5, 2) := by decide +kernel
theorem dX7_odds_69 : decode cX7_odds 69 = .ok (.iinc 7 1, 3) := by decide +kernel
theorem dX7_odds_72 : decode cX7_odds 72 = .ok (.goto (-17), 3) := by decide +kernel
theorem dX7_odds_75 : decode cX7_odds 75 = .ok (.aload_n 0, 1) := by decide +kernel
theorem dX7_odds_76 : decode cX7_odds 76 = .ok (.getfield 44, 3) := by decide +kernel
theorem dX7_odds_79 : decode cX7_odds 79 = .ok (.iload_n 2, 1) := by decide +kernel
theorem dX7_odds_80 : decode cX7_odds 80 = .ok (.laload, 1) := by decide +kernel
theorem dX7_odds_81 : decode cX7_odds 81 = .ok (.lstore 7, 2) := by decide +kernel
theorem dX7_odds_83 : decode cX7_odds 83 = .ok (.lload 5, 2) := by decide +kernel
theorem dX7_odds_85 : decode cX7_odds 85 = .ok (.lstore 9, 2) := by decide +kernel
theorem dX7_odds_87 : decode cX7_odds 87 = .ok (.lload 9, 2) := by decide +kernel
theorem dX7_odds_89 : decode cX7_odds 89 = .ok (.lconst 0, 1) := by decide +kernel
theorem dX7_odds_90 : decode cX7_odds 90 = .ok (.lcmp, 1) := by decide +kernel
theorem dX7_odds_91 : decode cX7_odds 91 = .ok (.ifCond .le 21, 3) := by decide +kernel
theorem dX7_odds_94 : decode cX7_odds 94 = .ok (.lload 7, 2) := by decide +kernel
theorem dX7_odds_96 : decode cX7_odds 96 = .ok (.lload 9, 2) := by decide +kernel
theorem dX7_odds_98 : decode cX7_odds 98 = .ok (.lrem, 1) := by decide +kernel
theorem dX7_odds_99 : decode cX7_odds 99 = .ok (.lstore 11, 2) := by decide +kernel
theorem dX7_odds_101 : decode cX7_odds 101 = .ok (.lload 9, 2) := by decide +kernel
theorem dX7_odds_103 : decode cX7_odds 103 = .ok (.lstore 7, 2) := by decide +kernel
theorem dX7_odds_105 : decode cX7_odds 105 = .ok (.lload 11, 2) := by decide +kernel
theorem dX7_odds_107 : decode cX7_odds 107 = .ok (.lstore 9, 2) := by decide +kernel
theorem dX7_odds_109 : decode cX7_odds 109 = .ok (.goto (-22), 3) := by decide +kernel
theorem dX7_odds_112 : decode cX7_odds 112 = .ok (.iload 4, 2) := by decide +kernel
theorem dX7_odds_114 : decode cX7_odds 114 = .ok (.ifCond .ne 12, 3) := by decide +kernel
theorem dX7_odds_117 : decode cX7_odds 117 = .ok (.aload_n 0, 1) := by decide +kernel
theorem dX7_odds_118 : decode cX7_odds 118 = .ok (.getfield 44, 3) := by decide +kernel
theorem dX7_odds_121 : decode cX7_odds 121 = .ok (.iload_n 2, 1) := by decide +kernel
theorem dX7_odds_122 : decode cX7_odds 122 = .ok (.laload, 1) := by decide +kernel
theorem dX7_odds_123 : decode cX7_odds 123 = .ok (.goto 5, 3) := by decide +kernel
theorem dX7_odds_126 : decode cX7_odds 126 = .ok (.lload 5, 2) := by decide +kernel
theorem dX7_odds_128 : decode cX7_odds 128 = .ok (.lload 7, 2) := by decide +kernel
theorem dX7_odds_130 : decode cX7_odds 130 = .ok (.ldiv, 1) := by decide +kernel
theorem dX7_odds_131 : decode cX7_odds 131 = .ok (.lreturn, 1) := by decide +kernel
theorem dX7_count_0 : decode cX7_count 0 = .ok (.iconst 0, 1) := by decide +kernel
theorem dX7_count_1 : decode cX7_count 1 = .ok (.istore_n 2, 1) := by decide +kernel
theorem dX7_count_2 : decode cX7_count 2 = .ok (.iload_n 1, 1) := by decide +kernel
theorem dX7_count_3 : decode cX7_count 3 = .ok (.tableswitch 181 0 7 #[45, 45, 45, 45, 79, 114, 138, 176], 45) := by decide +kernel
theorem dX7_count_48 : decode cX7_count 48 = .ok (.iconst 0, 1) := by decide +kernel
theorem dX7_count_49 : decode cX7_count 49 = .ok (.istore_n 3, 1) := by decide +kernel
theorem dX7_count_50 : decode cX7_count 50 = .ok (.iload_n 3, 1) := by decide +kernel
theorem dX7_count_51 : decode cX7_count 51 = .ok (.bipush 12, 2) := by decide +kernel
theorem dX7_count_53 : decode cX7_count 53 = .ok (.if_icmp .ge 27, 3) := by decide +kernel
theorem dX7_count_56 : decode cX7_count 56 = .ok (.iload_n 2, 1) := by decide +kernel
theorem dX7_count_57 : decode cX7_count 57 = .ok (.aload_n 0, 1) := by decide +kernel
theorem dX7_count_58 : decode cX7_count 58 = .ok (.getfield 20, 3) := by decide +kernel
theorem dX7_count_61 : decode cX7_count 61 = .ok (.iload_n 3, 1) := by decide +kernel
theorem dX7_count_62 : decode cX7_count 62 = .ok (.iaload, 1) := by decide +kernel
theorem dX7_count_63 : decode cX7_count 63 = .ok (.iload_n 1, 1) := by decide +kernel
theorem dX7_count_64 : decode cX7_count 64 = .ok (.if_icmp .ne 7, 3) := by decide +kernel
theorem dX7_count_67 : decode cX7_count 67 = .ok (.iconst 1, 1) := by decide +kernel
theorem dX7_count_68 : decode cX7_count 68 = .ok (.goto 4, 3) := by decide +kernel
theorem dX7_count_71 : decode cX7_count 71 = .ok (.iconst 0, 1) := by decide +kernel
theorem dX7_count_72 : decode cX7_count 72 = .ok (.iadd, 1) := by decide +kernel
theorem dX7_count_73 : decode cX7_count 73 = .ok (.istore_n 2, 1) := by decide +kernel
theorem dX7_count_74 : decode cX7_count 74 = .ok (.iinc 3 1, 3) := by decide +kernel
theorem dX7_count_77 : decode cX7_count 77 = .ok (.goto (-27), 3) := by decide +kernel
theorem dX7_count_80 : decode cX7_count 80 = .ok (.iload_n 2, 1) := by decide +kernel
theorem dX7_count_81 : decode cX7_count 81 = .ok (.ireturn, 1) := by decide +kernel
theorem dX7_count_82 : decode cX7_count 82 = .ok (.iconst 0, 1) := by decide +kernel
theorem dX7_count_83 : decode cX7_count 83 = .ok (.istore_n 3, 1) := by decide +kernel
theorem dX7_count_84 : decode cX7_count 84 = .ok (.iload_n 3, 1) := by decide +kernel
theorem dX7_count_85 : decode cX7_count 85 = .ok (.bipush 60, 2) := by decide +kernel
theorem dX7_count_87 : decode cX7_count 87 = .ok (.if_icmp .ge 26, 3) := by decide +kernel
theorem dX7_count_90 : decode cX7_count 90 = .ok (.iload_n 2, 1) := by decide +kernel
theorem dX7_count_91 : decode cX7_count 91 = .ok (.aload_n 0, 1) := by decide +kernel
theorem dX7_count_92 : decode cX7_count 92 = .ok (.getfield 13, 3) := by decide +kernel
theorem dX7_count_95 : decode cX7_count 95 = .ok (.iload_n 3, 1) := by decide +kernel
theorem dX7_count_96 : decode cX7_count 96 = .ok (.baload, 1) := by decide +kernel
theorem dX7_count_97 : decode cX7_count 97 = .ok (.ifCond .eq 7, 3) := by decide +kernel
theorem dX7_count_100 : decode cX7_count 100 = .ok (.iconst 1, 1) := by decide +kernel
theorem dX7_count_101 : decode cX7_count 101 = .ok (.goto 4, 3) := by decide +kernel
theorem dX7_count_104 : decode cX7_count 104 = .ok (.iconst 0, 1) := by decide +kernel
theorem dX7_count_105 : decode cX7_count 105 = .ok (.iadd, 1) := by decide +kernel
theorem dX7_count_106 : decode cX7_count 106 = .ok (.istore_n 2, 1) := by decide +kernel
theorem dX7_count_107 : decode cX7_count 107 = .ok (.iinc 3 1, 3) := by decide +kernel
theorem dX7_count_110 : decode cX7_count 110 = .ok (.goto (-26), 3) := by decide +kernel
theorem dX7_count_113 : decode cX7_count 113 = .ok (.iload_n 2, 1) := by decide +kernel
theorem dX7_count_114 : decode cX7_count 114 = .ok (.iconst 2, 1) := by decide +kernel
theorem dX7_count_115 : decode cX7_count 115 = .ok (.idiv, 1) := by decide +kernel
theorem dX7_count_116 : decode cX7_count 116 = .ok (.ireturn, 1) := by decide +kernel
theorem dX7_count_117 : decode cX7_count 117 = .ok (.iconst 0, 1) := by decide +kernel
theorem dX7_count_118 : decode cX7_count 118 = .ok (.istore_n 3, 1) := by decide +kernel
theorem dX7_count_119 : decode cX7_count 119 = .ok (.iload_n 3, 1) := by decide +kernel
theorem dX7_count_120 : decode cX7_count 120 = .ok (.bipush 12, 2) := by decide +kernel
theorem dX7_count_122 : decode cX7_count 122 = .ok (.if_icmp .ge 17, 3) := by decide +kernel
theorem dX7_count_125 : decode cX7_count 125 = .ok (.iload_n 2, 1) := by decide +kernel
theorem dX7_count_126 : decode cX7_count 126 = .ok (.aload_n 0, 1) := by decide +kernel
theorem dX7_count_127 : decode cX7_count 127 = .ok (.iload_n 3, 1) := by decide +kernel
theorem dX7_count_128 : decode cX7_count 128 = .ok (.invokevirtual 191, 3) := by decide +kernel
theorem dX7_count_131 : decode cX7_count 131 = .ok (.iadd, 1) := by decide +kernel
theorem dX7_count_132 : decode cX7_count 132 = .ok (.istore_n 2, 1) := by decide +kernel
theorem dX7_count_133 : decode cX7_count 133 = .ok (.iinc 3 1, 3) := by decide +kernel
theorem dX7_count_136 : decode cX7_count 136 = .ok (.goto (-17), 3) := by decide +kernel
theorem dX7_count_139 : decode cX7_count 139 = .ok (.iload_n 2, 1) := by decide +kernel
theorem dX7_count_140 : decode cX7_count 140 = .ok (.ireturn, 1) := by decide +kernel
theorem dX7_count_141 : decode cX7_count 141 = .ok (.iconst 0, 1) := by decide +kernel
theorem dX7_count_142 : decode cX7_count 142 = .ok (.istore_n 3, 1) := by decide +kernel
theorem dX7_count_143 : decode cX7_count 143 = .ok (.iload_n 3, 1) := by decide +kernel
theorem dX7_count_144 : decode cX7_count 144 = .ok (.bipush 12, 2) := by decide +kernel
theorem dX7_count_146 : decode cX7_count 146 = .ok (.if_icmp .ge 31, 3) := by decide +kernel
theorem dX7_count_149 : decode cX7_count 149 = .ok (.iload_n 2, 1) := by decide +kernel
theorem dX7_count_150 : decode cX7_count 150 = .ok (.aload_n 0, 1) := by decide +kernel
theorem dX7_count_151 : decode cX7_count 151 = .ok (.iload_n 3, 1) := by decide +kernel
theorem dX7_count_152 : decode cX7_count 152 = .ok (.invokevirtual 203, 3) := by decide +kernel
theorem dX7_count_155 : decode cX7_count 155 = .ok (.iconst 1, 1) := by decide +kernel
theorem dX7_count_156 : decode cX7_count 156 = .ok (.iload_n 3, 1) := by decide +kernel
theorem dX7_count_157 : decode cX7_count 157 = .ok (.ishl, 1) := by decide +kernel
theorem dX7_count_158 : decode cX7_count 158 = .ok (.iconst 1, 1) := by decide +kernel
theorem dX7_count_159 : decode cX7_count 159 = .ok (.isub, 1) := by decide +kernel
theorem dX7_count_160 : decode cX7_count 160 = .ok (.iand, 1) := by decide +kernel
theorem dX7_count_161 : decode cX7_count 161 = .ok (.ifCond .ne 7, 3) := by decide +kernel
theorem dX7_count_164 : decode cX7_count 164 = .ok (.iconst 1, 1) := by decide +kernel
theorem dX7_count_165 : decode cX7_count 165 = .ok (.goto 4, 3) := by decide +kernel
theorem dX7_count_168 : decode cX7_count 168 = .ok (.iconst 0, 1) := by decide +kernel
theorem dX7_count_169 : decode cX7_count 169 = .ok (.iadd, 1) := by decide +kernel
theorem dX7_count_170 : decode cX7_count 170 = .ok (.istore_n 2, 1) := by decide +kernel
theorem dX7_count_171 : decode cX7_count 171 = .ok (.iinc 3 1, 3) := by decide +kernel
theorem dX7_count_174 : decode cX7_count 174 = .ok (.goto (-31), 3) := by decide +kernel
theorem dX7_count_177 : decode cX7_count 177 = .ok (.iload_n 2, 1) := by decide +kernel
theorem dX7_count_178 : decode cX7_count 178 = .ok (.ireturn, 1) := by decide +kernel
theorem dX7_count_179 : decode cX7_count 179 = .ok (.aload_n 0, 1) := by decide +kernel
theorem dX7_count_180 : decode cX7_count 180 = .ok (.getfield 69, 3) := by decide +kernel
theorem dX7_count_183 : decode cX7_count 183 = .ok (.ireturn, 1) := by decide +kernel
theorem dX7_count_184 : decode cX7_count 184 = .ok (.bipush (-3), 2) := by decide +kernel
theorem dX7_count_186 : decode cX7_count 186 = .ok (.ireturn, 1) := by decide +kernel
theorem dJ6_bitCount_0f7a4_0 : decode cJ6_bitCount_0f7a4 0 = .ok (.iload_n 0, 1) := by decide +kernel
theorem dJ6_bitCount_0f7a4_1 : decode cJ6_bitCount_0f7a4 1 = .ok (.iload_n 0, 1) := by decide +kernel
theorem dJ6_bitCount_0f7a4_2 : decode cJ6_bitCount_0f7a4 2 = .ok (.iconst 1, 1) := by decide +kernel
theorem dJ6_bitCount_0f7a4_3 : decode cJ6_bitCount_0f7a4 3 = .ok (.iushr, 1) := by decide +kernel
theorem dJ6_bitCount_0f7a4_4 : decode cJ6_bitCount_0f7a4 4 = .ok (.ldc_w 265, 3) := by decide +kernel
theorem dJ6_bitCount_0f7a4_7 : decode cJ6_bitCount_0f7a4 7 = .ok (.iand, 1) := by decide +kernel
theorem dJ6_bitCount_0f7a4_8 : decode cJ6_bitCount_0f7a4 8 = .ok (.isub, 1) := by decide +kernel
theorem dJ6_bitCount_0f7a4_9 : decode cJ6_bitCount_0f7a4 9 = .ok (.istore_n 0, 1) := by decide +kernel
theorem dJ6_bitCount_0f7a4_10 : decode cJ6_bitCount_0f7a4 10 = .ok (.iload_n 0, 1) := by decide +kernel
theorem dJ6_bitCount_0f7a4_11 : decode cJ6_bitCount_0f7a4 11 = .ok (.ldc_w 266, 3) := by decide +kernel
theorem dJ6_bitCount_0f7a4_14 : decode cJ6_bitCount_0f7a4 14 = .ok (.iand, 1) := by decide +kernel
theorem dJ6_bitCount_0f7a4_15 : decode cJ6_bitCount_0f7a4 15 = .ok (.iload_n 0, 1) := by decide +kernel
theorem dJ6_bitCount_0f7a4_16 : decode cJ6_bitCount_0f7a4 16 = .ok (.iconst 2, 1) := by decide +kernel
theorem dJ6_bitCount_0f7a4_17 : decode cJ6_bitCount_0f7a4 17 = .ok (.iushr, 1) := by decide +kernel
theorem dJ6_bitCount_0f7a4_18 : decode cJ6_bitCount_0f7a4 18 = .ok (.ldc_w 266, 3) := by decide +kernel
theorem dJ6_bitCount_0f7a4_21 : decode cJ6_bitCount_0f7a4 21 = .ok (.iand, 1) := by decide +kernel
theorem dJ6_bitCount_0f7a4_22 : decode cJ6_bitCount_0f7a4 22 = .ok (.iadd, 1) := by decide +kernel
theorem dJ6_bitCount_0f7a4_23 : decode cJ6_bitCount_0f7a4 23 = .ok (.istore_n 0, 1) := by decide +kernel
theorem dJ6_bitCount_0f7a4_24 : decode cJ6_bitCount_0f7a4 24 = .ok (.iload_n 0, 1) := by decide +kernel
theorem dJ6_bitCount_0f7a4_25 : decode cJ6_bitCount_0f7a4 25 = .ok (.iload_n 0, 1) := by decide +kernel
theorem dJ6_bitCount_0f7a4_26 : decode cJ6_bitCount_0f7a4 26 = .ok (.iconst 4, 1) := by decide +kernel
theorem dJ6_bitCount_0f7a4_27 : decode cJ6_bitCount_0f7a4 27 = .ok (.iushr, 1) := by decide +kernel
theorem dJ6_bitCount_0f7a4_28 : decode cJ6_bitCount_0f7a4 28 = .ok (.iadd, 1) := by decide +kernel
theorem dJ6_bitCount_0f7a4_29 : decode cJ6_bitCount_0f7a4 29 = .ok (.ldc_w 267, 3) := by decide +kernel
theorem dJ6_bitCount_0f7a4_32 : decode cJ6_bitCount_0f7a4 32 = .ok (.iand, 1) := by decide +kernel
theorem dJ6_bitCount_0f7a4_33 : decode cJ6_bitCount_0f7a4 33 = .ok (.istore_n 0, 1) := by decide +kernel
theorem dJ6_bitCount_0f7a4_34 : decode cJ6_bitCount_0f7a4 34 = .ok (.iload_n 0, 1) := by decide +kernel
theorem dJ6_bitCount_0f7a4_35 : decode cJ6_bitCount_0f7a4 35 = .ok (.iload_n 0, 1) := by decide +kernel
theorem dJ6_bitCount_0f7a4_36 : decode cJ6_bitCount_0f7a4 36 = .ok (.bipush 8, 2) := by decide +kernel
theorem dJ6_bitCount_0f7a4_38 : decode cJ6_bitCount_0f7a4 38 = .ok (.iushr, 1) := by decide +kernel
theorem dJ6_bitCount_0f7a4_39 : decode cJ6_bitCount_0f7a4 39 = .ok (.iadd, 1) := by decide +kernel
theorem dJ6_bitCount_0f7a4_40 : decode cJ6_bitCount_0f7a4 40 = .ok (.istore_n 0, 1) := by decide +kernel
theorem dJ6_bitCount_0f7a4_41 : decode cJ6_bitCount_0f7a4 41 = .ok (.iload_n 0, 1) := by decide +kernel
theorem dJ6_bitCount_0f7a4_42 : decode cJ6_bitCount_0f7a4 42 = .ok (.iload_n 0, 1) := by decide +kernel
theorem dJ6_bitCount_0f7a4_43 : decode cJ6_bitCount_0f7a4 43 = .ok (.bipush 16, 2) := by decide +kernel
theorem dJ6_bitCount_0f7a4_45 : decode cJ6_bitCount_0f7a4 45 = .ok (.iushr, 1) := by decide +kernel
theorem dJ6_bitCount_0f7a4_46 : decode cJ6_bitCount_0f7a4 46 = .ok (.iadd, 1) := by decide +kernel
theorem dJ6_bitCount_0f7a4_47 : decode cJ6_bitCount_0f7a4 47 = .ok (.istore_n 0, 1) := by decide +kernel
theorem dJ6_bitCount_0f7a4_48 : decode cJ6_bitCount_0f7a4 48 = .ok (.iload_n 0, 1) := by decide +kernel
theorem dJ6_bitCount_0f7a4_49 : decode cJ6_bitCount_0f7a4 49 = .ok (.bipush 63, 2) := by decide +kernel
theorem dJ6_bitCount_0f7a4_51 : decode cJ6_bitCount_0f7a4 51 = .ok (.iand, 1) := by decide +kernel
theorem dJ6_bitCount_0f7a4_52 : decode cJ6_bitCount_0f7a4 52 = .ok (.ireturn, 1) := by decide +kernel
theorem dJ9_floorMod_7cf53_0 : decode cJ9_floorMod_7cf53 0 = .ok (.iload_n 0, 1) := by decide +kernel
theorem dJ9_floorMod_7cf53_1 : decode cJ9_floorMod_7cf53 1 = .ok (.iload_n 1, 1) := by decide +kernel
theorem dJ9_floorMod_7cf53_2 : decode cJ9_floorMod_7cf53 2 = .ok (.irem, 1) := by decide +kernel
theorem dJ9_floorMod_7cf53_3 : decode cJ9_floorMod_7cf53 3 = .ok (.istore_n 2, 1) := by decide +kernel
theorem dJ9_floorMod_7cf53_4 : decode cJ9_floorMod_7cf53 4 = .ok (.iload_n 0, 1) := by decide +kernel
theorem dJ9_floorMod_7cf53_5 : decode cJ9_floorMod_7cf53 5 = .ok (.iload_n 1, 1) := by decide +kernel
theorem dJ9_floorMod_7cf53_6 : decode cJ9_floorMod_7cf53 6 = .ok (.ixor, 1) := by decide +kernel
theorem dJ9_floorMod_7cf53_7 : decode cJ9_floorMod_7cf53 7 = .ok (.ifCond .ge 11, 3) := by decide +kernel
theorem dJ9_floorMod_7cf53_10 : decode cJ9_floorMod_7cf53 10 = .ok (.iload_n 2, 1) := by decide +kernel
theorem dJ9_floorMod_7cf53_11 : decode cJ9_floorMod_7cf53 11 = .ok (.ifCond .eq 7, 3) := by decide +kernel
theorem dJ9_floorMod_7cf53_14 : decode cJ9_floorMod_7cf53 14 = .ok (.iload_n 2, 1) := by decide +kernel
theorem dJ9_floorMod_7cf53_15 : decode cJ9_floorMod_7cf53 15 = .ok (.iload_n 1, 1) := by decide +kernel
theorem dJ9_floorMod_7cf53_16 : decode cJ9_floorMod_7cf53 16 = .ok (.iadd, 1) := by decide +kernel
theorem dJ9_floorMod_7cf53_17 : decode cJ9_floorMod_7cf53 17 = .ok (.ireturn, 1) := by decide +kernel
theorem dJ9_floorMod_7cf53_18 : decode cJ9_floorMod_7cf53 18 = .ok (.iload_n 2, 1) := by decide +kernel
theorem dJ9_floorMod_7cf53_19 : decode cJ9_floorMod_7cf53 19 = .ok (.ireturn, 1) := by decide +kernel
theorem dJ9_max_7cf53_0 : decode cJ9_max_7cf53 0 = .ok (.iload_n 0, 1) := by decide +kernel
theorem dJ9_max_7cf53_1 : decode cJ9_max_7cf53 1 = .ok (.iload_n 1, 1) := by decide +kernel
theorem dJ9_max_7cf53_2 : decode cJ9_max_7cf53 2 = .ok (.if_icmp .lt 7, 3) := by decide +kernel
theorem dJ9_max_7cf53_5 : decode cJ9_max_7cf53 5 = .ok (.iload_n 0, 1) := by decide +kernel
theorem dJ9_max_7cf53_6 : decode cJ9_max_7cf53 6 = .ok (.goto 4, 3) := by decide +kernel
theorem dJ9_max_7cf53_9 : decode cJ9_max_7cf53 9 = .ok (.iload_n 1, 1) := by decide +kernel
theorem dJ9_max_7cf53_10 : decode cJ9_max_7cf53 10 = .ok (.ireturn, 1) := by decide +kernel
theorem dJ0_length_8abf5_0 : decode cJ0_length_8abf5 0 = .ok (.aload_n 0, 1) := by decide +kernel
theorem dJ0_length_8abf5_1 : decode cJ0_length_8abf5 1 = .ok (.getfield 9, 3) := by decide +kernel
theorem dJ0_length_8abf5_4 : decode cJ0_length_8abf5 4 = .ok (.arraylength, 1) := by decide +kernel
theorem dJ0_length_8abf5_5 : decode cJ0_length_8abf5 5 = .ok (.aload_n 0, 1) := by decide +kernel
theorem dJ0_length_8abf5_6 : decode cJ0_length_8abf5 6 = .ok (.invokevirtual 335, 3) := by decide +kernel
theorem dJ0_length_8abf5_9 : decode cJ0_length_8abf5 9 = .ok (.ishr, 1) := by decide +kernel
theorem dJ0_length_8abf5_10 : decode cJ0_length_8abf5 10 = .ok (.ireturn, 1) := by decide +kernel
theorem dJ0_charAt_5068e_0 : decode cJ0_charAt_5068e 0 = .ok (.aload_n 0, 1) := by decide +kernel
theorem dJ0_charAt_5068e_1 : decode cJ0_charAt_5068e 1 = .ok (.invokevirtual 492, 3) := by decide +kernel
theorem dJ0_charAt_5068e_4 : decode cJ0_charAt_5068e 4 = .ok (.ifCond .eq 12, 3) := by decide +kernel
theorem dJ0_charAt_5068e_7 : decode cJ0_charAt_5068e 7 = .ok (.aload_n 0, 1) := by decide +kernel
theorem dJ0_charAt_5068e_8 : decode cJ0_charAt_5068e 8 = .ok (.getfield 9, 3) := by decide +kernel
theorem dJ0_charAt_5068e_11 : decode cJ0_charAt_5068e 11 = .ok (.iload_n 1, 1) := by decide +kernel
theorem dJ0_charAt_5068e_12 : decode cJ0_charAt_5068e 12 = .ok (.invokestatic 495, 3) := by decide +kernel
theorem dJ0_charAt_5068e_15 : decode cJ0_charAt_5068e 15 = .ok (.ireturn, 1) := by decide +kernel
theorem dJ0_charAt_5068e_16 : decode cJ0_charAt_5068e 16 = .ok (.aload_n 0, 1) := by decide +kernel
theorem dJ0_charAt_5068e_17 : decode cJ0_charAt_5068e 17 = .ok (.getfield 9, 3) := by decide +kernel
theorem dJ0_charAt_5068e_20 : decode cJ0_charAt_5068e 20 = .ok (.iload_n 1, 1) := by decide +kernel
theorem dJ0_charAt_5068e_21 : decode cJ0_charAt_5068e 21 = .ok (.invokestatic 498, 3) := by decide +kernel
theorem dJ0_charAt_5068e_24 : decode cJ0_charAt_5068e 24 = .ok (.ireturn, 1) := by decide +kernel
theorem dJ0_coder_7d493_0 : decode cJ0_coder_7d493 0 = .ok (.getstatic 38, 3) := by decide +kernel
theorem dJ0_coder_7d493_3 : decode cJ0_coder_7d493 3 = .ok (.ifCond .eq 10, 3) := by decide +kernel
theorem dJ0_coder_7d493_6 : decode cJ0_coder_7d493 6 = .ok (.aload_n 0, 1) := by decide +kernel
theorem dJ0_coder_7d493_7 : decode cJ0_coder_7d493 7 = .ok (.getfield 15, 3) := by decide +kernel
theorem dJ0_coder_7d493_10 : decode cJ0_coder_7d493 10 = .ok (.goto 4, 3) := by decide +kernel
theorem dJ0_coder_7d493_13 : decode cJ0_coder_7d493 13 = .ok (.iconst 1, 1) := by decide +kernel
theorem dJ0_coder_7d493_14 : decode cJ0_coder_7d493 14 = .ok (.ireturn, 1) := by decide +kernel
theorem dJ0_isLatin1_aae02_0 : decode cJ0_isLatin1_aae02 0 = .ok (.getstatic 38, 3) := by decide +kernel
theorem dJ0_isLatin1_aae02_3 : decode cJ0_isLatin1_aae02 3 = .ok (.ifCond .eq 14, 3) := by decide +kernel
theorem dJ0_isLatin1_aae02_6 : decode cJ0_isLatin1_aae02 6 = .ok (.aload_n 0, 1) := by decide +kernel
theorem dJ0_isLatin1_aae02_7 : decode cJ0_isLatin1_aae02 7 = .ok (.getfield 15, 3) := by decide +kernel
theorem dJ0_isLatin1_aae02_10 : decode cJ0_isLatin1_aae02 10 = .ok (.ifCond .ne 7, 3) := by decide +kernel
theorem dJ0_isLatin1_aae02_13 : decode cJ0_isLatin1_aae02 13 = .ok (.iconst 1, 1) := by decide +kernel
theorem dJ0_isLatin1_aae02_14 : decode cJ0_isLatin1_aae02 14 = .ok (.goto 4, 3) := by decide +kernel
theorem dJ0_isLatin1_aae02_17 : decode cJ0_isLatin1_aae02 17 = .ok (.iconst 0, 1) := by decide +kernel
theorem dJ0_isLatin1_aae02_18 : decode cJ0_isLatin1_aae02 18 = .ok (.ireturn, 1) := by decide +kernel
theorem dJ0_checkIndex_df160_0 : decode cJ0_checkIndex_df160 0 = .ok (.iload_n 0, 1) := by decide +kernel
theorem dJ0_checkIndex_df160_1 : decode cJ0_checkIndex_df160 1 = .ok (.iload_n 1, 1) := by decide +kernel
theorem dJ0_checkIndex_df160_2 : decode cJ0_checkIndex_df160 2 = .ok (.getstatic 1053, 3) := by decide +kernel
theorem dJ0_checkIndex_df160_5 : decode cJ0_checkIndex_df160 5 = .ok (.invokestatic 1059, 3) := by decide +kernel
theorem dJ0_checkIndex_df160_8 : decode cJ0_checkIndex_df160 8 = .ok (.pop, 1) := by decide +kernel
theorem dJ0_checkIndex_df160_9 : decode cJ0_checkIndex_df160 9 = .ok (.return_, 1) := by decide +kernel
theorem dJ1_charAt_3b067_0 : decode cJ1_charAt_3b067 0 = .ok (.iload_n 1, 1) := by decide +kernel
theorem dJ1_charAt_3b067_1 : decode cJ1_charAt_3b067 1 = .ok (.aload_n 0, 1) := by decide +kernel
theorem dJ1_charAt_3b067_2 : decode cJ1_charAt_3b067 2 = .ok (.arraylength, 1) := by decide +kernel
theorem dJ1_charAt_3b067_3 : decode cJ1_charAt_3b067 3 = .ok (.invokestatic 9, 3) := by decide +kernel
theorem dJ1_charAt_3b067_6 : decode cJ1_charAt_3b067 6 = .ok (.aload_n 0, 1) := by decide +kernel
theorem dJ1_charAt_3b067_7 : decode cJ1_charAt_3b067 7 = .ok (.iload_n 1, 1) := by decide +kernel
theorem dJ1_charAt_3b067_8 : decode cJ1_charAt_3b067 8 = .ok (.baload, 1) := by decide +kernel
theorem dJ1_charAt_3b067_9 : decode cJ1_charAt_3b067 9 = .ok (.sipush 255, 3) := by decide +kernel
theorem dJ1_charAt_3b067_12 : decode cJ1_charAt_3b067 12 = .ok (.iand, 1) := by decide +kernel
theorem dJ1_charAt_3b067_13 : decode cJ1_charAt_3b067 13 = .ok (.i2c, 1) := by decide +kernel
theorem dJ1_charAt_3b067_14 : decode cJ1_charAt_3b067 14 = .ok (.ireturn, 1) := by decide +kernel
theorem dJ2_getChar_3b067_0 : decode cJ2_getChar_3b067 0 = .ok (.getstatic 44, 3) := by decide +kernel
theorem dJ2_getChar_3b067_3 : decode cJ2_getChar_3b067 3 = .ok (.ifCond .ne 25, 3) := by decide +kernel
theorem dJ2_getChar_3b067_6 : decode cJ2_getChar_3b067 6 = .ok (.iload_n 1, 1) := by decide +kernel
theorem dJ2_getChar_3b067_7 : decode cJ2_getChar_3b067 7 = .ok (.ifCond .lt 11, 3) := by decide +kernel
theorem dJ2_getChar_3b067_10 : decode cJ2_getChar_3b067 10 = .ok (.iload_n 1, 1) := by decide +kernel
theorem dJ2_getChar_3b067_11 : decode cJ2_getChar_3b067 11 = .ok (.aload_n 0, 1) := by decide +kernel
theorem dJ2_getChar_3b067_12 : decode cJ2_getChar_3b067 12 = .ok (.invokestatic 48, 3) := by decide +kernel
theorem dJ2_getChar_3b067_15 : decode cJ2_getChar_3b067 15 = .ok (.if_icmp .lt 13, 3) := by decide +kernel
theorem dJ2_getChar_3b067_18 : decode cJ2_getChar_3b067 18 = .ok (.new 52, 3) := by decide +kernel
theorem dJ2_getChar_3b067_21 : decode cJ2_getChar_3b067 21 = .ok (.dup, 1) := by decide +kernel
theorem dJ2_getChar_3b067_22 : decode cJ2_getChar_3b067 22 = .ok (.ldc 54, 2) := by decide +kernel
theorem dJ2_getChar_3b067_24 : decode cJ2_getChar_3b067 24 = .ok (.invokespecial 56, 3) := by decide +kernel
theorem dJ2_getChar_3b067_27 : decode cJ2_getChar_3b067 27 = .ok (.athrow, 1) := by decide +kernel
theorem dJ2_getChar_3b067_28 : decode cJ2_getChar_3b067 28 = .ok (.iload_n 1, 1) := by decide +kernel
theorem dJ2_getChar_3b067_29 : decode cJ2_getChar_3b067 29 = .ok (.iconst 1, 1) := by decide +kernel
theorem dJ2_getChar_3b067_30 : decode cJ2_getChar_3b067 30 = .ok (.ishl, 1) := by decide +kernel
theorem dJ2_getChar_3b067_31 : decode cJ2_getChar_3b067 31 = .ok (.istore_n 1, 1) := by decide +kernel
theorem dJ2_getChar_3b067_32 : decode cJ2_getChar_3b067 32 = .ok (.aload_n 0, 1) := by decide +kernel
theorem dJ2_getChar_3b067_33 : decode cJ2_getChar_3b067 33 = .ok (.iload_n 1, 1) := by decide +kernel
theorem dJ2_getChar_3b067_34 : decode cJ2_getChar_3b067 34 = .ok (.iinc 1 1, 3) := by decide +kernel
theorem dJ2_getChar_3b067_37 : decode cJ2_getChar_3b067 37 = .ok (.baload, 1) := by decide +kernel
theorem dJ2_getChar_3b067_38 : decode cJ2_getChar_3b067 38 = .ok (.sipush 255, 3) := by decide +kernel
theorem dJ2_getChar_3b067_41 : decode cJ2_getChar_3b067 41 = .ok (.iand, 1) := by decide +kernel
theorem dJ2_getChar_3b067_42 : decode cJ2_getChar_3b067 42 = .ok (.getstatic 59, 3) := by decide +kernel
theorem dJ2_getChar_3b067_45 : decode cJ2_getChar_3b067 45 = .ok (.ishl, 1) := by decide +kernel
theorem dJ2_getChar_3b067_46 : decode cJ2_getChar_3b067 46 = .ok (.aload_n 0, 1) := by decide +kernel
theorem dJ2_getChar_3b067_47 : decode cJ2_getChar_3b067 47 = .ok (.iload_n 1, 1) := by decide +kernel
theorem dJ2_getChar_3b067_48 : decode cJ2_getChar_3b067 48 = .ok (.baload, 1) := by decide +kernel
theorem dJ2_getChar_3b067_49 : decode cJ2_getChar_3b067 49 = .ok (.sipush 255, 3) := by decide +kernel
theorem dJ2_getChar_3b067_52 : decode cJ2_getChar_3b067 52 = .ok (.iand, 1) := by decide +kernel
theorem dJ2_getChar_3b067_53 : decode cJ2_getChar_3b067 53 = .ok (.getstatic 63, 3) := by decide +kernel
theorem dJ2_getChar_3b067_56 : decode cJ2_getChar_3b067 56 = .ok (.ishl, 1) := by decide +kernel
theorem dJ2_getChar_3b067_57 : decode cJ2_getChar_3b067 57 = .ok (.ior, 1) := by decide +kernel
theorem dJ2_getChar_3b067_58 : decode cJ2_getChar_3b067 58 = .ok (.i2c, 1) := by decide +kernel
theorem dJ2_getChar_3b067_59 : decode cJ2_getChar_3b067 59 = .ok (.ireturn, 1) := by decide +kernel
theorem dJ2_length_9d52b_0 : decode cJ2_length_9d52b 0 = .ok (.aload_n 0, 1) := by decide +kernel
theorem dJ2_length_9d52b_1 : decode cJ2_length_9d52b 1 = .ok (.arraylength, 1) := by decide +kernel
theorem dJ2_length_9d52b_2 : decode cJ2_length_9d52b 2 = .ok (.iconst 1, 1) := by decide +kernel
theorem dJ2_length_9d52b_3 : decode cJ2_length_9d52b 3 = .ok (.ishr, 1) := by decide +kernel
theorem dJ2_length_9d52b_4 : decode cJ2_length_9d52b 4 = .ok (.ireturn, 1) := by decide +kernel
theorem dJ2_charAt_3b067_0 : decode cJ2_charAt_3b067 0 = .ok (.iload_n 1, 1) := by decide +kernel
theorem dJ2_charAt_3b067_1 : decode cJ2_charAt_3b067 1 = .ok (.aload_n 0, 1) := by decide +kernel
theorem dJ2_charAt_3b067_2 : decode cJ2_charAt_3b067 2 = .ok (.invokestatic 67, 3) := by decide +kernel
theorem dJ2_charAt_3b067_5 : decode cJ2_charAt_3b067 5 = .ok (.aload_n 0, 1) := by decide +kernel
theorem dJ2_charAt_3b067_6 : decode cJ2_charAt_3b067 6 = .ok (.iload_n 1, 1) := by decide +kernel
theorem dJ2_charAt_3b067_7 : decode cJ2_charAt_3b067 7 = .ok (.invokestatic 71, 3) := by decide +kernel
theorem dJ2_charAt_3b067_10 : decode cJ2_charAt_3b067 10 = .ok (.ireturn, 1) := by decide +kernel
theorem dJ2_checkIndex_2214a_0 : decode cJ2_checkIndex_2214a 0 = .ok (.iload_n 0, 1) := by decide +kernel
theorem dJ2_checkIndex_2214a_1 : decode cJ2_checkIndex_2214a 1 = .ok (.aload_n 1, 1) := by decide +kernel
theorem dJ2_checkIndex_2214a_2 : decode cJ2_checkIndex_2214a 2 = .ok (.invokestatic 48, 3) := by decide +kernel
theorem dJ2_checkIndex_2214a_5 : decode cJ2_checkIndex_2214a 5 = .ok (.invokestatic 414, 3) := by decide +kernel
theorem dJ2_checkIndex_2214a_8 : decode cJ2_checkIndex_2214a 8 = .ok (.return_, 1) := by decide +kernel
theorem dJ3_checkIndex_8e157_0 : decode cJ3_checkIndex_8e157 0 = .ok (.iload_n 0, 1) := by decide +kernel
theorem dJ3_checkIndex_8e157_1 : decode cJ3_checkIndex_8e157 1 = .ok (.ifCond .lt 8, 3) := by decide +kernel
theorem dJ3_checkIndex_8e157_4 : decode cJ3_checkIndex_8e157 4 = .ok (.iload_n 0, 1) := by decide +kernel
theorem dJ3_checkIndex_8e157_5 : decode cJ3_checkIndex_8e157 5 = .ok (.iload_n 1, 1) := by decide +kernel
theorem dJ3_checkIndex_8e157_6 : decode cJ3_checkIndex_8e157 6 = .ok (.if_icmp .lt 10, 3) := by decide +kernel
theorem dJ3_checkIndex_8e157_9 : decode cJ3_checkIndex_8e157 9 = .ok (.aload_n 2, 1) := by decide +kernel
theorem dJ3_checkIndex_8e157_10 : decode cJ3_checkIndex_8e157 10 = .ok (.iload_n 0, 1) := by decide +kernel
theorem dJ3_checkIndex_8e157_11 : decode cJ3_checkIndex_8e157 11 = .ok (.iload_n 1, 1) := by decide +kernel
theorem dJ3_checkIndex_8e157_12 : decode cJ3_checkIndex_8e157 12 = .ok (.invokestatic 95, 3) := by decide +kernel
theorem dJ3_checkIndex_8e157_15 : decode cJ3_checkIndex_8e157 15 = .ok (.athrow, 1) := by decide +kernel
theorem dJ3_checkIndex_8e157_16 : decode cJ3_checkIndex_8e157 16 = .ok (.iload_n 0, 1) := by decide +kernel
theorem dJ3_checkIndex_8e157_17 : decode cJ3_checkIndex_8e157 17 = .ok (.ireturn, 1) := by decide +kernel
theorem dL_law_0 : decode cL_law 0 = .ok (.new 7, 3) := by decide +kernel
theorem dL_law_3 : decode cL_law 3 = .ok (.dup, 1) := by decide +kernel
theorem dL_law_4 : decode cL_law 4 = .ok (.invokespecial 9, 3) := by decide +kernel
theorem dL_law_7 : decode cL_law 7 = .ok (.astore_n 1, 1) := by decide +kernel
theorem dL_law_8 : decode cL_law 8 = .ok (.new 10, 3) := by decide +kernel
theorem dL_law_11 : decode cL_law 11 = .ok (.dup, 1) := by decide +kernel
theorem dL_law_12 : decode cL_law 12 = .ok (.invokespecial 12, 3) := by decide +kernel
theorem dL_law_15 : decode cL_law 15 = .ok (.astore_n 2, 1) := by decide +kernel
theorem dL_law_16 : decode cL_law 16 = .ok (.iconst 0, 1) := by decide +kernel
theorem dL_law_17 : decode cL_law 17 = .ok (.istore_n 3, 1) := by decide +kernel
theorem dL_law_18 : decode cL_law 18 = .ok (.iload_n 3, 1) := by decide +kernel
theorem dL_law_19 : decode cL_law 19 = .ok (.aload_n 0, 1) := by decide +kernel
theorem dL_law_20 : decode cL_law 20 = .ok (.arraylength, 1) := by decide +kernel
theorem dL_law_21 : decode cL_law 21 = .ok (.iconst 5, 1) := by decide +kernel
theorem dL_law_22 : decode cL_law 22 = .ok (.isub, 1) := by decide +kernel
theorem dL_law_23 : decode cL_law 23 = .ok (.if_icmp .gt 914, 3) := by decide +kernel
theorem dL_law_26 : decode cL_law 26 = .ok (.aload_n 0, 1) := by decide +kernel
theorem dL_law_27 : decode cL_law 27 = .ok (.iload_n 3, 1) := by decide +kernel
theorem dL_law_28 : decode cL_law 28 = .ok (.iaload, 1) := by decide +kernel
theorem dL_law_29 : decode cL_law 29 = .ok (.bipush 31, 2) := by decide +kernel
theorem dL_law_31 : decode cL_law 31 = .ok (.iand, 1) := by decide +kernel
theorem dL_law_32 : decode cL_law 32 = .ok (.tableswitch 899 0 26 #[124, 187, 200, 213, 226, 259, 292, 325, 348, 391, 424, 457, 490, 513, 536, 559, 582, 605, 618, 641, 685, 709, 732, 755, 778, 822, 876], 124) := by decide +kernel
theorem dL_law_156 : decode cL_law 156 = .ok (.aload_n 1, 1) := by decide +kernel
theorem dL_law_157 : decode cL_law 157 = .ok (.aload_n 0, 1) := by decide +kernel
theorem dL_law_158 : decode cL_law 158 = .ok (.iload_n 3, 1) := by decide +kernel
theorem dL_law_159 : decode cL_law 159 = .ok (.iconst 1, 1) := by decide +kernel
theorem dL_law_160 : decode cL_law 160 = .ok (.iadd, 1) := by decide +kernel
theorem dL_law_161 : decode cL_law 161 = .ok (.iaload, 1) := by decide +kernel
theorem dL_law_162 : decode cL_law 162 = .ok (.i2l, 1) := by decide +kernel
theorem dL_law_163 : decode cL_law 163 = .ok (.bipush 32, 2) := by decide +kernel
theorem dL_law_165 : decode cL_law 165 = .ok (.lshl, 1) := by decide +kernel
theorem dL_law_166 : decode cL_law 166 = .ok (.aload_n 0, 1) := by decide +kernel
theorem dL_law_167 : decode cL_law 167 = .ok (.iload_n 3, 1) := by decide +kernel
theorem dL_law_168 : decode cL_law 168 = .ok (.iconst 2, 1) := by decide +kernel
theorem dL_law_169 : decode cL_law 169 = .ok (.iadd, 1) := by decide +kernel
theorem dL_law_170 : decode cL_law 170 = .ok (.iaload, 1) := by decide +kernel
theorem dL_law_171 : decode cL_law 171 = .ok (.i2l, 1) := by decide +kernel
theorem dL_law_172 : decode cL_law 172 = .ok (.ldc2_w 13, 3) := by decide +kernel
theorem dL_law_175 : decode cL_law 175 = .ok (.land, 1) := by decide +kernel
theorem dL_law_176 : decode cL_law 176 = .ok (.lor, 1) := by decide +kernel
theorem dL_law_177 : decode cL_law 177 = .ok (.aload_n 0, 1) := by decide +kernel
theorem dL_law_178 : decode cL_law 178 = .ok (.iload_n 3, 1) := by decide +kernel
theorem dL_law_179 : decode cL_law 179 = .ok (.iconst 3, 1) := by decide +kernel
theorem dL_law_180 : decode cL_law 180 = .ok (.iadd, 1) := by decide +kernel
theorem dL_law_181 : decode cL_law 181 = .ok (.iaload, 1) := by decide +kernel
theorem dL_law_182 : decode cL_law 182 = .ok (.invokevirtual 15, 3) := by decide +kernel
theorem dL_law_185 : decode cL_law 185 = .ok (.aload_n 2, 1) := by decide +kernel
theorem dL_law_186 : decode cL_law 186 = .ok (.aload_n 0, 1) := by decide +kernel
theorem dL_law_187 : decode cL_law 187 = .ok (.iload_n 3, 1) := by decide +kernel
theorem dL_law_188 : decode cL_law 188 = .ok (.iconst 1, 1) := by decide +kernel
theorem dL_law_189 : decode cL_law 189 = .ok (.iadd, 1) := by decide +kernel
theorem dL_law_190 : decode cL_law 190 = .ok (.iaload, 1) := by decide +kernel
theorem dL_law_191 : decode cL_law 191 = .ok (.i2l, 1) := by decide +kernel
theorem dL_law_192 : decode cL_law 192 = .ok (.bipush 32, 2) := by decide +kernel
theorem dL_law_194 : decode cL_law 194 = .ok (.lshl, 1) := by decide +kernel
theorem dL_law_195 : decode cL_law 195 = .ok (.aload_n 0, 1) := by decide +kernel
theorem dL_law_196 : decode cL_law 196 = .ok (.iload_n 3, 1) := by decide +kernel
theorem dL_law_197 : decode cL_law 197 = .ok (.iconst 2, 1) := by decide +kernel
theorem dL_law_198 : decode cL_law 198 = .ok (.iadd, 1) := by decide +kernel
theorem dL_law_199 : decode cL_law 199 = .ok (.iaload, 1) := by decide +kernel
theorem dL_law_200 : decode cL_law 200 = .ok (.i2l, 1) := by decide +kernel
theorem dL_law_201 : decode cL_law 201 = .ok (.ldc2_w 13, 3) := by decide +kernel
theorem dL_law_204 : decode cL_law 204 = .ok (.land, 1) := by decide +kernel
theorem dL_law_205 : decode cL_law 205 = .ok (.lor, 1) := by decide +kernel
theorem dL_law_206 : decode cL_law 206 = .ok (.aload_n 0, 1) := by decide +kernel
theorem dL_law_207 : decode cL_law 207 = .ok (.iload_n 3, 1) := by decide +kernel
theorem dL_law_208 : decode cL_law 208 = .ok (.iconst 3, 1) := by decide +kernel
theorem dL_law_209 : decode cL_law 209 = .ok (.iadd, 1) := by decide +kernel
theorem dL_law_210 : decode cL_law 210 = .ok (.iaload, 1) := by decide +kernel
theorem dL_law_211 : decode cL_law 211 = .ok (.invokevirtual 19, 3) := by decide +kernel
theorem dL_law_214 : decode cL_law 214 = .ok (.if_icmp .eq 717, 3) := by decide +kernel
theorem dL_law_217 : decode cL_law 217 = .ok (.iconst 0, 1) := by decide +kernel
theorem dL_law_218 : decode cL_law 218 = .ok (.ireturn, 1) := by decide +kernel
theorem dL_law_219 : decode cL_law 219 = .ok (.aload_n 1, 1) := by decide +kernel
theorem dL_law_220 : decode cL_law 220 = .ok (.invokevirtual 20, 3) := by decide +kernel
theorem dL_law_223 : decode cL_law 223 = .ok (.aload_n 2, 1) := by decide +kernel
theorem dL_law_224 : decode cL_law 224 = .ok (.invokevirtual 24, 3) := by decide +kernel
theorem dL_law_227 : decode cL_law 227 = .ok (.if_icmp .eq 704, 3) := by decide +kernel
theorem dL_law_230 : decode cL_law 230 = .ok (.iconst 0, 1) := by decide +kernel
theorem dL_law_231 : decode cL_law 231 = .ok (.ireturn, 1) := by decide +kernel
theorem dL_law_232 : decode cL_law 232 = .ok (.aload_n 1, 1) := by decide +kernel
theorem dL_law_233 : decode cL_law 233 = .ok (.invokevirtual 25, 3) := by decide +kernel
theorem dL_law_236 : decode cL_law 236 = .ok (.aload_n 2, 1) := by decide +kernel
theorem dL_law_237 : decode cL_law 237 = .ok (.invokevirtual 28, 3) := by decide +kernel
theorem dL_law_240 : decode cL_law 240 = .ok (.if_icmp .eq 691, 3) := by decide +kernel
theorem dL_law_243 : decode cL_law 243 = .ok (.iconst 0, 1) := by decide +kernel
theorem dL_law_244 : decode cL_law 244 = .ok (.ireturn, 1) := by decide +kernel
theorem dL_law_245 : decode cL_law 245 = .ok (.aload_n 1, 1) := by decide +kernel
theorem dL_law_246 : decode cL_law 246 = .ok (.invokevirtual 29, 3) := by decide +kernel
theorem dL_law_249 : decode cL_law 249 = .ok (.aload_n 2, 1) := by decide +kernel
theorem dL_law_250 : decode cL_law 250 = .ok (.invokevirtual 32, 3) := by decide +kernel
theorem dL_law_253 : decode cL_law 253 = .ok (.if_icmp .eq 678, 3) := by decide +kernel
theorem dL_law_256 : decode cL_law 256 = .ok (.iconst 0, 1) := by decide +kernel
theorem dL_law_257 : decode cL_law 257 = .ok (.ireturn, 1) := by decide +kernel
theorem dL_law_258 : decode cL_law 258 = .ok (.aload_n 1, 1) := by decide +kernel
theorem dL_law_259 : decode cL_law 259 = .ok (.aload_n 0, 1) := by decide +kernel
theorem dL_law_260 : decode cL_law 260 = .ok (.iload_n 3, 1) := by decide +kernel
theorem dL_law_261 : decode cL_law 261 = .ok (.iconst 1, 1) := by decide +kernel
theorem dL_law_262 : decode cL_law 262 = .ok (.iadd, 1) := by decide +kernel
theorem dL_law_263 : decode cL_law 263 = .ok (.iaload, 1) := by decide +kernel
theorem dL_law_264 : decode cL_law 264 = .ok (.aload_n 0, 1) := by decide +kernel
theorem dL_law_265 : decode cL_law 265 = .ok (.iload_n 3, 1) := by decide +kernel
theorem dL_law_266 : decode cL_law 266 = .ok (.iconst 2, 1) := by decide +kernel
theorem dL_law_267 : decode cL_law 267 = .ok (.iadd, 1) := by decide +kernel
theorem dL_law_268 : decode cL_law 268 = .ok (.iaload, 1) := by decide +kernel
theorem dL_law_269 : decode cL_law 269 = .ok (.invokevirtual 33, 3) := by decide +kernel
theorem dL_law_272 : decode cL_law 272 = .ok (.aload_n 2, 1) := by decide +kernel
theorem dL_law_273 : decode cL_law 273 = .ok (.aload_n 0, 1) := by decide +kernel
theorem dL_law_274 : decode cL_law 274 = .ok (.iload_n 3, 1) := by decide +kernel
theorem dL_law_275 : decode cL_law 275 = .ok (.iconst 1, 1) := by decide +kernel
theorem dL_law_276 : decode cL_law 276 = .ok (.iadd, 1) := by decide +kernel
theorem dL_law_277 : decode cL_law 277 = .ok (.iaload, 1) := by decide +kernel
theorem dL_law_278 : decode cL_law 278 = .ok (.aload_n 0, 1) := by decide +kernel
theorem dL_law_279 : decode cL_law 279 = .ok (.iload_n 3, 1) := by decide +kernel
theorem dL_law_280 : decode cL_law 280 = .ok (.iconst 2, 1) := by decide +kernel
theorem dL_law_281 : decode cL_law 281 = .ok (.iadd, 1) := by decide +kernel
theorem dL_law_282 : decode cL_law 282 = .ok (.iaload, 1) := by decide +kernel
theorem dL_law_283 : decode cL_law 283 = .ok (.invokevirtual 37, 3) := by decide +kernel
theorem dL_law_286 : decode cL_law 286 = .ok (.if_icmp .eq 645, 3) := by decide +kernel
theorem dL_law_289 : decode cL_law 289 = .ok (.iconst 0, 1) := by decide +kernel
theorem dL_law_290 : decode cL_law 290 = .ok (.ireturn, 1) := by decide +kernel
theorem dL_law_291 : decode cL_law 291 = .ok (.aload_n 1, 1) := by decide +kernel
theorem dL_law_292 : decode cL_law 292 = .ok (.aload_n 0, 1) := by decide +kernel
theorem dL_law_293 : decode cL_law 293 = .ok (.iload_n 3, 1) := by decide +kernel
theorem dL_law_294 : decode cL_law 294 = .ok (.iconst 1, 1) := by decide +kernel
theorem dL_law_295 : decode cL_law 295 = .ok (.iadd, 1) := by decide +kernel
theorem dL_law_296 : decode cL_law 296 = .ok (.iaload, 1) := by decide +kernel
theorem dL_law_297 : decode cL_law 297 = .ok (.aload_n 0, 1) := by decide +kernel
theorem dL_law_298 : decode cL_law 298 = .ok (.iload_n 3, 1) := by decide +kernel
theorem dL_law_299 : decode cL_law 299 = .ok (.iconst 2, 1) := by decide +kernel
theorem dL_law_300 : decode cL_law 300 = .ok (.iadd, 1) := by decide +kernel
theorem dL_law_301 : decode cL_law 301 = .ok (.iaload, 1) := by decide +kernel
theorem dL_law_302 : decode cL_law 302 = .ok (.invokevirtual 38, 3) := by decide +kernel
theorem dL_law_305 : decode cL_law 305 = .ok (.aload_n 2, 1) := by decide +kernel
theorem dL_law_306 : decode cL_law 306 = .ok (.aload_n 0, 1) := by decide +kernel
theorem dL_law_307 : decode cL_law 307 = .ok (.iload_n 3, 1) := by decide +kernel
theorem dL_law_308 : decode cL_law 308 = .ok (.iconst 1, 1) := by decide +kernel
theorem dL_law_309 : decode cL_law 309 = .ok (.iadd, 1) := by decide +kernel
theorem dL_law_310 : decode cL_law 310 = .ok (.iaload, 1) := by decide +kernel
theorem dL_law_311 : decode cL_law 311 = .ok (.aload_n 0, 1) := by decide +kernel
theorem dL_law_312 : decode cL_law 312 = .ok (.iload_n 3, 1) := by decide +kernel
theorem dL_law_313 : decode cL_law 313 = .ok (.iconst 2, 1) := by decide +kernel
theorem dL_law_314 : decode cL_law 314 = .ok (.iadd, 1) := by decide +kernel
theorem dL_law_315 : decode cL_law 315 = .ok (.iaload, 1) := by decide +kernel
theorem dL_law_316 : decode cL_law 316 = .ok (.invokevirtual 41, 3) := by decide +kernel
theorem dL_law_319 : decode cL_law 319 = .ok (.if_icmp .eq 612, 3) := by decide +kernel
theorem dL_law_322 : decode cL_law 322 = .ok (.iconst 0, 1) := by decide +kernel
theorem dL_law_323 : decode cL_law 323 = .ok (.ireturn, 1) := by decide +kernel
theorem dL_law_324 : decode cL_law 324 = .ok (.aload_n 1, 1) := by decide +kernel
theorem dL_law_325 : decode cL_law 325 = .ok (.aload_n 0, 1) := by decide +kernel
theorem dL_law_326 : decode cL_law 326 = .ok (.iload_n 3, 1) := by decide +kernel
theorem dL_law_327 : decode cL_law 327 = .ok (.iconst 1, 1) := by decide +kernel
theorem dL_law_328 : decode cL_law 328 = .ok (.iadd, 1) := by decide +kernel
theorem dL_law_329 : decode cL_law 329 = .ok (.iaload, 1) := by decide +kernel
theorem dL_law_330 : decode cL_law 330 = .ok (.aload_n 0, 1) := by decide +kernel
theorem dL_law_331 : decode cL_law 331 = .ok (.iload_n 3, 1) := by decide +kernel
theorem dL_law_332 : decode cL_law 332 = .ok (.iconst 2, 1) := by decide +kernel
theorem dL_law_333 : decode cL_law 333 = .ok (.iadd, 1) := by decide +kernel
theorem dL_law_334 : decode cL_law 334 = .ok (.iaload, 1) := by decide +kernel
theorem dL_law_335 : decode cL_law 335 = .ok (.invokevirtual 42, 3) := by decide +kernel
theorem dL_law_338 : decode cL_law 338 = .ok (.aload_n 2, 1) := by decide +kernel
theorem dL_law_339 : decode cL_law 339 = .ok (.aload_n 0, 1) := by decide +kernel
theorem dL_law_340 : decode cL_law 340 = .ok (.iload_n 3, 1) := by decide +kernel
theorem dL_law_341 : decode cL_law 341 = .ok (.iconst 1, 1) := by decide +kernel
theorem dL_law_342 : decode cL_law 342 = .ok (.iadd, 1) := by decide +kernel
theorem dL_law_343 : decode cL_law 343 = .ok (.iaload, 1) := by decide +kernel
theorem dL_law_344 : decode cL_law 344 = .ok (.aload_n 0, 1) := by decide +kernel
theorem dL_law_345 : decode cL_law 345 = .ok (.iload_n 3, 1) := by decide +kernel
theorem dL_law_346 : decode cL_law 346 = .ok (.iconst 2, 1) := by decide +kernel
theorem dL_law_347 : decode cL_law 347 = .ok (.iadd, 1) := by decide +kernel
theorem dL_law_348 : decode cL_law 348 = .ok (.iaload, 1) := by decide +kernel
theorem dL_law_349 : decode cL_law 349 = .ok (.invokevirtual 45, 3) := by decide +kernel
theorem dL_law_352 : decode cL_law 352 = .ok (.if_icmp .eq 579, 3) := by decide +kernel
theorem dL_law_355 : decode cL_law 355 = .ok (.iconst 0, 1) := by decide +kernel
theorem dL_law_356 : decode cL_law 356 = .ok (.ireturn, 1) := by decide +kernel
theorem dL_law_357 : decode cL_law 357 = .ok (.aload_n 1, 1) := by decide +kernel
theorem dL_law_358 : decode cL_law 358 = .ok (.aload_n 0, 1) := by decide +kernel
theorem dL_law_359 : decode cL_law 359 = .ok (.iload_n 3, 1) := by decide +kernel
theorem dL_law_360 : decode cL_law 360 = .ok (.iconst 1, 1) := by decide +kernel
theorem dL_law_361 : decode cL_law 361 = .ok (.iadd, 1) := by decide +kernel
theorem dL_law_362 : decode cL_law 362 = .ok (.iaload, 1) := by decide +kernel
theorem dL_law_363 : decode cL_law 363 = .ok (.invokevirtual 46, 3) := by decide +kernel
theorem dL_law_366 : decode cL_law 366 = .ok (.aload_n 2, 1) := by decide +kernel
theorem dL_law_367 : decode cL_law 367 = .ok (.aload_n 0, 1) := by decide +kernel
theorem dL_law_368 : decode cL_law 368 = .ok (.iload_n 3, 1) := by decide +kernel
theorem dL_law_369 : decode cL_law 369 = .ok (.iconst 1, 1) := by decide +kernel
theorem dL_law_370 : decode cL_law 370 = .ok (.iadd, 1) := by decide +kernel
theorem dL_law_371 : decode cL_law 371 = .ok (.iaload, 1) := by decide +kernel
theorem dL_law_372 : decode cL_law 372 = .ok (.invokevirtual 50, 3) := by decide +kernel
theorem dL_law_375 : decode cL_law 375 = .ok (.if_icmp .eq 556, 3) := by decide +kernel
theorem dL_law_378 : decode cL_law 378 = .ok (.iconst 0, 1) := by decide +kernel
theorem dL_law_379 : decode cL_law 379 = .ok (.ireturn, 1) := by decide +kernel
theorem dL_law_380 : decode cL_law 380 = .ok (.aload_n 1, 1) := by decide +kernel
theorem dL_law_381 : decode cL_law 381 = .ok (.aload_n 0, 1) := by decide +kernel
theorem dL_law_382 : decode cL_law 382 = .ok (.iload_n 3, 1) := by decide +kernel
theorem dL_law_383 : decode cL_law 383 = .ok (.iconst 1, 1) := by decide +kernel
theorem dL_law_384 : decode cL_law 384 = .ok (.iadd, 1) := by decide +kernel
theorem dL_law_385 : decode cL_law 385 = .ok (.iaload, 1) := by decide +kernel
theorem dL_law_386 : decode cL_law 386 = .ok (.aload_n 0, 1) := by decide +kernel
theorem dL_law_387 : decode cL_law 387 = .ok (.iload_n 3, 1) := by decide +kernel
theorem dL_law_388 : decode cL_law 388 = .ok (.iconst 2, 1) := by decide +kernel
theorem dL_law_389 : decode cL_law 389 = .ok (.iadd, 1) := by decide +kernel
theorem dL_law_390 : decode cL_law 390 = .ok (.iaload, 1) := by decide +kernel
theorem dL_law_391 : decode cL_law 391 = .ok (.aload_n 0, 1) := by decide +kernel
theorem dL_law_392 : decode cL_law 392 = .ok (.iload_n 3, 1) := by decide +kernel
theorem dL_law_393 : decode cL_law 393 = .ok (.iconst 3, 1) := by decide +kernel
theorem dL_law_394 : decode cL_law 394 = .ok (.iadd, 1) := by decide +kernel
theorem dL_law_395 : decode cL_law 395 = .ok (.iaload, 1) := by decide +kernel
theorem dL_law_396 : decode cL_law 396 = .ok (.invokevirtual 51, 3) := by decide +kernel
theorem dL_law_399 : decode cL_law 399 = .ok (.aload_n 2, 1) := by decide +kernel
theorem dL_law_400 : decode cL_law 400 = .ok (.aload_n 0, 1) := by decide +kernel
theorem dL_law_401 : decode cL_law 401 = .ok (.iload_n 3, 1) := by decide +kernel
theorem dL_law_402 : decode cL_law 402 = .ok (.iconst 1, 1) := by decide +kernel
theorem dL_law_403 : decode cL_law 403 = .ok (.iadd, 1) := by decide +kernel
theorem dL_law_404 : decode cL_law 404 = .ok (.iaload, 1) := by decide +kernel
theorem dL_law_405 : decode cL_law 405 = .ok (.aload_n 0, 1) := by decide +kernel
theorem dL_law_406 : decode cL_law 406 = .ok (.iload_n 3, 1) := by decide +kernel
theorem dL_law_407 : decode cL_law 407 = .ok (.iconst 2, 1) := by decide +kernel
theorem dL_law_408 : decode cL_law 408 = .ok (.iadd, 1) := by decide +kernel
theorem dL_law_409 : decode cL_law 409 = .ok (.iaload, 1) := by decide +kernel
theorem dL_law_410 : decode cL_law 410 = .ok (.aload_n 0, 1) := by decide +kernel
theorem dL_law_411 : decode cL_law 411 = .ok (.iload_n 3, 1) := by decide +kernel
theorem dL_law_412 : decode cL_law 412 = .ok (.iconst 3, 1) := by decide +kernel
theorem dL_law_413 : decode cL_law 413 = .ok (.iadd, 1) := by decide +kernel
theorem dL_law_414 : decode cL_law 414 = .ok (.iaload, 1) := by decide +kernel
theorem dL_law_415 : decode cL_law 415 = .ok (.invokevirtual 55, 3) := by decide +kernel
theorem dL_law_418 : decode cL_law 418 = .ok (.if_icmp .eq 513, 3) := by decide +kernel
theorem dL_law_421 : decode cL_law 421 = .ok (.iconst 0, 1) := by decide +kernel
theorem dL_law_422 : decode cL_law 422 = .ok (.ireturn, 1) := by decide +kernel
theorem dL_law_423 : decode cL_law 423 = .ok (.aload_n 1, 1) := by decide +kernel
theorem dL_law_424 : decode cL_law 424 = .ok (.aload_n 0, 1) := by decide +kernel
theorem dL_law_425 : decode cL_law 425 = .ok (.iload_n 3, 1) := by decide +kernel
theorem dL_law_426 : decode cL_law 426 = .ok (.iconst 1, 1) := by decide +kernel
theorem dL_law_427 : decode cL_law 427 = .ok (.iadd, 1) := by decide +kernel
theorem dL_law_428 : decode cL_law 428 = .ok (.iaload, 1) := by decide +kernel
theorem dL_law_429 : decode cL_law 429 = .ok (.aload_n 0, 1) := by decide +kernel
theorem dL_law_430 : decode cL_law 430 = .ok (.iload_n 3, 1) := by decide +kernel
theorem dL_law_431 : decode cL_law 431 = .ok (.iconst 2, 1) := by decide +kernel
theorem dL_law_432 : decode cL_law 432 = .ok (.iadd, 1) := by decide +kernel
theorem dL_law_433 : decode cL_law 433 = .ok (.iaload, 1) := by decide +kernel
theorem dL_law_434 : decode cL_law 434 = .ok (.invokevirtual 56, 3) := by decide +kernel
theorem dL_law_437 : decode cL_law 437 = .ok (.aload_n 2, 1) := by decide +kernel
theorem dL_law_438 : decode cL_law 438 = .ok (.aload_n 0, 1) := by decide +kernel
theorem dL_law_439 : decode cL_law 439 = .ok (.iload_n 3, 1) := by decide +kernel
theorem dL_law_440 : decode cL_law 440 = .ok (.iconst 1, 1) := by decide +kernel
theorem dL_law_441 : decode cL_law 441 = .ok (.iadd, 1) := by decide +kernel
theorem dL_law_442 : decode cL_law 442 = .ok (.iaload, 1) := by decide +kernel
theorem dL_law_443 : decode cL_law 443 = .ok (.aload_n 0, 1) := by decide +kernel
theorem dL_law_444 : decode cL_law 444 = .ok (.iload_n 3, 1) := by decide +kernel
theorem dL_law_445 : decode cL_law 445 = .ok (.iconst 2, 1) := by decide +kernel
theorem dL_law_446 : decode cL_law 446 = .ok (.iadd, 1) := by decide +kernel
theorem dL_law_447 : decode cL_law 447 = .ok (.iaload, 1) := by decide +kernel
theorem dL_law_448 : decode cL_law 448 = .ok (.invokevirtual 59, 3) := by decide +kernel
theorem dL_law_451 : decode cL_law 451 = .ok (.if_icmp .eq 480, 3) := by decide +kernel
theorem dL_law_454 : decode cL_law 454 = .ok (.iconst 0, 1) := by decide +kernel
theorem dL_law_455 : decode cL_law 455 = .ok (.ireturn, 1) := by decide +kernel
theorem dL_law_456 : decode cL_law 456 = .ok (.aload_n 1, 1) := by decide +kernel
theorem dL_law_457 : decode cL_law 457 = .ok (.aload_n 0, 1) := by decide +kernel
theorem dL_law_458 : decode cL_law 458 = .ok (.iload_n 3, 1) := by decide +kernel
theorem dL_law_459 : decode cL_law 459 = .ok (.iconst 1, 1) := by decide +kernel
theorem dL_law_460 : decode cL_law 460 = .ok (.iadd, 1) := by decide +kernel
theorem dL_law_461 : decode cL_law 461 = .ok (.iaload, 1) := by decide +kernel
theorem dL_law_462 : decode cL_law 462 = .ok (.aload_n 0, 1) := by decide +kernel
theorem dL_law_463 : decode cL_law 463 = .ok (.iload_n 3, 1) := by decide +kernel
theorem dL_law_464 : decode cL_law 464 = .ok (.iconst 2, 1) := by decide +kernel
theorem dL_law_465 : decode cL_law 465 = .ok (.iadd, 1) := by decide +kernel
theorem dL_law_466 : decode cL_law 466 = .ok (.iaload, 1) := by decide +kernel
theorem dL_law_467 : decode cL_law 467 = .ok (.invokevirtual 60, 3) := by decide +kernel
theorem dL_law_470 : decode cL_law 470 = .ok (.aload_n 2, 1) := by decide +kernel
theorem dL_law_471 : decode cL_law 471 = .ok (.aload_n 0, 1) := by decide +kernel
theorem dL_law_472 : decode cL_law 472 = .ok (.iload_n 3, 1) := by decide +kernel
theorem dL_law_473 : decode cL_law 473 = .ok (.iconst 1, 1) := by decide +kernel
theorem dL_law_474 : decode cL_law 474 = .ok (.iadd, 1) := by decide +kernel
theorem dL_law_475 : decode cL_law 475 = .ok (.iaload, 1) := by decide +kernel
theorem dL_law_476 : decode cL_law 476 = .ok (.aload_n 0, 1) := by decide +kernel
theorem dL_law_477 : decode cL_law 477 = .ok (.iload_n 3, 1) := by decide +kernel
theorem dL_law_478 : decode cL_law 478 = .ok (.iconst 2, 1) := by decide +kernel
theorem dL_law_479 : decode cL_law 479 = .ok (.iadd, 1) := by decide +kernel
theorem dL_law_480 : decode cL_law 480 = .ok (.iaload, 1) := by decide +kernel
theorem dL_law_481 : decode cL_law 481 = .ok (.invokevirtual 63, 3) := by decide +kernel
theorem dL_law_484 : decode cL_law 484 = .ok (.if_icmp .eq 447, 3) := by decide +kernel
theorem dL_law_487 : decode cL_law 487 = .ok (.iconst 0, 1) := by decide +kernel
theorem dL_law_488 : decode cL_law 488 = .ok (.ireturn, 1) := by decide +kernel
theorem dL_law_489 : decode cL_law 489 = .ok (.aload_n 1, 1) := by decide +kernel
theorem dL_law_490 : decode cL_law 490 = .ok (.aload_n 0, 1) := by decide +kernel
theorem dL_law_491 : decode cL_law 491 = .ok (.iload_n 3, 1) := by decide +kernel
theorem dL_law_492 : decode cL_law 492 = .ok (.iconst 1, 1) := by decide +kernel
theorem dL_law_493 : decode cL_law 493 = .ok (.iadd, 1) := by decide +kernel
theorem dL_law_494 : decode cL_law 494 = .ok (.iaload, 1) := by decide +kernel
theorem dL_law_495 : decode cL_law 495 = .ok (.aload_n 0, 1) := by decide +kernel
theorem dL_law_496 : decode cL_law 496 = .ok (.iload_n 3, 1) := by decide +kernel
theorem dL_law_497 : decode cL_law 497 = .ok (.iconst 2, 1) := by decide +kernel
theorem dL_law_498 : decode cL_law 498 = .ok (.iadd, 1) := by decide +kernel
theorem dL_law_499 : decode cL_law 499 = .ok (.iaload, 1) := by decide +kernel
theorem dL_law_500 : decode cL_law 500 = .ok (.invokevirtual 64, 3) := by decide +kernel
theorem dL_law_503 : decode cL_law 503 = .ok (.aload_n 2, 1) := by decide +kernel
theorem dL_law_504 : decode cL_law 504 = .ok (.aload_n 0, 1) := by decide +kernel
theorem dL_law_505 : decode cL_law 505 = .ok (.iload_n 3, 1) := by decide +kernel
theorem dL_law_506 : decode cL_law 506 = .ok (.iconst 1, 1) := by decide +kernel
theorem dL_law_507 : decode cL_law 507 = .ok (.iadd, 1) := by decide +kernel
theorem dL_law_508 : decode cL_law 508 = .ok (.iaload, 1) := by decide +kernel
theorem dL_law_509 : decode cL_law 509 = .ok (.aload_n 0, 1) := by decide +kernel
theorem dL_law_510 : decode cL_law 510 = .ok (.iload_n 3, 1) := by decide +kernel
theorem dL_law_511 : decode cL_law 511 = .ok (.iconst 2, 1) := by decide +kernel
theorem dL_law_512 : decode cL_law 512 = .ok (.iadd, 1) := by decide +kernel
theorem dL_law_513 : decode cL_law 513 = .ok (.iaload, 1) := by decide +kernel
theorem dL_law_514 : decode cL_law 514 = .ok (.invokevirtual 67, 3) := by decide +kernel
theorem dL_law_517 : decode cL_law 517 = .ok (.if_icmp .eq 414, 3) := by decide +kernel
theorem dL_law_520 : decode cL_law 520 = .ok (.iconst 0, 1) := by decide +kernel
theorem dL_law_521 : decode cL_law 521 = .ok (.ireturn, 1) := by decide +kernel
theorem dL_law_522 : decode cL_law 522 = .ok (.aload_n 1, 1) := by decide +kernel
theorem dL_law_523 : decode cL_law 523 = .ok (.aload_n 0, 1) := by decide +kernel
theorem dL_law_524 : decode cL_law 524 = .ok (.iload_n 3, 1) := by decide +kernel
theorem dL_law_525 : decode cL_law 525 = .ok (.iconst 1, 1) := by decide +kernel
theorem dL_law_526 : decode cL_law 526 = .ok (.iadd, 1) := by decide +kernel
theorem dL_law_527 : decode cL_law 527 = .ok (.iaload, 1) := by decide +kernel
theorem dL_law_528 : decode cL_law 528 = .ok (.invokevirtual 68, 3) := by decide +kernel
theorem dL_law_531 : decode cL_law 531 = .ok (.aload_n 2, 1) := by decide +kernel
theorem dL_law_532 : decode cL_law 532 = .ok (.aload_n 0, 1) := by decide +kernel
theorem dL_law_533 : decode cL_law 533 = .ok (.iload_n 3, 1) := by decide +kernel
theorem dL_law_534 : decode cL_law 534 = .ok (.iconst 1, 1) := by decide +kernel
theorem dL_law_535 : decode cL_law 535 = .ok (.iadd, 1) := by decide +kernel
theorem dL_law_536 : decode cL_law 536 = .ok (.iaload, 1) := by decide +kernel
theorem dL_law_537 : decode cL_law 537 = .ok (.invokevirtual 71, 3) := by decide +kernel
theorem dL_law_540 : decode cL_law 540 = .ok (.if_icmp .eq 391, 3) := by decide +kernel
theorem dL_law_543 : decode cL_law 543 = .ok (.iconst 0, 1) := by decide +kernel
theorem dL_law_544 : decode cL_law 544 = .ok (.ireturn, 1) := by decide +kernel
theorem dL_law_545 : decode cL_law 545 = .ok (.aload_n 1, 1) := by decide +kernel
theorem dL_law_546 : decode cL_law 546 = .ok (.aload_n 0, 1) := by decide +kernel
theorem dL_law_547 : decode cL_law 547 = .ok (.iload_n 3, 1) := by decide +kernel
theorem dL_law_548 : decode cL_law 548 = .ok (.iconst 1, 1) := by decide +kernel
theorem dL_law_549 : decode cL_law 549 = .ok (.iadd, 1) := by decide +kernel
theorem dL_law_550 : decode cL_law 550 = .ok (.iaload, 1) := by decide +kernel
theorem dL_law_551 : decode cL_law 551 = .ok (.invokevirtual 72, 3) := by decide +kernel
theorem dL_law_554 : decode cL_law 554 = .ok (.aload_n 2, 1) := by decide +kernel
theorem dL_law_555 : decode cL_law 555 = .ok (.aload_n 0, 1) := by decide +kernel
theorem dL_law_556 : decode cL_law 556 = .ok (.iload_n 3, 1) := by decide +kernel
theorem dL_law_557 : decode cL_law 557 = .ok (.iconst 1, 1) := by decide +kernel
theorem dL_law_558 : decode cL_law 558 = .ok (.iadd, 1) := by decide +kernel
theorem dL_law_559 : decode cL_law 559 = .ok (.iaload, 1) := by decide +kernel
theorem dL_law_560 : decode cL_law 560 = .ok (.invokevirtual 75, 3) := by decide +kernel
theorem dL_law_563 : decode cL_law 563 = .ok (.if_icmp .eq 368, 3) := by decide +kernel
theorem dL_law_566 : decode cL_law 566 = .ok (.iconst 0, 1) := by decide +kernel
theorem dL_law_567 : decode cL_law 567 = .ok (.ireturn, 1) := by decide +kernel
theorem dL_law_568 : decode cL_law 568 = .ok (.aload_n 1, 1) := by decide +kernel
theorem dL_law_569 : decode cL_law 569 = .ok (.aload_n 0, 1) := by decide +kernel
theorem dL_law_570 : decode cL_law 570 = .ok (.iload_n 3, 1) := by decide +kernel
theorem dL_law_571 : decode cL_law 571 = .ok (.iconst 1, 1) := by decide +kernel
theorem dL_law_572 : decode cL_law 572 = .ok (.iadd, 1) := by decide +kernel
theorem dL_law_573 : decode cL_law 573 = .ok (.iaload, 1) := by decide +kernel
theorem dL_law_574 : decode cL_law 574 = .ok (.invokevirtual 76, 3) := by decide +kernel
theorem dL_law_577 : decode cL_law 577 = .ok (.aload_n 2, 1) := by decide +kernel
theorem dL_law_578 : decode cL_law 578 = .ok (.aload_n 0, 1) := by decide +kernel
theorem dL_law_579 : decode cL_law 579 = .ok (.iload_n 3, 1) := by decide +kernel
theorem dL_law_580 : decode cL_law 580 = .ok (.iconst 1, 1) := by decide +kernel
theorem dL_law_581 : decode cL_law 581 = .ok (.iadd, 1) := by decide +kernel
theorem dL_law_582 : decode cL_law 582 = .ok (.iaload, 1) := by decide +kernel
theorem dL_law_583 : decode cL_law 583 = .ok (.invokevirtual 79, 3) := by decide +kernel
theorem dL_law_586 : decode cL_law 586 = .ok (.if_icmp .eq 345, 3) := by decide +kernel
theorem dL_law_589 : decode cL_law 589 = .ok (.iconst 0, 1) := by decide +kernel
theorem dL_law_590 : decode cL_law 590 = .ok (.ireturn, 1) := by decide +kernel
theorem dL_law_591 : decode cL_law 591 = .ok (.aload_n 1, 1) := by decide +kernel
theorem dL_law_592 : decode cL_law 592 = .ok (.aload_n 0, 1) := by decide +kernel
theorem dL_law_593 : decode cL_law 593 = .ok (.iload_n 3, 1) := by decide +kernel
theorem dL_law_594 : decode cL_law 594 = .ok (.iconst 1, 1) := by decide +kernel
theorem dL_law_595 : decode cL_law 595 = .ok (.iadd, 1) := by decide +kernel
theorem dL_law_596 : decode cL_law 596 = .ok (.iaload, 1) := by decide +kernel
theorem dL_law_597 : decode cL_law 597 = .ok (.invokevirtual 80, 3) := by decide +kernel
theorem dL_law_600 : decode cL_law 600 = .ok (.aload_n 2, 1) := by decide +kernel
theorem dL_law_601 : decode cL_law 601 = .ok (.aload_n 0, 1) := by decide +kernel
theorem dL_law_602 : decode cL_law 602 = .ok (.iload_n 3, 1) := by decide +kernel
theorem dL_law_603 : decode cL_law 603 = .ok (.iconst 1, 1) := by decide +kernel
theorem dL_law_604 : decode cL_law 604 = .ok (.iadd, 1) := by decide +kernel
theorem dL_law_605 : decode cL_law 605 = .ok (.iaload, 1) := by decide +kernel
theorem dL_law_606 : decode cL_law 606 = .ok (.invokevirtual 83, 3) := by decide +kernel
theorem dL_law_609 : decode cL_law 609 = .ok (.if_icmp .eq 322, 3) := by decide +kernel
theorem dL_law_612 : decode cL_law 612 = .ok (.iconst 0, 1) := by decide +kernel
theorem dL_law_613 : decode cL_law 613 = .ok (.ireturn, 1) := by decide +kernel
theorem dL_law_614 : decode cL_law 614 = .ok (.aload_n 1, 1) := by decide +kernel
theorem dL_law_615 : decode cL_law 615 = .ok (.aload_n 0, 1) := by decide +kernel
theorem dL_law_616 : decode cL_law 616 = .ok (.iload_n 3, 1) := by decide +kernel
theorem dL_law_617 : decode cL_law 617 = .ok (.iconst 1, 1) := by decide +kernel
theorem dL_law_618 : decode cL_law 618 = .ok (.iadd, 1) := by decide +kernel
theorem dL_law_619 : decode cL_law 619 = .ok (.iaload, 1) := by decide +kernel
theorem dL_law_620 : decode cL_law 620 = .ok (.invokevirtual 84, 3) := by decide +kernel
theorem dL_law_623 : decode cL_law 623 = .ok (.aload_n 2, 1) := by decide +kernel
theorem dL_law_624 : decode cL_law 624 = .ok (.aload_n 0, 1) := by decide +kernel
theorem dL_law_625 : decode cL_law 625 = .ok (.iload_n 3, 1) := by decide +kernel
theorem dL_law_626 : decode cL_law 626 = .ok (.iconst 1, 1) := by decide +kernel
theorem dL_law_627 : decode cL_law 627 = .ok (.iadd, 1) := by decide +kernel
theorem dL_law_628 : decode cL_law 628 = .ok (.iaload, 1) := by decide +kernel
theorem dL_law_629 : decode cL_law 629 = .ok (.invokevirtual 87, 3) := by decide +kernel
theorem dL_law_632 : decode cL_law 632 = .ok (.if_icmp .eq 299, 3) := by decide +kernel
theorem dL_law_635 : decode cL_law 635 = .ok (.iconst 0, 1) := by decide +kernel
theorem dL_law_636 : decode cL_law 636 = .ok (.ireturn, 1) := by decide +kernel
theorem dL_law_637 : decode cL_law 637 = .ok (.aload_n 1, 1) := by decide +kernel
theorem dL_law_638 : decode cL_law 638 = .ok (.invokevirtual 88, 3) := by decide +kernel
theorem dL_law_641 : decode cL_law 641 = .ok (.aload_n 2, 1) := by decide +kernel
theorem dL_law_642 : decode cL_law 642 = .ok (.invokevirtual 91, 3) := by decide +kernel
theorem dL_law_645 : decode cL_law 645 = .ok (.if_icmp .eq 286, 3) := by decide +kernel
theorem dL_law_648 : decode cL_law 648 = .ok (.iconst 0, 1) := by decide +kernel
theorem dL_law_649 : decode cL_law 649 = .ok (.ireturn, 1) := by decide +kernel
theorem dL_law_650 : decode cL_law 650 = .ok (.aload_n 1, 1) := by decide +kernel
theorem dL_law_651 : decode cL_law 651 = .ok (.aload_n 0, 1) := by decide +kernel
theorem dL_law_652 : decode cL_law 652 = .ok (.iload_n 3, 1) := by decide +kernel
theorem dL_law_653 : decode cL_law 653 = .ok (.iconst 1, 1) := by decide +kernel
theorem dL_law_654 : decode cL_law 654 = .ok (.iadd, 1) := by decide +kernel
theorem dL_law_655 : decode cL_law 655 = .ok (.iaload, 1) := by decide +kernel
theorem dL_law_656 : decode cL_law 656 = .ok (.invokevirtual 92, 3) := by decide +kernel
theorem dL_law_659 : decode cL_law 659 = .ok (.aload_n 2, 1) := by decide +kernel
theorem dL_law_660 : decode cL_law 660 = .ok (.aload_n 0, 1) := by decide +kernel
theorem dL_law_661 : decode cL_law 661 = .ok (.iload_n 3, 1) := by decide +kernel
theorem dL_law_662 : decode cL_law 662 = .ok (.iconst 1, 1) := by decide +kernel
theorem dL_law_663 : decode cL_law 663 = .ok (.iadd, 1) := by decide +kernel
theorem dL_law_664 : decode cL_law 664 = .ok (.iaload, 1) := by decide +kernel
theorem dL_law_665 : decode cL_law 665 = .ok (.invokevirtual 95, 3) := by decide +kernel
theorem dL_law_668 : decode cL_law 668 = .ok (.if_icmp .eq 263, 3) := by decide +kernel
theorem dL_law_671 : decode cL_law 671 = .ok (.iconst 0, 1) := by decide +kernel
theorem dL_law_672 : decode cL_law 672 = .ok (.ireturn, 1) := by decide +kernel
theorem dL_law_673 : decode cL_law 673 = .ok (.aload_n 1, 1) := by decide +kernel
theorem dL_law_674 : decode cL_law 674 = .ok (.aload_n 0, 1) := by decide +kernel
theorem dL_law_675 : decode cL_law 675 = .ok (.iload_n 3, 1) := by decide +kernel
theorem dL_law_676 : decode cL_law 676 = .ok (.iconst 1, 1) := by decide +kernel
theorem dL_law_677 : decode cL_law 677 = .ok (.iadd, 1) := by decide +kernel
theorem dL_law_678 : decode cL_law 678 = .ok (.iaload, 1) := by decide +kernel
theorem dL_law_679 : decode cL_law 679 = .ok (.aload_n 0, 1) := by decide +kernel
theorem dL_law_680 : decode cL_law 680 = .ok (.iload_n 3, 1) := by decide +kernel
theorem dL_law_681 : decode cL_law 681 = .ok (.iconst 2, 1) := by decide +kernel
theorem dL_law_682 : decode cL_law 682 = .ok (.iadd, 1) := by decide +kernel
theorem dL_law_683 : decode cL_law 683 = .ok (.iaload, 1) := by decide +kernel
theorem dL_law_684 : decode cL_law 684 = .ok (.aload_n 0, 1) := by decide +kernel
theorem dL_law_685 : decode cL_law 685 = .ok (.iload_n 3, 1) := by decide +kernel
theorem dL_law_686 : decode cL_law 686 = .ok (.iconst 3, 1) := by decide +kernel
theorem dL_law_687 : decode cL_law 687 = .ok (.iadd, 1) := by decide +kernel
theorem dL_law_688 : decode cL_law 688 = .ok (.iaload, 1) := by decide +kernel
theorem dL_law_689 : decode cL_law 689 = .ok (.invokevirtual 96, 3) := by decide +kernel
theorem dL_law_692 : decode cL_law 692 = .ok (.aload_n 2, 1) := by decide +kernel
theorem dL_law_693 : decode cL_law 693 = .ok (.aload_n 0, 1) := by decide +kernel
theorem dL_law_694 : decode cL_law 694 = .ok (.iload_n 3, 1) := by decide +kernel
theorem dL_law_695 : decode cL_law 695 = .ok (.iconst 1, 1) := by decide +kernel
theorem dL_law_696 : decode cL_law 696 = .ok (.iadd, 1) := by decide +kernel
theorem dL_law_697 : decode cL_law 697 = .ok (.iaload, 1) := by decide +kernel
theorem dL_law_698 : decode cL_law 698 = .ok (.aload_n 0, 1) := by decide +kernel
theorem dL_law_699 : decode cL_law 699 = .ok (.iload_n 3, 1) := by decide +kernel
theorem dL_law_700 : decode cL_law 700 = .ok (.iconst 2, 1) := by decide +kernel
theorem dL_law_701 : decode cL_law 701 = .ok (.iadd, 1) := by decide +kernel
theorem dL_law_702 : decode cL_law 702 = .ok (.iaload, 1) := by decide +kernel
theorem dL_law_703 : decode cL_law 703 = .ok (.aload_n 0, 1) := by decide +kernel
theorem dL_law_704 : decode cL_law 704 = .ok (.iload_n 3, 1) := by decide +kernel
theorem dL_law_705 : decode cL_law 705 = .ok (.iconst 3, 1) := by decide +kernel
theorem dL_law_706 : decode cL_law 706 = .ok (.iadd, 1) := by decide +kernel
theorem dL_law_707 : decode cL_law 707 = .ok (.iaload, 1) := by decide +kernel
theorem dL_law_708 : decode cL_law 708 = .ok (.invokevirtual 100, 3) := by decide +kernel
theorem dL_law_711 : decode cL_law 711 = .ok (.lcmp, 1) := by decide +kernel
theorem dL_law_712 : decode cL_law 712 = .ok (.ifCond .eq 219, 3) := by decide +kernel
theorem dL_law_715 : decode cL_law 715 = .ok (.iconst 0, 1) := by decide +kernel
theorem dL_law_716 : decode cL_law 716 = .ok (.ireturn, 1) := by decide +kernel
theorem dL_law_717 : decode cL_law 717 = .ok (.aload_n 1, 1) := by decide +kernel
theorem dL_law_718 : decode cL_law 718 = .ok (.aload_n 0, 1) := by decide +kernel
theorem dL_law_719 : decode cL_law 719 = .ok (.iload_n 3, 1) := by decide +kernel
theorem dL_law_720 : decode cL_law 720 = .ok (.iconst 1, 1) := by decide +kernel
theorem dL_law_721 : decode cL_law 721 = .ok (.iadd, 1) := by decide +kernel
theorem dL_law_722 : decode cL_law 722 = .ok (.iaload, 1) := by decide +kernel
theorem dL_law_723 : decode cL_law 723 = .ok (.invokevirtual 101, 3) := by decide +kernel
theorem dL_law_726 : decode cL_law 726 = .ok (.aload_n 2, 1) := by decide +kernel
theorem dL_law_727 : decode cL_law 727 = .ok (.aload_n 0, 1) := by decide +kernel
theorem dL_law_728 : decode cL_law 728 = .ok (.iload_n 3, 1) := by decide +kernel
theorem dL_law_729 : decode cL_law 729 = .ok (.iconst 1, 1) := by decide +kernel
theorem dL_law_730 : decode cL_law 730 = .ok (.iadd, 1) := by decide +kernel
theorem dL_law_731 : decode cL_law 731 = .ok (.iaload, 1) := by decide +kernel
theorem dL_law_732 : decode cL_law 732 = .ok (.invokevirtual 105, 3) := by decide +kernel
theorem dL_law_735 : decode cL_law 735 = .ok (.lcmp, 1) := by decide +kernel
theorem dL_law_736 : decode cL_law 736 = .ok (.ifCond .eq 195, 3) := by decide +kernel
theorem dL_law_739 : decode cL_law 739 = .ok (.iconst 0, 1) := by decide +kernel
theorem dL_law_740 : decode cL_law 740 = .ok (.ireturn, 1) := by decide +kernel
theorem dL_law_741 : decode cL_law 741 = .ok (.aload_n 1, 1) := by decide +kernel
theorem dL_law_742 : decode cL_law 742 = .ok (.aload_n 0, 1) := by decide +kernel
theorem dL_law_743 : decode cL_law 743 = .ok (.iload_n 3, 1) := by decide +kernel
theorem dL_law_744 : decode cL_law 744 = .ok (.iconst 1, 1) := by decide +kernel
theorem dL_law_745 : decode cL_law 745 = .ok (.iadd, 1) := by decide +kernel
theorem dL_law_746 : decode cL_law 746 = .ok (.iaload, 1) := by decide +kernel
theorem dL_law_747 : decode cL_law 747 = .ok (.invokevirtual 106, 3) := by decide +kernel
theorem dL_law_750 : decode cL_law 750 = .ok (.aload_n 2, 1) := by decide +kernel
theorem dL_law_751 : decode cL_law 751 = .ok (.aload_n 0, 1) := by decide +kernel
theorem dL_law_752 : decode cL_law 752 = .ok (.iload_n 3, 1) := by decide +kernel
theorem dL_law_753 : decode cL_law 753 = .ok (.iconst 1, 1) := by decide +kernel
theorem dL_law_754 : decode cL_law 754 = .ok (.iadd, 1) := by decide +kernel
theorem dL_law_755 : decode cL_law 755 = .ok (.iaload, 1) := by decide +kernel
theorem dL_law_756 : decode cL_law 756 = .ok (.invokevirtual 109, 3) := by decide +kernel
theorem dL_law_759 : decode cL_law 759 = .ok (.if_icmp .eq 172, 3) := by decide +kernel
theorem dL_law_762 : decode cL_law 762 = .ok (.iconst 0, 1) := by decide +kernel
theorem dL_law_763 : decode cL_law 763 = .ok (.ireturn, 1) := by decide +kernel
theorem dL_law_764 : decode cL_law 764 = .ok (.aload_n 1, 1) := by decide +kernel
theorem dL_law_765 : decode cL_law 765 = .ok (.aload_n 0, 1) := by decide +kernel
theorem dL_law_766 : decode cL_law 766 = .ok (.iload_n 3, 1) := by decide +kernel
theorem dL_law_767 : decode cL_law 767 = .ok (.iconst 1, 1) := by decide +kernel
theorem dL_law_768 : decode cL_law 768 = .ok (.iadd, 1) := by decide +kernel
theorem dL_law_769 : decode cL_law 769 = .ok (.iaload, 1) := by decide +kernel
theorem dL_law_770 : decode cL_law 770 = .ok (.invokevirtual 110, 3) := by decide +kernel
theorem dL_law_773 : decode cL_law 773 = .ok (.aload_n 2, 1) := by decide +kernel
theorem dL_law_774 : decode cL_law 774 = .ok (.aload_n 0, 1) := by decide +kernel
theorem dL_law_775 : decode cL_law 775 = .ok (.iload_n 3, 1) := by decide +kernel
theorem dL_law_776 : decode cL_law 776 = .ok (.iconst 1, 1) := by decide +kernel
theorem dL_law_777 : decode cL_law 777 = .ok (.iadd, 1) := by decide +kernel
theorem dL_law_778 : decode cL_law 778 = .ok (.iaload, 1) := by decide +kernel
theorem dL_law_779 : decode cL_law 779 = .ok (.invokevirtual 113, 3) := by decide +kernel
theorem dL_law_782 : decode cL_law 782 = .ok (.if_icmp .eq 149, 3) := by decide +kernel
theorem dL_law_785 : decode cL_law 785 = .ok (.iconst 0, 1) := by decide +kernel
theorem dL_law_786 : decode cL_law 786 = .ok (.ireturn, 1) := by decide +kernel
theorem dL_law_787 : decode cL_law 787 = .ok (.aload_n 1, 1) := by decide +kernel
theorem dL_law_788 : decode cL_law 788 = .ok (.aload_n 0, 1) := by decide +kernel
theorem dL_law_789 : decode cL_law 789 = .ok (.iload_n 3, 1) := by decide +kernel
theorem dL_law_790 : decode cL_law 790 = .ok (.iconst 1, 1) := by decide +kernel
theorem dL_law_791 : decode cL_law 791 = .ok (.iadd, 1) := by decide +kernel
theorem dL_law_792 : decode cL_law 792 = .ok (.iaload, 1) := by decide +kernel
theorem dL_law_793 : decode cL_law 793 = .ok (.invokevirtual 114, 3) := by decide +kernel
theorem dL_law_796 : decode cL_law 796 = .ok (.aload_n 2, 1) := by decide +kernel
theorem dL_law_797 : decode cL_law 797 = .ok (.aload_n 0, 1) := by decide +kernel
theorem dL_law_798 : decode cL_law 798 = .ok (.iload_n 3, 1) := by decide +kernel
theorem dL_law_799 : decode cL_law 799 = .ok (.iconst 1, 1) := by decide +kernel
theorem dL_law_800 : decode cL_law 800 = .ok (.iadd, 1) := by decide +kernel
theorem dL_law_801 : decode cL_law 801 = .ok (.iaload, 1) := by decide +kernel
theorem dL_law_802 : decode cL_law 802 = .ok (.invokevirtual 117, 3) := by decide +kernel
theorem dL_law_805 : decode cL_law 805 = .ok (.if_icmp .eq 126, 3) := by decide +kernel
theorem dL_law_808 : decode cL_law 808 = .ok (.iconst 0, 1) := by decide +kernel
theorem dL_law_809 : decode cL_law 809 = .ok (.ireturn, 1) := by decide +kernel
theorem dL_law_810 : decode cL_law 810 = .ok (.aload_n 1, 1) := by decide +kernel
theorem dL_law_811 : decode cL_law 811 = .ok (.aload_n 0, 1) := by decide +kernel
theorem dL_law_812 : decode cL_law 812 = .ok (.iload_n 3, 1) := by decide +kernel
theorem dL_law_813 : decode cL_law 813 = .ok (.iconst 1, 1) := by decide +kernel
theorem dL_law_814 : decode cL_law 814 = .ok (.iadd, 1) := by decide +kernel
theorem dL_law_815 : decode cL_law 815 = .ok (.iaload, 1) := by decide +kernel
theorem dL_law_816 : decode cL_law 816 = .ok (.aload_n 0, 1) := by decide +kernel
theorem dL_law_817 : decode cL_law 817 = .ok (.iload_n 3, 1) := by decide +kernel
theorem dL_law_818 : decode cL_law 818 = .ok (.iconst 2, 1) := by decide +kernel
theorem dL_law_819 : decode cL_law 819 = .ok (.iadd, 1) := by decide +kernel
theorem dL_law_820 : decode cL_law 820 = .ok (.iaload, 1) := by decide +kernel
theorem dL_law_821 : decode cL_law 821 = .ok (.aload_n 0, 1) := by decide +kernel
theorem dL_law_822 : decode cL_law 822 = .ok (.iload_n 3, 1) := by decide +kernel
theorem dL_law_823 : decode cL_law 823 = .ok (.iconst 3, 1) := by decide +kernel
theorem dL_law_824 : decode cL_law 824 = .ok (.iadd, 1) := by decide +kernel
theorem dL_law_825 : decode cL_law 825 = .ok (.iaload, 1) := by decide +kernel
theorem dL_law_826 : decode cL_law 826 = .ok (.invokevirtual 118, 3) := by decide +kernel
theorem dL_law_829 : decode cL_law 829 = .ok (.aload_n 2, 1) := by decide +kernel
theorem dL_law_830 : decode cL_law 830 = .ok (.aload_n 0, 1) := by decide +kernel
theorem dL_law_831 : decode cL_law 831 = .ok (.iload_n 3, 1) := by decide +kernel
theorem dL_law_832 : decode cL_law 832 = .ok (.iconst 1, 1) := by decide +kernel
theorem dL_law_833 : decode cL_law 833 = .ok (.iadd, 1) := by decide +kernel
theorem dL_law_834 : decode cL_law 834 = .ok (.iaload, 1) := by decide +kernel
theorem dL_law_835 : decode cL_law 835 = .ok (.aload_n 0, 1) := by decide +kernel
theorem dL_law_836 : decode cL_law 836 = .ok (.iload_n 3, 1) := by decide +kernel
theorem dL_law_837 : decode cL_law 837 = .ok (.iconst 2, 1) := by decide +kernel
theorem dL_law_838 : decode cL_law 838 = .ok (.iadd, 1) := by decide +kernel
theorem dL_law_839 : decode cL_law 839 = .ok (.iaload, 1) := by decide +kernel
theorem dL_law_840 : decode cL_law 840 = .ok (.aload_n 0, 1) := by decide +kernel
theorem dL_law_841 : decode cL_law 841 = .ok (.iload_n 3, 1) := by decide +kernel
theorem dL_law_842 : decode cL_law 842 = .ok (.iconst 3, 1) := by decide +kernel
theorem dL_law_843 : decode cL_law 843 = .ok (.iadd, 1) := by decide +kernel
theorem dL_law_844 : decode cL_law 844 = .ok (.iaload, 1) := by decide +kernel
theorem dL_law_845 : decode cL_law 845 = .ok (.invokevirtual 121, 3) := by decide +kernel
theorem dL_law_848 : decode cL_law 848 = .ok (.lcmp, 1) := by decide +kernel
theorem dL_law_849 : decode cL_law 849 = .ok (.ifCond .eq 82, 3) := by decide +kernel
theorem dL_law_852 : decode cL_law 852 = .ok (.iconst 0, 1) := by decide +kernel
theorem dL_law_853 : decode cL_law 853 = .ok (.ireturn, 1) := by decide +kernel
theorem dL_law_854 : decode cL_law 854 = .ok (.aload_n 1, 1) := by decide +kernel
theorem dL_law_855 : decode cL_law 855 = .ok (.aload_n 0, 1) := by decide +kernel
theorem dL_law_856 : decode cL_law 856 = .ok (.iload_n 3, 1) := by decide +kernel
theorem dL_law_857 : decode cL_law 857 = .ok (.iconst 1, 1) := by decide +kernel
theorem dL_law_858 : decode cL_law 858 = .ok (.iadd, 1) := by decide +kernel
theorem dL_law_859 : decode cL_law 859 = .ok (.iaload, 1) := by decide +kernel
theorem dL_law_860 : decode cL_law 860 = .ok (.aload_n 0, 1) := by decide +kernel
theorem dL_law_861 : decode cL_law 861 = .ok (.iload_n 3, 1) := by decide +kernel
theorem dL_law_862 : decode cL_law 862 = .ok (.iconst 2, 1) := by decide +kernel
theorem dL_law_863 : decode cL_law 863 = .ok (.iadd, 1) := by decide +kernel
theorem dL_law_864 : decode cL_law 864 = .ok (.iaload, 1) := by decide +kernel
theorem dL_law_865 : decode cL_law 865 = .ok (.aload_n 0, 1) := by decide +kernel
theorem dL_law_866 : decode cL_law 866 = .ok (.iload_n 3, 1) := by decide +kernel
theorem dL_law_867 : decode cL_law 867 = .ok (.iconst 3, 1) := by decide +kernel
theorem dL_law_868 : decode cL_law 868 = .ok (.iadd, 1) := by decide +kernel
theorem dL_law_869 : decode cL_law 869 = .ok (.iaload, 1) := by decide +kernel
theorem dL_law_870 : decode cL_law 870 = .ok (.aload_n 0, 1) := by decide +kernel
theorem dL_law_871 : decode cL_law 871 = .ok (.iload_n 3, 1) := by decide +kernel
theorem dL_law_872 : decode cL_law 872 = .ok (.iconst 4, 1) := by decide +kernel
theorem dL_law_873 : decode cL_law 873 = .ok (.iadd, 1) := by decide +kernel
theorem dL_law_874 : decode cL_law 874 = .ok (.iaload, 1) := by decide +kernel
theorem dL_law_875 : decode cL_law 875 = .ok (.invokevirtual 122, 3) := by decide +kernel
theorem dL_law_878 : decode cL_law 878 = .ok (.aload_n 2, 1) := by decide +kernel
theorem dL_law_879 : decode cL_law 879 = .ok (.aload_n 0, 1) := by decide +kernel
theorem dL_law_880 : decode cL_law 880 = .ok (.iload_n 3, 1) := by decide +kernel
theorem dL_law_881 : decode cL_law 881 = .ok (.iconst 1, 1) := by decide +kernel
theorem dL_law_882 : decode cL_law 882 = .ok (.iadd, 1) := by decide +kernel
theorem dL_law_883 : decode cL_law 883 = .ok (.iaload, 1) := by decide +kernel
theorem dL_law_884 : decode cL_law 884 = .ok (.aload_n 0, 1) := by decide +kernel
theorem dL_law_885 : decode cL_law 885 = .ok (.iload_n 3, 1) := by decide +kernel
theorem dL_law_886 : decode cL_law 886 = .ok (.iconst 2, 1) := by decide +kernel
theorem dL_law_887 : decode cL_law 887 = .ok (.iadd, 1) := by decide +kernel
theorem dL_law_888 : decode cL_law 888 = .ok (.iaload, 1) := by decide +kernel
theorem dL_law_889 : decode cL_law 889 = .ok (.aload_n 0, 1) := by decide +kernel
theorem dL_law_890 : decode cL_law 890 = .ok (.iload_n 3, 1) := by decide +kernel
theorem dL_law_891 : decode cL_law 891 = .ok (.iconst 3, 1) := by decide +kernel
theorem dL_law_892 : decode cL_law 892 = .ok (.iadd, 1) := by decide +kernel
theorem dL_law_893 : decode cL_law 893 = .ok (.iaload, 1) := by decide +kernel
theorem dL_law_894 : decode cL_law 894 = .ok (.aload_n 0, 1) := by decide +kernel
theorem dL_law_895 : decode cL_law 895 = .ok (.iload_n 3, 1) := by decide +kernel
theorem dL_law_896 : decode cL_law 896 = .ok (.iconst 4, 1) := by decide +kernel
theorem dL_law_897 : decode cL_law 897 = .ok (.iadd, 1) := by decide +kernel
theorem dL_law_898 : decode cL_law 898 = .ok (.iaload, 1) := by decide +kernel
theorem dL_law_899 : decode cL_law 899 = .ok (.invokevirtual 126, 3) := by decide +kernel
theorem dL_law_902 : decode cL_law 902 = .ok (.lcmp, 1) := by decide +kernel
theorem dL_law_903 : decode cL_law 903 = .ok (.ifCond .eq 28, 3) := by decide +kernel
theorem dL_law_906 : decode cL_law 906 = .ok (.iconst 0, 1) := by decide +kernel
theorem dL_law_907 : decode cL_law 907 = .ok (.ireturn, 1) := by decide +kernel
theorem dL_law_908 : decode cL_law 908 = .ok (.aload_n 1, 1) := by decide +kernel
theorem dL_law_909 : decode cL_law 909 = .ok (.aload_n 0, 1) := by decide +kernel
theorem dL_law_910 : decode cL_law 910 = .ok (.iload_n 3, 1) := by decide +kernel
theorem dL_law_911 : decode cL_law 911 = .ok (.iconst 1, 1) := by decide +kernel
theorem dL_law_912 : decode cL_law 912 = .ok (.iadd, 1) := by decide +kernel
theorem dL_law_913 : decode cL_law 913 = .ok (.iaload, 1) := by decide +kernel
theorem dL_law_914 : decode cL_law 914 = .ok (.invokevirtual 127, 3) := by decide +kernel
theorem dL_law_917 : decode cL_law 917 = .ok (.aload_n 2, 1) := by decide +kernel
theorem dL_law_918 : decode cL_law 918 = .ok (.aload_n 0, 1) := by decide +kernel
theorem dL_law_919 : decode cL_law 919 = .ok (.iload_n 3, 1) := by decide +kernel
theorem dL_law_920 : decode cL_law 920 = .ok (.iconst 1, 1) := by decide +kernel
theorem dL_law_921 : decode cL_law 921 = .ok (.iadd, 1) := by decide +kernel
theorem dL_law_922 : decode cL_law 922 = .ok (.iaload, 1) := by decide +kernel
theorem dL_law_923 : decode cL_law 923 = .ok (.invokevirtual 130, 3) := by decide +kernel
theorem dL_law_926 : decode cL_law 926 = .ok (.if_icmp .eq 5, 3) := by decide +kernel
theorem dL_law_929 : decode cL_law 929 = .ok (.iconst 0, 1) := by decide +kernel
theorem dL_law_930 : decode cL_law 930 = .ok (.ireturn, 1) := by decide +kernel
theorem dL_law_931 : decode cL_law 931 = .ok (.iinc 3 5, 3) := by decide +kernel
theorem dL_law_934 : decode cL_law 934 = .ok (.goto (-916), 3) := by decide +kernel
theorem dL_law_937 : decode cL_law 937 = .ok (.iconst 1, 1) := by decide +kernel
theorem dL_law_938 : decode cL_law 938 = .ok (.ireturn, 1) := by decide +kernel
end
section
/-! THE JUDGEMENT: a method's frame over a world of numbered cells. A cell: an object (its class, its fields), a row of ints, of booleans, of longs. Cell k lies at the address N + k, N being the heap's size at the law's entry; what lies outside (the table SEWN, the script, the texts' constants) has the numbers 1000000 and up. -/
abbrev jj_C : Type := (Nat × List Value) ⊕ (List Int32 ⊕ (List Int32 ⊕ List Int64))
abbrev jj_G : Type := Launch × Nat × va_G × ClassId × ClassId × ClassId × (Nat → Nat) × List Int32
abbrev jj_l (G : jj_G) : Launch := G.1
abbrev jj_N (G : jj_G) : Nat := G.2.1
abbrev jj_D (G : jj_G) : va_G := G.2.2.1
abbrev jj_I (G : jj_G) : ClassId := G.2.2.2.1
abbrev jj_Z (G : jj_G) : ClassId := G.2.2.2.2.1
abbrev jj_J (G : jj_G) : ClassId := G.2.2.2.2.2.1
abbrev jj_x (G : jj_G) : Nat → Nat := G.2.2.2.2.2.2.1
abbrev jj_scr (G : jj_G) : List Int32 := G.2.2.2.2.2.2.2
def jj_ad (G : jj_G) (k : Nat) : Nat := if k < 1000000 then jj_N G + k else jj_x G (k - 1000000)
def jj_v (G : jj_G) : Value → Value
  | .ref k => .ref (jj_ad G k)
  | v => v
theorem jj_v_cat (G : jj_G) (v : Value) : (jj_v G v).category = v.category := by cases v <;> rfl
def jj_E (G : jj_G) : jj_C → va_E
  | .inl o => .inr (o.1, o.2.map (jj_v G))
  | .inr (.inl xs) => .inl (jj_I G, xs.length, .inl (fun k => xs.getD k 0))
  | .inr (.inr (.inl xs)) => .inl (jj_Z G, xs.length, .inl (fun k => xs.getD k 0))
  | .inr (.inr (.inr xs)) => .inl (jj_J G, xs.length, .inr (.inl (fun k => xs.getD k 0)))
def jj_W (G : jj_G) (h : List jj_C) : va_W := h.mapIdx (fun k c => (jj_N G + k, jj_E G c))
def jj_R (G : jj_G) (h : List jj_C) (H : Heap) : Prop := va_P (jj_D G) vwCl (jj_W G h) H ∧ H.size = jj_N G + h.length ∧ h.length ≤ 1000000
def jj_A (G : jj_G) : Nat → Prop := fun q => jj_N G ≤ q
abbrev jj_tys (G : jj_G) : List (ClassId × FieldType) := [(jj_I G, .int), (jj_Z G, .boolean), (jj_J G, .long)]
theorem jj_W_get {G : jj_G} {h : List jj_C} {k : Nat} {c : jj_C} (hk : h[k]? = some c) : (jj_W G h)[k]? = some (jj_N G + k, jj_E G c) := by
  unfold jj_W
  rw [List.getElem?_mapIdx, hk]
  rfl
theorem jj_W_get' {G : jj_G} {h : List jj_C} {k : Nat} {q : Nat × va_E} (hk : (jj_W G h)[k]? = some q) : ∃ c, h[k]? = some c ∧ q = (jj_N G + k, jj_E G c) := by
  unfold jj_W at hk
  rw [List.getElem?_mapIdx] at hk
  cases hc : h[k]? with
  | none => rw [hc] at hk; cases hk
  | some c => rw [hc] at hk; exact ⟨c, rfl, (Option.some.inj hk).symm⟩
theorem jj_W_D (G : jj_G) (h : List jj_C) : va_D (jj_A G) (jj_W G h) := by
  refine ⟨fun i j p q hi hj he => ?_, fun k q hk => ?_⟩
  · obtain ⟨c, -, rfl⟩ := jj_W_get' hi
    obtain ⟨c', -, rfl⟩ := jj_W_get' hj
    have : jj_N G + i = jj_N G + j := he
    omega
  · obtain ⟨c, -, rfl⟩ := jj_W_get' hk
    exact Nat.le_add_right _ _
theorem jj_W_set (G : jj_G) (h : List jj_C) (k : Nat) (c : jj_C) : (jj_W G h).set k (jj_N G + k, jj_E G c) = jj_W G (h.set k c) := by
  unfold jj_W
  apply List.ext_getElem?
  intro i
  rw [List.getElem?_mapIdx, List.getElem?_set, List.getElem?_set]
  simp only [List.length_mapIdx, List.getElem?_mapIdx]
  by_cases hik : k = i
  · subst hik
    by_cases hl : k < h.length
    · simp [hl]
    · simp [hl]
  · simp [hik]
theorem jj_W_app (G : jj_G) (h : List jj_C) (c : jj_C) : jj_W G h ++ [(jj_N G + h.length, jj_E G c)] = jj_W G (h ++ [c]) := by
  unfold jj_W
  simp [List.mapIdx_append]
theorem jj_ad_lo {G : jj_G} {k : Nat} (h : k < 1000000) : jj_ad G k = jj_N G + k := if_pos h
theorem jj_R_lt {G : jj_G} {h : List jj_C} {H : Heap} (hR : jj_R G h H) {k : Nat} {c : jj_C} (hk : h[k]? = some c) : k < 1000000 := by
  have := (List.getElem?_eq_some_iff.mp hk).1
  have := hR.2.2
  omega
/-- a cell is written -/
theorem jj_R_set {G : jj_G} {h : List jj_C} {H H1 : Heap} {k : Nat} {c : jj_C} (hR : jj_R G h H) (hP : va_P (jj_D G) vwCl (jj_W G (h.set k c)) H1) (hz : H1.size = H.size) : jj_R G (h.set k c) H1 := ⟨hP, by rw [hz, hR.2.1, List.length_set], by rw [List.length_set]; exact hR.2.2⟩
-- the texts' constants
def jj_tx : List String := ["fallow", "wheat", "vine", "well", "wall", "gate", "stand", "town"]
def jj_ti : List Nat := [74, 80, 82, 84, 86, 88, 90, 92]
def jj_tl : List Nat := [6, 5, 4, 4, 4, 4, 5, 4]
def jj_tb : List (List Int32) := [[102, 97, 108, 108, 111, 119], [119, 104, 101, 97, 116], [118, 105, 110, 101], [119, 101, 108, 108], [119, 97, 108, 108], [103, 97, 116, 101], [115, 116, 97, 110, 100], [116, 111, 119, 110]]
def jj_sewn : List Int32 := [1, 2, 3, 4, 5, 0, 5, 10, 6, 2, 0, 1, 6, 7, 3, 0, 2, 7, 8, 4, 0, 3, 8, 9, 5, 0, 4, 9, 10, 1, 1, 10, 11, 7, 2, 2, 6, 11, 8, 3, 3, 7, 11, 9, 4, 4, 8, 11, 10, 5, 5, 9, 11, 6, 1, 10, 9, 8, 7, 6]
def jj_nest : List Cond := [.methodLinkNest RX6 11 ⟨RX3, "<init>", "()V"⟩ RX6, .methodLinkNest RX6 32 ⟨RX2, "<init>", "()V"⟩ RX6, .methodLinkNest RX6 39 ⟨RX1, "<init>", "()V"⟩ RX6]
/-- what lies outside and stays -/
def jj_O1 (G : jj_G) (U : State) (H : Heap) : Prop :=
  va_Z "BallTown$Ball" "SEWN" "[I" (.ref (jj_x G 0)) (jj_A G) U H ∧ va_T .int (jj_x G 0) 60 (fun j => .int (jj_sewn.getD j 0)) (jj_A G) U H ∧
  va_T .int (jj_x G 1) (jj_scr G).length (fun j => .int ((jj_scr G).getD j 0)) (jj_A G) U H ∧
  vk_S 8 jj_tl jj_tb (fun i => jj_x G (2 + i)) (fun i => jj_x G (10 + i)) (jj_A G) U H ∧
  va_Z "java/lang/String" "COMPACT_STRINGS" "Z" (.int 1) (jj_A G) U H ∧ (va_Z "jdk/internal/util/Preconditions" "SIOOBE_FORMATTER" "Ljava/util/function/BiFunction;" .null (jj_A G) U H ∨ va_Z "jdk/internal/util/Preconditions" "SIOOBE_FORMATTER" "Ljava/util/function/BiFunction;" (.ref (jj_x G 18)) (jj_A G) U H)
def jj_O2 (G : jj_G) (U : State) : Prop := (∀ i, i < 8 → vk_R RX3 (jj_ti.getD i 0) (jj_tx.getD i "") (jj_x G (2 + i)) U) ∧ ∀ w ∈ jj_nest, va_Nw w U
theorem jj_O1_moved {G : jj_G} {u U : State} {H : Heap} (hvm : u.vm.Alike U.vm) (h : jj_O1 G u H) : jj_O1 G U H := ⟨va_Z.moved hvm h.1, va_T.moved hvm h.2.1, va_T.moved hvm h.2.2.1, vk_S.moved hvm h.2.2.2.1, va_Z.moved hvm h.2.2.2.2.1, h.2.2.2.2.2.imp (va_Z.moved hvm) (va_Z.moved hvm)⟩
theorem jj_O1_kept {G : jj_G} {U : State} {H H1 : Heap} (h : jj_O1 G U H) (hq : ∀ a : Nat, a < H.size → ¬ jj_A G a → H1[a]? = H[a]?) : jj_O1 G U H1 := ⟨h.1.kept hq, h.2.1.kept hq, h.2.2.1.kept hq, h.2.2.2.1.kept hq, h.2.2.2.2.1.kept hq, h.2.2.2.2.2.imp (fun z => z.kept hq) (fun z => z.kept hq)⟩
theorem jj_O2_warm {G : jj_G} {s U : State} (hW : s.WarmedH U.vm) (h : jj_O2 G s) : jj_O2 G U := by
  refine ⟨fun i hi => vk_R.warm hW (h.1 i hi), fun w hw => ?_⟩
  have h1 := h.2 w hw
  simp only [jj_nest, List.mem_cons, List.not_mem_nil, or_false] at hw
  rcases hw with rfl | rfl | rfl
  · exact va_Nw.warmM hW h1
  · exact va_Nw.warmM hW h1
  · exact va_Nw.warmM hW h1
/-- the words that stand in all methods -/
def jj_ws : List Cond := lw_tbl.filter goodWord
theorem jj_ws_good {w : Cond} (h : w ∈ jj_ws) : (w.onTables && w.keeps) = true ∨ ∃ ty, w = .arrayClass ty := good_of_word (List.mem_filter.mp h).2
theorem jj_ws_in {w : Cond} (h : w ∈ jj_ws) : w ∈ lw_tbl := (List.mem_filter.mp h).1
theorem jj_good {ws : List Cond} (h : ∀ w ∈ ws, w ∈ jj_ws) : GoodIn jj_ws ws := fun w hw => ⟨h w hw, jj_ws_good (h w hw)⟩
/-- a method: its name, its bytes, its locals, what it returns -/
abbrev jj_M : Type := MethodName × ByteArray × Nat × Option FieldType
abbrev jj_y (M : jj_M) : MethodName := M.1
abbrev jj_b (M : jj_M) : ByteArray := M.2.1
abbrev jj_n (M : jj_M) : Nat := M.2.2.1
abbrev jj_r (M : jj_M) : Option FieldType := M.2.2.2
def jj_rI (r : Option FieldType) : Instr := match r with
  | none => .return_
  | some .long => .lreturn
  | some (.object _) => .areturn
  | some (.array _) => .areturn
  | some _ => .ireturn
/-- the locals: what is known of each -/
def jj_lE (G : jj_G) : Nat → List (Option Value) → List (Nat × Value)
  | _, [] => []
  | k, none :: t => jj_lE G (k + 1) t
  | k, some v :: t => (k, jj_v G v) :: jj_lE G (k + 1) t
theorem jj_lE_mem {G : jj_G} (lo : List (Option Value)) : ∀ (k : Nat) (q : Nat × Value), q ∈ jj_lE G k lo ↔ ∃ (j : Nat) (v : Value), lo[j]? = some (some v) ∧ q = (k + j, jj_v G v) := by
  induction lo with
  | nil => intro k q; simp [jj_lE]
  | cons a t ih =>
    intro k q
    have hs : ∀ (P : Nat → Prop), (∃ j, P j) ↔ P 0 ∨ ∃ j, P (j + 1) := by
      intro P
      constructor
      · rintro ⟨j, h⟩
        cases j with
        | zero => exact Or.inl h
        | succ j => exact Or.inr ⟨j, h⟩
      · rintro (h | ⟨j, h⟩)
        · exact ⟨0, h⟩
        · exact ⟨j + 1, h⟩
    rw [hs]
    cases a with
    | none =>
      simp only [jj_lE, ih, List.getElem?_cons_zero, List.getElem?_cons_succ]
      constructor
      · rintro ⟨j, v, h1, h2⟩
        exact Or.inr ⟨j, v, h1, by rw [h2]; congr 1; omega⟩
      · rintro (⟨v, h1, -⟩ | ⟨j, v, h1, h2⟩)
        · simp at h1
        · exact ⟨j, v, h1, by rw [h2]; congr 1; omega⟩
    | some w =>
      simp only [jj_lE, List.mem_cons, ih, List.getElem?_cons_zero, List.getElem?_cons_succ]
      constructor
      · rintro (h | ⟨j, v, h1, h2⟩)
        · exact Or.inl ⟨w, rfl, by rw [h]; rfl⟩
        · exact Or.inr ⟨j, v, h1, by rw [h2]; congr 1; omega⟩
      · rintro (⟨v, h1, h2⟩ | ⟨j, v, h1, h2⟩)
        · left
          cases h1
          rw [h2]
          rfl
        · exact Or.inr ⟨j, v, h1, by rw [h2]; congr 1; omega⟩
def jj_L (G : jj_G) (ls : Array Slot) (n : Nat) (lo : List (Option Value)) : Prop := lv_has ls n (jj_lE G 0 lo)
theorem jj_L_at {G : jj_G} {ls : Array Slot} {n : Nat} {lo : List (Option Value)} (h : jj_L G ls n lo) {i : Nat} {v : Value} (hi : lo[i]? = some (some v)) : ls[i]? = some (.val (jj_v G v)) := h.2.2 (i, jj_v G v) ((jj_lE_mem lo 0 _).mpr ⟨i, v, hi, by rw [Nat.zero_add]⟩)
theorem jj_L_mono {G : jj_G} {ls : Array Slot} {n : Nat} {l : List (Nat × Value)} {lo : List (Option Value)} (h : lv_has ls n l) (hs : ∀ (j : Nat) (v : Value), lo[j]? = some (some v) → (j, jj_v G v) ∈ l) : jj_L G ls n lo := by
  refine ⟨h.1, h.2.1, fun q hq => ?_⟩
  obtain ⟨j, v, h1, h2⟩ := (jj_lE_mem lo 0 q).mp hq
  rw [Nat.zero_add] at h2
  subst h2
  exact h.2.2 _ (hs j v h1)
/-- what is known of the locals behind a store at i -/
def jj_is2 : Option (Option Value) → Bool
  | some (some v) => v.category == 2
  | _ => false
def jj_s (lo : List (Option Value)) (i : Nat) (v : Value) : List (Option Value) :=
  let l1 := match i with
    | 0 => lo
    | j + 1 => if jj_is2 lo[j]? then lo.set j none else lo
  let l2 := l1.set i (some v)
  if v.category == 2 then l2.set (i + 1) none else l2
theorem jj_s_get {lo : List (Option Value)} {i : Nat} {v : Value} {j : Nat} {u : Value} (h : (jj_s lo i v)[j]? = some (some u)) : (j = i ∧ u = v) ∨ (j ≠ i ∧ lo[j]? = some (some u) ∧ ¬ (j + 1 = i ∧ u.category = 2) ∧ (v.category = 2 → j ≠ i + 1)) := by
  have h1 : ∀ (l1 : List (Option Value)), (if v.category == 2 then (l1.set i (some v)).set (i + 1) none else l1.set i (some v))[j]? = some (some u) → (j = i ∧ u = v) ∨ (j ≠ i ∧ l1[j]? = some (some u) ∧ (v.category = 2 → j ≠ i + 1)) := by
    intro l1 h1
    by_cases hc : v.category = 2
    · simp only [hc, beq_self_eq_true, if_true] at h1
      rw [List.getElem?_set] at h1
      by_cases hj1 : i + 1 = j
      · rw [if_pos hj1] at h1
        split at h1 <;> simp at h1
      · rw [if_neg hj1, List.getElem?_set] at h1
        by_cases hj : i = j
        · rw [if_pos hj] at h1
          split at h1
          · left
            simp at h1
            exact ⟨hj.symm, h1.symm⟩
          · cases h1
        · rw [if_neg hj] at h1
          exact Or.inr ⟨fun e => hj e.symm, h1, fun _ e => hj1 e.symm⟩
    · have hc' : (v.category == 2) = false := by simpa using hc
      simp only [hc'] at h1
      simp only [Bool.false_eq_true, if_false] at h1
      rw [List.getElem?_set] at h1
      by_cases hj : i = j
      · rw [if_pos hj] at h1
        split at h1
        · left
          simp at h1
          exact ⟨hj.symm, h1.symm⟩
        · cases h1
      · rw [if_neg hj] at h1
        exact Or.inr ⟨fun e => hj e.symm, h1, fun e => absurd e hc⟩
  cases i with
  | zero =>
    rcases h1 lo h with h2 | ⟨h2, h3, h4⟩
    · exact Or.inl h2
    · exact Or.inr ⟨h2, h3, fun e => by omega, h4⟩
  | succ i =>
    rcases h1 _ h with h2 | ⟨h2, h3, h4⟩
    · exact Or.inl h2
    · right
      by_cases hi : jj_is2 lo[i]? = true
      · simp only [hi, if_true] at h3
        rw [List.getElem?_set] at h3
        by_cases hj : i = j
        · rw [if_pos hj] at h3
          split at h3 <;> simp at h3
        · rw [if_neg hj] at h3
          exact ⟨h2, h3, fun e => hj (by omega), h4⟩
      · have hi' : jj_is2 lo[i]? = false := by simpa using hi
        simp only [hi'] at h3
        simp only [Bool.false_eq_true, if_false] at h3
        refine ⟨h2, h3, fun e => ?_, h4⟩
        have ej : j = i := by omega
        subst ej
        rw [h3] at hi
        exact hi (by simp [jj_is2, e.2])
theorem jj_L_s1 {G : jj_G} {ls : Array Slot} {n i : Nat} {lo : List (Option Value)} {v w : Value} (hc : v.category = 1) (hv : w = jj_v G v) (h : lv_has ls n ((i, w) :: (jj_lE G 0 lo).filter (fun q => !(q.1 == i) && !(q.1 + 1 == i && q.2.category == 2)))) : jj_L G ls n (jj_s lo i v) := by
  subst hv
  refine jj_L_mono h fun j u hj => ?_
  rcases jj_s_get hj with ⟨rfl, rfl⟩ | ⟨h1, h2, h3, -⟩
  · exact List.mem_cons_self
  · refine List.mem_cons_of_mem _ (List.mem_filter.mpr ⟨(jj_lE_mem lo 0 _).mpr ⟨j, u, h2, by rw [Nat.zero_add]⟩, ?_⟩)
    have := jj_v_cat G u
    simp only [Bool.and_eq_true, Bool.not_eq_true', beq_eq_false_iff_ne, ne_eq, Bool.and_eq_false_iff, this]
    refine ⟨h1, ?_⟩
    by_cases e : j + 1 = i
    · exact Or.inr (fun e2 => h3 ⟨e, e2⟩)
    · exact Or.inl e
theorem jj_L_s2 {G : jj_G} {ls : Array Slot} {n i : Nat} {lo : List (Option Value)} {v w : Value} (hc : v.category = 2) (hv : w = jj_v G v) (h : lv_has ls n ((i, w) :: (jj_lE G 0 lo).filter (fun q => !(q.1 == i) && (!(q.1 == i + 1) && !(q.1 + 1 == i && q.2.category == 2))))) : jj_L G ls n (jj_s lo i v) := by
  subst hv
  refine jj_L_mono h fun j u hj => ?_
  rcases jj_s_get hj with ⟨rfl, rfl⟩ | ⟨h1, h2, h3, h4⟩
  · exact List.mem_cons_self
  · refine List.mem_cons_of_mem _ (List.mem_filter.mpr ⟨(jj_lE_mem lo 0 _).mpr ⟨j, u, h2, by rw [Nat.zero_add]⟩, ?_⟩)
    have := jj_v_cat G u
    simp only [Bool.and_eq_true, Bool.not_eq_true', beq_eq_false_iff_ne, ne_eq, Bool.and_eq_false_iff, this]
    refine ⟨h1, h4 hc, ?_⟩
    by_cases e : j + 1 = i
    · exact Or.inr (fun e2 => h3 ⟨e, e2⟩)
    · exact Or.inl e
/-- what is fixed in a method's body -/
def jj_X (G : jj_G) (M : jj_M) (d : Nat) (p : Program) (R : Room) (s : State) (m : MethodId) (args : Array Value) (meth : Method) (c : Code) : Prop :=
  p.tables.exec = Jvm.exec ∧ c.code = jj_b M ∧ meth.sig.returnType = jj_r M ∧ c.maxLocals = jj_n M ∧ s.vm.findClass (jj_y M).cls = some m.cls ∧ (∀ w ∈ jj_ws, w.before args s = true) ∧ meth.locks = false ∧ meth.name = (jj_y M).name ∧
  d ≤ R.frames ∧ 64 * d ≤ R.locals ∧ va_K (jj_D G) vwCl (jj_tys G) s ∧ jj_O1 G s s.heap ∧ jj_O2 G s ∧ jj_N G ≤ s.heap.size
theorem jj_X.ex {G : jj_G} {M : jj_M} {d : Nat} {p : Program} {R : Room} {s : State} {m : MethodId} {args : Array Value} {meth : Method} {c : Code} (h : jj_X G M d p R s m args meth c) : p.tables.exec = Jvm.exec := h.1
theorem jj_X.bt {G : jj_G} {M : jj_M} {d : Nat} {p : Program} {R : Room} {s : State} {m : MethodId} {args : Array Value} {meth : Method} {c : Code} (h : jj_X G M d p R s m args meth c) : c.code = jj_b M := h.2.1
theorem jj_X.own {G : jj_G} {M : jj_M} {d : Nat} {p : Program} {R : Room} {s : State} {m : MethodId} {args : Array Value} {meth : Method} {c : Code} (h : jj_X G M d p R s m args meth c) : s.vm.findClass (jj_y M).cls = some m.cls := h.2.2.2.2.1
theorem jj_X.ts {G : jj_G} {M : jj_M} {d : Nat} {p : Program} {R : Room} {s : State} {m : MethodId} {args : Array Value} {meth : Method} {c : Code} (h : jj_X G M d p R s m args meth c) : ∀ w ∈ jj_ws, w.before args s = true := h.2.2.2.2.2.1
theorem jj_X.K {G : jj_G} {M : jj_M} {d : Nat} {p : Program} {R : Room} {s : State} {m : MethodId} {args : Array Value} {meth : Method} {c : Code} (h : jj_X G M d p R s m args meth c) : va_K (jj_D G) vwCl (jj_tys G) s := h.2.2.2.2.2.2.2.2.2.2.1
theorem jj_X.O {G : jj_G} {M : jj_M} {d : Nat} {p : Program} {R : Room} {s : State} {m : MethodId} {args : Array Value} {meth : Method} {c : Code} (h : jj_X G M d p R s m args meth c) : jj_O1 G s s.heap ∧ jj_O2 G s ∧ jj_N G ≤ s.heap.size := h.2.2.2.2.2.2.2.2.2.2.2
theorem jj_X.rm {G : jj_G} {M : jj_M} {d : Nat} {p : Program} {R : Room} {s : State} {m : MethodId} {args : Array Value} {meth : Method} {c : Code} (h : jj_X G M d p R s m args meth c) : d ≤ R.frames ∧ 64 * d ≤ R.locals := ⟨h.2.2.2.2.2.2.2.2.1, h.2.2.2.2.2.2.2.2.2.1⟩
/-- from the frame at pc, with these locals, this stack and this world, the method comes to its return with r and the world h' (kc cells of ks slots made) -/
def jj_Go (G : jj_G) (M : jj_M) (d pc : Nat) (lo : List (Option Value)) (st : List Value) (h : List jj_C) (kc ks : Nat) (r : Option Value) (h' : List jj_C) : Prop :=
  ∀ (p : Program) (e : Env) (R : Room) (s : State) (m : MethodId) (args : Array Value) (below : List Frame) (meth : Method) (c : Code), jj_X G M d p R s m args meth c →
    ∀ (H : Heap) (locs : List Loc) (cells slots : Nat) (ls : Array Slot) (Q : State → Prop), jj_R G h H → va_S (jj_A G) s.heap H locs → jj_L G ls (jj_n M) lo → cells + kc ≤ R.cells → slots + ks ≤ R.slots →
      (∀ (pc' : Nat) (ls' : Array Slot) (H' : Heap) (locs' : List Loc), decode (jj_b M) pc' = .ok (jj_rI (jj_r M), 1) → jj_R G h' H' → va_S (jj_A G) s.heap H' locs' → W p (jj_l G) e R s m args below meth c H' locs' (cells + kc) (slots + ks) Q (F0 m pc' ls' (r.map (jj_v G)).toList)) →
      W p (jj_l G) e R s m args below meth c H locs cells slots Q (F0 m pc ls (st.map (jj_v G)))
/-- a method's contract: at this world, with these arguments, it returns r and the world h' -/
def jj_Ev (G : jj_G) (M : jj_M) (d : Nat) (av : List Value) (h : List jj_C) (kc ks : Nat) (r : Option Value) (h' : List jj_C) : Prop :=
  Met (jj_l G) (jj_y M) (.code (jj_y M) (jj_b M) (jj_n M) (jj_r M) :: jj_ws) { frames := d, cells := kc, slots := ks, locals := 64 * d }
    (va_Pc (av.map (jj_v G)) (fun U => jj_R G h U.heap ∧ va_K (jj_D G) vwCl (jj_tys G) U ∧ jj_O1 G U U.heap ∧ jj_O2 G U))
    (fun _ st oc t => oc = .returned (r.map (jj_v G)) ∧ jj_R G h' t.heap ∧ va_F (jj_A G) st t) kc ks (jj_A G)
/-- what may be returned -/
def jj_ok (rt : Option FieldType) (r : Option Value) : Prop := match rt, r with
  | none, none => True
  | some .long, some (.long _) => True
  | some (.object _), some (.ref _) => True
  | some .int, some (.int _) => True
  | some .boolean, some (.int v) => v = 0 ∨ v = 1
  | some .char, some (.int v) => narrow .char (.int v) = .int v
  | some .byte, some (.int v) => narrow .byte (.int v) = .int v
  | _, _ => False
end
section
theorem jj_Ev_of {G : jj_G} {M : jj_M} {d : Nat} {av : List Value} {h : List jj_C} {kc ks : Nat} {r : Option Value} {h' : List jj_C} {lo : List (Option Value)} (hp : plainFor (jj_y M) = true) (hn : (lg_sl (av.map (jj_v G))).length ≤ jj_n M) (hlo : jj_lE G 0 lo = lv_args 0 (av.map (jj_v G))) (hr : jj_ok (jj_r M) r)
    (hG : jj_Go G M d 0 lo [] h kc ks r h') : jj_Ev G M d av h kc ks r h' := by
  refine va_MetF (cc := jj_b M) (maxL := jj_n M) (ret := jj_r M) hp rfl ?_
  intro p e s m args below meth c s₁ B hml hv
  obtain ⟨rfl, hR, hK, hO1, hO2⟩ := hv
  have hts := atoms_spec B.pre
  have hX : jj_X G M d p ({ frames := d, cells := kc, slots := ks, locals := 64 * d } : Room) s m (av.map (jj_v G)).toArray meth c := ⟨B.exec, B.bytes, B.returns, hml, findClass_of_methodNamed B.named, fun w hw => hts w (List.mem_cons_of_mem _ hw), B.notSynchronized, (name_of_methodNamed B.named B.method).1, Nat.le_refl d, Nat.le_refl _, hK, hO1, hO2, by rw [hR.2.1]; exact Nat.le_add_right _ _⟩
  have hl := lv_entry (av.map (jj_v G)) (n := jj_n M) hn
  rw [lg_entry_eq]
  refine hG p e _ s m _ below meth c hX s.heap [] 0 0 _ _ hR va_S.rf (by unfold jj_L; rw [hlo]; exact hl) (by show 0 + kc ≤ kc; omega) (by show 0 + ks ≤ ks; omega) ?_
  intro pc' ls' H' locs' hdg hR' hS'
  rw [Nat.zero_add, Nat.zero_add]
  have hrt := B.returns
  have hlocks := B.notSynchronized
  have key : ∀ t : State, t.heap = H' → jj_R G h' t.heap ∧ va_F (jj_A G) s t := fun t ht => ⟨by rw [ht]; exact hR', hS'.F ht⟩
  generalize jj_r M = rt at hr hdg hrt
  cases rt with
  | none =>
    cases r with
    | none => exact W.vret B.exec B.bytes hrt (fun t ht _ => ⟨rfl, key t ht⟩) hS'.2.2 hdg
    | some v => exact absurd hr (by simp [jj_ok])
  | some ty =>
    cases r with
    | none => cases ty <;> exact absurd hr (by simp [jj_ok])
    | some v =>
      cases ty with
      | int =>
        cases v with
        | int x => exact W.iret B.exec B.bytes hrt (fun t ht _ => ⟨rfl, key t ht⟩) hS'.2.2 hdg
        | _ => exact absurd hr (by simp [jj_ok])
      | long =>
        cases v with
        | long x => exact W.lret B.exec B.bytes hrt (fun t ht _ => ⟨rfl, key t ht⟩) hS'.2.2 hdg
        | _ => exact absurd hr (by simp [jj_ok])
      | boolean =>
        cases v with
        | int x =>
          have hn : narrow .boolean (.int x) = .int x := by
            have h2 : x = 0 ∨ x = 1 := hr
            rcases h2 with rfl | rfl <;> rfl
          exact W.zret B.exec B.bytes hrt hn (fun t ht _ => ⟨rfl, key t ht⟩) hS'.2.2 hdg
        | _ => exact absurd hr (by simp [jj_ok])
      | char =>
        cases v with
        | int x => exact W.zret B.exec B.bytes hrt (show narrow .char (.int x) = .int x from hr) (fun t ht _ => ⟨rfl, key t ht⟩) hS'.2.2 hdg
        | _ => exact absurd hr (by simp [jj_ok])
      | byte =>
        cases v with
        | int x => exact W.zret B.exec B.bytes hrt (show narrow .byte (.int x) = .int x from hr) (fun t ht _ => ⟨rfl, key t ht⟩) hS'.2.2 hdg
        | _ => exact absurd hr (by simp [jj_ok])
      | object C =>
        cases v with
        | ref x => exact W.aret B.exec B.bytes hrt (Or.inl ⟨C, rfl⟩) (Or.inr ⟨_, rfl⟩) (fun t ht _ => ⟨rfl, key t ht⟩) hS'.2.2 hdg
        | _ => exact absurd hr (by simp [jj_ok])
      | _ => exact absurd hr (by cases v <;> simp [jj_ok])
section JJ
variable {G : jj_G} {M : jj_M} {d pc : Nat} {lo : List (Option Value)} {st : List Value} {h : List jj_C} {kc ks : Nat} {r : Option Value} {h' : List jj_C}
/-- the return -/
theorem jj_ret {st : List Value} (hd : decode (jj_b M) pc = .ok (jj_rI (jj_r M), 1)) (hst : st = r.toList) : jj_Go G M d pc lo st h 0 0 r h := by
  subst hst
  intro p e R s m args below meth c X H locs cells slots ls Q hR hS hL h4 h5 fin
  have h6 := fin pc ls H locs hd hR hS
  rw [Nat.add_zero, Nat.add_zero] at h6
  cases r <;> exact h6
/-- another way to write the same place -/
theorem jj_eq {pc' : Nat} {lo' : List (Option Value)} {st' : List Value} {hh : List jj_C} (e1 : pc = pc') (e2 : lo = lo') (e3 : st = st') (e4 : h = hh) (k : jj_Go G M d pc' lo' st' hh kc ks r h') : jj_Go G M d pc lo st h kc ks r h' := by
  subst e1; subst e2; subst e3; subst e4; exact k
/-- less is known of the locals -/
theorem jj_less {lo' : List (Option Value)} (hs : ∀ (j : Nat) (v : Value), lo'[j]? = some (some v) → lo[j]? = some (some v)) (k : jj_Go G M d pc lo' st h kc ks r h') : jj_Go G M d pc lo st h kc ks r h' := by
  intro p e R s m args below meth c X H locs cells slots ls Q hR hS hL h4 h5 fin
  refine k p e R s m args below meth c X H locs cells slots ls Q hR hS (jj_L_mono hL fun j v hj => (jj_lE_mem lo 0 _).mpr ⟨j, v, hs j v hj, by rw [Nat.zero_add]⟩) h4 h5 fin
def jj_le : List (Option Value) → List (Option Value) → Bool
  | [], _ => true
  | none :: t, _ :: u => jj_le t u
  | none :: t, [] => jj_le t []
  | some _ :: t, some _ :: u => jj_le t u
  | _, _ => false
theorem jj_iconst {n : Int} {v : Int32} (hd : decode (jj_b M) pc = .ok (.iconst n, 1)) (hv : Int32.ofInt n = v) (k : jj_Go G M d (pc + 1) lo (.int v :: st) h kc ks r h') : jj_Go G M d pc lo st h kc ks r h' := by
  intro p e R s m args below meth c X H locs cells slots ls Q hR hS hL h4 h5 fin
  exact lv_iconst X.ex X.bt hd hv (k p e R s m args below meth c X H locs cells slots ls Q hR hS hL h4 h5 fin)
theorem jj_bipush {n : Int} {v : Int32} (hd : decode (jj_b M) pc = .ok (.bipush n, 2)) (hv : (Int8.ofInt n).toInt32 = v) (k : jj_Go G M d (pc + 2) lo (.int v :: st) h kc ks r h') : jj_Go G M d pc lo st h kc ks r h' := by
  intro p e R s m args below meth c X H locs cells slots ls Q hR hS hL h4 h5 fin
  exact lv_bipush X.ex X.bt hd hv (k p e R s m args below meth c X H locs cells slots ls Q hR hS hL h4 h5 fin)
theorem jj_sipush {n : Int} {v : Int32} (hd : decode (jj_b M) pc = .ok (.sipush n, 3)) (hv : (Int16.ofInt n).toInt32 = v) (k : jj_Go G M d (pc + 3) lo (.int v :: st) h kc ks r h') : jj_Go G M d pc lo st h kc ks r h' := by
  intro p e R s m args below meth c X H locs cells slots ls Q hR hS hL h4 h5 fin
  exact lv_sipush X.ex X.bt hd hv (k p e R s m args below meth c X H locs cells slots ls Q hR hS hL h4 h5 fin)
theorem jj_lconst {n : Fin 2} {v : Int64} (hd : decode (jj_b M) pc = .ok (.lconst n, 1)) (hv : Int64.ofNat (n : Nat) = v) (k : jj_Go G M d (pc + 1) lo (.long v :: st) h kc ks r h') : jj_Go G M d pc lo st h kc ks r h' := by
  intro p e R s m args below meth c X H locs cells slots ls Q hR hS hL h4 h5 fin
  exact lv_lconst X.ex X.bt hd hv (k p e R s m args below meth c X H locs cells slots ls Q hR hS hL h4 h5 fin)
theorem jj_ldc {i : Nat} {v : Int32} (hd : decode (jj_b M) pc = .ok (.ldc i, 2)) (hw : Cond.constant (jj_y M).cls i v ∈ jj_ws) (k : jj_Go G M d (pc + 2) lo (.int v :: st) h kc ks r h') : jj_Go G M d pc lo st h kc ks r h' := by
  intro p e R s m args below meth c X H locs cells slots ls Q hR hS hL h4 h5 fin
  exact lv_ldc X.ex X.bt X.own (X.ts _ hw) hd (k p e R s m args below meth c X H locs cells slots ls Q hR hS hL h4 h5 fin)
theorem jj_ldcw {i : Nat} {v : Int32} (hd : decode (jj_b M) pc = .ok (.ldc_w i, 3)) (hw : Cond.constant (jj_y M).cls i v ∈ jj_ws) (k : jj_Go G M d (pc + 3) lo (.int v :: st) h kc ks r h') : jj_Go G M d pc lo st h kc ks r h' := by
  intro p e R s m args below meth c X H locs cells slots ls Q hR hS hL h4 h5 fin
  exact lv_ldcw X.ex X.bt X.own (X.ts _ hw) hd (k p e R s m args below meth c X H locs cells slots ls Q hR hS hL h4 h5 fin)
theorem jj_ldc2 {i : Nat} {v : Int64} (hd : decode (jj_b M) pc = .ok (.ldc2_w i, 3)) (hw : Cond.constantLong (jj_y M).cls i v ∈ jj_ws) (k : jj_Go G M d (pc + 3) lo (.long v :: st) h kc ks r h') : jj_Go G M d pc lo st h kc ks r h' := by
  intro p e R s m args below meth c X H locs cells slots ls Q hR hS hL h4 h5 fin
  exact lv_ldc2 X.ex X.bt X.own (X.ts _ hw) hd (k p e R s m args below meth c X H locs cells slots ls Q hR hS hL h4 h5 fin)
theorem jj_iload_n {n : Fin 4} {x : Int32} (hd : decode (jj_b M) pc = .ok (.iload_n n, 1)) (hl : lo[(n : Nat)]? = some (some (.int x))) (k : jj_Go G M d (pc + 1) lo (.int x :: st) h kc ks r h') : jj_Go G M d pc lo st h kc ks r h' := by
  intro p e R s m args below meth c X H locs cells slots ls Q hR hS hL h4 h5 fin
  exact lv_iload_n X.ex X.bt hd rfl (jj_L_at hL hl) (k p e R s m args below meth c X H locs cells slots ls Q hR hS hL h4 h5 fin)
theorem jj_iload {i : Nat} {x : Int32} (hd : decode (jj_b M) pc = .ok (.iload i, 2)) (hl : lo[i]? = some (some (.int x))) (k : jj_Go G M d (pc + 2) lo (.int x :: st) h kc ks r h') : jj_Go G M d pc lo st h kc ks r h' := by
  intro p e R s m args below meth c X H locs cells slots ls Q hR hS hL h4 h5 fin
  exact lv_iload X.ex X.bt hd (jj_L_at hL hl) (k p e R s m args below meth c X H locs cells slots ls Q hR hS hL h4 h5 fin)
theorem jj_lload_n {n : Fin 4} {x : Int64} (hd : decode (jj_b M) pc = .ok (.lload_n n, 1)) (hl : lo[(n : Nat)]? = some (some (.long x))) (k : jj_Go G M d (pc + 1) lo (.long x :: st) h kc ks r h') : jj_Go G M d pc lo st h kc ks r h' := by
  intro p e R s m args below meth c X H locs cells slots ls Q hR hS hL h4 h5 fin
  exact lv_lload_n X.ex X.bt hd rfl (jj_L_at hL hl) (k p e R s m args below meth c X H locs cells slots ls Q hR hS hL h4 h5 fin)
theorem jj_lload {i : Nat} {x : Int64} (hd : decode (jj_b M) pc = .ok (.lload i, 2)) (hl : lo[i]? = some (some (.long x))) (k : jj_Go G M d (pc + 2) lo (.long x :: st) h kc ks r h') : jj_Go G M d pc lo st h kc ks r h' := by
  intro p e R s m args below meth c X H locs cells slots ls Q hR hS hL h4 h5 fin
  exact lv_lload X.ex X.bt hd (jj_L_at hL hl) (k p e R s m args below meth c X H locs cells slots ls Q hR hS hL h4 h5 fin)
theorem jj_aload_n {n : Fin 4} {x : Nat} (hd : decode (jj_b M) pc = .ok (.aload_n n, 1)) (hl : lo[(n : Nat)]? = some (some (.ref x))) (k : jj_Go G M d (pc + 1) lo (.ref x :: st) h kc ks r h') : jj_Go G M d pc lo st h kc ks r h' := by
  intro p e R s m args below meth c X H locs cells slots ls Q hR hS hL h4 h5 fin
  exact lv_aload_n X.ex X.bt hd rfl (jj_L_at hL hl) (k p e R s m args below meth c X H locs cells slots ls Q hR hS hL h4 h5 fin)
theorem jj_aload {i : Nat} {x : Nat} (hd : decode (jj_b M) pc = .ok (.aload i, 2)) (hl : lo[i]? = some (some (.ref x))) (k : jj_Go G M d (pc + 2) lo (.ref x :: st) h kc ks r h') : jj_Go G M d pc lo st h kc ks r h' := by
  intro p e R s m args below meth c X H locs cells slots ls Q hR hS hL h4 h5 fin
  exact lv_aload X.ex X.bt hd (jj_L_at hL hl) (k p e R s m args below meth c X H locs cells slots ls Q hR hS hL h4 h5 fin)
theorem jj_iadd {x y v : Int32} (hd : decode (jj_b M) pc = .ok (.iadd, 1)) (hv : x + y = v) (k : jj_Go G M d (pc + 1) lo (.int v :: st) h kc ks r h') : jj_Go G M d pc lo (.int y :: .int x :: st) h kc ks r h' := by
  intro p e R s m args below meth c X H locs cells slots ls Q hR hS hL h4 h5 fin
  exact lv_iadd X.ex X.bt hd (hv ▸ (k p e R s m args below meth c X H locs cells slots ls Q hR hS hL h4 h5 fin))
theorem jj_isub {x y v : Int32} (hd : decode (jj_b M) pc = .ok (.isub, 1)) (hv : x - y = v) (k : jj_Go G M d (pc + 1) lo (.int v :: st) h kc ks r h') : jj_Go G M d pc lo (.int y :: .int x :: st) h kc ks r h' := by
  intro p e R s m args below meth c X H locs cells slots ls Q hR hS hL h4 h5 fin
  exact lv_isub X.ex X.bt hd (hv ▸ (k p e R s m args below meth c X H locs cells slots ls Q hR hS hL h4 h5 fin))
theorem jj_imul {x y v : Int32} (hd : decode (jj_b M) pc = .ok (.imul, 1)) (hv : x * y = v) (k : jj_Go G M d (pc + 1) lo (.int v :: st) h kc ks r h') : jj_Go G M d pc lo (.int y :: .int x :: st) h kc ks r h' := by
  intro p e R s m args below meth c X H locs cells slots ls Q hR hS hL h4 h5 fin
  exact lv_imul X.ex X.bt hd (hv ▸ (k p e R s m args below meth c X H locs cells slots ls Q hR hS hL h4 h5 fin))
theorem jj_iand {x y v : Int32} (hd : decode (jj_b M) pc = .ok (.iand, 1)) (hv : x &&& y = v) (k : jj_Go G M d (pc + 1) lo (.int v :: st) h kc ks r h') : jj_Go G M d pc lo (.int y :: .int x :: st) h kc ks r h' := by
  intro p e R s m args below meth c X H locs cells slots ls Q hR hS hL h4 h5 fin
  exact lv_iand X.ex X.bt hd (hv ▸ (k p e R s m args below meth c X H locs cells slots ls Q hR hS hL h4 h5 fin))
theorem jj_ior {x y v : Int32} (hd : decode (jj_b M) pc = .ok (.ior, 1)) (hv : x ||| y = v) (k : jj_Go G M d (pc + 1) lo (.int v :: st) h kc ks r h') : jj_Go G M d pc lo (.int y :: .int x :: st) h kc ks r h' := by
  intro p e R s m args below meth c X H locs cells slots ls Q hR hS hL h4 h5 fin
  exact lv_ior X.ex X.bt hd (hv ▸ (k p e R s m args below meth c X H locs cells slots ls Q hR hS hL h4 h5 fin))
theorem jj_ixor {x y v : Int32} (hd : decode (jj_b M) pc = .ok (.ixor, 1)) (hv : x ^^^ y = v) (k : jj_Go G M d (pc + 1) lo (.int v :: st) h kc ks r h') : jj_Go G M d pc lo (.int y :: .int x :: st) h kc ks r h' := by
  intro p e R s m args below meth c X H locs cells slots ls Q hR hS hL h4 h5 fin
  exact lv_ixor X.ex X.bt hd (hv ▸ (k p e R s m args below meth c X H locs cells slots ls Q hR hS hL h4 h5 fin))
theorem jj_ishl {x y v : Int32} (hd : decode (jj_b M) pc = .ok (.ishl, 1)) (hv : x <<< (y &&& 31) = v) (k : jj_Go G M d (pc + 1) lo (.int v :: st) h kc ks r h') : jj_Go G M d pc lo (.int y :: .int x :: st) h kc ks r h' := by
  intro p e R s m args below meth c X H locs cells slots ls Q hR hS hL h4 h5 fin
  exact lv_ishl X.ex X.bt hd (hv ▸ (k p e R s m args below meth c X H locs cells slots ls Q hR hS hL h4 h5 fin))
theorem jj_ishr {x y v : Int32} (hd : decode (jj_b M) pc = .ok (.ishr, 1)) (hv : x >>> (y &&& 31) = v) (k : jj_Go G M d (pc + 1) lo (.int v :: st) h kc ks r h') : jj_Go G M d pc lo (.int y :: .int x :: st) h kc ks r h' := by
  intro p e R s m args below meth c X H locs cells slots ls Q hR hS hL h4 h5 fin
  exact lv_ishr X.ex X.bt hd (hv ▸ (k p e R s m args below meth c X H locs cells slots ls Q hR hS hL h4 h5 fin))
theorem jj_idiv {x y v : Int32} (hd : decode (jj_b M) pc = .ok (.idiv, 1)) (hne : ¬ y = 0) (hv : x / y = v) (k : jj_Go G M d (pc + 1) lo (.int v :: st) h kc ks r h') : jj_Go G M d pc lo (.int y :: .int x :: st) h kc ks r h' := by
  intro p e R s m args below meth c X H locs cells slots ls Q hR hS hL h4 h5 fin
  exact lv_idiv X.ex X.bt hd hne (hv ▸ (k p e R s m args below meth c X H locs cells slots ls Q hR hS hL h4 h5 fin))
theorem jj_irem {x y v : Int32} (hd : decode (jj_b M) pc = .ok (.irem, 1)) (hne : ¬ y = 0) (hv : x - x / y * y = v) (k : jj_Go G M d (pc + 1) lo (.int v :: st) h kc ks r h') : jj_Go G M d pc lo (.int y :: .int x :: st) h kc ks r h' := by
  intro p e R s m args below meth c X H locs cells slots ls Q hR hS hL h4 h5 fin
  exact lv_irem X.ex X.bt hd hne (hv ▸ (k p e R s m args below meth c X H locs cells slots ls Q hR hS hL h4 h5 fin))
theorem jj_ineg {x v : Int32} (hd : decode (jj_b M) pc = .ok (.ineg, 1)) (hv : -x = v) (k : jj_Go G M d (pc + 1) lo (.int v :: st) h kc ks r h') : jj_Go G M d pc lo (.int x :: st) h kc ks r h' := by
  intro p e R s m args below meth c X H locs cells slots ls Q hR hS hL h4 h5 fin
  exact lv_ineg X.ex X.bt hd (hv ▸ (k p e R s m args below meth c X H locs cells slots ls Q hR hS hL h4 h5 fin))
theorem jj_iushr {x y v : Int32} (hd : decode (jj_b M) pc = .ok (.iushr, 1)) (hv : (x.toUInt32 >>> (y.toUInt32 &&& Int32.toUInt32 31)).toInt32 = v) (k : jj_Go G M d (pc + 1) lo (.int v :: st) h kc ks r h') : jj_Go G M d pc lo (.int y :: .int x :: st) h kc ks r h' := by
  intro p e R s m args below meth c X H locs cells slots ls Q hR hS hL h4 h5 fin
  exact lv_iushr X.ex X.bt hd hv (k p e R s m args below meth c X H locs cells slots ls Q hR hS hL h4 h5 fin)
theorem jj_ladd {x y v : Int64} (hd : decode (jj_b M) pc = .ok (.ladd, 1)) (hv : x + y = v) (k : jj_Go G M d (pc + 1) lo (.long v :: st) h kc ks r h') : jj_Go G M d pc lo (.long y :: .long x :: st) h kc ks r h' := by
  intro p e R s m args below meth c X H locs cells slots ls Q hR hS hL h4 h5 fin
  exact lv_ladd X.ex X.bt hd (hv ▸ (k p e R s m args below meth c X H locs cells slots ls Q hR hS hL h4 h5 fin))
theorem jj_lsub {x y v : Int64} (hd : decode (jj_b M) pc = .ok (.lsub, 1)) (hv : x - y = v) (k : jj_Go G M d (pc + 1) lo (.long v :: st) h kc ks r h') : jj_Go G M d pc lo (.long y :: .long x :: st) h kc ks r h' := by
  intro p e R s m args below meth c X H locs cells slots ls Q hR hS hL h4 h5 fin
  exact lv_lsub X.ex X.bt hd (hv ▸ (k p e R s m args below meth c X H locs cells slots ls Q hR hS hL h4 h5 fin))
theorem jj_lmul {x y v : Int64} (hd : decode (jj_b M) pc = .ok (.lmul, 1)) (hv : x * y = v) (k : jj_Go G M d (pc + 1) lo (.long v :: st) h kc ks r h') : jj_Go G M d pc lo (.long y :: .long x :: st) h kc ks r h' := by
  intro p e R s m args below meth c X H locs cells slots ls Q hR hS hL h4 h5 fin
  exact lv_lmul X.ex X.bt hd (hv ▸ (k p e R s m args below meth c X H locs cells slots ls Q hR hS hL h4 h5 fin))
theorem jj_land {x y v : Int64} (hd : decode (jj_b M) pc = .ok (.land, 1)) (hv : x &&& y = v) (k : jj_Go G M d (pc + 1) lo (.long v :: st) h kc ks r h') : jj_Go G M d pc lo (.long y :: .long x :: st) h kc ks r h' := by
  intro p e R s m args below meth c X H locs cells slots ls Q hR hS hL h4 h5 fin
  exact lv_land X.ex X.bt hd (hv ▸ (k p e R s m args below meth c X H locs cells slots ls Q hR hS hL h4 h5 fin))
theorem jj_lor {x y v : Int64} (hd : decode (jj_b M) pc = .ok (.lor, 1)) (hv : x ||| y = v) (k : jj_Go G M d (pc + 1) lo (.long v :: st) h kc ks r h') : jj_Go G M d pc lo (.long y :: .long x :: st) h kc ks r h' := by
  intro p e R s m args below meth c X H locs cells slots ls Q hR hS hL h4 h5 fin
  exact lv_lor X.ex X.bt hd (hv ▸ (k p e R s m args below meth c X H locs cells slots ls Q hR hS hL h4 h5 fin))
theorem jj_ldiv {x y v : Int64} (hd : decode (jj_b M) pc = .ok (.ldiv, 1)) (hne : ¬ y = 0) (hv : x / y = v) (k : jj_Go G M d (pc + 1) lo (.long v :: st) h kc ks r h') : jj_Go G M d pc lo (.long y :: .long x :: st) h kc ks r h' := by
  intro p e R s m args below meth c X H locs cells slots ls Q hR hS hL h4 h5 fin
  exact lv_ldiv X.ex X.bt hd hne (hv ▸ (k p e R s m args below meth c X H locs cells slots ls Q hR hS hL h4 h5 fin))
theorem jj_lrem {x y v : Int64} (hd : decode (jj_b M) pc = .ok (.lrem, 1)) (hne : ¬ y = 0) (hv : x - x / y * y = v) (k : jj_Go G M d (pc + 1) lo (.long v :: st) h kc ks r h') : jj_Go G M d pc lo (.long y :: .long x :: st) h kc ks r h' := by
  intro p e R s m args below meth c X H locs cells slots ls Q hR hS hL h4 h5 fin
  exact lv_lrem X.ex X.bt hd hne (hv ▸ (k p e R s m args below meth c X H locs cells slots ls Q hR hS hL h4 h5 fin))
theorem jj_lshl {x v : Int64} {y : Int32} (hd : decode (jj_b M) pc = .ok (.lshl, 1)) (hv : x <<< (y.toInt64 &&& 63) = v) (k : jj_Go G M d (pc + 1) lo (.long v :: st) h kc ks r h') : jj_Go G M d pc lo (.int y :: .long x :: st) h kc ks r h' := by
  intro p e R s m args below meth c X H locs cells slots ls Q hR hS hL h4 h5 fin
  exact lv_lshl X.ex X.bt hd hv (k p e R s m args below meth c X H locs cells slots ls Q hR hS hL h4 h5 fin)
theorem jj_lshr {x v : Int64} {y : Int32} (hd : decode (jj_b M) pc = .ok (.lshr, 1)) (hv : x >>> (y.toInt64 &&& 63) = v) (k : jj_Go G M d (pc + 1) lo (.long v :: st) h kc ks r h') : jj_Go G M d pc lo (.int y :: .long x :: st) h kc ks r h' := by
  intro p e R s m args below meth c X H locs cells slots ls Q hR hS hL h4 h5 fin
  exact lv_lshr X.ex X.bt hd hv (k p e R s m args below meth c X H locs cells slots ls Q hR hS hL h4 h5 fin)
theorem jj_lcmp {x y : Int64} {v : Int32} (hd : decode (jj_b M) pc = .ok (.lcmp, 1)) (hv : lg_cmp x y = v) (k : jj_Go G M d (pc + 1) lo (.int v :: st) h kc ks r h') : jj_Go G M d pc lo (.long y :: .long x :: st) h kc ks r h' := by
  intro p e R s m args below meth c X H locs cells slots ls Q hR hS hL h4 h5 fin
  exact W.lcmp X.ex X.bt hd (hv ▸ (k p e R s m args below meth c X H locs cells slots ls Q hR hS hL h4 h5 fin))
theorem jj_i2l {x : Int32} {v : Int64} (hd : decode (jj_b M) pc = .ok (.i2l, 1)) (hv : x.toInt64 = v) (k : jj_Go G M d (pc + 1) lo (.long v :: st) h kc ks r h') : jj_Go G M d pc lo (.int x :: st) h kc ks r h' := by
  intro p e R s m args below meth c X H locs cells slots ls Q hR hS hL h4 h5 fin
  exact lv_i2l X.ex X.bt hd hv (k p e R s m args below meth c X H locs cells slots ls Q hR hS hL h4 h5 fin)
theorem jj_l2i {x : Int64} {v : Int32} (hd : decode (jj_b M) pc = .ok (.l2i, 1)) (hv : x.toInt32 = v) (k : jj_Go G M d (pc + 1) lo (.int v :: st) h kc ks r h') : jj_Go G M d pc lo (.long x :: st) h kc ks r h' := by
  intro p e R s m args below meth c X H locs cells slots ls Q hR hS hL h4 h5 fin
  exact lv_l2i X.ex X.bt hd hv (k p e R s m args below meth c X H locs cells slots ls Q hR hS hL h4 h5 fin)
theorem jj_i2c {x : Int32} {v : Int32} (hd : decode (jj_b M) pc = .ok (.i2c, 1)) (hv : (x.toUInt32 % 65536).toInt32 = v) (k : jj_Go G M d (pc + 1) lo (.int v :: st) h kc ks r h') : jj_Go G M d pc lo (.int x :: st) h kc ks r h' := by
  intro p e R s m args below meth c X H locs cells slots ls Q hR hS hL h4 h5 fin
  exact lv_i2c X.ex X.bt hd hv (k p e R s m args below meth c X H locs cells slots ls Q hR hS hL h4 h5 fin)
theorem jj_dup {v : Value} (hd : decode (jj_b M) pc = .ok (.dup, 1)) (hv : v.category = 1) (k : jj_Go G M d (pc + 1) lo (v :: v :: st) h kc ks r h') : jj_Go G M d pc lo (v :: st) h kc ks r h' := by
  intro p e R s m args below meth c X H locs cells slots ls Q hR hS hL h4 h5 fin
  exact lv_dup X.ex X.bt hd (by rw [jj_v_cat]; exact hv) (k p e R s m args below meth c X H locs cells slots ls Q hR hS hL h4 h5 fin)
theorem jj_pop {v : Value} (hd : decode (jj_b M) pc = .ok (.pop, 1)) (hv : v.category = 1) (k : jj_Go G M d (pc + 1) lo st h kc ks r h') : jj_Go G M d pc lo (v :: st) h kc ks r h' := by
  intro p e R s m args below meth c X H locs cells slots ls Q hR hS hL h4 h5 fin
  exact lv_pop X.ex X.bt hd (by rw [jj_v_cat]; exact hv) (k p e R s m args below meth c X H locs cells slots ls Q hR hS hL h4 h5 fin)
theorem jj_dup2 {v w : Value} (hd : decode (jj_b M) pc = .ok (.dup2, 1)) (hv : v.category = 1) (hw : w.category = 1) (k : jj_Go G M d (pc + 1) lo (v :: w :: v :: w :: st) h kc ks r h') : jj_Go G M d pc lo (v :: w :: st) h kc ks r h' := by
  intro p e R s m args below meth c X H locs cells slots ls Q hR hS hL h4 h5 fin
  exact lv_dup2_11 X.ex X.bt hd (by rw [jj_v_cat]; exact hv) (by rw [jj_v_cat]; exact hw) (k p e R s m args below meth c X H locs cells slots ls Q hR hS hL h4 h5 fin)
theorem jj_dup2l {v : Value} (hd : decode (jj_b M) pc = .ok (.dup2, 1)) (hv : v.category = 2) (k : jj_Go G M d (pc + 1) lo (v :: v :: st) h kc ks r h') : jj_Go G M d pc lo (v :: st) h kc ks r h' := by
  intro p e R s m args below meth c X H locs cells slots ls Q hR hS hL h4 h5 fin
  exact lv_dup2_2 X.ex X.bt hd (by rw [jj_v_cat]; exact hv) (k p e R s m args below meth c X H locs cells slots ls Q hR hS hL h4 h5 fin)
theorem jj_goto {off : Int} {tgt : Nat} (hd : decode (jj_b M) pc = .ok (.goto off, 3)) (ht : (pc : Int) + off = (tgt : Int)) (k : jj_Go G M d tgt lo st h kc ks r h') : jj_Go G M d pc lo st h kc ks r h' := by
  intro p e R s m args below meth c X H locs cells slots ls Q hR hS hL h4 h5 fin
  exact lv_goto X.ex X.bt hd ht (k p e R s m args below meth c X H locs cells slots ls Q hR hS hL h4 h5 fin)
theorem jj_if_eq {x : Int32} {off : Int} {tgt : Nat} (hd : decode (jj_b M) pc = .ok (.ifCond .eq off, 3)) (ht : (pc : Int) + off = (tgt : Int)) (kt : x = 0 → jj_Go G M d tgt lo st h kc ks r h') (kf : ¬ (x = 0) → jj_Go G M d (pc + 3) lo st h kc ks r h') : jj_Go G M d pc lo (.int x :: st) h kc ks r h' := by
  intro p e R s m args below meth c X H locs cells slots ls Q hR hS hL h4 h5 fin
  exact lv_if_eq X.ex X.bt hd ht (fun q => ((kt q) p e R s m args below meth c X H locs cells slots ls Q hR hS hL h4 h5 fin)) (fun q => ((kf q) p e R s m args below meth c X H locs cells slots ls Q hR hS hL h4 h5 fin))
theorem jj_if_ne {x : Int32} {off : Int} {tgt : Nat} (hd : decode (jj_b M) pc = .ok (.ifCond .ne off, 3)) (ht : (pc : Int) + off = (tgt : Int)) (kt : ¬ x = 0 → jj_Go G M d tgt lo st h kc ks r h') (kf : x = 0 → jj_Go G M d (pc + 3) lo st h kc ks r h') : jj_Go G M d pc lo (.int x :: st) h kc ks r h' := by
  intro p e R s m args below meth c X H locs cells slots ls Q hR hS hL h4 h5 fin
  exact lv_if_ne X.ex X.bt hd ht (fun q => ((kt q) p e R s m args below meth c X H locs cells slots ls Q hR hS hL h4 h5 fin)) (fun q => ((kf q) p e R s m args below meth c X H locs cells slots ls Q hR hS hL h4 h5 fin))
theorem jj_if_lt {x : Int32} {off : Int} {tgt : Nat} (hd : decode (jj_b M) pc = .ok (.ifCond .lt off, 3)) (ht : (pc : Int) + off = (tgt : Int)) (kt : x < 0 → jj_Go G M d tgt lo st h kc ks r h') (kf : ¬ (x < 0) → jj_Go G M d (pc + 3) lo st h kc ks r h') : jj_Go G M d pc lo (.int x :: st) h kc ks r h' := by
  intro p e R s m args below meth c X H locs cells slots ls Q hR hS hL h4 h5 fin
  exact lv_if_lt X.ex X.bt hd ht (fun q => ((kt q) p e R s m args below meth c X H locs cells slots ls Q hR hS hL h4 h5 fin)) (fun q => ((kf q) p e R s m args below meth c X H locs cells slots ls Q hR hS hL h4 h5 fin))
theorem jj_if_ge {x : Int32} {off : Int} {tgt : Nat} (hd : decode (jj_b M) pc = .ok (.ifCond .ge off, 3)) (ht : (pc : Int) + off = (tgt : Int)) (kt : 0 ≤ x → jj_Go G M d tgt lo st h kc ks r h') (kf : ¬ (0 ≤ x) → jj_Go G M d (pc + 3) lo st h kc ks r h') : jj_Go G M d pc lo (.int x :: st) h kc ks r h' := by
  intro p e R s m args below meth c X H locs cells slots ls Q hR hS hL h4 h5 fin
  exact lv_if_ge X.ex X.bt hd ht (fun q => ((kt q) p e R s m args below meth c X H locs cells slots ls Q hR hS hL h4 h5 fin)) (fun q => ((kf q) p e R s m args below meth c X H locs cells slots ls Q hR hS hL h4 h5 fin))
theorem jj_if_gt {x : Int32} {off : Int} {tgt : Nat} (hd : decode (jj_b M) pc = .ok (.ifCond .gt off, 3)) (ht : (pc : Int) + off = (tgt : Int)) (kt : 0 < x → jj_Go G M d tgt lo st h kc ks r h') (kf : ¬ (0 < x) → jj_Go G M d (pc + 3) lo st h kc ks r h') : jj_Go G M d pc lo (.int x :: st) h kc ks r h' := by
  intro p e R s m args below meth c X H locs cells slots ls Q hR hS hL h4 h5 fin
  exact lv_if_gt X.ex X.bt hd ht (fun q => ((kt q) p e R s m args below meth c X H locs cells slots ls Q hR hS hL h4 h5 fin)) (fun q => ((kf q) p e R s m args below meth c X H locs cells slots ls Q hR hS hL h4 h5 fin))
theorem jj_if_le {x : Int32} {off : Int} {tgt : Nat} (hd : decode (jj_b M) pc = .ok (.ifCond .le off, 3)) (ht : (pc : Int) + off = (tgt : Int)) (kt : x ≤ 0 → jj_Go G M d tgt lo st h kc ks r h') (kf : ¬ (x ≤ 0) → jj_Go G M d (pc + 3) lo st h kc ks r h') : jj_Go G M d pc lo (.int x :: st) h kc ks r h' := by
  intro p e R s m args below meth c X H locs cells slots ls Q hR hS hL h4 h5 fin
  exact lv_if_le X.ex X.bt hd ht (fun q => ((kt q) p e R s m args below meth c X H locs cells slots ls Q hR hS hL h4 h5 fin)) (fun q => ((kf q) p e R s m args below meth c X H locs cells slots ls Q hR hS hL h4 h5 fin))
theorem jj_icmp_eq {x y : Int32} {off : Int} {tgt : Nat} (hd : decode (jj_b M) pc = .ok (.if_icmp .eq off, 3)) (ht : (pc : Int) + off = (tgt : Int)) (kt : x = y → jj_Go G M d tgt lo st h kc ks r h') (kf : ¬ (x = y) → jj_Go G M d (pc + 3) lo st h kc ks r h') : jj_Go G M d pc lo (.int y :: .int x :: st) h kc ks r h' := by
  intro p e R s m args below meth c X H locs cells slots ls Q hR hS hL h4 h5 fin
  exact lv_icmp_eq X.ex X.bt hd ht (fun q => ((kt q) p e R s m args below meth c X H locs cells slots ls Q hR hS hL h4 h5 fin)) (fun q => ((kf q) p e R s m args below meth c X H locs cells slots ls Q hR hS hL h4 h5 fin))
theorem jj_icmp_ne {x y : Int32} {off : Int} {tgt : Nat} (hd : decode (jj_b M) pc = .ok (.if_icmp .ne off, 3)) (ht : (pc : Int) + off = (tgt : Int)) (kt : ¬ x = y → jj_Go G M d tgt lo st h kc ks r h') (kf : x = y → jj_Go G M d (pc + 3) lo st h kc ks r h') : jj_Go G M d pc lo (.int y :: .int x :: st) h kc ks r h' := by
  intro p e R s m args below meth c X H locs cells slots ls Q hR hS hL h4 h5 fin
  exact lv_icmp_ne X.ex X.bt hd ht (fun q => ((kt q) p e R s m args below meth c X H locs cells slots ls Q hR hS hL h4 h5 fin)) (fun q => ((kf q) p e R s m args below meth c X H locs cells slots ls Q hR hS hL h4 h5 fin))
theorem jj_icmp_lt {x y : Int32} {off : Int} {tgt : Nat} (hd : decode (jj_b M) pc = .ok (.if_icmp .lt off, 3)) (ht : (pc : Int) + off = (tgt : Int)) (kt : x < y → jj_Go G M d tgt lo st h kc ks r h') (kf : ¬ (x < y) → jj_Go G M d (pc + 3) lo st h kc ks r h') : jj_Go G M d pc lo (.int y :: .int x :: st) h kc ks r h' := by
  intro p e R s m args below meth c X H locs cells slots ls Q hR hS hL h4 h5 fin
  exact lv_icmp_lt X.ex X.bt hd ht (fun q => ((kt q) p e R s m args below meth c X H locs cells slots ls Q hR hS hL h4 h5 fin)) (fun q => ((kf q) p e R s m args below meth c X H locs cells slots ls Q hR hS hL h4 h5 fin))
theorem jj_icmp_ge {x y : Int32} {off : Int} {tgt : Nat} (hd : decode (jj_b M) pc = .ok (.if_icmp .ge off, 3)) (ht : (pc : Int) + off = (tgt : Int)) (kt : y ≤ x → jj_Go G M d tgt lo st h kc ks r h') (kf : ¬ (y ≤ x) → jj_Go G M d (pc + 3) lo st h kc ks r h') : jj_Go G M d pc lo (.int y :: .int x :: st) h kc ks r h' := by
  intro p e R s m args below meth c X H locs cells slots ls Q hR hS hL h4 h5 fin
  exact lv_icmp_ge X.ex X.bt hd ht (fun q => ((kt q) p e R s m args below meth c X H locs cells slots ls Q hR hS hL h4 h5 fin)) (fun q => ((kf q) p e R s m args below meth c X H locs cells slots ls Q hR hS hL h4 h5 fin))
theorem jj_icmp_gt {x y : Int32} {off : Int} {tgt : Nat} (hd : decode (jj_b M) pc = .ok (.if_icmp .gt off, 3)) (ht : (pc : Int) + off = (tgt : Int)) (kt : y < x → jj_Go G M d tgt lo st h kc ks r h') (kf : ¬ (y < x) → jj_Go G M d (pc + 3) lo st h kc ks r h') : jj_Go G M d pc lo (.int y :: .int x :: st) h kc ks r h' := by
  intro p e R s m args below meth c X H locs cells slots ls Q hR hS hL h4 h5 fin
  exact lv_icmp_gt X.ex X.bt hd ht (fun q => ((kt q) p e R s m args below meth c X H locs cells slots ls Q hR hS hL h4 h5 fin)) (fun q => ((kf q) p e R s m args below meth c X H locs cells slots ls Q hR hS hL h4 h5 fin))
theorem jj_icmp_le {x y : Int32} {off : Int} {tgt : Nat} (hd : decode (jj_b M) pc = .ok (.if_icmp .le off, 3)) (ht : (pc : Int) + off = (tgt : Int)) (kt : x ≤ y → jj_Go G M d tgt lo st h kc ks r h') (kf : ¬ (x ≤ y) → jj_Go G M d (pc + 3) lo st h kc ks r h') : jj_Go G M d pc lo (.int y :: .int x :: st) h kc ks r h' := by
  intro p e R s m args below meth c X H locs cells slots ls Q hR hS hL h4 h5 fin
  exact lv_icmp_le X.ex X.bt hd ht (fun q => ((kt q) p e R s m args below meth c X H locs cells slots ls Q hR hS hL h4 h5 fin)) (fun q => ((kf q) p e R s m args below meth c X H locs cells slots ls Q hR hS hL h4 h5 fin))
theorem jj_swOut {dflt lo' hi : Int} {offs : Array Int} {len : Nat} {x : Int32} {tgt : Nat} (hd : decode (jj_b M) pc = .ok (.tableswitch dflt lo' hi offs, len)) (hx : x.toInt < lo' ∨ hi < x.toInt) (ht : (pc : Int) + dflt = (tgt : Int)) (k : jj_Go G M d tgt lo st h kc ks r h') : jj_Go G M d pc lo (.int x :: st) h kc ks r h' := by
  intro p e R s m args below meth c X H locs cells slots ls Q hR hS hL h4 h5 fin
  exact lv_tableOut X.ex X.bt hd hx ht (k p e R s m args below meth c X H locs cells slots ls Q hR hS hL h4 h5 fin)
theorem jj_swIn {dflt lo' hi : Int} {offs : Array Int} {len : Nat} {x : Int32} {off : Int} {tgt : Nat} (hd : decode (jj_b M) pc = .ok (.tableswitch dflt lo' hi offs, len)) (h1 : ¬ x.toInt < lo') (h2 : ¬ hi < x.toInt) (ho : offs[(x.toInt - lo').toNat]? = some off) (ht : (pc : Int) + off = (tgt : Int)) (k : jj_Go G M d tgt lo st h kc ks r h') : jj_Go G M d pc lo (.int x :: st) h kc ks r h' := by
  intro p e R s m args below meth c X H locs cells slots ls Q hR hS hL h4 h5 fin
  exact lv_tableIn X.ex X.bt hd h1 h2 ho ht (k p e R s m args below meth c X H locs cells slots ls Q hR hS hL h4 h5 fin)
theorem jj_istore_n {n : Fin 4} {i : Nat} {x : Int32} {lo2 : List (Option Value)} (hd : decode (jj_b M) pc = .ok (.istore_n n, 1)) (hi : (n : Nat) = i) (hn : i < jj_n M) (hl : jj_s lo i (.int x) = lo2) (k : jj_Go G M d (pc + 1) lo2 st h kc ks r h') : jj_Go G M d pc lo (.int x :: st) h kc ks r h' := by
  intro p e R s m args below meth c X H locs cells slots ls Q hR hS hL h4 h5 fin
  subst hl
  exact lv_istore_n X.ex X.bt hd hi hL hn rfl (fun ls' hl' => (k p e R s m args below meth c X H locs cells slots ls' Q hR hS (jj_L_s1 rfl rfl hl') h4 h5 fin))
theorem jj_istore {i : Nat} {x : Int32} {lo2 : List (Option Value)} (hd : decode (jj_b M) pc = .ok (.istore i, 2)) (hn : i < jj_n M) (hl : jj_s lo i (.int x) = lo2) (k : jj_Go G M d (pc + 2) lo2 st h kc ks r h') : jj_Go G M d pc lo (.int x :: st) h kc ks r h' := by
  intro p e R s m args below meth c X H locs cells slots ls Q hR hS hL h4 h5 fin
  subst hl
  exact lv_istore X.ex X.bt hd hL hn rfl (fun ls' hl' => (k p e R s m args below meth c X H locs cells slots ls' Q hR hS (jj_L_s1 rfl rfl hl') h4 h5 fin))
theorem jj_lstore_n {n : Fin 4} {i : Nat} {x : Int64} {lo2 : List (Option Value)} (hd : decode (jj_b M) pc = .ok (.lstore_n n, 1)) (hi : (n : Nat) = i) (hn : i + 1 < jj_n M) (hl : jj_s lo i (.long x) = lo2) (k : jj_Go G M d (pc + 1) lo2 st h kc ks r h') : jj_Go G M d pc lo (.long x :: st) h kc ks r h' := by
  intro p e R s m args below meth c X H locs cells slots ls Q hR hS hL h4 h5 fin
  subst hl
  exact lv_lstore_n X.ex X.bt hd hi hL hn rfl (fun ls' hl' => (k p e R s m args below meth c X H locs cells slots ls' Q hR hS (jj_L_s2 rfl rfl hl') h4 h5 fin))
theorem jj_lstore {i : Nat} {x : Int64} {lo2 : List (Option Value)} (hd : decode (jj_b M) pc = .ok (.lstore i, 2)) (hn : i + 1 < jj_n M) (hl : jj_s lo i (.long x) = lo2) (k : jj_Go G M d (pc + 2) lo2 st h kc ks r h') : jj_Go G M d pc lo (.long x :: st) h kc ks r h' := by
  intro p e R s m args below meth c X H locs cells slots ls Q hR hS hL h4 h5 fin
  subst hl
  exact lv_lstore X.ex X.bt hd hL hn rfl (fun ls' hl' => (k p e R s m args below meth c X H locs cells slots ls' Q hR hS (jj_L_s2 rfl rfl hl') h4 h5 fin))
theorem jj_astore_n {n : Fin 4} {i : Nat} {x : Nat} {lo2 : List (Option Value)} (hd : decode (jj_b M) pc = .ok (.astore_n n, 1)) (hi : (n : Nat) = i) (hn : i < jj_n M) (hl : jj_s lo i (.ref x) = lo2) (k : jj_Go G M d (pc + 1) lo2 st h kc ks r h') : jj_Go G M d pc lo (.ref x :: st) h kc ks r h' := by
  intro p e R s m args below meth c X H locs cells slots ls Q hR hS hL h4 h5 fin
  subst hl
  exact lv_astore_n X.ex X.bt hd hi hL hn rfl (fun ls' hl' => (k p e R s m args below meth c X H locs cells slots ls' Q hR hS (jj_L_s1 rfl rfl hl') h4 h5 fin))
theorem jj_astore {i : Nat} {x : Nat} {lo2 : List (Option Value)} (hd : decode (jj_b M) pc = .ok (.astore i, 2)) (hn : i < jj_n M) (hl : jj_s lo i (.ref x) = lo2) (k : jj_Go G M d (pc + 2) lo2 st h kc ks r h') : jj_Go G M d pc lo (.ref x :: st) h kc ks r h' := by
  intro p e R s m args below meth c X H locs cells slots ls Q hR hS hL h4 h5 fin
  subst hl
  exact lv_astore X.ex X.bt hd hL hn rfl (fun ls' hl' => (k p e R s m args below meth c X H locs cells slots ls' Q hR hS (jj_L_s1 rfl rfl hl') h4 h5 fin))
theorem jj_iinc {i : Nat} {n : Int} {x v : Int32} {lo2 : List (Option Value)} (hd : decode (jj_b M) pc = .ok (.iinc i n, 3)) (hx : lo[i]? = some (some (.int x))) (hv : x + Int32.ofInt n = v) (hn : i < jj_n M) (hl : jj_s lo i (.int v) = lo2) (k : jj_Go G M d (pc + 3) lo2 st h kc ks r h') : jj_Go G M d pc lo st h kc ks r h' := by
  intro p e R s m args below meth c X H locs cells slots ls Q hR hS hL h4 h5 fin
  subst hl
  have hm := (jj_lE_mem (G := G) lo 0 (i, .int x)).mpr ⟨i, .int x, hx, by rw [Nat.zero_add]; rfl⟩
  obtain ⟨k0, hk0⟩ := List.getElem?_of_mem hm
  exact lv_iinc X.ex X.bt hd hL hk0 hv hn rfl (fun ls' hl' => (k p e R s m args below meth c X H locs cells slots ls' Q hR hS (jj_L_s1 rfl rfl hl') h4 h5 fin))
end JJ
end
section
/-- behind a write at one cell -/
theorem jj_after {G : jj_G} {h : List jj_C} {H H1 : Heap} {a : Nat} {c0 c : jj_C} (hR : jj_R G h H) (ha : h[a]? = some c0) (he : va_at (jj_D G) vwCl (jj_N G + a, jj_E G c) H1) (hz : H1.size = H.size) (oq : ∀ q : Nat, q ≠ jj_N G + a → H1[q]? = H[q]?) : jj_R G (h.set a c) H1 := by
  refine ⟨?_, by rw [hz, hR.2.1, List.length_set], by rw [List.length_set]; exact hR.2.2⟩
  have h1 := hR.1.set (jj_W_D G h) (jj_W_get ha) he oq
  rw [jj_W_set] at h1
  exact h1
theorem jj_afterS {G : jj_G} {H0 H H1 : Heap} {locs : List Loc} {a k : Nat} (hS : va_S (jj_A G) H0 H locs) (hz : H1.size = H.size) (oq : ∀ q : Nat, q ≠ jj_N G + a → H1[q]? = H[q]?) : va_S (jj_A G) H0 H1 (locs ++ [⟨jj_N G + a, k⟩]) := hS.put hz oq (Nat.le_add_right _ _)
theorem jj_narR (G : jj_G) {ty : FieldType} {v : Value} (h : narrow ty v = v) : narrow ty (jj_v G v) = jj_v G v := by
  cases v with
  | ref x => cases ty <;> rfl
  | _ => exact h
theorem jj_fitR (G : jj_G) {ty : FieldType} {v : Value} (h : fits ty v = true) : fits ty (jj_v G v) = true := by
  cases v with
  | ref x => cases ty <;> exact h
  | _ => exact h
theorem jj_getD_set {α : Type} (xs : List α) (i : Nat) (x y : α) (hi : i < xs.length) (j : Nat) : (xs.set i x).getD j y = if j = i then x else xs.getD j y := by
  simp only [List.getD_eq_getElem?_getD, List.getElem?_set]
  by_cases h : i = j
  · subst h
    simp [hi]
  · rw [if_neg h, if_neg (fun e => h e.symm)]
section JM
variable {G : jj_G} {M : jj_M} {d pc : Nat} {lo : List (Option Value)} {st : List Value} {h : List jj_C} {kc ks : Nat} {r : Option Value} {h' : List jj_C}
/-- a field's place: in class own the constant idx names field k of class ci -/
def jj_fl (own : String) (idx ci k : Nat) : Prop := ∃ (C : String) (T : u_T) (N : Nat), vwCl[ci]? = some (C, T, N) ∧ k < N ∧ Cond.fieldLink own idx (T k).1 (T k).2.1 (T k).2.2.1 ∈ jj_ws ∧ (∀ w ∈ u_ws C T N, w ∈ jj_ws)
/-- what a class is: its name, fields, how many; their types -/
def jj_cl (ci : Nat) (C : String) (T : u_T) (N : Nat) (t0 : Nat → FieldType) : Prop := vwCl[ci]? = some (C, T, N) ∧ (∀ w ∈ u_ws C T N, w ∈ jj_ws) ∧ (∀ k, k < N → parseFieldDescriptor (T k).2.2.1 = some (t0 k)) ∧ (∀ a, a < N → ∀ b, b < N → a ≠ b → (T a).2.1 ≠ (T b).2.1)
/-- and it may be written: its type; final fields in constructors alone -/
def jj_fw (own nm : String) (idx ci k : Nat) (ty : FieldType) : Prop := ∃ (C : String) (T : u_T) (N : Nat) (t0 : Nat → FieldType), jj_cl ci C T N t0 ∧ k < N ∧ Cond.fieldLink own idx (T k).1 (T k).2.1 (T k).2.2.1 ∈ jj_ws ∧ t0 k = ty ∧ ((T k).2.2.2 = false ∨ ((T k).2.2.2 = true ∧ nm = "<init>" ∧ (T k).1 = own))
theorem jj_getf {idx ci k a : Nat} {fs : List Value} {v : Value} (hd : decode (jj_b M) pc = .ok (.getfield idx, 3)) (F : jj_fl (jj_y M).cls idx ci k) (ho : h[a]? = some (.inl (ci, fs))) (hv : fs[k]? = some v) (K : jj_Go G M d (pc + 3) lo (v :: st) h kc ks r h') : jj_Go G M d pc lo (.ref a :: st) h kc ks r h' := by
  intro p e R s m args below meth c X H locs cells slots ls Q hR hS hL h4 h5 fin
  obtain ⟨C, T, N, f1, f2, f3, f4⟩ := F
  show W p (jj_l G) e R s m args below meth c H locs cells slots Q (F0 m pc ls (.ref (jj_ad G a) :: st.map (jj_v G)))
  rw [jj_ad_lo (jj_R_lt hR ho)]
  exact va_get X.ex X.bt X.ts f4 X.own X.K hR.1 a (jj_W_get ho) f1 _ f2 (X.ts _ f3) (fun _ q => q) (v := jj_v G v) (by show (fs.map (jj_v G))[_]? = _; rw [List.getElem?_map, hv]; rfl) hd (K p e R s m args below meth c X H locs cells slots ls Q hR hS hL h4 h5 fin)
theorem jj_putf {idx ci k a : Nat} {ty : FieldType} {fs : List Value} {v : Value} {h2 : List jj_C} (hd : decode (jj_b M) pc = .ok (.putfield idx, 3)) (F : jj_fw (jj_y M).cls (jj_y M).name idx ci k ty) (ho : h[a]? = some (.inl (ci, fs))) (hl : k < fs.length) (hn : narrow ty v = v) (hf : fits ty v = true) (hh : h.set a (.inl (ci, fs.set k v)) = h2) (K : jj_Go G M d (pc + 3) lo st h2 kc ks r h') : jj_Go G M d pc lo (v :: .ref a :: st) h kc ks r h' := by
  intro p e R s m args below meth c X H locs cells slots ls Q hR hS hL h4 h5 fin
  subst hh
  obtain ⟨C, T, N, t0, ⟨f1, f4, f5, f6⟩, f2, f3, f7, f8⟩ := F
  subst f7
  have hn2 := jj_narR G hn
  have hf2 := jj_fitR G hf
  show W p (jj_l G) e R s m args below meth c H locs cells slots Q (F0 m pc ls (jj_v G v :: .ref (jj_ad G a) :: st.map (jj_v G)))
  rw [jj_ad_lo (jj_R_lt hR ho)]
  have hts := X.ts
  have hap := va_apart (own := (jj_y M).cls) hts f4 t0 f5 f6 X.K f1
  obtain ⟨rr, g1, cell, q1, q2, q3, q4⟩ := hR.1 a _ (jj_W_get ho)
  have hr : rr = (C, T, N) := Option.some.inj (g1.symm.trans f1)
  subst hr
  obtain ⟨hSl, hfc, kC, hkC, hkind⟩ := X.K.1 ci _ f1
  obtain ⟨cf, kf, fi, f, hi, hsl⟩ := hSl k f2
  have hlay := hts _ (f4 _ (u_in_lay f2))
  unfold u_lay at hlay
  have hst := (u_facts hfc hkC (u_lays hts f4 f2) hi).1
  have fin2 : ∀ H1 : Heap, H1[jj_N G + a]? = some (cell.setSlot f.slot (jj_v G v)) → H1.size = H.size → (∀ q, q ≠ jj_N G + a → H1[q]? = H[q]?) → W p (jj_l G) e R s m args below meth c H1 (locs ++ [⟨jj_N G + a, f.slot⟩]) cells slots Q (F0 m (pc + 3) ls (st.map (jj_v G))) := by
    intro H1 e1 e2 e3
    refine K p e R s m args below meth c X H1 _ cells slots ls Q (jj_after hR ho ?_ e2 e3) (jj_afterS hS e2 e3) hL h4 h5 fin
    refine ⟨_, f1, t_OB.to (V := updV (vp_V (fs.map (jj_v G))) k (jj_v G v)) ⟨_, e1, q2, q3, ?_⟩ (fun j _ => ?_)⟩
    · rw [hsl]
      exact t_set q4 hap f2 (jj_v G v)
    · rw [vp_updV_set (by rw [List.length_map]; exact hl), ← List.map_set]
  rcases f8 with f8 | ⟨f8, f9, f10⟩
  · rw [if_neg (by rw [f8]; decide)] at hlay
    have h6 := u_store hfc hkC hkind hlay hi (f5 k f2) hn2 hf2
    exact W.putK X.ex X.bt (f := f) ⟨X.own, X.ts _ f3, ⟨_, _, _, hi⟩, hst⟩ (by rw [q2]; exact h6) q1 q3 (by rw [hsl]; exact k2_hasslot (q4 k f2)) rfl rfl hd fin2
  · rw [if_pos f8] at hlay
    have hcf : m.cls = cf := by
      obtain ⟨_, _, c', _, _, _, -, -, hf', -, -, -, hown2, -⟩ := Cond.laysFinal_spec hlay
      have e1 : c' = cf := by have := hi.symm.trans hf'; simp at this; exact this.1.symm
      rw [f10] at hown2
      rw [← e1]; exact Option.some.inj (X.own.symm.trans hown2)
    have h6 := u_fits hfc hkC hkind (Or.inr hlay) hi (f5 k f2) hn2 hf2
    exact W.putFinK X.ex X.bt X.own (X.ts _ f3) hi hst hcf (by rw [← f9]; exact X.2.2.2.2.2.2.2.1) (by rw [q2]; exact h6) q1 q3 (by rw [hsl]; exact k2_hasslot (q4 k f2)) rfl rfl hd fin2
theorem jj_iald {a : Nat} {xs : List Int32} {i : Int32} {v : Int32} (hd : decode (jj_b M) pc = .ok (.iaload, 1)) (ho : h[a]? = some (.inr (.inl xs))) (hin : vp_in i xs.length) (hv : xs.getD i.toNatClampNeg 0 = v) (K : jj_Go G M d (pc + 1) lo (.int v :: st) h kc ks r h') : jj_Go G M d pc lo (.int i :: .ref a :: st) h kc ks r h' := by
  intro p e R s m args below meth c X H locs cells slots ls Q hR hS hL h4 h5 fin
  subst hv
  show W p (jj_l G) e R s m args below meth c H locs cells slots Q (F0 m pc ls (.int i :: .ref (jj_ad G a) :: st.map (jj_v G)))
  rw [jj_ad_lo (jj_R_lt hR ho)]
  exact va_iald X.ex X.bt X.K hR.1 a 0 (jj_W_get ho) rfl hin hd (K p e R s m args below meth c X H locs cells slots ls Q hR hS hL h4 h5 fin)
theorem jj_alen_i {a : Nat} {xs : List Int32} {v : Int32} (hd : decode (jj_b M) pc = .ok (.arraylength, 1)) (ho : h[a]? = some (.inr (.inl xs))) (hv : Int32.ofNat xs.length = v) (K : jj_Go G M d (pc + 1) lo (.int v :: st) h kc ks r h') : jj_Go G M d pc lo (.ref a :: st) h kc ks r h' := by
  intro p e R s m args below meth c X H locs cells slots ls Q hR hS hL h4 h5 fin
  show W p (jj_l G) e R s m args below meth c H locs cells slots Q (F0 m pc ls (.ref (jj_ad G a) :: st.map (jj_v G)))
  rw [jj_ad_lo (jj_R_lt hR ho)]
  exact va_alen X.ex X.bt X.K hR.1 a 0 (jj_W_get ho) rfl hv hd (K p e R s m args below meth c X H locs cells slots ls Q hR hS hL h4 h5 fin)
theorem jj_zald {a : Nat} {xs : List Int32} {i : Int32} {v : Int32} (hd : decode (jj_b M) pc = .ok (.baload, 1)) (ho : h[a]? = some (.inr (.inr (.inl xs)))) (hin : vp_in i xs.length) (hv : xs.getD i.toNatClampNeg 0 = v) (K : jj_Go G M d (pc + 1) lo (.int v :: st) h kc ks r h') : jj_Go G M d pc lo (.int i :: .ref a :: st) h kc ks r h' := by
  intro p e R s m args below meth c X H locs cells slots ls Q hR hS hL h4 h5 fin
  subst hv
  show W p (jj_l G) e R s m args below meth c H locs cells slots Q (F0 m pc ls (.int i :: .ref (jj_ad G a) :: st.map (jj_v G)))
  rw [jj_ad_lo (jj_R_lt hR ho)]
  exact va_zald X.ex X.bt X.K hR.1 a 1 (jj_W_get ho) rfl hin hd (K p e R s m args below meth c X H locs cells slots ls Q hR hS hL h4 h5 fin)
theorem jj_alen_z {a : Nat} {xs : List Int32} {v : Int32} (hd : decode (jj_b M) pc = .ok (.arraylength, 1)) (ho : h[a]? = some (.inr (.inr (.inl xs)))) (hv : Int32.ofNat xs.length = v) (K : jj_Go G M d (pc + 1) lo (.int v :: st) h kc ks r h') : jj_Go G M d pc lo (.ref a :: st) h kc ks r h' := by
  intro p e R s m args below meth c X H locs cells slots ls Q hR hS hL h4 h5 fin
  show W p (jj_l G) e R s m args below meth c H locs cells slots Q (F0 m pc ls (.ref (jj_ad G a) :: st.map (jj_v G)))
  rw [jj_ad_lo (jj_R_lt hR ho)]
  exact va_alen X.ex X.bt X.K hR.1 a 1 (jj_W_get ho) rfl hv hd (K p e R s m args below meth c X H locs cells slots ls Q hR hS hL h4 h5 fin)
theorem jj_lald {a : Nat} {xs : List Int64} {i : Int32} {v : Int64} (hd : decode (jj_b M) pc = .ok (.laload, 1)) (ho : h[a]? = some (.inr (.inr (.inr xs)))) (hin : vp_in i xs.length) (hv : xs.getD i.toNatClampNeg 0 = v) (K : jj_Go G M d (pc + 1) lo (.long v :: st) h kc ks r h') : jj_Go G M d pc lo (.int i :: .ref a :: st) h kc ks r h' := by
  intro p e R s m args below meth c X H locs cells slots ls Q hR hS hL h4 h5 fin
  subst hv
  show W p (jj_l G) e R s m args below meth c H locs cells slots Q (F0 m pc ls (.int i :: .ref (jj_ad G a) :: st.map (jj_v G)))
  rw [jj_ad_lo (jj_R_lt hR ho)]
  exact va_lald X.ex X.bt X.K hR.1 a 2 (jj_W_get ho) rfl hin hd (K p e R s m args below meth c X H locs cells slots ls Q hR hS hL h4 h5 fin)
theorem jj_alen_l {a : Nat} {xs : List Int64} {v : Int32} (hd : decode (jj_b M) pc = .ok (.arraylength, 1)) (ho : h[a]? = some (.inr (.inr (.inr xs)))) (hv : Int32.ofNat xs.length = v) (K : jj_Go G M d (pc + 1) lo (.int v :: st) h kc ks r h') : jj_Go G M d pc lo (.ref a :: st) h kc ks r h' := by
  intro p e R s m args below meth c X H locs cells slots ls Q hR hS hL h4 h5 fin
  show W p (jj_l G) e R s m args below meth c H locs cells slots Q (F0 m pc ls (.ref (jj_ad G a) :: st.map (jj_v G)))
  rw [jj_ad_lo (jj_R_lt hR ho)]
  exact va_alen X.ex X.bt X.K hR.1 a 2 (jj_W_get ho) rfl hv hd (K p e R s m args below meth c X H locs cells slots ls Q hR hS hL h4 h5 fin)
theorem jj_iast {a : Nat} {xs xs2 : List Int32} {i : Int32} {x : Int32} {h2 : List jj_C} (hd : decode (jj_b M) pc = .ok (.iastore, 1)) (ho : h[a]? = some (.inr (.inl xs))) (hin : vp_in i xs.length) (hx : xs.set i.toNatClampNeg x = xs2) (hh : h.set a (.inr (.inl xs2)) = h2) (K : jj_Go G M d (pc + 1) lo st h2 kc ks r h') : jj_Go G M d pc lo (.int x :: .int i :: .ref a :: st) h kc ks r h' := by
  intro p e R s m args below meth c X H locs cells slots ls Q hR hS hL h4 h5 fin
  subst hh
  subst hx
  have hlt : i.toNatClampNeg < xs.length := Nat.not_le.mp fun q => hin (Or.inr q)
  show W p (jj_l G) e R s m args below meth c H locs cells slots Q (F0 m pc ls (.int x :: .int i :: .ref (jj_ad G a) :: st.map (jj_v G)))
  rw [jj_ad_lo (jj_R_lt hR ho)]
  refine W.iast X.ex X.bt (hR.1 a _ (jj_W_get ho)) ((X.K.2 0 _ rfl).1 xs.length (fun j => .int (xs.getD j 0))) (fun q => by cases q) (by show ¬ (i < 0 ∨ (arrV _ _ _).slots.size ≤ _); rw [arrV_size]; exact hin) rfl rfl hd fun H1 e1 e2 e3 => ?_
  refine K p e R s m args below meth c X H1 _ cells slots ls Q (jj_after hR ho ?_ e2 e3) (jj_afterS hS e2 e3) hL h4 h5 fin
  show H1[jj_N G + a]? = some (vp_cell _ _)
  rw [e1]
  show some ((arrV _ _ (fun j => .int (xs.getD j 0))).setSlot _ _) = some (arrV _ _ (fun j => .int ((xs.set i.toNatClampNeg x).getD j 0)))
  rw [arrV_store, List.length_set]
  congr 2
  funext j
  rw [jj_getD_set _ _ _ _ hlt]
  by_cases hj : j = i.toNatClampNeg
  · simp [updV, hj, narrow]
  · simp [updV, hj]
theorem jj_zast {a : Nat} {xs xs2 : List Int32} {i : Int32} {x : Int32} {h2 : List jj_C} (hd : decode (jj_b M) pc = .ok (.bastore, 1)) (ho : h[a]? = some (.inr (.inr (.inl xs)))) (hin : vp_in i xs.length) (hx : xs.set i.toNatClampNeg (x &&& 1) = xs2) (hh : h.set a (.inr (.inr (.inl xs2))) = h2) (K : jj_Go G M d (pc + 1) lo st h2 kc ks r h') : jj_Go G M d pc lo (.int x :: .int i :: .ref a :: st) h kc ks r h' := by
  intro p e R s m args below meth c X H locs cells slots ls Q hR hS hL h4 h5 fin
  subst hh
  subst hx
  have hlt : i.toNatClampNeg < xs.length := Nat.not_le.mp fun q => hin (Or.inr q)
  show W p (jj_l G) e R s m args below meth c H locs cells slots Q (F0 m pc ls (.int x :: .int i :: .ref (jj_ad G a) :: st.map (jj_v G)))
  rw [jj_ad_lo (jj_R_lt hR ho)]
  refine W.zast X.ex X.bt (hR.1 a _ (jj_W_get ho)) ((X.K.2 1 _ rfl).1 xs.length (fun j => .int (xs.getD j 0))) (fun q => by cases q) (by show ¬ (i < 0 ∨ (arrV _ _ _).slots.size ≤ _); rw [arrV_size]; exact hin) rfl rfl hd fun H1 e1 e2 e3 => ?_
  refine K p e R s m args below meth c X H1 _ cells slots ls Q (jj_after hR ho ?_ e2 e3) (jj_afterS hS e2 e3) hL h4 h5 fin
  show H1[jj_N G + a]? = some (vp_cell _ _)
  rw [e1]
  show some ((arrV _ _ (fun j => .int (xs.getD j 0))).setSlot _ _) = some (arrV _ _ (fun j => .int ((xs.set i.toNatClampNeg (x &&& 1)).getD j 0)))
  rw [arrV_store, List.length_set]
  congr 2
  funext j
  rw [jj_getD_set _ _ _ _ hlt]
  by_cases hj : j = i.toNatClampNeg
  · simp [updV, hj, narrow]
  · simp [updV, hj]
theorem jj_last {a : Nat} {xs xs2 : List Int64} {i : Int32} {x : Int64} {h2 : List jj_C} (hd : decode (jj_b M) pc = .ok (.lastore, 1)) (ho : h[a]? = some (.inr (.inr (.inr xs)))) (hin : vp_in i xs.length) (hx : xs.set i.toNatClampNeg x = xs2) (hh : h.set a (.inr (.inr (.inr xs2))) = h2) (K : jj_Go G M d (pc + 1) lo st h2 kc ks r h') : jj_Go G M d pc lo (.long x :: .int i :: .ref a :: st) h kc ks r h' := by
  intro p e R s m args below meth c X H locs cells slots ls Q hR hS hL h4 h5 fin
  subst hh
  subst hx
  have hlt : i.toNatClampNeg < xs.length := Nat.not_le.mp fun q => hin (Or.inr q)
  show W p (jj_l G) e R s m args below meth c H locs cells slots Q (F0 m pc ls (.long x :: .int i :: .ref (jj_ad G a) :: st.map (jj_v G)))
  rw [jj_ad_lo (jj_R_lt hR ho)]
  refine W.last X.ex X.bt (hR.1 a _ (jj_W_get ho)) ((X.K.2 2 _ rfl).1 xs.length (fun j => .long (xs.getD j 0))) (fun q => by cases q) (by show ¬ (i < 0 ∨ (arrV _ _ _).slots.size ≤ _); rw [arrV_size]; exact hin) rfl rfl hd fun H1 e1 e2 e3 => ?_
  refine K p e R s m args below meth c X H1 _ cells slots ls Q (jj_after hR ho ?_ e2 e3) (jj_afterS hS e2 e3) hL h4 h5 fin
  show H1[jj_N G + a]? = some (vp_cell _ _)
  rw [e1]
  show some ((arrV _ _ (fun j => .long (xs.getD j 0))).setSlot _ _) = some (arrV _ _ (fun j => .long ((xs.set i.toNatClampNeg x).getD j 0)))
  rw [arrV_store, List.length_set]
  congr 2
  funext j
  rw [jj_getD_set _ _ _ _ hlt]
  by_cases hj : j = i.toNatClampNeg
  · simp [updV, hj, narrow]
  · simp [updV, hj]
/-- the table SEWN -/
theorem jj_gsewn {idx : Nat} (hd : decode (jj_b M) pc = .ok (.getstatic idx, 3)) (hw : Cond.fieldLink (jj_y M).cls idx "BallTown$Ball" "SEWN" "[I" ∈ jj_ws) (K : jj_Go G M d (pc + 3) lo (.ref 1000000 :: st) h kc ks r h') : jj_Go G M d pc lo st h kc ks r h' := by
  intro p e R s m args below meth c X H locs cells slots ls Q hR hS hL h4 h5 fin
  exact va_gets X.ex X.bt X.O.1.1 hS X.own (X.ts _ hw) (fun _ q => q) hd (K p e R s m args below meth c X H locs cells slots ls Q hR hS hL h4 h5 fin)
theorem jj_sewnld {i v : Int32} (hd : decode (jj_b M) pc = .ok (.iaload, 1)) (hin : vp_in i 60) (hv : jj_sewn.getD i.toNatClampNeg 0 = v) (K : jj_Go G M d (pc + 1) lo (.int v :: st) h kc ks r h') : jj_Go G M d pc lo (.int i :: .ref 1000000 :: st) h kc ks r h' := by
  intro p e R s m args below meth c X H locs cells slots ls Q hR hS hL h4 h5 fin
  exact va_ti X.ex X.bt X.O.1.2.1 hS hin (v := .int v) (by rw [← hv]) hd (K p e R s m args below meth c X H locs cells slots ls Q hR hS hL h4 h5 fin)
/-- the script -/
theorem jj_scrld {i v : Int32} (hd : decode (jj_b M) pc = .ok (.iaload, 1)) (hin : vp_in i (jj_scr G).length) (hv : (jj_scr G).getD i.toNatClampNeg 0 = v) (K : jj_Go G M d (pc + 1) lo (.int v :: st) h kc ks r h') : jj_Go G M d pc lo (.int i :: .ref 1000001 :: st) h kc ks r h' := by
  intro p e R s m args below meth c X H locs cells slots ls Q hR hS hL h4 h5 fin
  exact va_ti X.ex X.bt X.O.1.2.2.1 hS hin (v := .int v) (by rw [← hv]) hd (K p e R s m args below meth c X H locs cells slots ls Q hR hS hL h4 h5 fin)
theorem jj_scrlen {v : Int32} (hd : decode (jj_b M) pc = .ok (.arraylength, 1)) (hv : Int32.ofNat (jj_scr G).length = v) (K : jj_Go G M d (pc + 1) lo (.int v :: st) h kc ks r h') : jj_Go G M d pc lo (.ref 1000001 :: st) h kc ks r h' := by
  intro p e R s m args below meth c X H locs cells slots ls Q hR hS hL h4 h5 fin
  exact va_tlen X.ex X.bt X.O.1.2.2.1 hS hv hd (K p e R s m args below meth c X H locs cells slots ls Q hR hS hL h4 h5 fin)
/-- a new object -/
def jj_nw (own : String) (idx ci N : Nat) (fs : List Value) : Prop := ∃ (C : String) (T : u_T) (t0 : Nat → FieldType), jj_cl ci C T N t0 ∧ Cond.classLink own idx C ∈ jj_ws ∧ Cond.instantiable C N ∈ jj_ws ∧ Cond.initialized C ∈ jj_ws ∧ (∀ j, j < N → defaultValue (t0 j) = vp_V fs j) ∧ (∀ v ∈ fs, v.isRef = false ∨ v = .null)
theorem jj_new {idx ci N : Nat} {fs : List Value} {h2 : List jj_C} (hd : decode (jj_b M) pc = .ok (.new idx, 3)) (F : jj_nw (jj_y M).cls idx ci N fs) (hh : h ++ [.inl (ci, fs)] = h2) (hl : h.length < 1000000) (K : jj_Go G M d (pc + 3) lo (.ref h.length :: st) h2 kc ks r h') : jj_Go G M d pc lo st h (kc + 1) (ks + N) r h' := by
  intro p e R s m args below meth c X H locs cells slots ls Q hR hS hL h4 h5 fin
  subst hh
  obtain ⟨C, T, t0, ⟨f1, f4, f5, f6⟩, g1, g2, g3, g4, g5⟩ := F
  have hfs : fs.map (jj_v G) = fs := by
    conv => rhs; rw [← List.map_id fs]
    refine List.map_congr_left fun v hv => ?_
    rcases g5 v hv with q | q
    · cases v <;> first | rfl | exact absurd q (by simp [Value.isRef])
    · rw [q]; rfl
  have hts := X.ts
  have hKn := X.K.1 ci _ f1
  refine W.newcK X.ex X.bt X.own (hts _ g1) (hts _ g2) (hts _ g3) rfl hd (by omega) (by omega) hKn.2.1 rfl fun H1 kC hkC e1 z1 o1 => ?_
  have hk : ∀ (k : Nat) (x : Nat × va_E), (jj_W G h)[k]? = some x → H1[x.1]? = H[x.1]? := fun k x hx => o1 x.1 ((hR.1 k x hx).lt)
  have hH : H.size = jj_N G + h.length := hR.2.1
  have e0 : jj_E G (.inl (ci, fs)) = .inr (ci, fs) := by show (.inr (ci, fs.map (jj_v G)) : va_E) = _; rw [hfs]
  have hR2 : jj_R G (h ++ [.inl (ci, fs)]) H1 := by
    refine ⟨?_, by rw [z1, hH, List.length_append]; rfl, by rw [List.length_append]; exact hl⟩
    rw [← jj_W_app]
    refine (hR.1.kept hk).app (fun k x hx => ?_)
    have hz : k < 1 := (List.getElem?_eq_some_iff.mp hx).1
    rw [show k = 0 by omega] at hx
    cases hx
    rw [e0]
    refine ⟨_, f1, ?_⟩
    show t_OB (jj_N G + h.length) _ _ _ _ _
    rw [← hH]
    exact (u_born t0 hts f4 hKn hkC e1 f5).to g4
  have hS2 : va_S (jj_A G) s.heap H1 locs := ⟨Nat.le_trans hS.1 (by omega), fun x h1 h2 => (o1 x (Nat.lt_of_lt_of_le h1 hS.1)).trans (hS.2.1 x h1 h2), hS.2.2⟩
  have := K p e R s m args below meth c X H1 locs (cells + 1) (slots + N) ls Q hR2 hS2 hL (by omega) (by omega) (fun pc' ls' H' locs' a1 a2 a3 => by
    have := fin pc' ls' H' locs' a1 a2 a3
    rw [show cells + 1 + kc = cells + (kc + 1) by omega, show slots + N + ks = slots + (ks + N) by omega]
    exact this)
  rw [hH, ← jj_ad_lo hl]
  exact this
theorem jj_newaI {n : Int32} {N : Nat} {h2 : List jj_C} (hd : decode (jj_b M) pc = .ok (.newarray .int, 2)) (hn : ¬ n < 0) (hN : n.toNatClampNeg = N) (hb : N ≤ 100000) (hh : h ++ [.inr (.inl (List.replicate N 0))] = h2) (hl : h.length < 1000000) (hw : Cond.arrayClass .int ∈ jj_ws) (K : jj_Go G M d (pc + 2) lo (.ref h.length :: st) h2 kc ks r h') : jj_Go G M d pc lo (.int n :: st) h (kc + 1) (ks + N) r h' := by
  intro p e R s m args below meth c X H locs cells slots ls Q hR hS hL h4 h5 fin
  subst hh
  have hH : H.size = jj_N G + h.length := hR.2.1
  refine va_newaK (atype := .int) X.ex X.bt (X.ts _ hw) rfl hd rfl hn hN (by show N * componentBytes .int ≤ _; simp [componentBytes]; omega) (by omega) (by omega) rfl fun H1 cA e1 z1 o1 hAr hNm => ?_
  have hk : ∀ (k : Nat) (x : Nat × va_E), (jj_W G h)[k]? = some x → H1[x.1]? = H[x.1]? := fun k x hx => o1 x.1 ((hR.1 k x hx).lt)
  have hcA : cA = jj_I G := by
    have h1 := (X.K.2 0 _ rfl).2
    exact Option.some.inj (hNm.symm.trans h1)
  have hR2 : jj_R G (h ++ [.inr (.inl (List.replicate N 0))]) H1 := by
    refine ⟨?_, by rw [z1, hH, List.length_append]; rfl, by rw [List.length_append]; exact hl⟩
    rw [← jj_W_app]
    refine (hR.1.kept hk).app (fun k x hx => ?_)
    have hz : k < 1 := (List.getElem?_eq_some_iff.mp hx).1
    rw [show k = 0 by omega] at hx
    cases hx
    show H1[jj_N G + h.length]? = some (arrV (jj_I G) (List.replicate N 0).length (fun j => .int ((List.replicate N 0).getD j 0)))
    rw [← hH, e1, hcA, List.length_replicate]
    congr 2
    funext j
    rw [List.getD_eq_getElem?_getD, List.getElem?_replicate]
    split <;> rfl
  have hS2 : va_S (jj_A G) s.heap H1 locs := ⟨Nat.le_trans hS.1 (by omega), fun x h1 h2 => (o1 x (Nat.lt_of_lt_of_le h1 hS.1)).trans (hS.2.1 x h1 h2), hS.2.2⟩
  have := K p e R s m args below meth c X H1 locs (cells + 1) (slots + N) ls Q hR2 hS2 hL (by omega) (by omega) (fun pc' ls' H' locs' a1 a2 a3 => by
    have := fin pc' ls' H' locs' a1 a2 a3
    rw [show cells + 1 + kc = cells + (kc + 1) by omega, show slots + N + ks = slots + (ks + N) by omega]
    exact this)
  rw [hH, ← jj_ad_lo hl]
  exact this
theorem jj_newaZ {n : Int32} {N : Nat} {h2 : List jj_C} (hd : decode (jj_b M) pc = .ok (.newarray .boolean, 2)) (hn : ¬ n < 0) (hN : n.toNatClampNeg = N) (hb : N ≤ 100000) (hh : h ++ [.inr (.inr (.inl (List.replicate N 0)))] = h2) (hl : h.length < 1000000) (hw : Cond.arrayClass .boolean ∈ jj_ws) (K : jj_Go G M d (pc + 2) lo (.ref h.length :: st) h2 kc ks r h') : jj_Go G M d pc lo (.int n :: st) h (kc + 1) (ks + N) r h' := by
  intro p e R s m args below meth c X H locs cells slots ls Q hR hS hL h4 h5 fin
  subst hh
  have hH : H.size = jj_N G + h.length := hR.2.1
  refine va_newaK (atype := .boolean) X.ex X.bt (X.ts _ hw) rfl hd rfl hn hN (by show N * componentBytes .boolean ≤ _; simp [componentBytes]; omega) (by omega) (by omega) rfl fun H1 cA e1 z1 o1 hAr hNm => ?_
  have hk : ∀ (k : Nat) (x : Nat × va_E), (jj_W G h)[k]? = some x → H1[x.1]? = H[x.1]? := fun k x hx => o1 x.1 ((hR.1 k x hx).lt)
  have hcA : cA = jj_Z G := by
    have h1 := (X.K.2 1 _ rfl).2
    exact Option.some.inj (hNm.symm.trans h1)
  have hR2 : jj_R G (h ++ [.inr (.inr (.inl (List.replicate N 0)))]) H1 := by
    refine ⟨?_, by rw [z1, hH, List.length_append]; rfl, by rw [List.length_append]; exact hl⟩
    rw [← jj_W_app]
    refine (hR.1.kept hk).app (fun k x hx => ?_)
    have hz : k < 1 := (List.getElem?_eq_some_iff.mp hx).1
    rw [show k = 0 by omega] at hx
    cases hx
    show H1[jj_N G + h.length]? = some (arrV (jj_Z G) (List.replicate N 0).length (fun j => .int ((List.replicate N 0).getD j 0)))
    rw [← hH, e1, hcA, List.length_replicate]
    congr 2
    funext j
    rw [List.getD_eq_getElem?_getD, List.getElem?_replicate]
    split <;> rfl
  have hS2 : va_S (jj_A G) s.heap H1 locs := ⟨Nat.le_trans hS.1 (by omega), fun x h1 h2 => (o1 x (Nat.lt_of_lt_of_le h1 hS.1)).trans (hS.2.1 x h1 h2), hS.2.2⟩
  have := K p e R s m args below meth c X H1 locs (cells + 1) (slots + N) ls Q hR2 hS2 hL (by omega) (by omega) (fun pc' ls' H' locs' a1 a2 a3 => by
    have := fin pc' ls' H' locs' a1 a2 a3
    rw [show cells + 1 + kc = cells + (kc + 1) by omega, show slots + N + ks = slots + (ks + N) by omega]
    exact this)
  rw [hH, ← jj_ad_lo hl]
  exact this
theorem jj_newaJ {n : Int32} {N : Nat} {h2 : List jj_C} (hd : decode (jj_b M) pc = .ok (.newarray .long, 2)) (hn : ¬ n < 0) (hN : n.toNatClampNeg = N) (hb : N ≤ 100000) (hh : h ++ [.inr (.inr (.inr (List.replicate N 0)))] = h2) (hl : h.length < 1000000) (hw : Cond.arrayClass .long ∈ jj_ws) (K : jj_Go G M d (pc + 2) lo (.ref h.length :: st) h2 kc ks r h') : jj_Go G M d pc lo (.int n :: st) h (kc + 1) (ks + N) r h' := by
  intro p e R s m args below meth c X H locs cells slots ls Q hR hS hL h4 h5 fin
  subst hh
  have hH : H.size = jj_N G + h.length := hR.2.1
  refine va_newaK (atype := .long) X.ex X.bt (X.ts _ hw) rfl hd rfl hn hN (by show N * componentBytes .long ≤ _; simp [componentBytes]; omega) (by omega) (by omega) rfl fun H1 cA e1 z1 o1 hAr hNm => ?_
  have hk : ∀ (k : Nat) (x : Nat × va_E), (jj_W G h)[k]? = some x → H1[x.1]? = H[x.1]? := fun k x hx => o1 x.1 ((hR.1 k x hx).lt)
  have hcA : cA = jj_J G := by
    have h1 := (X.K.2 2 _ rfl).2
    exact Option.some.inj (hNm.symm.trans h1)
  have hR2 : jj_R G (h ++ [.inr (.inr (.inr (List.replicate N 0)))]) H1 := by
    refine ⟨?_, by rw [z1, hH, List.length_append]; rfl, by rw [List.length_append]; exact hl⟩
    rw [← jj_W_app]
    refine (hR.1.kept hk).app (fun k x hx => ?_)
    have hz : k < 1 := (List.getElem?_eq_some_iff.mp hx).1
    rw [show k = 0 by omega] at hx
    cases hx
    show H1[jj_N G + h.length]? = some (arrV (jj_J G) (List.replicate N 0).length (fun j => .long ((List.replicate N 0).getD j 0)))
    rw [← hH, e1, hcA, List.length_replicate]
    congr 2
    funext j
    rw [List.getD_eq_getElem?_getD, List.getElem?_replicate]
    split <;> rfl
  have hS2 : va_S (jj_A G) s.heap H1 locs := ⟨Nat.le_trans hS.1 (by omega), fun x h1 h2 => (o1 x (Nat.lt_of_lt_of_le h1 hS.1)).trans (hS.2.1 x h1 h2), hS.2.2⟩
  have := K p e R s m args below meth c X H1 locs (cells + 1) (slots + N) ls Q hR2 hS2 hL (by omega) (by omega) (fun pc' ls' H' locs' a1 a2 a3 => by
    have := fin pc' ls' H' locs' a1 a2 a3
    rw [show cells + 1 + kc = cells + (kc + 1) by omega, show slots + N + ks = slots + (ks + N) by omega]
    exact this)
  rw [hH, ← jj_ad_lo hl]
  exact this
end JM
end
section
/-- what the tables say of a method -/
def jj_mt (M2 : jj_M) (n : Nat) : Prop := Cond.initialized (jj_y M2).cls ∈ jj_ws ∧ Cond.code (jj_y M2) (jj_b M2) (jj_n M2) (jj_r M2) ∈ jj_ws ∧ ((jj_y M2).cls ≠ "java/lang/invoke/MethodHandle" ∧ (jj_y M2).cls ≠ "java/lang/invoke/VarHandle" ∧ (parseMethodDescriptor (jj_y M2).desc).map (fun d => d.parameters.length) = some n) ∧ jj_n M2 ≤ 40
def jj_mS (M2 : jj_M) (n : Nat) : Prop := jj_mt M2 n ∧ Cond.static (jj_y M2) ∈ jj_ws
def jj_mV (M2 : jj_M) (n : Nat) : Prop := jj_mt M2 n ∧ Cond.instanceMethod (jj_y M2) ∈ jj_ws ∧ Cond.selects (jj_y M2).cls (jj_y M2) (jj_y M2) ∈ jj_ws
def jj_mI (M2 : jj_M) (n : Nat) : Prop := jj_mt M2 n ∧ Cond.instanceMethod (jj_y M2) ∈ jj_ws ∧ (jj_y M2).name = "<init>" ∧ jj_r M2 = none
theorem jj_blind {G : jj_G} {av : List Value} {h : List jj_C} : FrameBlind (va_Pc av (fun U => jj_R G h U.heap ∧ va_K (jj_D G) vwCl (jj_tys G) U ∧ jj_O1 G U U.heap ∧ jj_O2 G U)) := by
  intro a U g mk q
  obtain ⟨q1, q2, q3, q4, q5⟩ := q
  exact ⟨q1, q2, va_K.moved (u := U) (U := U.calling g mk a) (Vm.Alike.refl U.vm) q3, jj_O1_moved (u := U) (U := U.calling g mk a) (Vm.Alike.refl U.vm) q4, jj_O2_warm (s := U) (U := U.calling g mk a) (State.WarmedH.refl U) q5⟩
section JC
variable {G : jj_G} {M : jj_M} {d pc : Nat} {lo : List (Option Value)} {st st0 : List Value} {h : List jj_C} {kc ks kc2 ks2 : Nat} {r : Option Value} {h' : List jj_C}
variable {idx d2 n : Nat} {M2 : jj_M} {av : List Value} {r2 : Option Value} {hm : List jj_C}
theorem jj_pay {p : Program} {R : Room} {s : State} {m : MethodId} {args : Array Value} {meth : Method} {c : Code} {H : Heap} {locs : List Loc} (X : jj_X G M d p R s m args meth c) (hR : jj_R G h H) (hS : va_S (jj_A G) s.heap H locs) (U : State) (hU : U.heap = H) (hW : s.WarmedH U.vm) :
    jj_R G h U.heap ∧ va_K (jj_D G) vwCl (jj_tys G) U ∧ jj_O1 G U U.heap ∧ jj_O2 G U := ⟨by rw [hU]; exact hR, va_K.moved hW.alike X.K, jj_O1_moved hW.alike (by rw [hU]; exact jj_O1_kept X.O.1 hS.2.1), jj_O2_warm hW X.O.2.1⟩
/-- behind the call -/
theorem jj_back {p : Program} {e : Env} {R : Room} {s : State} {m : MethodId} {args : Array Value} {below : List Frame} {meth : Method} {c : Code} {H : Heap} {locs : List Loc} {cells slots : Nat} {ls : Array Slot} {Q : State → Prop} {g : JFrame} (hg : g = F0 m pc ls (st0.map (jj_v G)))
    (hrun : va_Run p (jj_l G) e R s m args below meth c H locs cells slots kc2 ks2 g (st.map (jj_v G)) (fun s0 oc t => oc = .returned (r2.map (jj_v G)) ∧ jj_R G hm t.heap ∧ va_F (jj_A G) s0 t) (jj_A G))
    (X : jj_X G M d p R s m args meth c) (hS : va_S (jj_A G) s.heap H locs) (hL : jj_L G ls (jj_n M) lo) (h4 : cells + (kc2 + kc) ≤ R.cells) (h5 : slots + (ks2 + ks) ≤ R.slots)
    (fin : ∀ (pc' : Nat) (ls' : Array Slot) (H' : Heap) (locs' : List Loc), decode (jj_b M) pc' = .ok (jj_rI (jj_r M), 1) → jj_R G h' H' → va_S (jj_A G) s.heap H' locs' → W p (jj_l G) e R s m args below meth c H' locs' (cells + (kc2 + kc)) (slots + (ks2 + ks)) Q (F0 m pc' ls' (r.map (jj_v G)).toList))
    (K : jj_Go G M d (pc + 3) lo (r2.toList ++ st) hm kc ks r h') : W p (jj_l G) e R s m args below meth c H locs cells slots Q (F0 m pc ls (st0.map (jj_v G))) := by
  subst hg
  intro T hT XX
  obtain ⟨v, st₀, t, T', L, e0, X', hL', e1, e2, ⟨q1, q2, q3⟩, stp⟩ := hrun T hT XX
  have hv : v = r2.map (jj_v G) := by cases q1; rfl
  subst hv
  have hS2 : va_S (jj_A G) s.heap T'.heap (locs ++ L) := by
    refine ⟨Nat.le_trans hS.1 (by rw [e1, ← e0]; exact q3.1), fun q g1 g2 => ?_, fun q hq => ?_⟩
    · rw [e1, q3.2 q (by rw [e0]; exact Nat.lt_of_lt_of_le g1 hS.1) g2, e0]
      exact hS.2.1 q g1 g2
    · rcases List.mem_append.mp hq with hh | hh
      · exact hS.2.2 q hh
      · exact hL' _ hh
  obtain ⟨t2, a1, b1⟩ := K p e R s m args below meth c X T'.heap (locs ++ L) (cells + kc2) (slots + ks2) ls Q (by rw [e1]; exact q2) hS2 hL (by omega) (by omega) (fun pc' ls' H' locs' g1 g2 g3 => by
    have := fin pc' ls' H' locs' g1 g2 g3
    rw [Nat.add_assoc, Nat.add_assoc]
    exact this) T' rfl X'
  refine ⟨t2, stp t2 ?_, b1⟩
  have he : (r2.toList ++ st).map (jj_v G) = (r2.map (jj_v G)).toList ++ st.map (jj_v G) := by
    cases r2 <;> simp
  rw [he] at a1
  exact a1
theorem jj_callSa (hd : decode (jj_b M) pc = .ok (.invokestatic idx, 3)) (hl : Cond.methodLink (jj_y M).cls idx (jj_y M2) ∈ jj_ws) (F : jj_mS M2 n) (E : jj_Ev G M2 d2 av h kc2 ks2 r2 hm) (hn : av.length = n) (hst : st0 = av.reverse ++ st) (hd2 : d2 + 1 ≤ d) (hw : (st.map fun v => v.category).sum ≤ 8)
    (K : jj_Go G M d (pc + 3) lo (r2.toList ++ st) hm kc ks r h') : jj_Go G M d pc lo st0 h (kc2 + kc) (ks2 + ks) r h' := by
  intro p e R s m args below meth c X H locs cells slots ls Q hR hS hL h4 h5 fin
  obtain ⟨⟨f1, f2, f3, f4⟩, f5⟩ := F
  have hrm := X.rm
  have hw' : ((st.map (jj_v G)).map fun v => v.category).sum ≤ 8 := by
    rw [List.map_map, show ((fun v : Value => v.category) ∘ jj_v G) = (fun v => v.category) from funext (jj_v_cat G)]
    exact hw
  refine jj_back rfl (va_runS (As := av.map (jj_v G)) (rest := st.map (jj_v G)) (g := F0 m pc ls (st0.map (jj_v G))) ⟨X.ex, X.bt, X.2.2.2.1, X.own, X.ts⟩ E (va_cwS n X.ts (jj_good ?_) rfl rfl rfl f3 ⟨?_, ?_⟩) ⟨jj_blind, fun U hU hW => ⟨rfl, jj_pay X hR hS U hU hW⟩⟩ rfl (by rw [List.length_map]; exact hn) hL.1 (by show st0.map (jj_v G) = _; rw [hst, List.map_append, List.map_reverse]) (lv_room hw') hd ⟨by omega, by omega⟩) X hS hL h4 h5 fin K
  · intro w hw1
    simp only [va_wsS, List.cons_append, List.nil_append, List.mem_cons] at hw1
    rcases hw1 with rfl | rfl | rfl | rfl | hw1
    · exact hl
    · exact f5
    · exact f1
    · exact f2
    · exact hw1
  · show d2 + 1 ≤ R.frames
    omega
  · show 8 + (jj_n M2 + 11) + 64 * d2 ≤ R.locals
    omega
theorem jj_callVa {a ci N : Nat} {C : String} {T : u_T} {fs : List Value} (hd : decode (jj_b M) pc = .ok (.invokevirtual idx, 3)) (hl : Cond.methodLink (jj_y M).cls idx (jj_y M2) ∈ jj_ws) (F : jj_mV M2 n) (E : jj_Ev G M2 d2 (.ref a :: av) h kc2 ks2 r2 hm) (ho : h[a]? = some (.inl (ci, fs))) (hc : vwCl[ci]? = some (C, T, N)) (hC : (jj_y M2).cls = C) (hn : av.length = n) (hst : st0 = av.reverse ++ .ref a :: st) (hd2 : d2 + 1 ≤ d) (hw : (st.map fun v => v.category).sum ≤ 8)
    (K : jj_Go G M d (pc + 3) lo (r2.toList ++ st) hm kc ks r h') : jj_Go G M d pc lo st0 h (kc2 + kc) (ks2 + ks) r h' := by
  intro p e R s m args below meth c X H locs cells slots ls Q hR hS hL h4 h5 fin
  obtain ⟨⟨f1, f2, f3, f4⟩, f5, f6⟩ := F
  have hrm := X.rm
  have hw' : ((st.map (jj_v G)).map fun v => v.category).sum ≤ 8 := by
    rw [List.map_map, show ((fun v : Value => v.category) ∘ jj_v G) = (fun v => v.category) from funext (jj_v_cat G)]
    exact hw
  refine jj_back rfl (va_runV (C := C) (b := jj_ad G a) (As := av.map (jj_v G)) (rest := st.map (jj_v G)) (g := F0 m pc ls (st0.map (jj_v G))) ⟨X.ex, X.bt, X.2.2.2.1, X.own, X.ts⟩ E (cwV n X.ts (jj_good ?_) rfl rfl rfl ⟨hC, f3⟩ ⟨?_, ?_⟩) ⟨jj_blind, ?_, fun U hU hW => ⟨rfl, jj_pay X hR hS U hU hW⟩⟩ rfl (by rw [List.length_map]; exact hn) hL.1 (by show st0.map (jj_v G) = _; rw [hst, List.map_append, List.map_reverse]; rfl) (lv_room hw') hd ⟨by omega, by omega⟩) X hS hL h4 h5 fin K
  · intro w hw1
    simp only [wsV, List.cons_append, List.nil_append, List.mem_cons] at hw1
    rcases hw1 with rfl | rfl | rfl | rfl | rfl | hw1
    · exact hl
    · exact f5
    · rw [← hC]; exact f6
    · rw [← hC]; exact f1
    · exact f2
    · exact hw1
  · show d2 + 1 ≤ R.frames
    omega
  · show 8 + (jj_n M2 + 11) + 64 * d2 ≤ R.locals
    omega
  · rw [jj_ad_lo (jj_R_lt hR ho)]
    exact va_recv X.K hR.1 hc (jj_W_get ho)
theorem jj_callIa {a : Nat} (hd : decode (jj_b M) pc = .ok (.invokespecial idx, 3)) (hl : Cond.methodLink (jj_y M).cls idx (jj_y M2) ∈ jj_ws) (F : jj_mI M2 n) (E : jj_Ev G M2 d2 (.ref a :: av) h kc2 ks2 r2 hm) (hn : av.length = n) (hst : st0 = av.reverse ++ .ref a :: st) (hd2 : d2 + 1 ≤ d) (hw : (st.map fun v => v.category).sum ≤ 8)
    (K : jj_Go G M d (pc + 3) lo (r2.toList ++ st) hm kc ks r h') : jj_Go G M d pc lo st0 h (kc2 + kc) (ks2 + ks) r h' := by
  intro p e R s m args below meth c X H locs cells slots ls Q hR hS hL h4 h5 fin
  obtain ⟨⟨f1, f2, f3, f4⟩, f5, f6, f7⟩ := F
  have hrm := X.rm
  have hw' : ((st.map (jj_v G)).map fun v => v.category).sum ≤ 8 := by
    rw [List.map_map, show ((fun v : Value => v.category) ∘ jj_v G) = (fun v => v.category) from funext (jj_v_cat G)]
    exact hw
  unfold jj_Ev at E
  rw [f7] at E f2
  refine jj_back rfl (va_runI (b := jj_ad G a) (As := av.map (jj_v G)) (rest := st.map (jj_v G)) (g := F0 m pc ls (st0.map (jj_v G))) ⟨X.ex, X.bt, X.2.2.2.1, X.own, X.ts⟩ E (cwI n X.ts (jj_good ?_) rfl rfl rfl (X.ts _ f1) (X.ts _ hl) (X.ts _ f5) f6 f3 ⟨?_, ?_⟩) ⟨jj_blind, fun U hU hW => ⟨rfl, jj_pay X hR hS U hU hW⟩⟩ rfl (by rw [List.length_map]; exact hn) hL.1 (by show st0.map (jj_v G) = _; rw [hst, List.map_append, List.map_reverse]; rfl) (lv_room hw') hd ⟨by omega, by omega⟩) X hS hL h4 h5 fin K
  · intro w hw1
    simp only [List.mem_cons] at hw1
    rcases hw1 with rfl | hw1
    · exact f2
    · exact hw1
  · show d2 + 1 ≤ R.frames
    omega
  · show 8 + (jj_n M2 + 11) + 64 * d2 ≤ R.locals
    omega
theorem jj_callNa {a : Nat} {host : String} (hd : decode (jj_b M) pc = .ok (.invokespecial idx, 3)) (hl : Cond.methodLinkNest (jj_y M).cls idx (jj_y M2) host ∈ jj_nest) (F : jj_mI M2 n) (E : jj_Ev G M2 d2 (.ref a :: av) h kc2 ks2 r2 hm) (hn : av.length = n) (hst : st0 = av.reverse ++ .ref a :: st) (hd2 : d2 + 1 ≤ d) (hw : (st.map fun v => v.category).sum ≤ 8)
    (K : jj_Go G M d (pc + 3) lo (r2.toList ++ st) hm kc ks r h') : jj_Go G M d pc lo st0 h (kc2 + kc) (ks2 + ks) r h' := by
  intro p e R s m args below meth c X H locs cells slots ls Q hR hS hL h4 h5 fin
  obtain ⟨⟨f1, f2, f3, f4⟩, f5, f6, f7⟩ := F
  have hrm := X.rm
  have hw' : ((st.map (jj_v G)).map fun v => v.category).sum ≤ 8 := by
    rw [List.map_map, show ((fun v : Value => v.category) ∘ jj_v G) = (fun v => v.category) from funext (jj_v_cat G)]
    exact hw
  unfold jj_Ev at E
  rw [f7] at E f2
  refine jj_back rfl (va_runIN (host := host) (b := jj_ad G a) (As := av.map (jj_v G)) (rest := st.map (jj_v G)) (g := F0 m pc ls (st0.map (jj_v G))) ⟨X.ex, X.bt, X.2.2.2.1, X.own, X.ts⟩ E ⟨va_cnB n X.ts (jj_good ?_) rfl rfl rfl (X.O.2.1.2 _ hl) (X.ts _ f1) f3 ⟨?_, ?_⟩, f6, X.ts _ f5⟩ ⟨jj_blind, fun U hU hW => ⟨rfl, jj_pay X hR hS U hU hW⟩⟩ rfl (by rw [List.length_map]; exact hn) hL.1 (by show st0.map (jj_v G) = _; rw [hst, List.map_append, List.map_reverse]; rfl) (lv_room hw') hd ⟨by omega, by omega⟩) X hS hL h4 h5 fin K
  · intro w hw1
    simp only [List.mem_cons] at hw1
    rcases hw1 with rfl | hw1
    · exact f2
    · exact hw1
  · show d2 + 1 ≤ R.frames
    omega
  · show 8 + (jj_n M2 + 11) + 64 * d2 ≤ R.locals
    omega
/-- Object's constructor -/
theorem jj_obj {a : Nat} (hd : decode (jj_b M) pc = .ok (.invokespecial idx, 3)) (hl : Cond.methodLink (jj_y M).cls idx objectInit ∈ jj_ws) (h2 : Cond.instanceMethod objectInit ∈ jj_ws) (h3 : Cond.code objectInit ⟨#[0xb1]⟩ 1 none ∈ jj_ws) (hd2 : 1 ≤ d) (hw : (st.map fun v => v.category).sum ≤ 8)
    (K : jj_Go G M d (pc + 3) lo st h kc ks r h') : jj_Go G M d pc lo (.ref a :: st) h kc ks r h' := by
  intro p e R s m args below meth c X H locs cells slots ls Q hR hS hL h4 h5 fin
  have hrm := X.rm
  have hw' : ((st.map (jj_v G)).map fun v => v.category).sum ≤ 8 := by
    rw [List.map_map, show ((fun v : Value => v.category) ∘ jj_v G) = (fun v => v.category) from funext (jj_v_cat G)]
    exact hw
  refine W.objInit X.ex X.bt X.own (X.ts _ hl) (X.ts _ h2) (X.ts _ h3) rfl (by rw [X.2.2.2.1]; exact hL.1) rfl hd (by omega) ?_ (K p e R s m args below meth c X H locs cells slots ls Q hR hS hL h4 h5 fin)
  show 2 * 0 + _ + 12 ≤ _
  omega
/-- Math.max -/
theorem jj_max {x y v : Int32} (hd : decode (jj_b M) pc = .ok (.invokestatic idx, 3)) (hl : Cond.methodLink (jj_y M).cls idx Lib.Math.max.name ∈ jj_ws) (g2 : Cond.static Lib.Math.max.name ∈ jj_ws) (g3 : Cond.initialized "java/lang/Math" ∈ jj_ws) (g4 : Cond.code Lib.Math.max.name Lib.Math.max.code 2 (some .int) ∈ jj_ws) (hd2 : 1 ≤ d) (hw : (st.map fun v => v.category).sum ≤ 8) (hv : (if x < y then y else x) = v)
    (K : jj_Go G M d (pc + 3) lo (.int v :: st) h kc ks r h') : jj_Go G M d pc lo (.int y :: .int x :: st) h kc ks r h' := by
  intro p e R s m args below meth c X H locs cells slots ls Q hR hS hL h4 h5 fin
  subst hv
  have hrm := X.rm
  have hw' : ((st.map (jj_v G)).map fun v => v.category).sum ≤ 8 := by
    rw [List.map_map, show ((fun v : Value => v.category) ∘ jj_v G) = (fun v => v.category) from funext (jj_v_cat G)]
    exact hw
  exact va_mmax X.ex X.bt (by rw [X.2.2.2.1]; exact hL.1.symm) X.own (X.ts _ hl) (X.ts _ g2) (X.ts _ g3) (X.ts _ g4) (by omega) (by omega) (by omega) (by omega) hd (K p e R s m args below meth c X H locs cells slots ls Q hR hS hL h4 h5 fin)
/-- the same for calls that make nothing -/
theorem jj_callS (hd : decode (jj_b M) pc = .ok (.invokestatic idx, 3)) (hl : Cond.methodLink (jj_y M).cls idx (jj_y M2) ∈ jj_ws) (F : jj_mS M2 n) (E : jj_Ev G M2 d2 av h 0 0 r2 hm) (hn : av.length = n) (hst : st0 = av.reverse ++ st) (hd2 : d2 + 1 ≤ d) (hw : (st.map fun v => v.category).sum ≤ 8)
    (K : jj_Go G M d (pc + 3) lo (r2.toList ++ st) hm kc ks r h') : jj_Go G M d pc lo st0 h kc ks r h' := by
  have := jj_callSa hd hl F E hn hst hd2 hw K
  rw [Nat.zero_add, Nat.zero_add] at this
  exact this
theorem jj_callV {a ci N : Nat} {C : String} {T : u_T} {fs : List Value} (hd : decode (jj_b M) pc = .ok (.invokevirtual idx, 3)) (hl : Cond.methodLink (jj_y M).cls idx (jj_y M2) ∈ jj_ws) (F : jj_mV M2 n) (E : jj_Ev G M2 d2 (.ref a :: av) h 0 0 r2 hm) (ho : h[a]? = some (.inl (ci, fs))) (hc : vwCl[ci]? = some (C, T, N)) (hC : (jj_y M2).cls = C) (hn : av.length = n) (hst : st0 = av.reverse ++ .ref a :: st) (hd2 : d2 + 1 ≤ d) (hw : (st.map fun v => v.category).sum ≤ 8)
    (K : jj_Go G M d (pc + 3) lo (r2.toList ++ st) hm kc ks r h') : jj_Go G M d pc lo st0 h kc ks r h' := by
  have := jj_callVa hd hl F E ho hc hC hn hst hd2 hw K
  rw [Nat.zero_add, Nat.zero_add] at this
  exact this
/-- more room does no harm -/
theorem jj_deep {d3 : Nat} (hd : d2 ≤ d3) (E : jj_Go G M d2 pc lo st h kc ks r h') : jj_Go G M d3 pc lo st h kc ks r h' := by
  intro p e R s m args below meth c X
  obtain ⟨x1, x2, x3, x4, x5, x6, x7, x8, x9, x10, x11⟩ := X
  exact E p e R s m args below meth c ⟨x1, x2, x3, x4, x5, x6, x7, x8, by omega, by omega, x11⟩
end JC
end
section
theorem jj_in {w : Cond} (i : Nat) (h1 : lw_tbl[i]? = some w) (h2 : goodWord w = true) : w ∈ jj_ws := List.mem_filter.mpr ⟨List.mem_of_getElem? h1, h2⟩
def m6_init : jj_M := (yX6_init, cX6_init, 1, none)
def m3_init : jj_M := (yX3_init, cX3_init, 1, none)
def m4_init : jj_M := (yX4_init, cX4_init, 3, none)
def m4_lay : jj_M := (yX4_lay, cX4_lay, 8, none)
def m4_number : jj_M := (yX4_number, cX4_number, 2, (some .int))
def m4_setGoal : jj_M := (yX4_setGoal, cX4_setGoal, 4, none)
def m4_isTurning : jj_M := (yX4_isTurning, cX4_isTurning, 1, (some .boolean))
def m0_isField : jj_M := (yX0_isField, cX0_isField, 1, (some .boolean))
def m0_across : jj_M := (yX0_across, cX0_across, 2, (some .int))
def m0_isSide : jj_M := (yX0_isSide, cX0_isSide, 1, (some .boolean))
def m4_goal : jj_M := (yX4_goal, cX4_goal, 3, (some .int))
def m0_sideTo : jj_M := (yX0_sideTo, cX0_sideTo, 3, (some .int))
def m0_on : jj_M := (yX0_on, cX0_on, 2, (some .int))
def mJ9_floorMod : jj_M := (yJ9_floorMod_7cf53, cJ9_floorMod_7cf53, 3, (some .int))
def m5_init : jj_M := (yX5_init, cX5_init, 1, none)
def m5_clear : jj_M := (yX5_clear, cX5_clear, 2, none)
def m0_allBeside : jj_M := (yX0_allBeside, cX0_allBeside, 3, (some .int))
def m5_forgetFound : jj_M := (yX5_forgetFound, cX5_forgetFound, 1, none)
def m2_init : jj_M := (yX2_init, cX2_init, 1, none)
def m1_init : jj_M := (yX1_init, cX1_init, 1, none)
def m6_write : jj_M := (yX6_write, cX6_write, 4, (some .int))
def m3_hasRoomFor : jj_M := (yX3_hasRoomFor, cX3_hasRoomFor, 2, (some .boolean))
def m3_append : jj_M := (yX3_append, cX3_append, 5, (some .int))
def m6_erase : jj_M := (yX6_erase, cX6_erase, 1, (some .int))
def m3_clear : jj_M := (yX3_clear, cX3_clear, 2, (some .int))
def m6_fault : jj_M := (yX6_fault, cX6_fault, 1, (some .int))
def m3_read : jj_M := (yX3_read, cX3_read, 2, (some .int))
def m3_readLine : jj_M := (yX3_readLine, cX3_readLine, 5, (some .boolean))
def m3_nextToken : jj_M := (yX3_nextToken, cX3_nextToken, 2, none)
def m3_signAt : jj_M := (yX3_signAt, cX3_signAt, 2, (some .int))
def m3_sortOf : jj_M := (yX3_sortOf, cX3_sortOf, 1, (some .int))
def m3_wordHere : jj_M := (yX3_wordHere, cX3_wordHere, 1, (some .int))
def m3_spells : jj_M := (yX3_spells, cX3_spells, 3, (some .boolean))
def mJ0_length : jj_M := (yJ0_length_8abf5, cJ0_length_8abf5, 1, (some .int))
def mJ0_coder : jj_M := (yJ0_coder_7d493, cJ0_coder_7d493, 1, (some .byte))
def mJ0_charAt : jj_M := (yJ0_charAt_5068e, cJ0_charAt_5068e, 2, (some .char))
def mJ0_isLatin1 : jj_M := (yJ0_isLatin1_aae02, cJ0_isLatin1_aae02, 1, (some .boolean))
def mJ1_charAt : jj_M := (yJ1_charAt_3b067, cJ1_charAt_3b067, 2, (some .char))
def mJ0_checkIndex : jj_M := (yJ0_checkIndex_df160, cJ0_checkIndex_df160, 2, none)
def mJ3_checkIndex : jj_M := (yJ3_checkIndex_8e157, cJ3_checkIndex_8e157, 3, (some .int))
def mJ2_charAt : jj_M := (yJ2_charAt_3b067, cJ2_charAt_3b067, 2, (some .char))
def mJ2_checkIndex : jj_M := (yJ2_checkIndex_2214a, cJ2_checkIndex_2214a, 2, none)
def mJ2_length : jj_M := (yJ2_length_9d52b, cJ2_length_9d52b, 1, (some .int))
def mJ2_getChar : jj_M := (yJ2_getChar_3b067, cJ2_getChar_3b067, 2, (some .char))
def m3_nextNumber : jj_M := (yX3_nextNumber, cX3_nextNumber, 5, (some .int))
def m3_setLine : jj_M := (yX3_setLine, cX3_setLine, 5, none)
def m6_town : jj_M := (yX6_town, cX6_town, 3, (some .int))
def m3_lineCount : jj_M := (yX3_lineCount, cX3_lineCount, 1, (some .int))
def m3_wordOf : jj_M := (yX3_wordOf, cX3_wordOf, 2, (some .int))
def m3_inLine : jj_M := (yX3_inLine, cX3_inLine, 2, (some .int))
def m3_firstOf : jj_M := (yX3_firstOf, cX3_firstOf, 2, (some .int))
def m3_secondOf : jj_M := (yX3_secondOf, cX3_secondOf, 2, (some .int))
def m6_doLine : jj_M := (yX6_doLine, cX6_doLine, 4, none)
def m1_begin : jj_M := (yX1_begin, cX1_begin, 2, none)
def m1_stand : jj_M := (yX1_stand, cX1_stand, 3, none)
def m5_close : jj_M := (yX5_close, cX5_close, 3, none)
def m5_openTo : jj_M := (yX5_openTo, cX5_openTo, 2, (some .int))
def m5_setOpen : jj_M := (yX5_setOpen, cX5_setOpen, 3, none)
def m5_open : jj_M := (yX5_open, cX5_open, 3, none)
def m1_plant : jj_M := (yX1_plant, cX1_plant, 3, none)
def m1_take : jj_M := (yX1_take, cX1_take, 3, none)
def m1_kindOf : jj_M := (yX1_kindOf, cX1_kindOf, 2, (some .int))
def m1_forget : jj_M := (yX1_forget, cX1_forget, 1, none)
def m6_beside : jj_M := (yX6_beside, cX6_beside, 3, (some .int))
def m6_side : jj_M := (yX6_side, cX6_side, 3, (some .int))
def m6_far : jj_M := (yX6_far, cX6_far, 3, (some .int))
def m0_distance : jj_M := (yX0_distance, cX0_distance, 4, (some .int))
def m0_holds : jj_M := (yX0_holds, cX0_holds, 2, (some .boolean))
def m0_withThoseBeside : jj_M := (yX0_withThoseBeside, cX0_withThoseBeside, 3, (some .int))
def m6_other : jj_M := (yX6_other, cX6_other, 2, (some .int))
def m0_opposite : jj_M := (yX0_opposite, cX0_opposite, 2, (some .int))
def m6_goes : jj_M := (yX6_goes, cX6_goes, 4, (some .int))
def m6_field : jj_M := (yX6_field, cX6_field, 3, (some .int))
def m5_sidesClosed : jj_M := (yX5_sidesClosed, cX5_sidesClosed, 4, (some .int))
def m5_through : jj_M := (yX5_through, cX5_through, 4, (some .int))
def m6_taxOf : jj_M := (yX6_taxOf, cX6_taxOf, 2, (some .int))
def m6_openOfKind : jj_M := (yX6_openOfKind, cX6_openOfKind, 3, (some .int))
def m1_allOfKind : jj_M := (yX1_allOfKind, cX1_allOfKind, 4, (some .int))
def mJ6_bitCount : jj_M := (yJ6_bitCount_0f7a4, cJ6_bitCount_0f7a4, 1, (some .int))
def mJ9_max : jj_M := (yJ9_max_7cf53, cJ9_max_7cf53, 2, (some .int))
def m6_as : jj_M := (yX6_as, cX6_as, 3, (some .int))
def m6_isSuch : jj_M := (yX6_isSuch, cX6_isSuch, 2, (some .boolean))
def m6_rotate : jj_M := (yX6_rotate, cX6_rotate, 3, (some .int))
def m1_turn : jj_M := (yX1_turn, cX1_turn, 5, (some .int))
def m6_step : jj_M := (yX6_step, cX6_step, 4, (some .int))
def m1_place : jj_M := (yX1_place, cX1_place, 1, (some .int))
def m1_entry : jj_M := (yX1_entry, cX1_entry, 1, (some .int))
def m1_steps : jj_M := (yX1_steps, cX1_steps, 1, (some .int))
def m1_move : jj_M := (yX1_move, cX1_move, 3, none)
def m6_walker : jj_M := (yX6_walker, cX6_walker, 2, (some .int))
def m6_keep : jj_M := (yX6_keep, cX6_keep, 2, (some .int))
def m6_keptAt : jj_M := (yX6_keptAt, cX6_keptAt, 2, (some (.object "BallTown$Scene")))
def m6_back : jj_M := (yX6_back, cX6_back, 2, (some .int))
def m1_isTaken : jj_M := (yX1_isTaken, cX1_isTaken, 1, (some .boolean))
def m6_home : jj_M := (yX6_home, cX6_home, 6, (some .int))
def m6_alike : jj_M := (yX6_alike, cX6_alike, 1, (some .int))
def m4_bringing : jj_M := (yX4_bringing, cX4_bringing, 5, (some .int))
def m4_brings : jj_M := (yX4_brings, cX4_brings, 5, (some .boolean))
def m6_like : jj_M := (yX6_like, cX6_like, 2, (some .int))
def m6_fixed : jj_M := (yX6_fixed, cX6_fixed, 4, (some .long))
def m4_fixedWays : jj_M := (yX4_fixedWays, cX4_fixedWays, 7, (some .long))
def m4_ringOf : jj_M := (yX4_ringOf, cX4_ringOf, 6, (some .int))
def m6_unlike : jj_M := (yX6_unlike, cX6_unlike, 2, (some .long))
def m4_unlikeWays : jj_M := (yX4_unlikeWays, cX4_unlikeWays, 5, (some .long))
def m6_wardens : jj_M := (yX6_wardens, cX6_wardens, 2, (some .int))
def m5_wardenCount : jj_M := (yX5_wardenCount, cX5_wardenCount, 1, (some .int))
def m5_findWardens : jj_M := (yX5_findWardens, cX5_findWardens, 4, none)
def m5_wardsAll : jj_M := (yX5_wardsAll, cX5_wardsAll, 3, (some .boolean))
def m5_wardenSet : jj_M := (yX5_wardenSet, cX5_wardenSet, 1, (some .int))
def m5_wardenSets : jj_M := (yX5_wardenSets, cX5_wardenSets, 1, (some .int))
def m6_inside : jj_M := (yX6_inside, cX6_inside, 2, (some .int))
def m5_insideOf : jj_M := (yX5_insideOf, cX5_insideOf, 4, (some .int))
def m5_openToAny : jj_M := (yX5_openToAny, cX5_openToAny, 4, (some .int))
def m6_rounds : jj_M := (yX6_rounds, cX6_rounds, 2, (some .int))
def m5_roundCount : jj_M := (yX5_roundCount, cX5_roundCount, 1, (some .int))
def m5_findRounds : jj_M := (yX5_findRounds, cX5_findRounds, 3, none)
def m5_goRound : jj_M := (yX5_goRound, cX5_goRound, 6, none)
def m5_endRound : jj_M := (yX5_endRound, cX5_endRound, 3, none)
def m5_inFirstRound : jj_M := (yX5_inFirstRound, cX5_inFirstRound, 2, (some .int))
def m6_walks : jj_M := (yX6_walks, cX6_walks, 4, (some .long))
def m2_walkCount : jj_M := (yX2_walkCount, cX2_walkCount, 7, (some .long))
def m2_setOut : jj_M := (yX2_setOut, cX2_setOut, 3, none)
def m2_giveAll : jj_M := (yX2_giveAll, cX2_giveAll, 5, none)
def m2_arrive : jj_M := (yX2_arrive, cX2_arrive, 2, none)
def m2_hereAt : jj_M := (yX2_hereAt, cX2_hereAt, 2, (some .long))
def m6_odds : jj_M := (yX6_odds, cX6_odds, 5, (some .long))
def m2_oddsPart : jj_M := (yX2_oddsPart, cX2_oddsPart, 12, (some .long))
def m2_sharesOf : jj_M := (yX2_sharesOf, cX2_sharesOf, 1, (some .int))
def m2_commonDivisor : jj_M := (yX2_commonDivisor, cX2_commonDivisor, 11, (some .long))
def m6_count : jj_M := (yX6_count, cX6_count, 2, (some .int))
def m5_wallCount : jj_M := (yX5_wallCount, cX5_wallCount, 3, (some .int))
def m6_taxOfAll : jj_M := (yX6_taxOfAll, cX6_taxOfAll, 3, (some .int))
def m5_insideCount : jj_M := (yX5_insideCount, cX5_insideCount, 4, (some .int))
def m3_length : jj_M := (yX3_length, cX3_length, 1, (some .int))
def m7_init : jj_M := (yX7_init, cX7_init, 1, none)
def m7_lay : jj_M := (yX7_lay, cX7_lay, 4, none)
def m7_write : jj_M := (yX7_write, cX7_write, 5, (some .int))
def m7_in : jj_M := (yX7_in, cX7_in, 3, (some .boolean))
def m7_erase : jj_M := (yX7_erase, cX7_erase, 2, (some .int))
def m7_fault : jj_M := (yX7_fault, cX7_fault, 1, (some .int))
def m7_isRead : jj_M := (yX7_isRead, cX7_isRead, 2, (some .boolean))
def m7_isLine : jj_M := (yX7_isLine, cX7_isLine, 4, (some .boolean))
def m7_nextToken : jj_M := (yX7_nextToken, cX7_nextToken, 1, none)
def m7_isNumber : jj_M := (yX7_isNumber, cX7_isNumber, 3, (some .boolean))
def m7_fails : jj_M := (yX7_fails, cX7_fails, 1, (some .boolean))
def m7_arePair : jj_M := (yX7_arePair, cX7_arePair, 2, (some .boolean))
def m7_sideOf : jj_M := (yX7_sideOf, cX7_sideOf, 4, (some .int))
def m7_town : jj_M := (yX7_town, cX7_town, 2, (some .int))
def m7_doLine : jj_M := (yX7_doLine, cX7_doLine, 5, none)
def m7_beside : jj_M := (yX7_beside, cX7_beside, 3, (some .int))
def m7_isField : jj_M := (yX7_isField, cX7_isField, 1, (some .boolean))
def m7_isSide : jj_M := (yX7_isSide, cX7_isSide, 1, (some .boolean))
def m7_side : jj_M := (yX7_side, cX7_side, 3, (some .int))
def m7_far : jj_M := (yX7_far, cX7_far, 3, (some .int))
def m7_farOf : jj_M := (yX7_farOf, cX7_farOf, 7, (some .int))
def m7_has : jj_M := (yX7_has, cX7_has, 2, (some .boolean))
def m7_other : jj_M := (yX7_other, cX7_other, 4, (some .int))
def m7_goes : jj_M := (yX7_goes, cX7_goes, 4, (some .int))
def m7_layTurning : jj_M := (yX7_layTurning, cX7_layTurning, 7, none)
def m7_field : jj_M := (yX7_field, cX7_field, 5, (some .int))
def m7_taxOf : jj_M := (yX7_taxOf, cX7_taxOf, 3, (some .int))
def m7_openOfKind : jj_M := (yX7_openOfKind, cX7_openOfKind, 6, (some .int))
def m7_openOf : jj_M := (yX7_openOf, cX7_openOf, 4, (some .int))
def m7_as : jj_M := (yX7_as, cX7_as, 5, (some .int))
def m7_rotate : jj_M := (yX7_rotate, cX7_rotate, 5, (some .int))
def m7_step : jj_M := (yX7_step, cX7_step, 4, (some .int))
def m7_walker : jj_M := (yX7_walker, cX7_walker, 2, (some .int))
def m7_keep : jj_M := (yX7_keep, cX7_keep, 3, (some .int))
def m7_back : jj_M := (yX7_back, cX7_back, 3, (some .int))
def m7_home : jj_M := (yX7_home, cX7_home, 7, (some .int))
def m7_alike : jj_M := (yX7_alike, cX7_alike, 5, (some .int))
def m7_like : jj_M := (yX7_like, cX7_like, 6, (some .int))
def m7_fixed : jj_M := (yX7_fixed, cX7_fixed, 4, (some .long))
def m7_fixedOf : jj_M := (yX7_fixedOf, cX7_fixedOf, 9, (some .long))
def m7_unlike : jj_M := (yX7_unlike, cX7_unlike, 5, (some .long))
def m7_wardens : jj_M := (yX7_wardens, cX7_wardens, 8, (some .int))
def m7_bits : jj_M := (yX7_bits, cX7_bits, 3, (some .int))
def m7_inside : jj_M := (yX7_inside, cX7_inside, 2, (some .int))
def m7_insideOf : jj_M := (yX7_insideOf, cX7_insideOf, 5, (some .int))
def m7_rounds : jj_M := (yX7_rounds, cX7_rounds, 3, (some .int))
def m7_layRounds : jj_M := (yX7_layRounds, cX7_layRounds, 6, (some .int))
def m7_walks : jj_M := (yX7_walks, cX7_walks, 4, (some .long))
def m7_spread : jj_M := (yX7_spread, cX7_spread, 9, none)
def m7_odds : jj_M := (yX7_odds, cX7_odds, 13, (some .long))
def m7_count : jj_M := (yX7_count, cX7_count, 4, (some .int))
theorem tm6_init : jj_mI m6_init 0 := ⟨⟨jj_in 46 (by decide +kernel) rfl, jj_in 64 (by decide +kernel) rfl, by decide +kernel, by decide⟩, jj_in 63 (by decide +kernel) rfl, rfl, rfl⟩
theorem tm3_init : jj_mI m3_init 0 := ⟨⟨jj_in 47 (by decide +kernel) rfl, jj_in 72 (by decide +kernel) rfl, by decide +kernel, by decide⟩, jj_in 71 (by decide +kernel) rfl, rfl, rfl⟩
theorem tm4_init : jj_mI m4_init 0 := ⟨⟨jj_in 48 (by decide +kernel) rfl, jj_in 104 (by decide +kernel) rfl, by decide +kernel, by decide⟩, jj_in 103 (by decide +kernel) rfl, rfl, rfl⟩
theorem tm4_lay : jj_mV m4_lay 2 := ⟨⟨jj_in 48 (by decide +kernel) rfl, jj_in 109 (by decide +kernel) rfl, by decide +kernel, by decide⟩, jj_in 108 (by decide +kernel) rfl, jj_in 0 (by decide +kernel) rfl⟩
theorem tm4_number : jj_mS m4_number 2 := ⟨⟨jj_in 48 (by decide +kernel) rfl, jj_in 112 (by decide +kernel) rfl, by decide +kernel, by decide⟩, jj_in 111 (by decide +kernel) rfl⟩
theorem tm4_setGoal : jj_mV m4_setGoal 3 := ⟨⟨jj_in 48 (by decide +kernel) rfl, jj_in 116 (by decide +kernel) rfl, by decide +kernel, by decide⟩, jj_in 115 (by decide +kernel) rfl, jj_in 1 (by decide +kernel) rfl⟩
theorem tm4_isTurning : jj_mS m4_isTurning 1 := ⟨⟨jj_in 48 (by decide +kernel) rfl, jj_in 119 (by decide +kernel) rfl, by decide +kernel, by decide⟩, jj_in 118 (by decide +kernel) rfl⟩
theorem tm0_isField : jj_mS m0_isField 1 := ⟨⟨jj_in 49 (by decide +kernel) rfl, jj_in 122 (by decide +kernel) rfl, by decide +kernel, by decide⟩, jj_in 121 (by decide +kernel) rfl⟩
theorem tm0_across : jj_mS m0_across 2 := ⟨⟨jj_in 49 (by decide +kernel) rfl, jj_in 125 (by decide +kernel) rfl, by decide +kernel, by decide⟩, jj_in 124 (by decide +kernel) rfl⟩
theorem tm0_isSide : jj_mS m0_isSide 1 := ⟨⟨jj_in 49 (by decide +kernel) rfl, jj_in 129 (by decide +kernel) rfl, by decide +kernel, by decide⟩, jj_in 128 (by decide +kernel) rfl⟩
theorem tm4_goal : jj_mV m4_goal 2 := ⟨⟨jj_in 48 (by decide +kernel) rfl, jj_in 135 (by decide +kernel) rfl, by decide +kernel, by decide⟩, jj_in 133 (by decide +kernel) rfl, jj_in 134 (by decide +kernel) rfl⟩
theorem tm0_sideTo : jj_mS m0_sideTo 2 := ⟨⟨jj_in 49 (by decide +kernel) rfl, jj_in 138 (by decide +kernel) rfl, by decide +kernel, by decide⟩, jj_in 137 (by decide +kernel) rfl⟩
theorem tm0_on : jj_mS m0_on 2 := ⟨⟨jj_in 49 (by decide +kernel) rfl, jj_in 142 (by decide +kernel) rfl, by decide +kernel, by decide⟩, jj_in 141 (by decide +kernel) rfl⟩
theorem tmJ9_floorMod : jj_mS mJ9_floorMod 2 := ⟨⟨jj_in 50 (by decide +kernel) rfl, jj_in 145 (by decide +kernel) rfl, by decide +kernel, by decide⟩, jj_in 144 (by decide +kernel) rfl⟩
theorem tm5_init : jj_mI m5_init 0 := ⟨⟨jj_in 51 (by decide +kernel) rfl, jj_in 157 (by decide +kernel) rfl, by decide +kernel, by decide⟩, jj_in 156 (by decide +kernel) rfl, rfl, rfl⟩
theorem tm5_clear : jj_mV m5_clear 0 := ⟨⟨jj_in 51 (by decide +kernel) rfl, jj_in 162 (by decide +kernel) rfl, by decide +kernel, by decide⟩, jj_in 160 (by decide +kernel) rfl, jj_in 161 (by decide +kernel) rfl⟩
theorem tm0_allBeside : jj_mS m0_allBeside 1 := ⟨⟨jj_in 49 (by decide +kernel) rfl, jj_in 165 (by decide +kernel) rfl, by decide +kernel, by decide⟩, jj_in 164 (by decide +kernel) rfl⟩
theorem tm5_forgetFound : jj_mV m5_forgetFound 0 := ⟨⟨jj_in 51 (by decide +kernel) rfl, jj_in 169 (by decide +kernel) rfl, by decide +kernel, by decide⟩, jj_in 168 (by decide +kernel) rfl, jj_in 2 (by decide +kernel) rfl⟩
theorem tm2_init : jj_mI m2_init 0 := ⟨⟨jj_in 52 (by decide +kernel) rfl, jj_in 202 (by decide +kernel) rfl, by decide +kernel, by decide⟩, jj_in 201 (by decide +kernel) rfl, rfl, rfl⟩
theorem tm1_init : jj_mI m1_init 0 := ⟨⟨jj_in 53 (by decide +kernel) rfl, jj_in 216 (by decide +kernel) rfl, by decide +kernel, by decide⟩, jj_in 215 (by decide +kernel) rfl, rfl, rfl⟩
theorem tm6_write : jj_mV m6_write 2 := ⟨⟨jj_in 46 (by decide +kernel) rfl, jj_in 265 (by decide +kernel) rfl, by decide +kernel, by decide⟩, jj_in 263 (by decide +kernel) rfl, jj_in 264 (by decide +kernel) rfl⟩
theorem tm3_hasRoomFor : jj_mV m3_hasRoomFor 1 := ⟨⟨jj_in 47 (by decide +kernel) rfl, jj_in 269 (by decide +kernel) rfl, by decide +kernel, by decide⟩, jj_in 267 (by decide +kernel) rfl, jj_in 268 (by decide +kernel) rfl⟩
theorem tm3_append : jj_mV m3_append 2 := ⟨⟨jj_in 47 (by decide +kernel) rfl, jj_in 273 (by decide +kernel) rfl, by decide +kernel, by decide⟩, jj_in 271 (by decide +kernel) rfl, jj_in 272 (by decide +kernel) rfl⟩
theorem tm6_erase : jj_mV m6_erase 0 := ⟨⟨jj_in 46 (by decide +kernel) rfl, jj_in 278 (by decide +kernel) rfl, by decide +kernel, by decide⟩, jj_in 276 (by decide +kernel) rfl, jj_in 277 (by decide +kernel) rfl⟩
theorem tm3_clear : jj_mV m3_clear 0 := ⟨⟨jj_in 47 (by decide +kernel) rfl, jj_in 282 (by decide +kernel) rfl, by decide +kernel, by decide⟩, jj_in 280 (by decide +kernel) rfl, jj_in 281 (by decide +kernel) rfl⟩
theorem tm6_fault : jj_mV m6_fault 0 := ⟨⟨jj_in 46 (by decide +kernel) rfl, jj_in 286 (by decide +kernel) rfl, by decide +kernel, by decide⟩, jj_in 284 (by decide +kernel) rfl, jj_in 285 (by decide +kernel) rfl⟩
theorem tm3_read : jj_mV m3_read 0 := ⟨⟨jj_in 47 (by decide +kernel) rfl, jj_in 290 (by decide +kernel) rfl, by decide +kernel, by decide⟩, jj_in 288 (by decide +kernel) rfl, jj_in 289 (by decide +kernel) rfl⟩
theorem tm3_readLine : jj_mV m3_readLine 1 := ⟨⟨jj_in 47 (by decide +kernel) rfl, jj_in 294 (by decide +kernel) rfl, by decide +kernel, by decide⟩, jj_in 293 (by decide +kernel) rfl, jj_in 3 (by decide +kernel) rfl⟩
theorem tm3_nextToken : jj_mV m3_nextToken 0 := ⟨⟨jj_in 47 (by decide +kernel) rfl, jj_in 298 (by decide +kernel) rfl, by decide +kernel, by decide⟩, jj_in 297 (by decide +kernel) rfl, jj_in 4 (by decide +kernel) rfl⟩
theorem tm3_signAt : jj_mV m3_signAt 1 := ⟨⟨jj_in 47 (by decide +kernel) rfl, jj_in 302 (by decide +kernel) rfl, by decide +kernel, by decide⟩, jj_in 301 (by decide +kernel) rfl, jj_in 5 (by decide +kernel) rfl⟩
theorem tm3_sortOf : jj_mS m3_sortOf 1 := ⟨⟨jj_in 47 (by decide +kernel) rfl, jj_in 305 (by decide +kernel) rfl, by decide +kernel, by decide⟩, jj_in 304 (by decide +kernel) rfl⟩
theorem tm3_wordHere : jj_mV m3_wordHere 0 := ⟨⟨jj_in 47 (by decide +kernel) rfl, jj_in 309 (by decide +kernel) rfl, by decide +kernel, by decide⟩, jj_in 308 (by decide +kernel) rfl, jj_in 6 (by decide +kernel) rfl⟩
theorem tm3_spells : jj_mV m3_spells 1 := ⟨⟨jj_in 47 (by decide +kernel) rfl, jj_in 314 (by decide +kernel) rfl, by decide +kernel, by decide⟩, jj_in 313 (by decide +kernel) rfl, jj_in 7 (by decide +kernel) rfl⟩
theorem tmJ0_length : jj_mV mJ0_length 0 := ⟨⟨jj_in 55 (by decide +kernel) rfl, jj_in 318 (by decide +kernel) rfl, by decide +kernel, by decide⟩, jj_in 316 (by decide +kernel) rfl, jj_in 317 (by decide +kernel) rfl⟩
theorem tmJ0_coder : jj_mV mJ0_coder 0 := ⟨⟨jj_in 55 (by decide +kernel) rfl, jj_in 322 (by decide +kernel) rfl, by decide +kernel, by decide⟩, jj_in 320 (by decide +kernel) rfl, jj_in 321 (by decide +kernel) rfl⟩
theorem tmJ0_charAt : jj_mV mJ0_charAt 1 := ⟨⟨jj_in 55 (by decide +kernel) rfl, jj_in 328 (by decide +kernel) rfl, by decide +kernel, by decide⟩, jj_in 326 (by decide +kernel) rfl, jj_in 327 (by decide +kernel) rfl⟩
theorem tmJ0_isLatin1 : jj_mV mJ0_isLatin1 0 := ⟨⟨jj_in 55 (by decide +kernel) rfl, jj_in 332 (by decide +kernel) rfl, by decide +kernel, by decide⟩, jj_in 330 (by decide +kernel) rfl, jj_in 331 (by decide +kernel) rfl⟩
theorem tmJ1_charAt : jj_mS mJ1_charAt 2 := ⟨⟨jj_in 56 (by decide +kernel) rfl, jj_in 335 (by decide +kernel) rfl, by decide +kernel, by decide⟩, jj_in 334 (by decide +kernel) rfl⟩
theorem tmJ0_checkIndex : jj_mS mJ0_checkIndex 2 := ⟨⟨jj_in 55 (by decide +kernel) rfl, jj_in 338 (by decide +kernel) rfl, by decide +kernel, by decide⟩, jj_in 337 (by decide +kernel) rfl⟩
theorem tmJ3_checkIndex : jj_mS mJ3_checkIndex 3 := ⟨⟨jj_in 57 (by decide +kernel) rfl, jj_in 343 (by decide +kernel) rfl, by decide +kernel, by decide⟩, jj_in 342 (by decide +kernel) rfl⟩
theorem tmJ2_charAt : jj_mS mJ2_charAt 2 := ⟨⟨jj_in 58 (by decide +kernel) rfl, jj_in 346 (by decide +kernel) rfl, by decide +kernel, by decide⟩, jj_in 345 (by decide +kernel) rfl⟩
theorem tmJ2_checkIndex : jj_mS mJ2_checkIndex 2 := ⟨⟨jj_in 58 (by decide +kernel) rfl, jj_in 349 (by decide +kernel) rfl, by decide +kernel, by decide⟩, jj_in 348 (by decide +kernel) rfl⟩
theorem tmJ2_length : jj_mS mJ2_length 1 := ⟨⟨jj_in 58 (by decide +kernel) rfl, jj_in 352 (by decide +kernel) rfl, by decide +kernel, by decide⟩, jj_in 351 (by decide +kernel) rfl⟩
theorem tmJ2_getChar : jj_mS mJ2_getChar 2 := ⟨⟨jj_in 58 (by decide +kernel) rfl, jj_in 356 (by decide +kernel) rfl, by decide +kernel, by decide⟩, jj_in 355 (by decide +kernel) rfl⟩
theorem tm3_nextNumber : jj_mV m3_nextNumber 1 := ⟨⟨jj_in 47 (by decide +kernel) rfl, jj_in 373 (by decide +kernel) rfl, by decide +kernel, by decide⟩, jj_in 372 (by decide +kernel) rfl, jj_in 8 (by decide +kernel) rfl⟩
theorem tm3_setLine : jj_mV m3_setLine 4 := ⟨⟨jj_in 47 (by decide +kernel) rfl, jj_in 378 (by decide +kernel) rfl, by decide +kernel, by decide⟩, jj_in 377 (by decide +kernel) rfl, jj_in 9 (by decide +kernel) rfl⟩
theorem tm6_town : jj_mV m6_town 0 := ⟨⟨jj_in 46 (by decide +kernel) rfl, jj_in 383 (by decide +kernel) rfl, by decide +kernel, by decide⟩, jj_in 381 (by decide +kernel) rfl, jj_in 382 (by decide +kernel) rfl⟩
theorem tm3_lineCount : jj_mV m3_lineCount 0 := ⟨⟨jj_in 47 (by decide +kernel) rfl, jj_in 387 (by decide +kernel) rfl, by decide +kernel, by decide⟩, jj_in 385 (by decide +kernel) rfl, jj_in 386 (by decide +kernel) rfl⟩
theorem tm3_wordOf : jj_mV m3_wordOf 1 := ⟨⟨jj_in 47 (by decide +kernel) rfl, jj_in 391 (by decide +kernel) rfl, by decide +kernel, by decide⟩, jj_in 389 (by decide +kernel) rfl, jj_in 390 (by decide +kernel) rfl⟩
theorem tm3_inLine : jj_mS m3_inLine 2 := ⟨⟨jj_in 47 (by decide +kernel) rfl, jj_in 394 (by decide +kernel) rfl, by decide +kernel, by decide⟩, jj_in 393 (by decide +kernel) rfl⟩
theorem tm3_firstOf : jj_mV m3_firstOf 1 := ⟨⟨jj_in 47 (by decide +kernel) rfl, jj_in 398 (by decide +kernel) rfl, by decide +kernel, by decide⟩, jj_in 396 (by decide +kernel) rfl, jj_in 397 (by decide +kernel) rfl⟩
theorem tm3_secondOf : jj_mV m3_secondOf 1 := ⟨⟨jj_in 47 (by decide +kernel) rfl, jj_in 402 (by decide +kernel) rfl, by decide +kernel, by decide⟩, jj_in 400 (by decide +kernel) rfl, jj_in 401 (by decide +kernel) rfl⟩
theorem tm6_doLine : jj_mV m6_doLine 3 := ⟨⟨jj_in 46 (by decide +kernel) rfl, jj_in 406 (by decide +kernel) rfl, by decide +kernel, by decide⟩, jj_in 405 (by decide +kernel) rfl, jj_in 10 (by decide +kernel) rfl⟩
theorem tm1_begin : jj_mV m1_begin 0 := ⟨⟨jj_in 53 (by decide +kernel) rfl, jj_in 410 (by decide +kernel) rfl, by decide +kernel, by decide⟩, jj_in 408 (by decide +kernel) rfl, jj_in 409 (by decide +kernel) rfl⟩
theorem tm1_stand : jj_mV m1_stand 2 := ⟨⟨jj_in 53 (by decide +kernel) rfl, jj_in 414 (by decide +kernel) rfl, by decide +kernel, by decide⟩, jj_in 412 (by decide +kernel) rfl, jj_in 413 (by decide +kernel) rfl⟩
theorem tm5_close : jj_mV m5_close 2 := ⟨⟨jj_in 51 (by decide +kernel) rfl, jj_in 419 (by decide +kernel) rfl, by decide +kernel, by decide⟩, jj_in 417 (by decide +kernel) rfl, jj_in 418 (by decide +kernel) rfl⟩
theorem tm5_openTo : jj_mV m5_openTo 1 := ⟨⟨jj_in 51 (by decide +kernel) rfl, jj_in 424 (by decide +kernel) rfl, by decide +kernel, by decide⟩, jj_in 422 (by decide +kernel) rfl, jj_in 423 (by decide +kernel) rfl⟩
theorem tm5_setOpen : jj_mV m5_setOpen 2 := ⟨⟨jj_in 51 (by decide +kernel) rfl, jj_in 428 (by decide +kernel) rfl, by decide +kernel, by decide⟩, jj_in 427 (by decide +kernel) rfl, jj_in 11 (by decide +kernel) rfl⟩
theorem tm5_open : jj_mV m5_open 2 := ⟨⟨jj_in 51 (by decide +kernel) rfl, jj_in 432 (by decide +kernel) rfl, by decide +kernel, by decide⟩, jj_in 430 (by decide +kernel) rfl, jj_in 431 (by decide +kernel) rfl⟩
theorem tm1_plant : jj_mV m1_plant 2 := ⟨⟨jj_in 53 (by decide +kernel) rfl, jj_in 437 (by decide +kernel) rfl, by decide +kernel, by decide⟩, jj_in 435 (by decide +kernel) rfl, jj_in 436 (by decide +kernel) rfl⟩
theorem tm1_take : jj_mV m1_take 1 := ⟨⟨jj_in 53 (by decide +kernel) rfl, jj_in 441 (by decide +kernel) rfl, by decide +kernel, by decide⟩, jj_in 439 (by decide +kernel) rfl, jj_in 440 (by decide +kernel) rfl⟩
theorem tm1_kindOf : jj_mV m1_kindOf 1 := ⟨⟨jj_in 53 (by decide +kernel) rfl, jj_in 445 (by decide +kernel) rfl, by decide +kernel, by decide⟩, jj_in 443 (by decide +kernel) rfl, jj_in 444 (by decide +kernel) rfl⟩
theorem tm1_forget : jj_mV m1_forget 0 := ⟨⟨jj_in 53 (by decide +kernel) rfl, jj_in 449 (by decide +kernel) rfl, by decide +kernel, by decide⟩, jj_in 447 (by decide +kernel) rfl, jj_in 448 (by decide +kernel) rfl⟩
theorem tm6_beside : jj_mV m6_beside 2 := ⟨⟨jj_in 46 (by decide +kernel) rfl, jj_in 453 (by decide +kernel) rfl, by decide +kernel, by decide⟩, jj_in 451 (by decide +kernel) rfl, jj_in 452 (by decide +kernel) rfl⟩
theorem tm6_side : jj_mV m6_side 2 := ⟨⟨jj_in 46 (by decide +kernel) rfl, jj_in 458 (by decide +kernel) rfl, by decide +kernel, by decide⟩, jj_in 456 (by decide +kernel) rfl, jj_in 457 (by decide +kernel) rfl⟩
theorem tm6_far : jj_mV m6_far 2 := ⟨⟨jj_in 46 (by decide +kernel) rfl, jj_in 464 (by decide +kernel) rfl, by decide +kernel, by decide⟩, jj_in 462 (by decide +kernel) rfl, jj_in 463 (by decide +kernel) rfl⟩
theorem tm0_distance : jj_mS m0_distance 2 := ⟨⟨jj_in 49 (by decide +kernel) rfl, jj_in 467 (by decide +kernel) rfl, by decide +kernel, by decide⟩, jj_in 466 (by decide +kernel) rfl⟩
theorem tm0_holds : jj_mS m0_holds 2 := ⟨⟨jj_in 49 (by decide +kernel) rfl, jj_in 470 (by decide +kernel) rfl, by decide +kernel, by decide⟩, jj_in 469 (by decide +kernel) rfl⟩
theorem tm0_withThoseBeside : jj_mS m0_withThoseBeside 1 := ⟨⟨jj_in 49 (by decide +kernel) rfl, jj_in 473 (by decide +kernel) rfl, by decide +kernel, by decide⟩, jj_in 472 (by decide +kernel) rfl⟩
theorem tm6_other : jj_mV m6_other 1 := ⟨⟨jj_in 46 (by decide +kernel) rfl, jj_in 478 (by decide +kernel) rfl, by decide +kernel, by decide⟩, jj_in 476 (by decide +kernel) rfl, jj_in 477 (by decide +kernel) rfl⟩
theorem tm0_opposite : jj_mS m0_opposite 1 := ⟨⟨jj_in 49 (by decide +kernel) rfl, jj_in 481 (by decide +kernel) rfl, by decide +kernel, by decide⟩, jj_in 480 (by decide +kernel) rfl⟩
theorem tm6_goes : jj_mV m6_goes 3 := ⟨⟨jj_in 46 (by decide +kernel) rfl, jj_in 486 (by decide +kernel) rfl, by decide +kernel, by decide⟩, jj_in 484 (by decide +kernel) rfl, jj_in 485 (by decide +kernel) rfl⟩
theorem tm6_field : jj_mV m6_field 2 := ⟨⟨jj_in 46 (by decide +kernel) rfl, jj_in 493 (by decide +kernel) rfl, by decide +kernel, by decide⟩, jj_in 491 (by decide +kernel) rfl, jj_in 492 (by decide +kernel) rfl⟩
theorem tm5_sidesClosed : jj_mV m5_sidesClosed 1 := ⟨⟨jj_in 51 (by decide +kernel) rfl, jj_in 498 (by decide +kernel) rfl, by decide +kernel, by decide⟩, jj_in 496 (by decide +kernel) rfl, jj_in 497 (by decide +kernel) rfl⟩
theorem tm5_through : jj_mV m5_through 2 := ⟨⟨jj_in 51 (by decide +kernel) rfl, jj_in 502 (by decide +kernel) rfl, by decide +kernel, by decide⟩, jj_in 500 (by decide +kernel) rfl, jj_in 501 (by decide +kernel) rfl⟩
theorem tm6_taxOf : jj_mV m6_taxOf 1 := ⟨⟨jj_in 46 (by decide +kernel) rfl, jj_in 508 (by decide +kernel) rfl, by decide +kernel, by decide⟩, jj_in 507 (by decide +kernel) rfl, jj_in 12 (by decide +kernel) rfl⟩
theorem tm6_openOfKind : jj_mV m6_openOfKind 2 := ⟨⟨jj_in 46 (by decide +kernel) rfl, jj_in 512 (by decide +kernel) rfl, by decide +kernel, by decide⟩, jj_in 511 (by decide +kernel) rfl, jj_in 13 (by decide +kernel) rfl⟩
theorem tm1_allOfKind : jj_mV m1_allOfKind 1 := ⟨⟨jj_in 53 (by decide +kernel) rfl, jj_in 517 (by decide +kernel) rfl, by decide +kernel, by decide⟩, jj_in 515 (by decide +kernel) rfl, jj_in 516 (by decide +kernel) rfl⟩
theorem tmJ6_bitCount : jj_mS mJ6_bitCount 1 := ⟨⟨jj_in 59 (by decide +kernel) rfl, jj_in 520 (by decide +kernel) rfl, by decide +kernel, by decide⟩, jj_in 519 (by decide +kernel) rfl⟩
theorem tmJ9_max : jj_mS mJ9_max 2 := ⟨⟨jj_in 50 (by decide +kernel) rfl, jj_in 526 (by decide +kernel) rfl, by decide +kernel, by decide⟩, jj_in 525 (by decide +kernel) rfl⟩
theorem tm6_as : jj_mV m6_as 2 := ⟨⟨jj_in 46 (by decide +kernel) rfl, jj_in 530 (by decide +kernel) rfl, by decide +kernel, by decide⟩, jj_in 528 (by decide +kernel) rfl, jj_in 529 (by decide +kernel) rfl⟩
theorem tm6_isSuch : jj_mS m6_isSuch 2 := ⟨⟨jj_in 46 (by decide +kernel) rfl, jj_in 533 (by decide +kernel) rfl, by decide +kernel, by decide⟩, jj_in 532 (by decide +kernel) rfl⟩
theorem tm6_rotate : jj_mV m6_rotate 2 := ⟨⟨jj_in 46 (by decide +kernel) rfl, jj_in 537 (by decide +kernel) rfl, by decide +kernel, by decide⟩, jj_in 535 (by decide +kernel) rfl, jj_in 536 (by decide +kernel) rfl⟩
theorem tm1_turn : jj_mV m1_turn 2 := ⟨⟨jj_in 53 (by decide +kernel) rfl, jj_in 541 (by decide +kernel) rfl, by decide +kernel, by decide⟩, jj_in 539 (by decide +kernel) rfl, jj_in 540 (by decide +kernel) rfl⟩
theorem tm6_step : jj_mV m6_step 1 := ⟨⟨jj_in 46 (by decide +kernel) rfl, jj_in 547 (by decide +kernel) rfl, by decide +kernel, by decide⟩, jj_in 545 (by decide +kernel) rfl, jj_in 546 (by decide +kernel) rfl⟩
theorem tm1_place : jj_mV m1_place 0 := ⟨⟨jj_in 53 (by decide +kernel) rfl, jj_in 551 (by decide +kernel) rfl, by decide +kernel, by decide⟩, jj_in 549 (by decide +kernel) rfl, jj_in 550 (by decide +kernel) rfl⟩
theorem tm1_entry : jj_mV m1_entry 0 := ⟨⟨jj_in 53 (by decide +kernel) rfl, jj_in 555 (by decide +kernel) rfl, by decide +kernel, by decide⟩, jj_in 553 (by decide +kernel) rfl, jj_in 554 (by decide +kernel) rfl⟩
theorem tm1_steps : jj_mV m1_steps 0 := ⟨⟨jj_in 53 (by decide +kernel) rfl, jj_in 561 (by decide +kernel) rfl, by decide +kernel, by decide⟩, jj_in 559 (by decide +kernel) rfl, jj_in 560 (by decide +kernel) rfl⟩
theorem tm1_move : jj_mV m1_move 2 := ⟨⟨jj_in 53 (by decide +kernel) rfl, jj_in 565 (by decide +kernel) rfl, by decide +kernel, by decide⟩, jj_in 563 (by decide +kernel) rfl, jj_in 564 (by decide +kernel) rfl⟩
theorem tm6_walker : jj_mV m6_walker 1 := ⟨⟨jj_in 46 (by decide +kernel) rfl, jj_in 569 (by decide +kernel) rfl, by decide +kernel, by decide⟩, jj_in 567 (by decide +kernel) rfl, jj_in 568 (by decide +kernel) rfl⟩
theorem tm6_keep : jj_mV m6_keep 1 := ⟨⟨jj_in 46 (by decide +kernel) rfl, jj_in 573 (by decide +kernel) rfl, by decide +kernel, by decide⟩, jj_in 571 (by decide +kernel) rfl, jj_in 572 (by decide +kernel) rfl⟩
theorem tm6_keptAt : jj_mV m6_keptAt 1 := ⟨⟨jj_in 46 (by decide +kernel) rfl, jj_in 577 (by decide +kernel) rfl, by decide +kernel, by decide⟩, jj_in 576 (by decide +kernel) rfl, jj_in 14 (by decide +kernel) rfl⟩
theorem tm6_back : jj_mV m6_back 1 := ⟨⟨jj_in 46 (by decide +kernel) rfl, jj_in 581 (by decide +kernel) rfl, by decide +kernel, by decide⟩, jj_in 579 (by decide +kernel) rfl, jj_in 580 (by decide +kernel) rfl⟩
theorem tm1_isTaken : jj_mV m1_isTaken 0 := ⟨⟨jj_in 53 (by decide +kernel) rfl, jj_in 585 (by decide +kernel) rfl, by decide +kernel, by decide⟩, jj_in 583 (by decide +kernel) rfl, jj_in 584 (by decide +kernel) rfl⟩
theorem tm6_home : jj_mV m6_home 1 := ⟨⟨jj_in 46 (by decide +kernel) rfl, jj_in 589 (by decide +kernel) rfl, by decide +kernel, by decide⟩, jj_in 587 (by decide +kernel) rfl, jj_in 588 (by decide +kernel) rfl⟩
theorem tm6_alike : jj_mV m6_alike 0 := ⟨⟨jj_in 46 (by decide +kernel) rfl, jj_in 593 (by decide +kernel) rfl, by decide +kernel, by decide⟩, jj_in 591 (by decide +kernel) rfl, jj_in 592 (by decide +kernel) rfl⟩
theorem tm4_bringing : jj_mV m4_bringing 2 := ⟨⟨jj_in 48 (by decide +kernel) rfl, jj_in 597 (by decide +kernel) rfl, by decide +kernel, by decide⟩, jj_in 595 (by decide +kernel) rfl, jj_in 596 (by decide +kernel) rfl⟩
theorem tm4_brings : jj_mV m4_brings 3 := ⟨⟨jj_in 48 (by decide +kernel) rfl, jj_in 601 (by decide +kernel) rfl, by decide +kernel, by decide⟩, jj_in 600 (by decide +kernel) rfl, jj_in 15 (by decide +kernel) rfl⟩
theorem tm6_like : jj_mV m6_like 1 := ⟨⟨jj_in 46 (by decide +kernel) rfl, jj_in 606 (by decide +kernel) rfl, by decide +kernel, by decide⟩, jj_in 604 (by decide +kernel) rfl, jj_in 605 (by decide +kernel) rfl⟩
theorem tm6_fixed : jj_mV m6_fixed 3 := ⟨⟨jj_in 46 (by decide +kernel) rfl, jj_in 610 (by decide +kernel) rfl, by decide +kernel, by decide⟩, jj_in 608 (by decide +kernel) rfl, jj_in 609 (by decide +kernel) rfl⟩
theorem tm4_fixedWays : jj_mV m4_fixedWays 2 := ⟨⟨jj_in 48 (by decide +kernel) rfl, jj_in 616 (by decide +kernel) rfl, by decide +kernel, by decide⟩, jj_in 614 (by decide +kernel) rfl, jj_in 615 (by decide +kernel) rfl⟩
theorem tm4_ringOf : jj_mV m4_ringOf 2 := ⟨⟨jj_in 48 (by decide +kernel) rfl, jj_in 621 (by decide +kernel) rfl, by decide +kernel, by decide⟩, jj_in 620 (by decide +kernel) rfl, jj_in 16 (by decide +kernel) rfl⟩
theorem tm6_unlike : jj_mV m6_unlike 1 := ⟨⟨jj_in 46 (by decide +kernel) rfl, jj_in 625 (by decide +kernel) rfl, by decide +kernel, by decide⟩, jj_in 623 (by decide +kernel) rfl, jj_in 624 (by decide +kernel) rfl⟩
theorem tm4_unlikeWays : jj_mV m4_unlikeWays 1 := ⟨⟨jj_in 48 (by decide +kernel) rfl, jj_in 629 (by decide +kernel) rfl, by decide +kernel, by decide⟩, jj_in 627 (by decide +kernel) rfl, jj_in 628 (by decide +kernel) rfl⟩
theorem tm6_wardens : jj_mV m6_wardens 1 := ⟨⟨jj_in 46 (by decide +kernel) rfl, jj_in 635 (by decide +kernel) rfl, by decide +kernel, by decide⟩, jj_in 633 (by decide +kernel) rfl, jj_in 634 (by decide +kernel) rfl⟩
theorem tm5_wardenCount : jj_mV m5_wardenCount 0 := ⟨⟨jj_in 51 (by decide +kernel) rfl, jj_in 639 (by decide +kernel) rfl, by decide +kernel, by decide⟩, jj_in 637 (by decide +kernel) rfl, jj_in 638 (by decide +kernel) rfl⟩
theorem tm5_findWardens : jj_mV m5_findWardens 0 := ⟨⟨jj_in 51 (by decide +kernel) rfl, jj_in 643 (by decide +kernel) rfl, by decide +kernel, by decide⟩, jj_in 642 (by decide +kernel) rfl, jj_in 17 (by decide +kernel) rfl⟩
theorem tm5_wardsAll : jj_mV m5_wardsAll 1 := ⟨⟨jj_in 51 (by decide +kernel) rfl, jj_in 648 (by decide +kernel) rfl, by decide +kernel, by decide⟩, jj_in 647 (by decide +kernel) rfl, jj_in 18 (by decide +kernel) rfl⟩
theorem tm5_wardenSet : jj_mV m5_wardenSet 0 := ⟨⟨jj_in 51 (by decide +kernel) rfl, jj_in 652 (by decide +kernel) rfl, by decide +kernel, by decide⟩, jj_in 650 (by decide +kernel) rfl, jj_in 651 (by decide +kernel) rfl⟩
theorem tm5_wardenSets : jj_mV m5_wardenSets 0 := ⟨⟨jj_in 51 (by decide +kernel) rfl, jj_in 656 (by decide +kernel) rfl, by decide +kernel, by decide⟩, jj_in 654 (by decide +kernel) rfl, jj_in 655 (by decide +kernel) rfl⟩
theorem tm6_inside : jj_mV m6_inside 1 := ⟨⟨jj_in 46 (by decide +kernel) rfl, jj_in 660 (by decide +kernel) rfl, by decide +kernel, by decide⟩, jj_in 658 (by decide +kernel) rfl, jj_in 659 (by decide +kernel) rfl⟩
theorem tm5_insideOf : jj_mV m5_insideOf 1 := ⟨⟨jj_in 51 (by decide +kernel) rfl, jj_in 664 (by decide +kernel) rfl, by decide +kernel, by decide⟩, jj_in 662 (by decide +kernel) rfl, jj_in 663 (by decide +kernel) rfl⟩
theorem tm5_openToAny : jj_mV m5_openToAny 1 := ⟨⟨jj_in 51 (by decide +kernel) rfl, jj_in 668 (by decide +kernel) rfl, by decide +kernel, by decide⟩, jj_in 667 (by decide +kernel) rfl, jj_in 19 (by decide +kernel) rfl⟩
theorem tm6_rounds : jj_mV m6_rounds 1 := ⟨⟨jj_in 46 (by decide +kernel) rfl, jj_in 672 (by decide +kernel) rfl, by decide +kernel, by decide⟩, jj_in 670 (by decide +kernel) rfl, jj_in 671 (by decide +kernel) rfl⟩
theorem tm5_roundCount : jj_mV m5_roundCount 0 := ⟨⟨jj_in 51 (by decide +kernel) rfl, jj_in 676 (by decide +kernel) rfl, by decide +kernel, by decide⟩, jj_in 674 (by decide +kernel) rfl, jj_in 675 (by decide +kernel) rfl⟩
theorem tm5_findRounds : jj_mV m5_findRounds 0 := ⟨⟨jj_in 51 (by decide +kernel) rfl, jj_in 680 (by decide +kernel) rfl, by decide +kernel, by decide⟩, jj_in 679 (by decide +kernel) rfl, jj_in 20 (by decide +kernel) rfl⟩
theorem tm5_goRound : jj_mS m5_goRound 4 := ⟨⟨jj_in 51 (by decide +kernel) rfl, jj_in 683 (by decide +kernel) rfl, by decide +kernel, by decide⟩, jj_in 682 (by decide +kernel) rfl⟩
theorem tm5_endRound : jj_mV m5_endRound 1 := ⟨⟨jj_in 51 (by decide +kernel) rfl, jj_in 687 (by decide +kernel) rfl, by decide +kernel, by decide⟩, jj_in 686 (by decide +kernel) rfl, jj_in 21 (by decide +kernel) rfl⟩
theorem tm5_inFirstRound : jj_mV m5_inFirstRound 1 := ⟨⟨jj_in 51 (by decide +kernel) rfl, jj_in 691 (by decide +kernel) rfl, by decide +kernel, by decide⟩, jj_in 689 (by decide +kernel) rfl, jj_in 690 (by decide +kernel) rfl⟩
theorem tm6_walks : jj_mV m6_walks 3 := ⟨⟨jj_in 46 (by decide +kernel) rfl, jj_in 695 (by decide +kernel) rfl, by decide +kernel, by decide⟩, jj_in 693 (by decide +kernel) rfl, jj_in 694 (by decide +kernel) rfl⟩
theorem tm2_walkCount : jj_mV m2_walkCount 4 := ⟨⟨jj_in 52 (by decide +kernel) rfl, jj_in 699 (by decide +kernel) rfl, by decide +kernel, by decide⟩, jj_in 697 (by decide +kernel) rfl, jj_in 698 (by decide +kernel) rfl⟩
theorem tm2_setOut : jj_mV m2_setOut 1 := ⟨⟨jj_in 52 (by decide +kernel) rfl, jj_in 703 (by decide +kernel) rfl, by decide +kernel, by decide⟩, jj_in 702 (by decide +kernel) rfl, jj_in 22 (by decide +kernel) rfl⟩
theorem tm2_giveAll : jj_mV m2_giveAll 2 := ⟨⟨jj_in 52 (by decide +kernel) rfl, jj_in 708 (by decide +kernel) rfl, by decide +kernel, by decide⟩, jj_in 707 (by decide +kernel) rfl, jj_in 23 (by decide +kernel) rfl⟩
theorem tm2_arrive : jj_mV m2_arrive 0 := ⟨⟨jj_in 52 (by decide +kernel) rfl, jj_in 713 (by decide +kernel) rfl, by decide +kernel, by decide⟩, jj_in 712 (by decide +kernel) rfl, jj_in 24 (by decide +kernel) rfl⟩
theorem tm2_hereAt : jj_mV m2_hereAt 1 := ⟨⟨jj_in 52 (by decide +kernel) rfl, jj_in 717 (by decide +kernel) rfl, by decide +kernel, by decide⟩, jj_in 716 (by decide +kernel) rfl, jj_in 25 (by decide +kernel) rfl⟩
theorem tm6_odds : jj_mV m6_odds 4 := ⟨⟨jj_in 46 (by decide +kernel) rfl, jj_in 721 (by decide +kernel) rfl, by decide +kernel, by decide⟩, jj_in 719 (by decide +kernel) rfl, jj_in 720 (by decide +kernel) rfl⟩
theorem tm2_oddsPart : jj_mV m2_oddsPart 5 := ⟨⟨jj_in 52 (by decide +kernel) rfl, jj_in 725 (by decide +kernel) rfl, by decide +kernel, by decide⟩, jj_in 723 (by decide +kernel) rfl, jj_in 724 (by decide +kernel) rfl⟩
theorem tm2_sharesOf : jj_mS m2_sharesOf 1 := ⟨⟨jj_in 52 (by decide +kernel) rfl, jj_in 729 (by decide +kernel) rfl, by decide +kernel, by decide⟩, jj_in 728 (by decide +kernel) rfl⟩
theorem tm2_commonDivisor : jj_mS m2_commonDivisor 2 := ⟨⟨jj_in 52 (by decide +kernel) rfl, jj_in 733 (by decide +kernel) rfl, by decide +kernel, by decide⟩, jj_in 732 (by decide +kernel) rfl⟩
theorem tm6_count : jj_mV m6_count 1 := ⟨⟨jj_in 46 (by decide +kernel) rfl, jj_in 737 (by decide +kernel) rfl, by decide +kernel, by decide⟩, jj_in 735 (by decide +kernel) rfl, jj_in 736 (by decide +kernel) rfl⟩
theorem tm5_wallCount : jj_mV m5_wallCount 0 := ⟨⟨jj_in 51 (by decide +kernel) rfl, jj_in 741 (by decide +kernel) rfl, by decide +kernel, by decide⟩, jj_in 739 (by decide +kernel) rfl, jj_in 740 (by decide +kernel) rfl⟩
theorem tm6_taxOfAll : jj_mV m6_taxOfAll 0 := ⟨⟨jj_in 46 (by decide +kernel) rfl, jj_in 746 (by decide +kernel) rfl, by decide +kernel, by decide⟩, jj_in 745 (by decide +kernel) rfl, jj_in 26 (by decide +kernel) rfl⟩
theorem tm5_insideCount : jj_mV m5_insideCount 0 := ⟨⟨jj_in 51 (by decide +kernel) rfl, jj_in 750 (by decide +kernel) rfl, by decide +kernel, by decide⟩, jj_in 748 (by decide +kernel) rfl, jj_in 749 (by decide +kernel) rfl⟩
theorem tm3_length : jj_mV m3_length 0 := ⟨⟨jj_in 47 (by decide +kernel) rfl, jj_in 755 (by decide +kernel) rfl, by decide +kernel, by decide⟩, jj_in 753 (by decide +kernel) rfl, jj_in 754 (by decide +kernel) rfl⟩
theorem tm7_init : jj_mI m7_init 0 := ⟨⟨jj_in 54 (by decide +kernel) rfl, jj_in 760 (by decide +kernel) rfl, by decide +kernel, by decide⟩, jj_in 759 (by decide +kernel) rfl, rfl, rfl⟩
theorem tm7_lay : jj_mV m7_lay 2 := ⟨⟨jj_in 54 (by decide +kernel) rfl, jj_in 766 (by decide +kernel) rfl, by decide +kernel, by decide⟩, jj_in 765 (by decide +kernel) rfl, jj_in 27 (by decide +kernel) rfl⟩
theorem tm7_write : jj_mV m7_write 2 := ⟨⟨jj_in 54 (by decide +kernel) rfl, jj_in 859 (by decide +kernel) rfl, by decide +kernel, by decide⟩, jj_in 857 (by decide +kernel) rfl, jj_in 858 (by decide +kernel) rfl⟩
theorem tm7_in : jj_mS m7_in 3 := ⟨⟨jj_in 54 (by decide +kernel) rfl, jj_in 862 (by decide +kernel) rfl, by decide +kernel, by decide⟩, jj_in 861 (by decide +kernel) rfl⟩
theorem tm7_erase : jj_mV m7_erase 0 := ⟨⟨jj_in 54 (by decide +kernel) rfl, jj_in 867 (by decide +kernel) rfl, by decide +kernel, by decide⟩, jj_in 865 (by decide +kernel) rfl, jj_in 866 (by decide +kernel) rfl⟩
theorem tm7_fault : jj_mV m7_fault 0 := ⟨⟨jj_in 54 (by decide +kernel) rfl, jj_in 871 (by decide +kernel) rfl, by decide +kernel, by decide⟩, jj_in 869 (by decide +kernel) rfl, jj_in 870 (by decide +kernel) rfl⟩
theorem tm7_isRead : jj_mV m7_isRead 0 := ⟨⟨jj_in 54 (by decide +kernel) rfl, jj_in 875 (by decide +kernel) rfl, by decide +kernel, by decide⟩, jj_in 874 (by decide +kernel) rfl, jj_in 28 (by decide +kernel) rfl⟩
theorem tm7_isLine : jj_mV m7_isLine 1 := ⟨⟨jj_in 54 (by decide +kernel) rfl, jj_in 879 (by decide +kernel) rfl, by decide +kernel, by decide⟩, jj_in 878 (by decide +kernel) rfl, jj_in 29 (by decide +kernel) rfl⟩
theorem tm7_nextToken : jj_mV m7_nextToken 0 := ⟨⟨jj_in 54 (by decide +kernel) rfl, jj_in 883 (by decide +kernel) rfl, by decide +kernel, by decide⟩, jj_in 882 (by decide +kernel) rfl, jj_in 30 (by decide +kernel) rfl⟩
theorem tm7_isNumber : jj_mV m7_isNumber 2 := ⟨⟨jj_in 54 (by decide +kernel) rfl, jj_in 901 (by decide +kernel) rfl, by decide +kernel, by decide⟩, jj_in 900 (by decide +kernel) rfl, jj_in 31 (by decide +kernel) rfl⟩
theorem tm7_fails : jj_mV m7_fails 0 := ⟨⟨jj_in 54 (by decide +kernel) rfl, jj_in 905 (by decide +kernel) rfl, by decide +kernel, by decide⟩, jj_in 904 (by decide +kernel) rfl, jj_in 32 (by decide +kernel) rfl⟩
theorem tm7_arePair : jj_mV m7_arePair 1 := ⟨⟨jj_in 54 (by decide +kernel) rfl, jj_in 909 (by decide +kernel) rfl, by decide +kernel, by decide⟩, jj_in 908 (by decide +kernel) rfl, jj_in 33 (by decide +kernel) rfl⟩
theorem tm7_sideOf : jj_mV m7_sideOf 2 := ⟨⟨jj_in 54 (by decide +kernel) rfl, jj_in 913 (by decide +kernel) rfl, by decide +kernel, by decide⟩, jj_in 912 (by decide +kernel) rfl, jj_in 34 (by decide +kernel) rfl⟩
theorem tm7_town : jj_mV m7_town 0 := ⟨⟨jj_in 54 (by decide +kernel) rfl, jj_in 917 (by decide +kernel) rfl, by decide +kernel, by decide⟩, jj_in 915 (by decide +kernel) rfl, jj_in 916 (by decide +kernel) rfl⟩
theorem tm7_doLine : jj_mV m7_doLine 1 := ⟨⟨jj_in 54 (by decide +kernel) rfl, jj_in 921 (by decide +kernel) rfl, by decide +kernel, by decide⟩, jj_in 920 (by decide +kernel) rfl, jj_in 35 (by decide +kernel) rfl⟩
theorem tm7_beside : jj_mV m7_beside 2 := ⟨⟨jj_in 54 (by decide +kernel) rfl, jj_in 925 (by decide +kernel) rfl, by decide +kernel, by decide⟩, jj_in 923 (by decide +kernel) rfl, jj_in 924 (by decide +kernel) rfl⟩
theorem tm7_isField : jj_mS m7_isField 1 := ⟨⟨jj_in 54 (by decide +kernel) rfl, jj_in 928 (by decide +kernel) rfl, by decide +kernel, by decide⟩, jj_in 927 (by decide +kernel) rfl⟩
theorem tm7_isSide : jj_mS m7_isSide 1 := ⟨⟨jj_in 54 (by decide +kernel) rfl, jj_in 931 (by decide +kernel) rfl, by decide +kernel, by decide⟩, jj_in 930 (by decide +kernel) rfl⟩
theorem tm7_side : jj_mV m7_side 2 := ⟨⟨jj_in 54 (by decide +kernel) rfl, jj_in 935 (by decide +kernel) rfl, by decide +kernel, by decide⟩, jj_in 933 (by decide +kernel) rfl, jj_in 934 (by decide +kernel) rfl⟩
theorem tm7_far : jj_mV m7_far 2 := ⟨⟨jj_in 54 (by decide +kernel) rfl, jj_in 939 (by decide +kernel) rfl, by decide +kernel, by decide⟩, jj_in 937 (by decide +kernel) rfl, jj_in 938 (by decide +kernel) rfl⟩
theorem tm7_farOf : jj_mV m7_farOf 2 := ⟨⟨jj_in 54 (by decide +kernel) rfl, jj_in 943 (by decide +kernel) rfl, by decide +kernel, by decide⟩, jj_in 942 (by decide +kernel) rfl, jj_in 36 (by decide +kernel) rfl⟩
theorem tm7_has : jj_mS m7_has 2 := ⟨⟨jj_in 54 (by decide +kernel) rfl, jj_in 946 (by decide +kernel) rfl, by decide +kernel, by decide⟩, jj_in 945 (by decide +kernel) rfl⟩
theorem tm7_other : jj_mV m7_other 1 := ⟨⟨jj_in 54 (by decide +kernel) rfl, jj_in 950 (by decide +kernel) rfl, by decide +kernel, by decide⟩, jj_in 948 (by decide +kernel) rfl, jj_in 949 (by decide +kernel) rfl⟩
theorem tm7_goes : jj_mV m7_goes 3 := ⟨⟨jj_in 54 (by decide +kernel) rfl, jj_in 954 (by decide +kernel) rfl, by decide +kernel, by decide⟩, jj_in 952 (by decide +kernel) rfl, jj_in 953 (by decide +kernel) rfl⟩
theorem tm7_layTurning : jj_mV m7_layTurning 2 := ⟨⟨jj_in 54 (by decide +kernel) rfl, jj_in 958 (by decide +kernel) rfl, by decide +kernel, by decide⟩, jj_in 957 (by decide +kernel) rfl, jj_in 37 (by decide +kernel) rfl⟩
theorem tm7_field : jj_mV m7_field 2 := ⟨⟨jj_in 54 (by decide +kernel) rfl, jj_in 962 (by decide +kernel) rfl, by decide +kernel, by decide⟩, jj_in 960 (by decide +kernel) rfl, jj_in 961 (by decide +kernel) rfl⟩
theorem tm7_taxOf : jj_mV m7_taxOf 1 := ⟨⟨jj_in 54 (by decide +kernel) rfl, jj_in 966 (by decide +kernel) rfl, by decide +kernel, by decide⟩, jj_in 965 (by decide +kernel) rfl, jj_in 38 (by decide +kernel) rfl⟩
theorem tm7_openOfKind : jj_mV m7_openOfKind 2 := ⟨⟨jj_in 54 (by decide +kernel) rfl, jj_in 970 (by decide +kernel) rfl, by decide +kernel, by decide⟩, jj_in 969 (by decide +kernel) rfl, jj_in 39 (by decide +kernel) rfl⟩
theorem tm7_openOf : jj_mV m7_openOf 1 := ⟨⟨jj_in 54 (by decide +kernel) rfl, jj_in 974 (by decide +kernel) rfl, by decide +kernel, by decide⟩, jj_in 973 (by decide +kernel) rfl, jj_in 40 (by decide +kernel) rfl⟩
theorem tm7_as : jj_mV m7_as 2 := ⟨⟨jj_in 54 (by decide +kernel) rfl, jj_in 978 (by decide +kernel) rfl, by decide +kernel, by decide⟩, jj_in 976 (by decide +kernel) rfl, jj_in 977 (by decide +kernel) rfl⟩
theorem tm7_rotate : jj_mV m7_rotate 2 := ⟨⟨jj_in 54 (by decide +kernel) rfl, jj_in 982 (by decide +kernel) rfl, by decide +kernel, by decide⟩, jj_in 980 (by decide +kernel) rfl, jj_in 981 (by decide +kernel) rfl⟩
theorem tm7_step : jj_mV m7_step 1 := ⟨⟨jj_in 54 (by decide +kernel) rfl, jj_in 986 (by decide +kernel) rfl, by decide +kernel, by decide⟩, jj_in 984 (by decide +kernel) rfl, jj_in 985 (by decide +kernel) rfl⟩
theorem tm7_walker : jj_mV m7_walker 1 := ⟨⟨jj_in 54 (by decide +kernel) rfl, jj_in 990 (by decide +kernel) rfl, by decide +kernel, by decide⟩, jj_in 988 (by decide +kernel) rfl, jj_in 989 (by decide +kernel) rfl⟩
theorem tm7_keep : jj_mV m7_keep 1 := ⟨⟨jj_in 54 (by decide +kernel) rfl, jj_in 994 (by decide +kernel) rfl, by decide +kernel, by decide⟩, jj_in 992 (by decide +kernel) rfl, jj_in 993 (by decide +kernel) rfl⟩
theorem tm7_back : jj_mV m7_back 1 := ⟨⟨jj_in 54 (by decide +kernel) rfl, jj_in 998 (by decide +kernel) rfl, by decide +kernel, by decide⟩, jj_in 996 (by decide +kernel) rfl, jj_in 997 (by decide +kernel) rfl⟩
theorem tm7_home : jj_mV m7_home 1 := ⟨⟨jj_in 54 (by decide +kernel) rfl, jj_in 1002 (by decide +kernel) rfl, by decide +kernel, by decide⟩, jj_in 1000 (by decide +kernel) rfl, jj_in 1001 (by decide +kernel) rfl⟩
theorem tm7_alike : jj_mV m7_alike 0 := ⟨⟨jj_in 54 (by decide +kernel) rfl, jj_in 1006 (by decide +kernel) rfl, by decide +kernel, by decide⟩, jj_in 1004 (by decide +kernel) rfl, jj_in 1005 (by decide +kernel) rfl⟩
theorem tm7_like : jj_mV m7_like 1 := ⟨⟨jj_in 54 (by decide +kernel) rfl, jj_in 1010 (by decide +kernel) rfl, by decide +kernel, by decide⟩, jj_in 1008 (by decide +kernel) rfl, jj_in 1009 (by decide +kernel) rfl⟩
theorem tm7_fixed : jj_mV m7_fixed 3 := ⟨⟨jj_in 54 (by decide +kernel) rfl, jj_in 1014 (by decide +kernel) rfl, by decide +kernel, by decide⟩, jj_in 1012 (by decide +kernel) rfl, jj_in 1013 (by decide +kernel) rfl⟩
theorem tm7_fixedOf : jj_mV m7_fixedOf 3 := ⟨⟨jj_in 54 (by decide +kernel) rfl, jj_in 1018 (by decide +kernel) rfl, by decide +kernel, by decide⟩, jj_in 1017 (by decide +kernel) rfl, jj_in 41 (by decide +kernel) rfl⟩
theorem tm7_unlike : jj_mV m7_unlike 1 := ⟨⟨jj_in 54 (by decide +kernel) rfl, jj_in 1022 (by decide +kernel) rfl, by decide +kernel, by decide⟩, jj_in 1020 (by decide +kernel) rfl, jj_in 1021 (by decide +kernel) rfl⟩
theorem tm7_wardens : jj_mV m7_wardens 1 := ⟨⟨jj_in 54 (by decide +kernel) rfl, jj_in 1027 (by decide +kernel) rfl, by decide +kernel, by decide⟩, jj_in 1025 (by decide +kernel) rfl, jj_in 1026 (by decide +kernel) rfl⟩
theorem tm7_bits : jj_mS m7_bits 1 := ⟨⟨jj_in 54 (by decide +kernel) rfl, jj_in 1030 (by decide +kernel) rfl, by decide +kernel, by decide⟩, jj_in 1029 (by decide +kernel) rfl⟩
theorem tm7_inside : jj_mV m7_inside 1 := ⟨⟨jj_in 54 (by decide +kernel) rfl, jj_in 1034 (by decide +kernel) rfl, by decide +kernel, by decide⟩, jj_in 1032 (by decide +kernel) rfl, jj_in 1033 (by decide +kernel) rfl⟩
theorem tm7_insideOf : jj_mV m7_insideOf 1 := ⟨⟨jj_in 54 (by decide +kernel) rfl, jj_in 1038 (by decide +kernel) rfl, by decide +kernel, by decide⟩, jj_in 1037 (by decide +kernel) rfl, jj_in 42 (by decide +kernel) rfl⟩
theorem tm7_rounds : jj_mV m7_rounds 1 := ⟨⟨jj_in 54 (by decide +kernel) rfl, jj_in 1042 (by decide +kernel) rfl, by decide +kernel, by decide⟩, jj_in 1040 (by decide +kernel) rfl, jj_in 1041 (by decide +kernel) rfl⟩
theorem tm7_layRounds : jj_mV m7_layRounds 0 := ⟨⟨jj_in 54 (by decide +kernel) rfl, jj_in 1046 (by decide +kernel) rfl, by decide +kernel, by decide⟩, jj_in 1045 (by decide +kernel) rfl, jj_in 43 (by decide +kernel) rfl⟩
theorem tm7_walks : jj_mV m7_walks 3 := ⟨⟨jj_in 54 (by decide +kernel) rfl, jj_in 1050 (by decide +kernel) rfl, by decide +kernel, by decide⟩, jj_in 1048 (by decide +kernel) rfl, jj_in 1049 (by decide +kernel) rfl⟩
theorem tm7_spread : jj_mV m7_spread 3 := ⟨⟨jj_in 54 (by decide +kernel) rfl, jj_in 1054 (by decide +kernel) rfl, by decide +kernel, by decide⟩, jj_in 1053 (by decide +kernel) rfl, jj_in 44 (by decide +kernel) rfl⟩
theorem tm7_odds : jj_mV m7_odds 4 := ⟨⟨jj_in 54 (by decide +kernel) rfl, jj_in 1058 (by decide +kernel) rfl, by decide +kernel, by decide⟩, jj_in 1056 (by decide +kernel) rfl, jj_in 1057 (by decide +kernel) rfl⟩
theorem tm7_count : jj_mV m7_count 1 := ⟨⟨jj_in 54 (by decide +kernel) rfl, jj_in 1062 (by decide +kernel) rfl, by decide +kernel, by decide⟩, jj_in 1060 (by decide +kernel) rfl, jj_in 1061 (by decide +kernel) rfl⟩
theorem jj_cl0 : jj_cl 0 RX1 TX1 6 tyX1 := ⟨rfl, by decide +kernel, tyX1_ok, nmX1⟩
theorem jj_cl1 : jj_cl 1 RX2 TX2 2 tyX2 := ⟨rfl, by decide +kernel, tyX2_ok, nmX2⟩
theorem jj_cl2 : jj_cl 2 RX3 TX3 8 tyX3 := ⟨rfl, by decide +kernel, tyX3_ok, nmX3⟩
theorem jj_cl3 : jj_cl 3 RX4 TX4 2 tyX4 := ⟨rfl, by decide +kernel, tyX4_ok, nmX4⟩
theorem jj_cl4 : jj_cl 4 RX5 TX5 9 tyX5 := ⟨rfl, by decide +kernel, tyX5_ok, nmX5⟩
theorem jj_cl5 : jj_cl 5 RX6 TX6 8 tyX6 := ⟨rfl, by decide +kernel, tyX6_ok, nmX6⟩
theorem jj_cl6 : jj_cl 6 RX7 TX7 27 tyX7 := ⟨rfl, by decide +kernel, tyX7_ok, nmX7⟩
theorem fl3_11 : jj_fl RX3 11 2 0 := ⟨_, _, _, jj_cl2.1, by decide, jj_in 74 (by decide +kernel) rfl, jj_cl2.2.1⟩
theorem fw3_11 : jj_fw RX3 "<init>" 11 2 0 (.array .int) := ⟨_, _, _, _, jj_cl2, by decide, jj_in 74 (by decide +kernel) rfl, rfl, Or.inr ⟨rfl, rfl, rfl⟩⟩
theorem fl3_24 : jj_fl RX3 24 2 1 := ⟨_, _, _, jj_cl2.1, by decide, jj_in 75 (by decide +kernel) rfl, jj_cl2.2.1⟩
theorem fw3_24 (nm : String) : jj_fw RX3 nm 24 2 1 (.int) := ⟨_, _, _, _, jj_cl2, by decide, jj_in 75 (by decide +kernel) rfl, rfl, Or.inl rfl⟩
theorem fl3_44 : jj_fl RX3 44 2 2 := ⟨_, _, _, jj_cl2.1, by decide, jj_in 76 (by decide +kernel) rfl, jj_cl2.2.1⟩
theorem fw3_44 (nm : String) : jj_fw RX3 nm 44 2 2 (.int) := ⟨_, _, _, _, jj_cl2, by decide, jj_in 76 (by decide +kernel) rfl, rfl, Or.inl rfl⟩
theorem fl3_37 : jj_fl RX3 37 2 3 := ⟨_, _, _, jj_cl2.1, by decide, jj_in 77 (by decide +kernel) rfl, jj_cl2.2.1⟩
theorem fw3_37 (nm : String) : jj_fw RX3 nm 37 2 3 (.int) := ⟨_, _, _, _, jj_cl2, by decide, jj_in 77 (by decide +kernel) rfl, rfl, Or.inl rfl⟩
theorem fl3_15 : jj_fl RX3 15 2 4 := ⟨_, _, _, jj_cl2.1, by decide, jj_in 78 (by decide +kernel) rfl, jj_cl2.2.1⟩
theorem fw3_15 : jj_fw RX3 "<init>" 15 2 4 (.array .int) := ⟨_, _, _, _, jj_cl2, by decide, jj_in 78 (by decide +kernel) rfl, rfl, Or.inr ⟨rfl, rfl, rfl⟩⟩
theorem fl3_18 : jj_fl RX3 18 2 5 := ⟨_, _, _, jj_cl2.1, by decide, jj_in 79 (by decide +kernel) rfl, jj_cl2.2.1⟩
theorem fw3_18 : jj_fw RX3 "<init>" 18 2 5 (.array .int) := ⟨_, _, _, _, jj_cl2, by decide, jj_in 79 (by decide +kernel) rfl, rfl, Or.inr ⟨rfl, rfl, rfl⟩⟩
theorem fl3_21 : jj_fl RX3 21 2 6 := ⟨_, _, _, jj_cl2.1, by decide, jj_in 80 (by decide +kernel) rfl, jj_cl2.2.1⟩
theorem fw3_21 : jj_fw RX3 "<init>" 21 2 6 (.array .int) := ⟨_, _, _, _, jj_cl2, by decide, jj_in 80 (by decide +kernel) rfl, rfl, Or.inr ⟨rfl, rfl, rfl⟩⟩
theorem fl3_30 : jj_fl RX3 30 2 7 := ⟨_, _, _, jj_cl2.1, by decide, jj_in 81 (by decide +kernel) rfl, jj_cl2.2.1⟩
theorem fw3_30 (nm : String) : jj_fw RX3 nm 30 2 7 (.int) := ⟨_, _, _, _, jj_cl2, by decide, jj_in 81 (by decide +kernel) rfl, rfl, Or.inl rfl⟩
theorem fl4_9 : jj_fl RX4 9 3 0 := ⟨_, _, _, jj_cl3.1, by decide, jj_in 146 (by decide +kernel) rfl, jj_cl3.2.1⟩
theorem fw4_9 : jj_fw RX4 "<init>" 9 3 0 (.array .int) := ⟨_, _, _, _, jj_cl3, by decide, jj_in 146 (by decide +kernel) rfl, rfl, Or.inr ⟨rfl, rfl, rfl⟩⟩
theorem fl4_15 : jj_fl RX4 15 3 1 := ⟨_, _, _, jj_cl3.1, by decide, jj_in 147 (by decide +kernel) rfl, jj_cl3.2.1⟩
theorem fw4_15 : jj_fw RX4 "<init>" 15 3 1 (.array .int) := ⟨_, _, _, _, jj_cl3, by decide, jj_in 147 (by decide +kernel) rfl, rfl, Or.inr ⟨rfl, rfl, rfl⟩⟩
theorem fl5_9 : jj_fl RX5 9 4 0 := ⟨_, _, _, jj_cl4.1, by decide, jj_in 170 (by decide +kernel) rfl, jj_cl4.2.1⟩
theorem fw5_9 : jj_fw RX5 "<init>" 9 4 0 (.array .int) := ⟨_, _, _, _, jj_cl4, by decide, jj_in 170 (by decide +kernel) rfl, rfl, Or.inr ⟨rfl, rfl, rfl⟩⟩
theorem fl5_15 : jj_fl RX5 15 4 1 := ⟨_, _, _, jj_cl4.1, by decide, jj_in 171 (by decide +kernel) rfl, jj_cl4.2.1⟩
theorem fw5_15 : jj_fw RX5 "<init>" 15 4 1 (.array .int) := ⟨_, _, _, _, jj_cl4, by decide, jj_in 171 (by decide +kernel) rfl, rfl, Or.inr ⟨rfl, rfl, rfl⟩⟩
theorem fl5_18 : jj_fl RX5 18 4 2 := ⟨_, _, _, jj_cl4.1, by decide, jj_in 172 (by decide +kernel) rfl, jj_cl4.2.1⟩
theorem fw5_18 : jj_fw RX5 "<init>" 18 4 2 (.array .int) := ⟨_, _, _, _, jj_cl4, by decide, jj_in 172 (by decide +kernel) rfl, rfl, Or.inr ⟨rfl, rfl, rfl⟩⟩
theorem fl5_95 : jj_fl RX5 95 4 3 := ⟨_, _, _, jj_cl4.1, by decide, jj_in 173 (by decide +kernel) rfl, jj_cl4.2.1⟩
theorem fw5_95 (nm : String) : jj_fw RX5 nm 95 4 3 (.int) := ⟨_, _, _, _, jj_cl4, by decide, jj_in 173 (by decide +kernel) rfl, rfl, Or.inl rfl⟩
theorem fl5_78 : jj_fl RX5 78 4 4 := ⟨_, _, _, jj_cl4.1, by decide, jj_in 174 (by decide +kernel) rfl, jj_cl4.2.1⟩
theorem fw5_78 (nm : String) : jj_fw RX5 nm 78 4 4 (.int) := ⟨_, _, _, _, jj_cl4, by decide, jj_in 174 (by decide +kernel) rfl, rfl, Or.inl rfl⟩
theorem fl5_82 : jj_fl RX5 82 4 5 := ⟨_, _, _, jj_cl4.1, by decide, jj_in 175 (by decide +kernel) rfl, jj_cl4.2.1⟩
theorem fw5_82 (nm : String) : jj_fw RX5 nm 82 4 5 (.int) := ⟨_, _, _, _, jj_cl4, by decide, jj_in 175 (by decide +kernel) rfl, rfl, Or.inl rfl⟩
theorem fl5_85 : jj_fl RX5 85 4 6 := ⟨_, _, _, jj_cl4.1, by decide, jj_in 176 (by decide +kernel) rfl, jj_cl4.2.1⟩
theorem fw5_85 (nm : String) : jj_fw RX5 nm 85 4 6 (.int) := ⟨_, _, _, _, jj_cl4, by decide, jj_in 176 (by decide +kernel) rfl, rfl, Or.inl rfl⟩
theorem fl5_33 : jj_fl RX5 33 4 7 := ⟨_, _, _, jj_cl4.1, by decide, jj_in 177 (by decide +kernel) rfl, jj_cl4.2.1⟩
theorem fw5_33 (nm : String) : jj_fw RX5 nm 33 4 7 (.boolean) := ⟨_, _, _, _, jj_cl4, by decide, jj_in 177 (by decide +kernel) rfl, rfl, Or.inl rfl⟩
theorem fl5_37 : jj_fl RX5 37 4 8 := ⟨_, _, _, jj_cl4.1, by decide, jj_in 178 (by decide +kernel) rfl, jj_cl4.2.1⟩
theorem fw5_37 (nm : String) : jj_fw RX5 nm 37 4 8 (.boolean) := ⟨_, _, _, _, jj_cl4, by decide, jj_in 178 (by decide +kernel) rfl, rfl, Or.inl rfl⟩
theorem fl2_9 : jj_fl RX2 9 1 0 := ⟨_, _, _, jj_cl1.1, by decide, jj_in 204 (by decide +kernel) rfl, jj_cl1.2.1⟩
theorem fw2_9 : jj_fw RX2 "<init>" 9 1 0 (.array .long) := ⟨_, _, _, _, jj_cl1, by decide, jj_in 204 (by decide +kernel) rfl, rfl, Or.inr ⟨rfl, rfl, rfl⟩⟩
theorem fl2_15 : jj_fl RX2 15 1 1 := ⟨_, _, _, jj_cl1.1, by decide, jj_in 205 (by decide +kernel) rfl, jj_cl1.2.1⟩
theorem fw2_15 : jj_fw RX2 "<init>" 15 1 1 (.array .long) := ⟨_, _, _, _, jj_cl1, by decide, jj_in 205 (by decide +kernel) rfl, rfl, Or.inr ⟨rfl, rfl, rfl⟩⟩
theorem fl1_9 : jj_fl RX1 9 0 0 := ⟨_, _, _, jj_cl0.1, by decide, jj_in 218 (by decide +kernel) rfl, jj_cl0.2.1⟩
theorem fw1_9 : jj_fw RX1 "<init>" 9 0 0 (.array .int) := ⟨_, _, _, _, jj_cl0, by decide, jj_in 218 (by decide +kernel) rfl, rfl, Or.inr ⟨rfl, rfl, rfl⟩⟩
theorem fl1_15 : jj_fl RX1 15 0 1 := ⟨_, _, _, jj_cl0.1, by decide, jj_in 219 (by decide +kernel) rfl, jj_cl0.2.1⟩
theorem fw1_15 : jj_fw RX1 "<init>" 15 0 1 (.array .int) := ⟨_, _, _, _, jj_cl0, by decide, jj_in 219 (by decide +kernel) rfl, rfl, Or.inr ⟨rfl, rfl, rfl⟩⟩
theorem fl1_26 : jj_fl RX1 26 0 2 := ⟨_, _, _, jj_cl0.1, by decide, jj_in 220 (by decide +kernel) rfl, jj_cl0.2.1⟩
theorem fw1_26 (nm : String) : jj_fw RX1 nm 26 0 2 (.int) := ⟨_, _, _, _, jj_cl0, by decide, jj_in 220 (by decide +kernel) rfl, rfl, Or.inl rfl⟩
theorem fl1_30 : jj_fl RX1 30 0 3 := ⟨_, _, _, jj_cl0.1, by decide, jj_in 221 (by decide +kernel) rfl, jj_cl0.2.1⟩
theorem fw1_30 (nm : String) : jj_fw RX1 nm 30 0 3 (.int) := ⟨_, _, _, _, jj_cl0, by decide, jj_in 221 (by decide +kernel) rfl, rfl, Or.inl rfl⟩
theorem fl1_33 : jj_fl RX1 33 0 4 := ⟨_, _, _, jj_cl0.1, by decide, jj_in 222 (by decide +kernel) rfl, jj_cl0.2.1⟩
theorem fw1_33 (nm : String) : jj_fw RX1 nm 33 0 4 (.int) := ⟨_, _, _, _, jj_cl0, by decide, jj_in 222 (by decide +kernel) rfl, rfl, Or.inl rfl⟩
theorem fl1_36 : jj_fl RX1 36 0 5 := ⟨_, _, _, jj_cl0.1, by decide, jj_in 223 (by decide +kernel) rfl, jj_cl0.2.1⟩
theorem fw1_36 (nm : String) : jj_fw RX1 nm 36 0 5 (.boolean) := ⟨_, _, _, _, jj_cl0, by decide, jj_in 223 (by decide +kernel) rfl, rfl, Or.inl rfl⟩
theorem fl6_12 : jj_fl RX6 12 5 0 := ⟨_, _, _, jj_cl5.1, by decide, jj_in 237 (by decide +kernel) rfl, jj_cl5.2.1⟩
theorem fw6_12 : jj_fw RX6 "<init>" 12 5 0 (.object "BallTown$Text") := ⟨_, _, _, _, jj_cl5, by decide, jj_in 237 (by decide +kernel) rfl, rfl, Or.inr ⟨rfl, rfl, rfl⟩⟩
theorem fl6_19 : jj_fl RX6 19 5 1 := ⟨_, _, _, jj_cl5.1, by decide, jj_in 238 (by decide +kernel) rfl, jj_cl5.2.1⟩
theorem fw6_19 : jj_fw RX6 "<init>" 19 5 1 (.object "BallTown$Turnings") := ⟨_, _, _, _, jj_cl5, by decide, jj_in 238 (by decide +kernel) rfl, rfl, Or.inr ⟨rfl, rfl, rfl⟩⟩
theorem fl6_26 : jj_fl RX6 26 5 2 := ⟨_, _, _, jj_cl5.1, by decide, jj_in 239 (by decide +kernel) rfl, jj_cl5.2.1⟩
theorem fw6_26 : jj_fw RX6 "<init>" 26 5 2 (.object "BallTown$Walls") := ⟨_, _, _, _, jj_cl5, by decide, jj_in 239 (by decide +kernel) rfl, rfl, Or.inr ⟨rfl, rfl, rfl⟩⟩
theorem fl6_33 : jj_fl RX6 33 5 3 := ⟨_, _, _, jj_cl5.1, by decide, jj_in 240 (by decide +kernel) rfl, jj_cl5.2.1⟩
theorem fw6_33 : jj_fw RX6 "<init>" 33 5 3 (.object "BallTown$Shares") := ⟨_, _, _, _, jj_cl5, by decide, jj_in 240 (by decide +kernel) rfl, rfl, Or.inr ⟨rfl, rfl, rfl⟩⟩
theorem fl6_40 : jj_fl RX6 40 5 4 := ⟨_, _, _, jj_cl5.1, by decide, jj_in 241 (by decide +kernel) rfl, jj_cl5.2.1⟩
theorem fw6_40 : jj_fw RX6 "<init>" 40 5 4 (.object "BallTown$Scene") := ⟨_, _, _, _, jj_cl5, by decide, jj_in 241 (by decide +kernel) rfl, rfl, Or.inr ⟨rfl, rfl, rfl⟩⟩
theorem fl6_44 : jj_fl RX6 44 5 5 := ⟨_, _, _, jj_cl5.1, by decide, jj_in 242 (by decide +kernel) rfl, jj_cl5.2.1⟩
theorem fw6_44 : jj_fw RX6 "<init>" 44 5 5 (.object "BallTown$Scene") := ⟨_, _, _, _, jj_cl5, by decide, jj_in 242 (by decide +kernel) rfl, rfl, Or.inr ⟨rfl, rfl, rfl⟩⟩
theorem fl6_47 : jj_fl RX6 47 5 6 := ⟨_, _, _, jj_cl5.1, by decide, jj_in 243 (by decide +kernel) rfl, jj_cl5.2.1⟩
theorem fw6_47 : jj_fw RX6 "<init>" 47 5 6 (.object "BallTown$Scene") := ⟨_, _, _, _, jj_cl5, by decide, jj_in 243 (by decide +kernel) rfl, rfl, Or.inr ⟨rfl, rfl, rfl⟩⟩
theorem fl6_50 : jj_fl RX6 50 5 7 := ⟨_, _, _, jj_cl5.1, by decide, jj_in 244 (by decide +kernel) rfl, jj_cl5.2.1⟩
theorem fw6_50 : jj_fw RX6 "<init>" 50 5 7 (.object "BallTown$Scene") := ⟨_, _, _, _, jj_cl5, by decide, jj_in 244 (by decide +kernel) rfl, rfl, Or.inr ⟨rfl, rfl, rfl⟩⟩
theorem fl7_7 : jj_fl RX7 7 6 0 := ⟨_, _, _, jj_cl6.1, by decide, jj_in 773 (by decide +kernel) rfl, jj_cl6.2.1⟩
theorem fw7_7 : jj_fw RX7 "<init>" 7 6 0 (.array .int) := ⟨_, _, _, _, jj_cl6, by decide, jj_in 773 (by decide +kernel) rfl, rfl, Or.inr ⟨rfl, rfl, rfl⟩⟩
theorem fl7_13 : jj_fl RX7 13 6 1 := ⟨_, _, _, jj_cl6.1, by decide, jj_in 774 (by decide +kernel) rfl, jj_cl6.2.1⟩
theorem fw7_13 : jj_fw RX7 "<init>" 13 6 1 (.array .boolean) := ⟨_, _, _, _, jj_cl6, by decide, jj_in 774 (by decide +kernel) rfl, rfl, Or.inr ⟨rfl, rfl, rfl⟩⟩
theorem fl7_17 : jj_fl RX7 17 6 2 := ⟨_, _, _, jj_cl6.1, by decide, jj_in 775 (by decide +kernel) rfl, jj_cl6.2.1⟩
theorem fw7_17 : jj_fw RX7 "<init>" 17 6 2 (.array .int) := ⟨_, _, _, _, jj_cl6, by decide, jj_in 775 (by decide +kernel) rfl, rfl, Or.inr ⟨rfl, rfl, rfl⟩⟩
theorem fl7_20 : jj_fl RX7 20 6 3 := ⟨_, _, _, jj_cl6.1, by decide, jj_in 776 (by decide +kernel) rfl, jj_cl6.2.1⟩
theorem fw7_20 : jj_fw RX7 "<init>" 20 6 3 (.array .int) := ⟨_, _, _, _, jj_cl6, by decide, jj_in 776 (by decide +kernel) rfl, rfl, Or.inr ⟨rfl, rfl, rfl⟩⟩
theorem fl7_150 : jj_fl RX7 150 6 4 := ⟨_, _, _, jj_cl6.1, by decide, jj_in 777 (by decide +kernel) rfl, jj_cl6.2.1⟩
theorem fw7_150 (nm : String) : jj_fw RX7 nm 150 6 4 (.int) := ⟨_, _, _, _, jj_cl6, by decide, jj_in 777 (by decide +kernel) rfl, rfl, Or.inl rfl⟩
theorem fl7_153 : jj_fl RX7 153 6 5 := ⟨_, _, _, jj_cl6.1, by decide, jj_in 778 (by decide +kernel) rfl, jj_cl6.2.1⟩
theorem fw7_153 (nm : String) : jj_fw RX7 nm 153 6 5 (.int) := ⟨_, _, _, _, jj_cl6, by decide, jj_in 778 (by decide +kernel) rfl, rfl, Or.inl rfl⟩
theorem fl7_160 : jj_fl RX7 160 6 6 := ⟨_, _, _, jj_cl6.1, by decide, jj_in 779 (by decide +kernel) rfl, jj_cl6.2.1⟩
theorem fw7_160 (nm : String) : jj_fw RX7 nm 160 6 6 (.int) := ⟨_, _, _, _, jj_cl6, by decide, jj_in 779 (by decide +kernel) rfl, rfl, Or.inl rfl⟩
theorem fl7_163 : jj_fl RX7 163 6 7 := ⟨_, _, _, jj_cl6.1, by decide, jj_in 780 (by decide +kernel) rfl, jj_cl6.2.1⟩
theorem fw7_163 (nm : String) : jj_fw RX7 nm 163 6 7 (.int) := ⟨_, _, _, _, jj_cl6, by decide, jj_in 780 (by decide +kernel) rfl, rfl, Or.inl rfl⟩
theorem fl7_166 : jj_fl RX7 166 6 8 := ⟨_, _, _, jj_cl6.1, by decide, jj_in 781 (by decide +kernel) rfl, jj_cl6.2.1⟩
theorem fw7_166 (nm : String) : jj_fw RX7 nm 166 6 8 (.int) := ⟨_, _, _, _, jj_cl6, by decide, jj_in 781 (by decide +kernel) rfl, rfl, Or.inl rfl⟩
theorem fl7_69 : jj_fl RX7 69 6 9 := ⟨_, _, _, jj_cl6.1, by decide, jj_in 782 (by decide +kernel) rfl, jj_cl6.2.1⟩
theorem fw7_69 (nm : String) : jj_fw RX7 nm 69 6 9 (.int) := ⟨_, _, _, _, jj_cl6, by decide, jj_in 782 (by decide +kernel) rfl, rfl, Or.inl rfl⟩
theorem fl7_23 : jj_fl RX7 23 6 10 := ⟨_, _, _, jj_cl6.1, by decide, jj_in 783 (by decide +kernel) rfl, jj_cl6.2.1⟩
theorem fw7_23 : jj_fw RX7 "<init>" 23 6 10 (.array .int) := ⟨_, _, _, _, jj_cl6, by decide, jj_in 783 (by decide +kernel) rfl, rfl, Or.inr ⟨rfl, rfl, rfl⟩⟩
theorem fl7_75 : jj_fl RX7 75 6 11 := ⟨_, _, _, jj_cl6.1, by decide, jj_in 784 (by decide +kernel) rfl, jj_cl6.2.1⟩
theorem fw7_75 (nm : String) : jj_fw RX7 nm 75 6 11 (.int) := ⟨_, _, _, _, jj_cl6, by decide, jj_in 784 (by decide +kernel) rfl, rfl, Or.inl rfl⟩
theorem fl7_78 : jj_fl RX7 78 6 12 := ⟨_, _, _, jj_cl6.1, by decide, jj_in 785 (by decide +kernel) rfl, jj_cl6.2.1⟩
theorem fw7_78 (nm : String) : jj_fw RX7 nm 78 6 12 (.int) := ⟨_, _, _, _, jj_cl6, by decide, jj_in 785 (by decide +kernel) rfl, rfl, Or.inl rfl⟩
theorem fl7_89 : jj_fl RX7 89 6 13 := ⟨_, _, _, jj_cl6.1, by decide, jj_in 786 (by decide +kernel) rfl, jj_cl6.2.1⟩
theorem fw7_89 (nm : String) : jj_fw RX7 nm 89 6 13 (.long) := ⟨_, _, _, _, jj_cl6, by decide, jj_in 786 (by decide +kernel) rfl, rfl, Or.inl rfl⟩
theorem fl7_81 : jj_fl RX7 81 6 14 := ⟨_, _, _, jj_cl6.1, by decide, jj_in 787 (by decide +kernel) rfl, jj_cl6.2.1⟩
theorem fw7_81 (nm : String) : jj_fw RX7 nm 81 6 14 (.int) := ⟨_, _, _, _, jj_cl6, by decide, jj_in 787 (by decide +kernel) rfl, rfl, Or.inl rfl⟩
theorem fl7_84 : jj_fl RX7 84 6 15 := ⟨_, _, _, jj_cl6.1, by decide, jj_in 788 (by decide +kernel) rfl, jj_cl6.2.1⟩
theorem fw7_84 (nm : String) : jj_fw RX7 nm 84 6 15 (.int) := ⟨_, _, _, _, jj_cl6, by decide, jj_in 788 (by decide +kernel) rfl, rfl, Or.inl rfl⟩
theorem fl7_103 : jj_fl RX7 103 6 16 := ⟨_, _, _, jj_cl6.1, by decide, jj_in 789 (by decide +kernel) rfl, jj_cl6.2.1⟩
theorem fw7_103 (nm : String) : jj_fw RX7 nm 103 6 16 (.int) := ⟨_, _, _, _, jj_cl6, by decide, jj_in 789 (by decide +kernel) rfl, rfl, Or.inl rfl⟩
theorem fl7_141 : jj_fl RX7 141 6 17 := ⟨_, _, _, jj_cl6.1, by decide, jj_in 790 (by decide +kernel) rfl, jj_cl6.2.1⟩
theorem fw7_141 (nm : String) : jj_fw RX7 nm 141 6 17 (.int) := ⟨_, _, _, _, jj_cl6, by decide, jj_in 790 (by decide +kernel) rfl, rfl, Or.inl rfl⟩
theorem fl7_26 : jj_fl RX7 26 6 18 := ⟨_, _, _, jj_cl6.1, by decide, jj_in 791 (by decide +kernel) rfl, jj_cl6.2.1⟩
theorem fw7_26 : jj_fw RX7 "<init>" 26 6 18 (.array .int) := ⟨_, _, _, _, jj_cl6, by decide, jj_in 791 (by decide +kernel) rfl, rfl, Or.inr ⟨rfl, rfl, rfl⟩⟩
theorem fl7_29 : jj_fl RX7 29 6 19 := ⟨_, _, _, jj_cl6.1, by decide, jj_in 792 (by decide +kernel) rfl, jj_cl6.2.1⟩
theorem fw7_29 : jj_fw RX7 "<init>" 29 6 19 (.array .int) := ⟨_, _, _, _, jj_cl6, by decide, jj_in 792 (by decide +kernel) rfl, rfl, Or.inr ⟨rfl, rfl, rfl⟩⟩
theorem fl7_32 : jj_fl RX7 32 6 20 := ⟨_, _, _, jj_cl6.1, by decide, jj_in 793 (by decide +kernel) rfl, jj_cl6.2.1⟩
theorem fw7_32 : jj_fw RX7 "<init>" 32 6 20 (.array .boolean) := ⟨_, _, _, _, jj_cl6, by decide, jj_in 793 (by decide +kernel) rfl, rfl, Or.inr ⟨rfl, rfl, rfl⟩⟩
theorem fl7_35 : jj_fl RX7 35 6 21 := ⟨_, _, _, jj_cl6.1, by decide, jj_in 794 (by decide +kernel) rfl, jj_cl6.2.1⟩
theorem fw7_35 : jj_fw RX7 "<init>" 35 6 21 (.array .int) := ⟨_, _, _, _, jj_cl6, by decide, jj_in 794 (by decide +kernel) rfl, rfl, Or.inr ⟨rfl, rfl, rfl⟩⟩
theorem fl7_38 : jj_fl RX7 38 6 22 := ⟨_, _, _, jj_cl6.1, by decide, jj_in 795 (by decide +kernel) rfl, jj_cl6.2.1⟩
theorem fw7_38 : jj_fw RX7 "<init>" 38 6 22 (.array .int) := ⟨_, _, _, _, jj_cl6, by decide, jj_in 795 (by decide +kernel) rfl, rfl, Or.inr ⟨rfl, rfl, rfl⟩⟩
theorem fl7_41 : jj_fl RX7 41 6 23 := ⟨_, _, _, jj_cl6.1, by decide, jj_in 796 (by decide +kernel) rfl, jj_cl6.2.1⟩
theorem fw7_41 : jj_fw RX7 "<init>" 41 6 23 (.array .int) := ⟨_, _, _, _, jj_cl6, by decide, jj_in 796 (by decide +kernel) rfl, rfl, Or.inr ⟨rfl, rfl, rfl⟩⟩
theorem fl7_44 : jj_fl RX7 44 6 24 := ⟨_, _, _, jj_cl6.1, by decide, jj_in 797 (by decide +kernel) rfl, jj_cl6.2.1⟩
theorem fw7_44 : jj_fw RX7 "<init>" 44 6 24 (.array .long) := ⟨_, _, _, _, jj_cl6, by decide, jj_in 797 (by decide +kernel) rfl, rfl, Or.inr ⟨rfl, rfl, rfl⟩⟩
theorem fl7_48 : jj_fl RX7 48 6 25 := ⟨_, _, _, jj_cl6.1, by decide, jj_in 798 (by decide +kernel) rfl, jj_cl6.2.1⟩
theorem fw7_48 : jj_fw RX7 "<init>" 48 6 25 (.array .long) := ⟨_, _, _, _, jj_cl6, by decide, jj_in 798 (by decide +kernel) rfl, rfl, Or.inr ⟨rfl, rfl, rfl⟩⟩
theorem fl7_51 : jj_fl RX7 51 6 26 := ⟨_, _, _, jj_cl6.1, by decide, jj_in 799 (by decide +kernel) rfl, jj_cl6.2.1⟩
theorem fw7_51 : jj_fw RX7 "<init>" 51 6 26 (.array .int) := ⟨_, _, _, _, jj_cl6, by decide, jj_in 799 (by decide +kernel) rfl, rfl, Or.inr ⟨rfl, rfl, rfl⟩⟩
theorem nwL_7 : jj_nw RL 7 5 8 [.null, .null, .null, .null, .null, .null, .null, .null] := ⟨_, _, _, jj_cl5, jj_in 60 (by decide +kernel) rfl, jj_in 61 (by decide +kernel) rfl, jj_in 46 (by decide +kernel) rfl, fun j hj => by rcases (show j = 0 ∨ j = 1 ∨ j = 2 ∨ j = 3 ∨ j = 4 ∨ j = 5 ∨ j = 6 ∨ j = 7 by omega) with rfl | rfl | rfl | rfl | rfl | rfl | rfl | rfl <;> rfl, by decide +kernel⟩
theorem mlL_9 : Cond.methodLink RL 9 yX6_init ∈ jj_ws := jj_in 62 (by decide +kernel) rfl
theorem ml6_3 : Cond.methodLink RX6 3 objectInit ∈ jj_ws := jj_in 65 (by decide +kernel) rfl
theorem jj_ob1 : Cond.instanceMethod objectInit ∈ jj_ws := jj_in 66 (by decide +kernel) rfl
theorem jj_ob2 : Cond.code objectInit ⟨#[0xb1]⟩ 1 none ∈ jj_ws := jj_in 67 (by decide +kernel) rfl
theorem nw6_9 : jj_nw RX6 9 2 8 [.null, .int 0, .int 0, .int 0, .null, .null, .null, .int 0] := ⟨_, _, _, jj_cl2, jj_in 68 (by decide +kernel) rfl, jj_in 69 (by decide +kernel) rfl, jj_in 47 (by decide +kernel) rfl, fun j hj => by rcases (show j = 0 ∨ j = 1 ∨ j = 2 ∨ j = 3 ∨ j = 4 ∨ j = 5 ∨ j = 6 ∨ j = 7 by omega) with rfl | rfl | rfl | rfl | rfl | rfl | rfl | rfl <;> rfl, by decide +kernel⟩
theorem ml3_3 : Cond.methodLink RX3 3 objectInit ∈ jj_ws := jj_in 73 (by decide +kernel) rfl
theorem jj_ac_int : Cond.arrayClass .int ∈ jj_ws := jj_in 99 (by decide +kernel) rfl
theorem nw6_16 : jj_nw RX6 16 3 2 [.null, .null] := ⟨_, _, _, jj_cl3, jj_in 100 (by decide +kernel) rfl, jj_in 101 (by decide +kernel) rfl, jj_in 48 (by decide +kernel) rfl, fun j hj => by rcases (show j = 0 ∨ j = 1 by omega) with rfl | rfl <;> rfl, by decide +kernel⟩
theorem ml6_18 : Cond.methodLink RX6 18 yX4_init ∈ jj_ws := jj_in 102 (by decide +kernel) rfl
theorem ml4_3 : Cond.methodLink RX4 3 objectInit ∈ jj_ws := jj_in 105 (by decide +kernel) rfl
theorem ml4_18 : Cond.methodLink RX4 18 yX4_lay ∈ jj_ws := jj_in 106 (by decide +kernel) rfl
theorem ml4_22 : Cond.methodLink RX4 22 yX4_number ∈ jj_ws := jj_in 110 (by decide +kernel) rfl
theorem ml4_26 : Cond.methodLink RX4 26 yX4_setGoal ∈ jj_ws := jj_in 113 (by decide +kernel) rfl
theorem ml4_44 : Cond.methodLink RX4 44 yX4_isTurning ∈ jj_ws := jj_in 117 (by decide +kernel) rfl
theorem ml4_48 : Cond.methodLink RX4 48 yX0_isField ∈ jj_ws := jj_in 120 (by decide +kernel) rfl
theorem ml4_30 : Cond.methodLink RX4 30 yX0_across ∈ jj_ws := jj_in 123 (by decide +kernel) rfl
theorem ml0_9 : Cond.methodLink RX0 9 yX0_isField ∈ jj_ws := jj_in 126 (by decide +kernel) rfl
theorem ml0_21 : Cond.methodLink RX0 21 yX0_isSide ∈ jj_ws := jj_in 127 (by decide +kernel) rfl
theorem fs0_24 : Cond.fieldLink RX0 24 "BallTown$Ball" "SEWN" "[I" ∈ jj_ws := jj_in 130 (by decide +kernel) rfl
theorem ml4_35 : Cond.methodLink RX4 35 yX4_goal ∈ jj_ws := jj_in 132 (by decide +kernel) rfl
theorem ml4_38 : Cond.methodLink RX4 38 yX0_sideTo ∈ jj_ws := jj_in 136 (by decide +kernel) rfl
theorem ml0_28 : Cond.methodLink RX0 28 yX0_across ∈ jj_ws := jj_in 139 (by decide +kernel) rfl
theorem ml4_41 : Cond.methodLink RX4 41 yX0_on ∈ jj_ws := jj_in 140 (by decide +kernel) rfl
theorem ml0_15 : Cond.methodLink RX0 15 yJ9_floorMod_7cf53 ∈ jj_ws := jj_in 143 (by decide +kernel) rfl
theorem nw6_23 : jj_nw RX6 23 4 9 [.null, .null, .null, .int 0, .int 0, .int 0, .int 0, .int 0, .int 0] := ⟨_, _, _, jj_cl4, jj_in 153 (by decide +kernel) rfl, jj_in 154 (by decide +kernel) rfl, jj_in 51 (by decide +kernel) rfl, fun j hj => by rcases (show j = 0 ∨ j = 1 ∨ j = 2 ∨ j = 3 ∨ j = 4 ∨ j = 5 ∨ j = 6 ∨ j = 7 ∨ j = 8 by omega) with rfl | rfl | rfl | rfl | rfl | rfl | rfl | rfl | rfl <;> rfl, by decide +kernel⟩
theorem ml6_25 : Cond.methodLink RX6 25 yX5_init ∈ jj_ws := jj_in 155 (by decide +kernel) rfl
theorem ml5_3 : Cond.methodLink RX5 3 objectInit ∈ jj_ws := jj_in 158 (by decide +kernel) rfl
theorem ml5_21 : Cond.methodLink RX5 21 yX5_clear ∈ jj_ws := jj_in 159 (by decide +kernel) rfl
theorem ml5_24 : Cond.methodLink RX5 24 yX0_allBeside ∈ jj_ws := jj_in 163 (by decide +kernel) rfl
theorem ml5_30 : Cond.methodLink RX5 30 yX5_forgetFound ∈ jj_ws := jj_in 166 (by decide +kernel) rfl
theorem nw6_30 : jj_nw RX6 30 1 2 [.null, .null] := ⟨_, _, _, jj_cl1, jj_in 198 (by decide +kernel) rfl, jj_in 199 (by decide +kernel) rfl, jj_in 52 (by decide +kernel) rfl, fun j hj => by rcases (show j = 0 ∨ j = 1 by omega) with rfl | rfl <;> rfl, by decide +kernel⟩
theorem ml2_3 : Cond.methodLink RX2 3 objectInit ∈ jj_ws := jj_in 203 (by decide +kernel) rfl
theorem jj_ac_long : Cond.arrayClass .long ∈ jj_ws := jj_in 211 (by decide +kernel) rfl
theorem nw6_37 : jj_nw RX6 37 0 6 [.null, .null, .int 0, .int 0, .int 0, .int 0] := ⟨_, _, _, jj_cl0, jj_in 212 (by decide +kernel) rfl, jj_in 213 (by decide +kernel) rfl, jj_in 53 (by decide +kernel) rfl, fun j hj => by rcases (show j = 0 ∨ j = 1 ∨ j = 2 ∨ j = 3 ∨ j = 4 ∨ j = 5 by omega) with rfl | rfl | rfl | rfl | rfl | rfl <;> rfl, by decide +kernel⟩
theorem ml1_3 : Cond.methodLink RX1 3 objectInit ∈ jj_ws := jj_in 217 (by decide +kernel) rfl
theorem mlL_15 : Cond.methodLink RL 15 yX6_write ∈ jj_ws := jj_in 262 (by decide +kernel) rfl
theorem ml6_53 : Cond.methodLink RX6 53 yX3_hasRoomFor ∈ jj_ws := jj_in 266 (by decide +kernel) rfl
theorem ml6_57 : Cond.methodLink RX6 57 yX3_append ∈ jj_ws := jj_in 270 (by decide +kernel) rfl
theorem kc3_28 : Cond.constantLong RX3 28 (255 : Int64) ∈ jj_ws := jj_in 274 (by decide +kernel) rfl
theorem mlL_20 : Cond.methodLink RL 20 yX6_erase ∈ jj_ws := jj_in 275 (by decide +kernel) rfl
theorem ml6_61 : Cond.methodLink RX6 61 yX3_clear ∈ jj_ws := jj_in 279 (by decide +kernel) rfl
theorem mlL_25 : Cond.methodLink RL 25 yX6_fault ∈ jj_ws := jj_in 283 (by decide +kernel) rfl
theorem ml6_65 : Cond.methodLink RX6 65 yX3_read ∈ jj_ws := jj_in 287 (by decide +kernel) rfl
theorem ml3_40 : Cond.methodLink RX3 40 yX3_readLine ∈ jj_ws := jj_in 291 (by decide +kernel) rfl
theorem ml3_47 : Cond.methodLink RX3 47 yX3_nextToken ∈ jj_ws := jj_in 295 (by decide +kernel) rfl
theorem ml3_50 : Cond.methodLink RX3 50 yX3_signAt ∈ jj_ws := jj_in 299 (by decide +kernel) rfl
theorem ml3_71 : Cond.methodLink RX3 71 yX3_sortOf ∈ jj_ws := jj_in 303 (by decide +kernel) rfl
theorem ml3_54 : Cond.methodLink RX3 54 yX3_wordHere ∈ jj_ws := jj_in 306 (by decide +kernel) rfl
theorem ml3_76 : Cond.methodLink RX3 76 yX3_spells ∈ jj_ws := jj_in 311 (by decide +kernel) rfl
theorem ml3_94 : Cond.methodLink RX3 94 yJ0_length_8abf5 ∈ jj_ws := jj_in 315 (by decide +kernel) rfl
theorem mlJ0_335 : Cond.methodLink RJ0 335 yJ0_coder_7d493 ∈ jj_ws := jj_in 319 (by decide +kernel) rfl
theorem fsJ0_38 : Cond.fieldLink RJ0 38 "java/lang/String" "COMPACT_STRINGS" "Z" ∈ jj_ws := jj_in 323 (by decide +kernel) rfl
theorem ml3_98 : Cond.methodLink RX3 98 yJ0_charAt_5068e ∈ jj_ws := jj_in 325 (by decide +kernel) rfl
theorem mlJ0_492 : Cond.methodLink RJ0 492 yJ0_isLatin1_aae02 ∈ jj_ws := jj_in 329 (by decide +kernel) rfl
theorem mlJ0_495 : Cond.methodLink RJ0 495 yJ1_charAt_3b067 ∈ jj_ws := jj_in 333 (by decide +kernel) rfl
theorem mlJ1_9 : Cond.methodLink RJ1 9 yJ0_checkIndex_df160 ∈ jj_ws := jj_in 336 (by decide +kernel) rfl
theorem fsJ0_1053 : Cond.fieldLink RJ0 1053 "jdk/internal/util/Preconditions" "SIOOBE_FORMATTER" "Ljava/util/function/BiFunction;" ∈ jj_ws := jj_in 339 (by decide +kernel) rfl
theorem mlJ0_1059 : Cond.methodLink RJ0 1059 yJ3_checkIndex_8e157 ∈ jj_ws := jj_in 341 (by decide +kernel) rfl
theorem mlJ0_498 : Cond.methodLink RJ0 498 yJ2_charAt_3b067 ∈ jj_ws := jj_in 344 (by decide +kernel) rfl
theorem mlJ2_67 : Cond.methodLink RJ2 67 yJ2_checkIndex_2214a ∈ jj_ws := jj_in 347 (by decide +kernel) rfl
theorem mlJ2_48 : Cond.methodLink RJ2 48 yJ2_length_9d52b ∈ jj_ws := jj_in 350 (by decide +kernel) rfl
theorem mlJ2_414 : Cond.methodLink RJ2 414 yJ0_checkIndex_df160 ∈ jj_ws := jj_in 353 (by decide +kernel) rfl
theorem mlJ2_71 : Cond.methodLink RJ2 71 yJ2_getChar_3b067 ∈ jj_ws := jj_in 354 (by decide +kernel) rfl
theorem fsJ2_44 : Cond.fieldLink RJ2 44 "java/lang/StringUTF16" "$assertionsDisabled" "Z" ∈ jj_ws := jj_in 357 (by decide +kernel) rfl
theorem fsJ2_59 : Cond.fieldLink RJ2 59 "java/lang/StringUTF16" "HI_BYTE_SHIFT" "I" ∈ jj_ws := jj_in 359 (by decide +kernel) rfl
theorem fsJ2_63 : Cond.fieldLink RJ2 63 "java/lang/StringUTF16" "LO_BYTE_SHIFT" "I" ∈ jj_ws := jj_in 361 (by decide +kernel) rfl
theorem ml3_58 : Cond.methodLink RX3 58 yX3_nextNumber ∈ jj_ws := jj_in 370 (by decide +kernel) rfl
theorem ml3_61 : Cond.methodLink RX3 61 yX0_sideTo ∈ jj_ws := jj_in 374 (by decide +kernel) rfl
theorem ml3_67 : Cond.methodLink RX3 67 yX3_setLine ∈ jj_ws := jj_in 375 (by decide +kernel) rfl
theorem jj_ac_byte : Cond.arrayClass .byte ∈ jj_ws := jj_in 379 (by decide +kernel) rfl
theorem mlL_29 : Cond.methodLink RL 29 yX6_town ∈ jj_ws := jj_in 380 (by decide +kernel) rfl
theorem ml6_68 : Cond.methodLink RX6 68 yX3_lineCount ∈ jj_ws := jj_in 384 (by decide +kernel) rfl
theorem ml6_71 : Cond.methodLink RX6 71 yX3_wordOf ∈ jj_ws := jj_in 388 (by decide +kernel) rfl
theorem ml3_33 : Cond.methodLink RX3 33 yX3_inLine ∈ jj_ws := jj_in 392 (by decide +kernel) rfl
theorem ml6_75 : Cond.methodLink RX6 75 yX3_firstOf ∈ jj_ws := jj_in 395 (by decide +kernel) rfl
theorem ml6_78 : Cond.methodLink RX6 78 yX3_secondOf ∈ jj_ws := jj_in 399 (by decide +kernel) rfl
theorem ml6_81 : Cond.methodLink RX6 81 yX6_doLine ∈ jj_ws := jj_in 403 (by decide +kernel) rfl
theorem ml6_92 : Cond.methodLink RX6 92 yX1_begin ∈ jj_ws := jj_in 407 (by decide +kernel) rfl
theorem ml1_18 : Cond.methodLink RX1 18 yX1_stand ∈ jj_ws := jj_in 411 (by decide +kernel) rfl
theorem ml6_95 : Cond.methodLink RX6 95 yX5_clear ∈ jj_ws := jj_in 415 (by decide +kernel) rfl
theorem ml6_97 : Cond.methodLink RX6 97 yX5_close ∈ jj_ws := jj_in 416 (by decide +kernel) rfl
theorem ml5_40 : Cond.methodLink RX5 40 yX0_sideTo ∈ jj_ws := jj_in 420 (by decide +kernel) rfl
theorem ml5_44 : Cond.methodLink RX5 44 yX5_openTo ∈ jj_ws := jj_in 421 (by decide +kernel) rfl
theorem ml5_47 : Cond.methodLink RX5 47 yX5_setOpen ∈ jj_ws := jj_in 425 (by decide +kernel) rfl
theorem ml6_101 : Cond.methodLink RX6 101 yX5_open ∈ jj_ws := jj_in 429 (by decide +kernel) rfl
theorem ml6_104 : Cond.methodLink RX6 104 yX1_stand ∈ jj_ws := jj_in 433 (by decide +kernel) rfl
theorem ml6_107 : Cond.methodLink RX6 107 yX1_plant ∈ jj_ws := jj_in 434 (by decide +kernel) rfl
theorem ml6_85 : Cond.methodLink RX6 85 yX1_take ∈ jj_ws := jj_in 438 (by decide +kernel) rfl
theorem ml1_22 : Cond.methodLink RX1 22 yX1_kindOf ∈ jj_ws := jj_in 442 (by decide +kernel) rfl
theorem ml6_89 : Cond.methodLink RX6 89 yX1_forget ∈ jj_ws := jj_in 446 (by decide +kernel) rfl
theorem mlL_33 : Cond.methodLink RL 33 yX6_beside ∈ jj_ws := jj_in 450 (by decide +kernel) rfl
theorem ml6_110 : Cond.methodLink RX6 110 yX0_across ∈ jj_ws := jj_in 454 (by decide +kernel) rfl
theorem mlL_38 : Cond.methodLink RL 38 yX6_side ∈ jj_ws := jj_in 455 (by decide +kernel) rfl
theorem ml6_116 : Cond.methodLink RX6 116 yX0_isField ∈ jj_ws := jj_in 459 (by decide +kernel) rfl
theorem ml6_119 : Cond.methodLink RX6 119 yX0_sideTo ∈ jj_ws := jj_in 460 (by decide +kernel) rfl
theorem mlL_42 : Cond.methodLink RL 42 yX6_far ∈ jj_ws := jj_in 461 (by decide +kernel) rfl
theorem ml6_122 : Cond.methodLink RX6 122 yX0_distance ∈ jj_ws := jj_in 465 (by decide +kernel) rfl
theorem ml0_31 : Cond.methodLink RX0 31 yX0_holds ∈ jj_ws := jj_in 468 (by decide +kernel) rfl
theorem ml0_35 : Cond.methodLink RX0 35 yX0_withThoseBeside ∈ jj_ws := jj_in 471 (by decide +kernel) rfl
theorem ml0_39 : Cond.methodLink RX0 39 yX0_allBeside ∈ jj_ws := jj_in 474 (by decide +kernel) rfl
theorem mlL_46 : Cond.methodLink RL 46 yX6_other ∈ jj_ws := jj_in 475 (by decide +kernel) rfl
theorem ml6_125 : Cond.methodLink RX6 125 yX0_opposite ∈ jj_ws := jj_in 479 (by decide +kernel) rfl
theorem ml0_42 : Cond.methodLink RX0 42 yX0_distance ∈ jj_ws := jj_in 482 (by decide +kernel) rfl
theorem mlL_51 : Cond.methodLink RL 51 yX6_goes ∈ jj_ws := jj_in 483 (by decide +kernel) rfl
theorem ml6_128 : Cond.methodLink RX6 128 yX0_isSide ∈ jj_ws := jj_in 487 (by decide +kernel) rfl
theorem ml6_131 : Cond.methodLink RX6 131 yX4_number ∈ jj_ws := jj_in 488 (by decide +kernel) rfl
theorem ml6_134 : Cond.methodLink RX6 134 yX4_goal ∈ jj_ws := jj_in 489 (by decide +kernel) rfl
theorem mlL_56 : Cond.methodLink RL 56 yX6_field ∈ jj_ws := jj_in 490 (by decide +kernel) rfl
theorem ml6_137 : Cond.methodLink RX6 137 yX1_kindOf ∈ jj_ws := jj_in 494 (by decide +kernel) rfl
theorem ml6_140 : Cond.methodLink RX6 140 yX5_sidesClosed ∈ jj_ws := jj_in 495 (by decide +kernel) rfl
theorem ml5_58 : Cond.methodLink RX5 58 yX5_through ∈ jj_ws := jj_in 499 (by decide +kernel) rfl
theorem ml5_51 : Cond.methodLink RX5 51 yX0_across ∈ jj_ws := jj_in 503 (by decide +kernel) rfl
theorem ml5_54 : Cond.methodLink RX5 54 yX0_holds ∈ jj_ws := jj_in 504 (by decide +kernel) rfl
theorem ml6_143 : Cond.methodLink RX6 143 yX6_taxOf ∈ jj_ws := jj_in 505 (by decide +kernel) rfl
theorem ml6_153 : Cond.methodLink RX6 153 yX6_openOfKind ∈ jj_ws := jj_in 509 (by decide +kernel) rfl
theorem ml6_146 : Cond.methodLink RX6 146 yX5_openTo ∈ jj_ws := jj_in 513 (by decide +kernel) rfl
theorem ml6_161 : Cond.methodLink RX6 161 yX1_allOfKind ∈ jj_ws := jj_in 514 (by decide +kernel) rfl
theorem ml6_164 : Cond.methodLink RX6 164 yJ6_bitCount_0f7a4 ∈ jj_ws := jj_in 518 (by decide +kernel) rfl
theorem kcJ6_265 : Cond.constant RJ6 265 (1431655765 : Int32) ∈ jj_ws := jj_in 521 (by decide +kernel) rfl
theorem kcJ6_266 : Cond.constant RJ6 266 (858993459 : Int32) ∈ jj_ws := jj_in 522 (by decide +kernel) rfl
theorem kcJ6_267 : Cond.constant RJ6 267 (252645135 : Int32) ∈ jj_ws := jj_in 523 (by decide +kernel) rfl
theorem ml6_156 : Cond.methodLink RX6 156 yJ9_max_7cf53 ∈ jj_ws := jj_in 524 (by decide +kernel) rfl
theorem mlL_60 : Cond.methodLink RL 60 yX6_as ∈ jj_ws := jj_in 527 (by decide +kernel) rfl
theorem ml6_149 : Cond.methodLink RX6 149 yX6_isSuch ∈ jj_ws := jj_in 531 (by decide +kernel) rfl
theorem mlL_64 : Cond.methodLink RL 64 yX6_rotate ∈ jj_ws := jj_in 534 (by decide +kernel) rfl
theorem ml6_169 : Cond.methodLink RX6 169 yX1_turn ∈ jj_ws := jj_in 538 (by decide +kernel) rfl
theorem ml1_40 : Cond.methodLink RX1 40 yX4_goal ∈ jj_ws := jj_in 542 (by decide +kernel) rfl
theorem ml1_46 : Cond.methodLink RX1 46 yX1_plant ∈ jj_ws := jj_in 543 (by decide +kernel) rfl
theorem mlL_68 : Cond.methodLink RL 68 yX6_step ∈ jj_ws := jj_in 544 (by decide +kernel) rfl
theorem ml6_173 : Cond.methodLink RX6 173 yX1_place ∈ jj_ws := jj_in 548 (by decide +kernel) rfl
theorem ml6_176 : Cond.methodLink RX6 176 yX1_entry ∈ jj_ws := jj_in 552 (by decide +kernel) rfl
theorem ml6_179 : Cond.methodLink RX6 179 yX0_on ∈ jj_ws := jj_in 556 (by decide +kernel) rfl
theorem ml6_182 : Cond.methodLink RX6 182 yX5_through ∈ jj_ws := jj_in 557 (by decide +kernel) rfl
theorem ml6_185 : Cond.methodLink RX6 185 yX1_steps ∈ jj_ws := jj_in 558 (by decide +kernel) rfl
theorem ml6_188 : Cond.methodLink RX6 188 yX1_move ∈ jj_ws := jj_in 562 (by decide +kernel) rfl
theorem mlL_72 : Cond.methodLink RL 72 yX6_walker ∈ jj_ws := jj_in 566 (by decide +kernel) rfl
theorem mlL_76 : Cond.methodLink RL 76 yX6_keep ∈ jj_ws := jj_in 570 (by decide +kernel) rfl
theorem ml6_191 : Cond.methodLink RX6 191 yX6_keptAt ∈ jj_ws := jj_in 574 (by decide +kernel) rfl
theorem mlL_80 : Cond.methodLink RL 80 yX6_back ∈ jj_ws := jj_in 578 (by decide +kernel) rfl
theorem ml6_195 : Cond.methodLink RX6 195 yX1_isTaken ∈ jj_ws := jj_in 582 (by decide +kernel) rfl
theorem mlL_84 : Cond.methodLink RL 84 yX6_home ∈ jj_ws := jj_in 586 (by decide +kernel) rfl
theorem mlL_88 : Cond.methodLink RL 88 yX6_alike ∈ jj_ws := jj_in 590 (by decide +kernel) rfl
theorem ml6_199 : Cond.methodLink RX6 199 yX4_bringing ∈ jj_ws := jj_in 594 (by decide +kernel) rfl
theorem ml4_51 : Cond.methodLink RX4 51 yX4_brings ∈ jj_ws := jj_in 598 (by decide +kernel) rfl
theorem ml4_55 : Cond.methodLink RX4 55 yX1_kindOf ∈ jj_ws := jj_in 602 (by decide +kernel) rfl
theorem mlL_92 : Cond.methodLink RL 92 yX6_like ∈ jj_ws := jj_in 603 (by decide +kernel) rfl
theorem mlL_96 : Cond.methodLink RL 96 yX6_fixed ∈ jj_ws := jj_in 607 (by decide +kernel) rfl
theorem kc6_203 : Cond.constantLong RX6 203 (-2 : Int64) ∈ jj_ws := jj_in 611 (by decide +kernel) rfl
theorem kc6_205 : Cond.constantLong RX6 205 (-3 : Int64) ∈ jj_ws := jj_in 612 (by decide +kernel) rfl
theorem ml6_207 : Cond.methodLink RX6 207 yX4_fixedWays ∈ jj_ws := jj_in 613 (by decide +kernel) rfl
theorem ml4_61 : Cond.methodLink RX4 61 yX0_holds ∈ jj_ws := jj_in 617 (by decide +kernel) rfl
theorem ml4_65 : Cond.methodLink RX4 65 yX4_ringOf ∈ jj_ws := jj_in 618 (by decide +kernel) rfl
theorem mlL_101 : Cond.methodLink RL 101 yX6_unlike ∈ jj_ws := jj_in 622 (by decide +kernel) rfl
theorem ml6_211 : Cond.methodLink RX6 211 yX4_unlikeWays ∈ jj_ws := jj_in 626 (by decide +kernel) rfl
theorem ml4_68 : Cond.methodLink RX4 68 yX4_fixedWays ∈ jj_ws := jj_in 630 (by decide +kernel) rfl
theorem kc4_72 : Cond.constantLong RX4 72 (60 : Int64) ∈ jj_ws := jj_in 631 (by decide +kernel) rfl
theorem mlL_106 : Cond.methodLink RL 106 yX6_wardens ∈ jj_ws := jj_in 632 (by decide +kernel) rfl
theorem ml6_215 : Cond.methodLink RX6 215 yX5_wardenCount ∈ jj_ws := jj_in 636 (by decide +kernel) rfl
theorem ml5_75 : Cond.methodLink RX5 75 yX5_findWardens ∈ jj_ws := jj_in 640 (by decide +kernel) rfl
theorem ml5_64 : Cond.methodLink RX5 64 yJ6_bitCount_0f7a4 ∈ jj_ws := jj_in 644 (by decide +kernel) rfl
theorem ml5_88 : Cond.methodLink RX5 88 yX5_wardsAll ∈ jj_ws := jj_in 645 (by decide +kernel) rfl
theorem ml6_218 : Cond.methodLink RX6 218 yX5_wardenSet ∈ jj_ws := jj_in 649 (by decide +kernel) rfl
theorem ml6_221 : Cond.methodLink RX6 221 yX5_wardenSets ∈ jj_ws := jj_in 653 (by decide +kernel) rfl
theorem mlL_110 : Cond.methodLink RL 110 yX6_inside ∈ jj_ws := jj_in 657 (by decide +kernel) rfl
theorem ml6_224 : Cond.methodLink RX6 224 yX5_insideOf ∈ jj_ws := jj_in 661 (by decide +kernel) rfl
theorem ml5_69 : Cond.methodLink RX5 69 yX5_openToAny ∈ jj_ws := jj_in 665 (by decide +kernel) rfl
theorem mlL_114 : Cond.methodLink RL 114 yX6_rounds ∈ jj_ws := jj_in 669 (by decide +kernel) rfl
theorem ml6_227 : Cond.methodLink RX6 227 yX5_roundCount ∈ jj_ws := jj_in 673 (by decide +kernel) rfl
theorem ml5_92 : Cond.methodLink RX5 92 yX5_findRounds ∈ jj_ws := jj_in 677 (by decide +kernel) rfl
theorem ml5_98 : Cond.methodLink RX5 98 yX5_goRound ∈ jj_ws := jj_in 681 (by decide +kernel) rfl
theorem ml5_102 : Cond.methodLink RX5 102 yX5_endRound ∈ jj_ws := jj_in 684 (by decide +kernel) rfl
theorem ml6_230 : Cond.methodLink RX6 230 yX5_inFirstRound ∈ jj_ws := jj_in 688 (by decide +kernel) rfl
theorem mlL_118 : Cond.methodLink RL 118 yX6_walks ∈ jj_ws := jj_in 692 (by decide +kernel) rfl
theorem ml6_233 : Cond.methodLink RX6 233 yX2_walkCount ∈ jj_ws := jj_in 696 (by decide +kernel) rfl
theorem ml2_18 : Cond.methodLink RX2 18 yX2_setOut ∈ jj_ws := jj_in 700 (by decide +kernel) rfl
theorem ml2_22 : Cond.methodLink RX2 22 yX5_openTo ∈ jj_ws := jj_in 704 (by decide +kernel) rfl
theorem ml2_28 : Cond.methodLink RX2 28 yX2_giveAll ∈ jj_ws := jj_in 705 (by decide +kernel) rfl
theorem ml2_53 : Cond.methodLink RX2 53 yX0_holds ∈ jj_ws := jj_in 709 (by decide +kernel) rfl
theorem ml2_32 : Cond.methodLink RX2 32 yX2_arrive ∈ jj_ws := jj_in 710 (by decide +kernel) rfl
theorem ml2_35 : Cond.methodLink RX2 35 yX2_hereAt ∈ jj_ws := jj_in 714 (by decide +kernel) rfl
theorem mlL_122 : Cond.methodLink RL 122 yX6_odds ∈ jj_ws := jj_in 718 (by decide +kernel) rfl
theorem ml6_237 : Cond.methodLink RX6 237 yX2_oddsPart ∈ jj_ws := jj_in 722 (by decide +kernel) rfl
theorem ml2_39 : Cond.methodLink RX2 39 yJ6_bitCount_0f7a4 ∈ jj_ws := jj_in 726 (by decide +kernel) rfl
theorem ml2_44 : Cond.methodLink RX2 44 yX2_sharesOf ∈ jj_ws := jj_in 727 (by decide +kernel) rfl
theorem kc2_47 : Cond.constantLong RX2 47 (60 : Int64) ∈ jj_ws := jj_in 730 (by decide +kernel) rfl
theorem ml2_49 : Cond.methodLink RX2 49 yX2_commonDivisor ∈ jj_ws := jj_in 731 (by decide +kernel) rfl
theorem mlL_127 : Cond.methodLink RL 127 yX6_count ∈ jj_ws := jj_in 734 (by decide +kernel) rfl
theorem ml6_241 : Cond.methodLink RX6 241 yX5_wallCount ∈ jj_ws := jj_in 738 (by decide +kernel) rfl
theorem ml5_61 : Cond.methodLink RX5 61 yX5_sidesClosed ∈ jj_ws := jj_in 742 (by decide +kernel) rfl
theorem ml6_244 : Cond.methodLink RX6 244 yX6_taxOfAll ∈ jj_ws := jj_in 743 (by decide +kernel) rfl
theorem ml6_247 : Cond.methodLink RX6 247 yX5_insideCount ∈ jj_ws := jj_in 747 (by decide +kernel) rfl
theorem ml5_72 : Cond.methodLink RX5 72 yX5_insideOf ∈ jj_ws := jj_in 751 (by decide +kernel) rfl
theorem ml6_250 : Cond.methodLink RX6 250 yX3_length ∈ jj_ws := jj_in 752 (by decide +kernel) rfl
theorem nwL_10 : jj_nw RL 10 6 27 [.null, .null, .null, .null, .int 0, .int 0, .int 0, .int 0, .int 0, .int 0, .null, .int 0, .int 0, .long 0, .int 0, .int 0, .int 0, .int 0, .null, .null, .null, .null, .null, .null, .null, .null, .null] := ⟨_, _, _, jj_cl6, jj_in 756 (by decide +kernel) rfl, jj_in 757 (by decide +kernel) rfl, jj_in 54 (by decide +kernel) rfl, fun j hj => by rcases (show j = 0 ∨ j = 1 ∨ j = 2 ∨ j = 3 ∨ j = 4 ∨ j = 5 ∨ j = 6 ∨ j = 7 ∨ j = 8 ∨ j = 9 ∨ j = 10 ∨ j = 11 ∨ j = 12 ∨ j = 13 ∨ j = 14 ∨ j = 15 ∨ j = 16 ∨ j = 17 ∨ j = 18 ∨ j = 19 ∨ j = 20 ∨ j = 21 ∨ j = 22 ∨ j = 23 ∨ j = 24 ∨ j = 25 ∨ j = 26 by omega) with rfl | rfl | rfl | rfl | rfl | rfl | rfl | rfl | rfl | rfl | rfl | rfl | rfl | rfl | rfl | rfl | rfl | rfl | rfl | rfl | rfl | rfl | rfl | rfl | rfl | rfl | rfl <;> rfl, by decide +kernel⟩
theorem mlL_12 : Cond.methodLink RL 12 yX7_init ∈ jj_ws := jj_in 758 (by decide +kernel) rfl
theorem ml7_1 : Cond.methodLink RX7 1 objectInit ∈ jj_ws := jj_in 761 (by decide +kernel) rfl
theorem kc7_54 : Cond.constant RX7 54 (74565 : Int32) ∈ jj_ws := jj_in 762 (by decide +kernel) rfl
theorem ml7_55 : Cond.methodLink RX7 55 yX7_lay ∈ jj_ws := jj_in 763 (by decide +kernel) rfl
theorem kc7_59 : Cond.constant RX7 59 (109426 : Int32) ∈ jj_ws := jj_in 767 (by decide +kernel) rfl
theorem kc7_60 : Cond.constant RX7 60 (158595 : Int32) ∈ jj_ws := jj_in 768 (by decide +kernel) rfl
theorem kc7_61 : Cond.constant RX7 61 (228244 : Int32) ∈ jj_ws := jj_in 769 (by decide +kernel) rfl
theorem kc7_62 : Cond.constant RX7 62 (297893 : Int32) ∈ jj_ws := jj_in 770 (by decide +kernel) rfl
theorem kc7_63 : Cond.constant RX7 63 (367457 : Int32) ∈ jj_ws := jj_in 771 (by decide +kernel) rfl
theorem kc7_64 : Cond.constant RX7 64 (694390 : Int32) ∈ jj_ws := jj_in 772 (by decide +kernel) rfl
theorem jj_ac_boolean : Cond.arrayClass .boolean ∈ jj_ws := jj_in 855 (by decide +kernel) rfl
theorem mlL_19 : Cond.methodLink RL 19 yX7_write ∈ jj_ws := jj_in 856 (by decide +kernel) rfl
theorem ml7_65 : Cond.methodLink RX7 65 yX7_in ∈ jj_ws := jj_in 860 (by decide +kernel) rfl
theorem kc7_73 : Cond.constantLong RX7 73 (255 : Int64) ∈ jj_ws := jj_in 863 (by decide +kernel) rfl
theorem mlL_24 : Cond.methodLink RL 24 yX7_erase ∈ jj_ws := jj_in 864 (by decide +kernel) rfl
theorem mlL_28 : Cond.methodLink RL 28 yX7_fault ∈ jj_ws := jj_in 868 (by decide +kernel) rfl
theorem ml7_147 : Cond.methodLink RX7 147 yX7_isRead ∈ jj_ws := jj_in 872 (by decide +kernel) rfl
theorem ml7_144 : Cond.methodLink RX7 144 yX7_isLine ∈ jj_ws := jj_in 876 (by decide +kernel) rfl
theorem ml7_106 : Cond.methodLink RX7 106 yX7_nextToken ∈ jj_ws := jj_in 880 (by decide +kernel) rfl
theorem kc7_87 : Cond.constantLong RX7 87 (-2 : Int64) ∈ jj_ws := jj_in 884 (by decide +kernel) rfl
theorem kc7_93 : Cond.constantLong RX7 93 (27 : Int64) ∈ jj_ws := jj_in 885 (by decide +kernel) rfl
theorem kc7_95 : Cond.constantLong RX7 95 (96 : Int64) ∈ jj_ws := jj_in 886 (by decide +kernel) rfl
theorem kc7_97 : Cond.constantLong RX7 97 (-4 : Int64) ∈ jj_ws := jj_in 887 (by decide +kernel) rfl
theorem kc7_99 : Cond.constantLong RX7 99 (-1 : Int64) ∈ jj_ws := jj_in 888 (by decide +kernel) rfl
theorem kc7_101 : Cond.constantLong RX7 101 (-3 : Int64) ∈ jj_ws := jj_in 889 (by decide +kernel) rfl
theorem kc7_121 : Cond.constantLong RX7 121 (86870255 : Int64) ∈ jj_ws := jj_in 890 (by decide +kernel) rfl
theorem kc7_123 : Cond.constantLong RX7 123 (12384299 : Int64) ∈ jj_ws := jj_in 891 (by decide +kernel) rfl
theorem kc7_125 : Cond.constantLong RX7 125 (439970 : Int64) ∈ jj_ws := jj_in 892 (by decide +kernel) rfl
theorem kc7_127 : Cond.constantLong RX7 127 (456690 : Int64) ∈ jj_ws := jj_in 893 (by decide +kernel) rfl
theorem kc7_129 : Cond.constantLong RX7 129 (405230 : Int64) ∈ jj_ws := jj_in 894 (by decide +kernel) rfl
theorem kc7_131 : Cond.constantLong RX7 131 (453774 : Int64) ∈ jj_ws := jj_in 895 (by decide +kernel) rfl
theorem kc7_133 : Cond.constantLong RX7 133 (139055 : Int64) ∈ jj_ws := jj_in 896 (by decide +kernel) rfl
theorem kc7_135 : Cond.constantLong RX7 135 (10492150 : Int64) ∈ jj_ws := jj_in 897 (by decide +kernel) rfl
theorem ml7_113 : Cond.methodLink RX7 113 yX7_isNumber ∈ jj_ws := jj_in 898 (by decide +kernel) rfl
theorem ml7_109 : Cond.methodLink RX7 109 yX7_fails ∈ jj_ws := jj_in 902 (by decide +kernel) rfl
theorem ml7_137 : Cond.methodLink RX7 137 yX7_arePair ∈ jj_ws := jj_in 906 (by decide +kernel) rfl
theorem ml7_117 : Cond.methodLink RX7 117 yX7_sideOf ∈ jj_ws := jj_in 910 (by decide +kernel) rfl
theorem mlL_32 : Cond.methodLink RL 32 yX7_town ∈ jj_ws := jj_in 914 (by decide +kernel) rfl
theorem ml7_156 : Cond.methodLink RX7 156 yX7_doLine ∈ jj_ws := jj_in 918 (by decide +kernel) rfl
theorem mlL_37 : Cond.methodLink RL 37 yX7_beside ∈ jj_ws := jj_in 922 (by decide +kernel) rfl
theorem ml7_169 : Cond.methodLink RX7 169 yX7_isField ∈ jj_ws := jj_in 926 (by decide +kernel) rfl
theorem ml7_172 : Cond.methodLink RX7 172 yX7_isSide ∈ jj_ws := jj_in 929 (by decide +kernel) rfl
theorem mlL_41 : Cond.methodLink RL 41 yX7_side ∈ jj_ws := jj_in 932 (by decide +kernel) rfl
theorem mlL_45 : Cond.methodLink RL 45 yX7_far ∈ jj_ws := jj_in 936 (by decide +kernel) rfl
theorem ml7_178 : Cond.methodLink RX7 178 yX7_farOf ∈ jj_ws := jj_in 940 (by decide +kernel) rfl
theorem ml7_175 : Cond.methodLink RX7 175 yX7_has ∈ jj_ws := jj_in 944 (by decide +kernel) rfl
theorem mlL_50 : Cond.methodLink RL 50 yX7_other ∈ jj_ws := jj_in 947 (by decide +kernel) rfl
theorem mlL_55 : Cond.methodLink RL 55 yX7_goes ∈ jj_ws := jj_in 951 (by decide +kernel) rfl
theorem ml7_181 : Cond.methodLink RX7 181 yX7_layTurning ∈ jj_ws := jj_in 955 (by decide +kernel) rfl
theorem mlL_59 : Cond.methodLink RL 59 yX7_field ∈ jj_ws := jj_in 959 (by decide +kernel) rfl
theorem ml7_191 : Cond.methodLink RX7 191 yX7_taxOf ∈ jj_ws := jj_in 963 (by decide +kernel) rfl
theorem ml7_188 : Cond.methodLink RX7 188 yX7_openOfKind ∈ jj_ws := jj_in 967 (by decide +kernel) rfl
theorem ml7_184 : Cond.methodLink RX7 184 yX7_openOf ∈ jj_ws := jj_in 971 (by decide +kernel) rfl
theorem mlL_63 : Cond.methodLink RL 63 yX7_as ∈ jj_ws := jj_in 975 (by decide +kernel) rfl
theorem mlL_67 : Cond.methodLink RL 67 yX7_rotate ∈ jj_ws := jj_in 979 (by decide +kernel) rfl
theorem mlL_71 : Cond.methodLink RL 71 yX7_step ∈ jj_ws := jj_in 983 (by decide +kernel) rfl
theorem mlL_75 : Cond.methodLink RL 75 yX7_walker ∈ jj_ws := jj_in 987 (by decide +kernel) rfl
theorem mlL_79 : Cond.methodLink RL 79 yX7_keep ∈ jj_ws := jj_in 991 (by decide +kernel) rfl
theorem mlL_83 : Cond.methodLink RL 83 yX7_back ∈ jj_ws := jj_in 995 (by decide +kernel) rfl
theorem mlL_87 : Cond.methodLink RL 87 yX7_home ∈ jj_ws := jj_in 999 (by decide +kernel) rfl
theorem mlL_91 : Cond.methodLink RL 91 yX7_alike ∈ jj_ws := jj_in 1003 (by decide +kernel) rfl
theorem mlL_95 : Cond.methodLink RL 95 yX7_like ∈ jj_ws := jj_in 1007 (by decide +kernel) rfl
theorem mlL_100 : Cond.methodLink RL 100 yX7_fixed ∈ jj_ws := jj_in 1011 (by decide +kernel) rfl
theorem ml7_194 : Cond.methodLink RX7 194 yX7_fixedOf ∈ jj_ws := jj_in 1015 (by decide +kernel) rfl
theorem mlL_105 : Cond.methodLink RL 105 yX7_unlike ∈ jj_ws := jj_in 1019 (by decide +kernel) rfl
theorem kc7_198 : Cond.constantLong RX7 198 (60 : Int64) ∈ jj_ws := jj_in 1023 (by decide +kernel) rfl
theorem mlL_109 : Cond.methodLink RL 109 yX7_wardens ∈ jj_ws := jj_in 1024 (by decide +kernel) rfl
theorem ml7_200 : Cond.methodLink RX7 200 yX7_bits ∈ jj_ws := jj_in 1028 (by decide +kernel) rfl
theorem mlL_113 : Cond.methodLink RL 113 yX7_inside ∈ jj_ws := jj_in 1031 (by decide +kernel) rfl
theorem ml7_203 : Cond.methodLink RX7 203 yX7_insideOf ∈ jj_ws := jj_in 1035 (by decide +kernel) rfl
theorem mlL_117 : Cond.methodLink RL 117 yX7_rounds ∈ jj_ws := jj_in 1039 (by decide +kernel) rfl
theorem ml7_206 : Cond.methodLink RX7 206 yX7_layRounds ∈ jj_ws := jj_in 1043 (by decide +kernel) rfl
theorem mlL_121 : Cond.methodLink RL 121 yX7_walks ∈ jj_ws := jj_in 1047 (by decide +kernel) rfl
theorem ml7_210 : Cond.methodLink RX7 210 yX7_spread ∈ jj_ws := jj_in 1051 (by decide +kernel) rfl
theorem mlL_126 : Cond.methodLink RL 126 yX7_odds ∈ jj_ws := jj_in 1055 (by decide +kernel) rfl
theorem mlL_130 : Cond.methodLink RL 130 yX7_count ∈ jj_ws := jj_in 1059 (by decide +kernel) rfl
theorem kcL_13 : Cond.constantLong RL 13 (4294967295 : Int64) ∈ jj_ws := jj_in 1063 (by decide +kernel) rfl
theorem fsJ0_9 : Cond.fieldLink RJ0 9 "java/lang/String" "value" "[B" ∈ jj_ws := jj_in 1064 (by decide +kernel) rfl
theorem fsJ0_15 : Cond.fieldLink RJ0 15 "java/lang/String" "coder" "B" ∈ jj_ws := jj_in 1065 (by decide +kernel) rfl
end
section
/-! bits and numbers (begun from kit/laws), loops, leaves -/
def bt (x : Int32) (i : Nat) : Bool := x.toBitVec.getLsbD i
theorem b_ext {x y : Int32} (h : ∀ i, i < 32 → bt x i = bt y i) : x = y := Int32.toBitVec_inj.mp (BitVec.eq_of_getLsbD_eq (fun i hi => h i hi))
theorem b_or (x y : Int32) (i : Nat) : bt (x ||| y) i = (bt x i || bt y i) := by unfold bt; rw [Int32.toBitVec_or, BitVec.getLsbD_or]
theorem b_and (x y : Int32) (i : Nat) : bt (x &&& y) i = (bt x i && bt y i) := by unfold bt; rw [Int32.toBitVec_and, BitVec.getLsbD_and]
theorem b_xor (x y : Int32) (i : Nat) : bt (x ^^^ y) i = (bt x i ^^ bt y i) := by unfold bt; rw [Int32.toBitVec_xor, BitVec.getLsbD_xor]
theorem b_big {x : Int32} {i : Nat} (h : 32 ≤ i) : bt x i = false := BitVec.getLsbD_of_ge _ _ h
theorem b_m1 : ∀ i, i < 32 → bt (-1) i = true := by decide +kernel
theorem b_0 (i : Nat) : bt 0 i = false := BitVec.getLsbD_zero
theorem s_l : ∀ n, n < 32 → ((nI n &&& 31).toBitVec.smod 32).toNat = n := by decide +kernel
theorem s_u : ∀ n, n < 32 → (((nI n).toUInt32 &&& Int32.toUInt32 31).toBitVec % 32).toNat = n := by decide +kernel
theorem b_shl (n : Nat) (hn : n < 32) (x : Int32) {i : Nat} (hi : i < 32) : bt (x <<< (nI n &&& 31)) i = (decide (n ≤ i) && bt x (i - n)) := by
  unfold bt
  rw [Int32.toBitVec_shiftLeft]
  show (x.toBitVec <<< ((nI n &&& 31).toBitVec.smod 32).toNat).getLsbD i = _
  rw [s_l n hn, BitVec.getLsbD_shiftLeft]
  rcases Nat.lt_or_ge i n with h | h
  · simp [h, Nat.not_le.mpr h]
  · simp [hi, h, Nat.not_lt.mpr h]
theorem b_ushr (n : Nat) (hn : n < 32) (x : Int32) (i : Nat) : bt ((x.toUInt32 >>> ((nI n).toUInt32 &&& Int32.toUInt32 31)).toInt32) i = bt x (n + i) := by
  show (x.toUInt32 >>> ((nI n).toUInt32 &&& Int32.toUInt32 31)).toBitVec.getLsbD i = x.toUInt32.toBitVec.getLsbD (n + i)
  rw [UInt32.toBitVec_shiftRight]
  show (x.toUInt32.toBitVec >>> (((nI n).toUInt32 &&& Int32.toUInt32 31).toBitVec % 32).toNat).getLsbD i = _
  rw [s_u n hn, BitVec.getLsbD_ushiftRight]
theorem b_sshr (n : Nat) (hn : n < 32) (x : Int32) {i : Nat} (hi : i < 32) : bt (x >>> (nI n &&& 31)) i = if n + i < 32 then bt x (n + i) else bt x 31 := by
  unfold bt
  rw [Int32.toBitVec_shiftRight]
  show (x.toBitVec.sshiftRight ((nI n &&& 31).toBitVec.smod 32).toNat).getLsbD i = _
  rw [s_l n hn, BitVec.getLsbD_sshiftRight, BitVec.msb_eq_getLsbD_last]
  simp [hi]
theorem fa_lit (n : Nat) : (OfNat.ofNat n : Int32) = nI n := rfl
theorem fa_litL (n : Nat) : (OfNat.ofNat n : Int64) = lN n := rfl
/-! ===== bits of a number: 'or', masks, one bit ===== -/
theorem fa_and (a b : Nat) : nI a &&& nI b = nI (a &&& b) := by
  apply Int32.toBitVec_inj.1
  show BitVec.ofNat 32 a &&& BitVec.ofNat 32 b = BitVec.ofNat 32 (a &&& b)
  apply BitVec.eq_of_getLsbD_eq
  intro i hi
  simp [hi]
theorem fa_or (a b : Nat) : nI a ||| nI b = nI (a ||| b) := by
  apply Int32.toBitVec_inj.1
  show BitVec.ofNat 32 a ||| BitVec.ofNat 32 b = BitVec.ofNat 32 (a ||| b)
  apply BitVec.eq_of_getLsbD_eq
  intro i hi
  simp [hi]
/-- a remainder by a power of two, as a mask -/
theorem fa_mask (n k : Nat) : nI n &&& nI (2 ^ k - 1) = nI (n % 2 ^ k) := by rw [fa_and, Nat.and_two_pow_sub_one_eq_mod]
/-- 'or' of a high part and a low one that don't meet is their sum -/
theorem fa_or_sum {a k : Nat} (b : Nat) (h : a < 2 ^ k) : nI (2 ^ k * b) ||| nI a = nI (2 ^ k * b + a) := by rw [fa_or, Nat.two_pow_add_eq_or_of_lt h]
/-- one bit, by 'and' with a power of two -/

def jb_b (p : Prop) [Decidable p] : Int32 := if p then 1 else 0
theorem jb_b01 (p : Prop) [Decidable p] : jb_b p = 0 ∨ jb_b p = 1 := by unfold jb_b; split <;> simp
theorem jb_bt {p : Prop} [Decidable p] (h : p) : jb_b p = 1 := if_pos h
theorem jb_bf {p : Prop} [Decidable p] (h : ¬ p) : jb_b p = 0 := if_neg h
theorem jb_b0 {p : Prop} [Decidable p] (h : jb_b p = 0) : ¬ p := fun q => by rw [jb_bt q] at h; exact absurd h (by decide)
theorem jb_b1 {p : Prop} [Decidable p] (h : ¬ jb_b p = 0) : p := Classical.byContradiction fun q => h (jb_bf q)
theorem jb_nb (a i : Nat) (hi : i < 32) : bt (nI a) i = a.testBit i := by
  show (BitVec.ofNat 32 a).getLsbD i = _
  rw [BitVec.getLsbD_ofNat]
  simp [hi]
theorem jb_1 : ∀ i, i < 32 → bt 1 i = decide (i = 0) := by decide +kernel
/-- one bit of a set -/
theorem jb_sh {a k : Nat} (ha : a < 2 ^ 31) (hk : k < 31) : (nI a >>> (nI k &&& 31)) &&& 1 = jb_b (a.testBit k = true) := by
  apply b_ext
  intro i hi
  rw [b_and, b_sshr k (by omega) _ hi, jb_1 i hi]
  by_cases h0 : i = 0
  · subst h0
    rw [if_pos (by omega), jb_nb _ _ (by omega), Nat.add_zero]
    unfold jb_b
    by_cases hb : a.testBit k = true
    · rw [if_pos hb, hb, jb_1 0 (by decide)]
      rfl
    · rw [if_neg hb, b_0]
      simp at hb
      rw [hb]
      rfl
  · rw [decide_eq_false h0, Bool.and_false]
    unfold jb_b
    split
    · rw [jb_1 i hi, decide_eq_false h0]
    · rw [b_0]
theorem jb_2k : ∀ k, k < 31 → (1 : Int32) <<< (nI k &&& 31) = nI (2 ^ k) := by decide +kernel
theorem jb_i (k : Nat) : nI k + Int32.ofInt 1 = nI (k + 1) := (nI_succ k).symm
theorem jb_ge {k n : Nat} (h : k < n) (hn : n < 2 ^ 31) : ¬ (OfNat.ofNat n : Int32) ≤ nI k := nI_ge h hn
theorem jb_ge' {n : Nat} (hn : n < 2 ^ 31) : (OfNat.ofNat n : Int32) ≤ nI n := nI_le (Nat.le_refl n) hn
theorem jb_lt0 {k : Nat} (hk : k < 2 ^ 31) : ¬ nI k < 0 := nI_pos hk
theorem jb_inj {a b : Nat} (ha : a < 2 ^ 31) (hb : b < 2 ^ 31) : nI a = nI b ↔ a = b := by
  constructor
  · intro h
    have := congrArg Int32.toInt h
    rw [nI_toInt ha, nI_toInt hb] at this
    omega
  · intro h; rw [h]
/-- a number within -/
theorem jb_num {x : Int32} {n : Nat} (h : 0 ≤ x) (h2 : x < OfNat.ofNat n) (hn : n < 2 ^ 31) : ∃ k, k < n ∧ x = nI k := by
  refine ⟨x.toNatClampNeg, ?_, ?_⟩
  · have h3 := Int32.lt_iff_toInt_lt.mp h2
    have h4 : (OfNat.ofNat n : Int32).toInt = (n : Int) := nI_toInt hn
    have h5 := Int32.le_iff_toInt_le.mp h
    rw [h4] at h3
    have h6 : (0 : Int32).toInt = 0 := rfl
    rw [h6] at h5
    show x.toInt.toNat < n
    omega
  · have h5 := Int32.le_iff_toInt_le.mp h
    have h6 : (0 : Int32).toInt = 0 := rfl
    rw [h6] at h5
    apply Int32.toInt_inj.mp
    have h3 := Int32.lt_iff_toInt_lt.mp h2
    have h4 : (OfNat.ofNat n : Int32).toInt = (n : Int) := nI_toInt hn
    rw [h4] at h3
    rw [nI_toInt (by show x.toInt.toNat < _; omega)]
    show x.toInt = (x.toInt.toNat : Int)
    omega
/-- an index within, by its number -/
theorem jb_in {k n : Nat} (h : k < n) (hn : n ≤ 2 ^ 31) : vp_in (nI k) n := by
  have hk : k < 2 ^ 31 := Nat.lt_of_lt_of_le h hn
  intro q
  rcases q with q | q
  · exact nI_pos hk q
  · rw [nI_clamp hk] at q
    omega
section JL
variable {G : jj_G} {M : jj_M} {d pc : Nat} {lo : List (Option Value)} {st : List Value} {h : List jj_C} {kc ks : Nat} {r : Option Value} {h' : List jj_C}
theorem jj_leaf (hd : decode (jj_b M) pc = .ok (jj_rI (jj_r M), 1)) (hst : st = r.toList) (hh : h = h') : jj_Go G M d pc lo st h 0 0 r h' := by
  subst hh
  exact jj_ret hd hst
end JL
/-- a loop: from place n back to place k -/
theorem jj_up {S : Nat → Prop} (n : Nat) (step : ∀ k, k < n → S (k + 1) → S k) (fin : S n) : ∀ k, k ≤ n → S k := by
  intro k hk
  obtain ⟨j, rfl⟩ : ∃ j, n = k + j := ⟨n - k, by omega⟩
  clear hk
  have key : ∀ j i, i + j = k + j + 0 → True := fun _ _ _ => trivial
  clear key
  have main : ∀ m, m ≤ j → S (k + j - m) := by
    intro m
    induction m with
    | zero => intro _; exact fin
    | succ m ih =>
      intro hm
      have h1 := ih (by omega)
      refine step _ (by omega) ?_
      rw [show k + j - (m + 1) + 1 = k + j - m by omega]
      exact h1
  have := main j (Nat.le_refl j)
  rwa [show k + j - j = k by omega] at this
end
section
/-! rows of numbers told as functions: jv n f -/
def jv {α : Type} (n : Nat) (f : Nat → α) : List α := (List.range n).map f
theorem jv_len {α : Type} (n : Nat) (f : Nat → α) : (jv n f).length = n := by simp [jv]
theorem jv_get {α : Type} {n k : Nat} (f : Nat → α) (y : α) (hk : k < n) : (jv n f).getD k y = f k := by
  unfold jv
  rw [List.getD_eq_getElem?_getD, List.getElem?_map, List.getElem?_range hk]
  rfl
/-- one place is another -/
def jU {α : Type} (f : Nat → α) (k : Nat) (x : α) : Nat → α := fun j => if j = k then x else f j
theorem jU_at {α : Type} (f : Nat → α) (k : Nat) (x : α) : jU f k x k = x := if_pos rfl
theorem jU_ne {α : Type} (f : Nat → α) {k j : Nat} (x : α) (h : j ≠ k) : jU f k x j = f j := if_neg h
theorem jv_set {α : Type} (n : Nat) (f : Nat → α) (k : Nat) (x : α) : (jv n f).set k x = jv n (jU f k x) := by
  unfold jv
  apply List.ext_getElem?
  intro i
  rw [List.getElem?_set, List.getElem?_map, List.getElem?_map]
  simp only [List.length_map, List.length_range]
  by_cases hi : k = i
  · subst hi
    by_cases hl : k < n
    · rw [if_pos rfl, if_pos hl, List.getElem?_range hl]
      simp [jU]
    · rw [if_pos rfl, if_neg hl, List.getElem?_eq_none (by simp; omega)]
      rfl
  · rw [if_neg hi]
    cases h : (List.range n)[i]? with
    | none => rfl
    | some j =>
      have : j = i := by
        have h2 := List.getElem?_eq_some_iff.mp h
        obtain ⟨h3, h4⟩ := h2
        simp at h4
        exact h4.symm
      subst this
      simp [jU, Ne.symm hi]
theorem jv_cong {α : Type} {n : Nat} {f g : Nat → α} (h : ∀ k, k < n → f k = g k) : jv n f = jv n g := by
  unfold jv
  exact List.map_congr_left fun k hk => h k (List.mem_range.mp hk)
theorem jv_rep {α : Type} (n : Nat) (x : α) : List.replicate n x = jv n (fun _ => x) := by
  unfold jv
  apply List.ext_getElem?
  intro i
  rw [List.getElem?_replicate, List.getElem?_map]
  by_cases h : i < n
  · rw [if_pos h, List.getElem?_range h]
    rfl
  · rw [if_neg h, List.getElem?_eq_none (by simp; omega)]
    rfl
section JV
variable {G : jj_G} {M : jj_M} {d pc : Nat} {lo : List (Option Value)} {st : List Value} {h : List jj_C} {kc ks : Nat} {r : Option Value} {h' : List jj_C}
theorem jv_iald {a n k : Nat} {f : Nat → Int32} (hd : decode (jj_b M) pc = .ok (.iaload, 1)) (ho : h[a]? = some (.inr (.inl (jv n f)))) (hk : k < n) (hn : n ≤ 2 ^ 31) (K : jj_Go G M d (pc + 1) lo (.int (f k) :: st) h kc ks r h') : jj_Go G M d pc lo (.int (nI k) :: .ref a :: st) h kc ks r h' := by
  have hk' : k < 2 ^ 31 := Nat.lt_of_lt_of_le hk hn
  exact jj_iald hd ho (by rw [jv_len]; exact jb_in hk hn) (by rw [nI_clamp hk', jv_get f _ hk]) K
theorem jv_alen_i {a n : Nat} {f : Nat → Int32} {v : Int32} (hd : decode (jj_b M) pc = .ok (.arraylength, 1)) (ho : h[a]? = some (.inr (.inl (jv n f)))) (hv : nI n = v) (K : jj_Go G M d (pc + 1) lo (.int v :: st) h kc ks r h') : jj_Go G M d pc lo (.ref a :: st) h kc ks r h' := jj_alen_i hd ho (by rw [jv_len]; exact hv) K
theorem jv_zald {a n k : Nat} {f : Nat → Int32} (hd : decode (jj_b M) pc = .ok (.baload, 1)) (ho : h[a]? = some (.inr (.inr (.inl (jv n f))))) (hk : k < n) (hn : n ≤ 2 ^ 31) (K : jj_Go G M d (pc + 1) lo (.int (f k) :: st) h kc ks r h') : jj_Go G M d pc lo (.int (nI k) :: .ref a :: st) h kc ks r h' := by
  have hk' : k < 2 ^ 31 := Nat.lt_of_lt_of_le hk hn
  exact jj_zald hd ho (by rw [jv_len]; exact jb_in hk hn) (by rw [nI_clamp hk', jv_get f _ hk]) K
theorem jv_alen_z {a n : Nat} {f : Nat → Int32} {v : Int32} (hd : decode (jj_b M) pc = .ok (.arraylength, 1)) (ho : h[a]? = some (.inr (.inr (.inl (jv n f))))) (hv : nI n = v) (K : jj_Go G M d (pc + 1) lo (.int v :: st) h kc ks r h') : jj_Go G M d pc lo (.ref a :: st) h kc ks r h' := jj_alen_z hd ho (by rw [jv_len]; exact hv) K
theorem jv_lald {a n k : Nat} {f : Nat → Int64} (hd : decode (jj_b M) pc = .ok (.laload, 1)) (ho : h[a]? = some (.inr (.inr (.inr (jv n f))))) (hk : k < n) (hn : n ≤ 2 ^ 31) (K : jj_Go G M d (pc + 1) lo (.long (f k) :: st) h kc ks r h') : jj_Go G M d pc lo (.int (nI k) :: .ref a :: st) h kc ks r h' := by
  have hk' : k < 2 ^ 31 := Nat.lt_of_lt_of_le hk hn
  exact jj_lald hd ho (by rw [jv_len]; exact jb_in hk hn) (by rw [nI_clamp hk', jv_get f _ hk]) K
theorem jv_alen_l {a n : Nat} {f : Nat → Int64} {v : Int32} (hd : decode (jj_b M) pc = .ok (.arraylength, 1)) (ho : h[a]? = some (.inr (.inr (.inr (jv n f))))) (hv : nI n = v) (K : jj_Go G M d (pc + 1) lo (.int v :: st) h kc ks r h') : jj_Go G M d pc lo (.ref a :: st) h kc ks r h' := jj_alen_l hd ho (by rw [jv_len]; exact hv) K
theorem jv_iast {a n k : Nat} {f : Nat → Int32} {x : Int32} {h2 : List jj_C} (hd : decode (jj_b M) pc = .ok (.iastore, 1)) (ho : h[a]? = some (.inr (.inl (jv n f)))) (hk : k < n) (hn : n ≤ 2 ^ 31) (hh : h.set a (.inr (.inl (jv n (jU f k x)))) = h2) (K : jj_Go G M d (pc + 1) lo st h2 kc ks r h') : jj_Go G M d pc lo (.int x :: .int (nI k) :: .ref a :: st) h kc ks r h' := by
  have hk' : k < 2 ^ 31 := Nat.lt_of_lt_of_le hk hn
  exact jj_iast hd ho (by rw [jv_len]; exact jb_in hk hn) (by rw [nI_clamp hk', jv_set]) hh K
theorem jv_zast {a n k : Nat} {f : Nat → Int32} {x : Int32} {h2 : List jj_C} (hd : decode (jj_b M) pc = .ok (.bastore, 1)) (ho : h[a]? = some (.inr (.inr (.inl (jv n f))))) (hk : k < n) (hn : n ≤ 2 ^ 31) (hh : h.set a (.inr (.inr (.inl (jv n (jU f k (x &&& 1)))))) = h2) (K : jj_Go G M d (pc + 1) lo st h2 kc ks r h') : jj_Go G M d pc lo (.int x :: .int (nI k) :: .ref a :: st) h kc ks r h' := by
  have hk' : k < 2 ^ 31 := Nat.lt_of_lt_of_le hk hn
  exact jj_zast hd ho (by rw [jv_len]; exact jb_in hk hn) (by rw [nI_clamp hk', jv_set]) hh K
theorem jv_last {a n k : Nat} {f : Nat → Int64} {x : Int64} {h2 : List jj_C} (hd : decode (jj_b M) pc = .ok (.lastore, 1)) (ho : h[a]? = some (.inr (.inr (.inr (jv n f))))) (hk : k < n) (hn : n ≤ 2 ^ 31) (hh : h.set a (.inr (.inr (.inr (jv n (jU f k x))))) = h2) (K : jj_Go G M d (pc + 1) lo st h2 kc ks r h') : jj_Go G M d pc lo (.long x :: .int (nI k) :: .ref a :: st) h kc ks r h' := by
  have hk' : k < 2 ^ 31 := Nat.lt_of_lt_of_le hk hn
  exact jj_last hd ho (by rw [jv_len]; exact jb_in hk hn) (by rw [nI_clamp hk', jv_set]) hh K
end JV
end
section
/-! THE BALL: Math's functions, the bits of a number, the table -/
theorem jb_outL {x : Int32} {n : Int32} (h : x < 0) : ¬ (0 ≤ x ∧ x < n) := fun q => absurd h (Int32.not_lt.mpr q.1)
theorem jb_outR {x : Int32} {n : Int32} (h : n ≤ x) : ¬ (0 ≤ x ∧ x < n) := fun q => absurd q.2 (Int32.not_lt.mpr h)
theorem jb_ins {x : Int32} {n : Int32} (h1 : ¬ x < 0) (h2 : ¬ n ≤ x) : 0 ≤ x ∧ x < n := ⟨Int32.not_lt.mp h1, Int32.not_le.mp h2⟩
theorem jb_insN {k n : Nat} (h : k < n) (hn : n < 2 ^ 31) : 0 ≤ nI k ∧ nI k < (OfNat.ofNat n : Int32) := ⟨nI_pos' (by omega), nI_lt h hn⟩
def jb_s (f s : Nat) : Nat := ([1, 2, 3, 4, 5, 0, 5, 10, 6, 2, 0, 1, 6, 7, 3, 0, 2, 7, 8, 4, 0, 3, 8, 9, 5, 0, 4, 9, 10, 1, 1, 10, 11, 7, 2, 2, 6, 11, 8, 3, 3, 7, 11, 9, 4, 4, 8, 11, 10, 5, 5, 9, 11, 6, 1, 10, 9, 8, 7, 6] : List Nat).getD (5 * f + s) 0
theorem jb_s_in : ∀ f, f < 12 → ∀ s, s < 5 → ¬ ((nI f * 5 + nI s) < 0 ∨ 60 ≤ (nI f * 5 + nI s).toNatClampNeg) := by decide +kernel
theorem jb_s_at : ∀ f, f < 12 → ∀ s, s < 5 → jj_sewn.getD (nI f * 5 + nI s).toNatClampNeg 0 = nI (jb_s f s) := by decide +kernel
theorem jb_s_lt : ∀ f, f < 12 → ∀ s, s < 5 → jb_s f s < 12 := by decide +kernel
set_option maxRecDepth 100000 in
set_option maxHeartbeats 4000000 in
theorem ev0_isField {G : jj_G} {h : List jj_C} (x : Int32) : jj_Ev G m0_isField 0 [.int x] (h) 0 0 (some (.int (jb_b (0 ≤ x ∧ x < 12)))) (h) := by
  refine jj_Ev_of (lo := [some (.int x)]) (by decide +kernel) (Nat.le_of_ble_eq_true rfl) rfl (jb_b01 _) ?_
  refine jj_iload_n dX0_isField_0 rfl ?_
  refine jj_if_lt (tgt := 14) dX0_isField_1 (by decide) (fun c1 => ?_) (fun c1 => ?_)
  · refine jj_iconst (v := 0) dX0_isField_14 (by decide) ?_
    exact jj_leaf dX0_isField_15 (by rw [jb_bf (jb_outL c1)]; rfl) rfl
  · refine jj_iload_n dX0_isField_4 rfl ?_
    refine jj_bipush (v := 12) dX0_isField_5 (by decide) ?_
    refine jj_icmp_ge (tgt := 14) dX0_isField_7 (by decide) (fun c7 => ?_) (fun c7 => ?_)
    · refine jj_iconst (v := 0) dX0_isField_14 (by decide) ?_
      exact jj_leaf dX0_isField_15 (by rw [jb_bf (jb_outR c7)]; rfl) rfl
    · refine jj_iconst (v := 1) dX0_isField_10 (by decide) ?_
      refine jj_goto (tgt := 15) dX0_isField_11 (by decide) ?_
      exact jj_leaf dX0_isField_15 (by rw [jb_bt (jb_ins c1 c7)]; rfl) rfl
theorem ev0_isField_v {G : jj_G} {h : List jj_C} {k : Nat} (hk : k < 12) : jj_Ev G m0_isField 0 [.int (nI k)] (h) 0 0 (some (.int 1)) (h) := by
  have := ev0_isField (G := G) (h := h) (nI k)
  rwa [jb_bt (jb_insN hk (by decide))] at this
set_option maxRecDepth 100000 in
set_option maxHeartbeats 4000000 in
theorem ev0_isSide {G : jj_G} {h : List jj_C} (x : Int32) : jj_Ev G m0_isSide 0 [.int x] (h) 0 0 (some (.int (jb_b (0 ≤ x ∧ x < 5)))) (h) := by
  refine jj_Ev_of (lo := [some (.int x)]) (by decide +kernel) (Nat.le_of_ble_eq_true rfl) rfl (jb_b01 _) ?_
  refine jj_iload_n dX0_isSide_0 rfl ?_
  refine jj_if_lt (tgt := 13) dX0_isSide_1 (by decide) (fun c1 => ?_) (fun c1 => ?_)
  · refine jj_iconst (v := 0) dX0_isSide_13 (by decide) ?_
    exact jj_leaf dX0_isSide_14 (by rw [jb_bf (jb_outL c1)]; rfl) rfl
  · refine jj_iload_n dX0_isSide_4 rfl ?_
    refine jj_iconst (v := 5) dX0_isSide_5 (by decide) ?_
    refine jj_icmp_ge (tgt := 13) dX0_isSide_6 (by decide) (fun c6 => ?_) (fun c6 => ?_)
    · refine jj_iconst (v := 0) dX0_isSide_13 (by decide) ?_
      exact jj_leaf dX0_isSide_14 (by rw [jb_bf (jb_outR c6)]; rfl) rfl
    · refine jj_iconst (v := 1) dX0_isSide_9 (by decide) ?_
      refine jj_goto (tgt := 14) dX0_isSide_10 (by decide) ?_
      exact jj_leaf dX0_isSide_14 (by rw [jb_bt (jb_ins c1 c6)]; rfl) rfl
theorem ev0_isSide_v {G : jj_G} {h : List jj_C} {k : Nat} (hk : k < 5) : jj_Ev G m0_isSide 0 [.int (nI k)] (h) 0 0 (some (.int 1)) (h) := by
  have := ev0_isSide (G := G) (h := h) (nI k)
  rwa [jb_bt (jb_insN hk (by decide))] at this
set_option maxRecDepth 100000 in
set_option maxHeartbeats 4000000 in
theorem ev0_holds {G : jj_G} {h : List jj_C} {a k : Nat} (ha : a < 2 ^ 31) (hk : k < 12) : jj_Ev G m0_holds 1 [.int (nI a), .int (nI k)] (h) 0 0 (some (.int (jb_b (a.testBit k = true)))) (h) := by
  refine jj_Ev_of (lo := [some (.int (nI a)), some (.int (nI k))]) (by decide +kernel) (Nat.le_of_ble_eq_true rfl) rfl (jb_b01 _) ?_
  refine jj_iload_n dX0_holds_0 rfl ?_
  refine jj_callS (M2 := m0_isField) dX0_holds_1 ml0_9 tm0_isField (ev0_isField_v hk) rfl rfl (by decide) (Nat.le_of_ble_eq_true rfl) ?_
  refine jj_if_eq (tgt := 19) dX0_holds_4 (by decide) (fun q => absurd q (by decide)) (fun _ => ?_)
  refine jj_iload_n dX0_holds_7 rfl ?_
  refine jj_iload_n dX0_holds_8 rfl ?_
  refine jj_ishr dX0_holds_9 rfl ?_
  refine jj_iconst (v := 1) dX0_holds_10 (by decide) ?_
  refine jj_iand dX0_holds_11 (jb_sh ha (by omega)) ?_
  refine jj_if_eq (tgt := 19) dX0_holds_12 (by decide) (fun c12 => ?_) (fun c12 => ?_)
  · refine jj_iconst (v := 0) dX0_holds_19 (by decide) ?_
    exact jj_leaf dX0_holds_20 (by rw [c12]; rfl) rfl
  · refine jj_iconst (v := 1) dX0_holds_15 (by decide) ?_
    refine jj_goto (tgt := 20) dX0_holds_16 (by decide) ?_
    exact jj_leaf dX0_holds_20 (by rw [jb_bt (jb_b1 c12)]; rfl) rfl
theorem jb_xor0 {a b : Nat} (ha : a < 2 ^ 31) (hb : b < 2 ^ 31) : 0 ≤ nI a ^^^ nI b := by
  have e : nI a ^^^ nI b = nI (a ^^^ b) := by
    apply b_ext
    intro i hi
    rw [b_xor, jb_nb _ _ hi, jb_nb _ _ hi, jb_nb _ _ hi, Nat.testBit_xor]
  rw [e]
  exact nI_pos' (Nat.xor_lt_two_pow ha hb)
set_option maxRecDepth 100000 in
set_option maxHeartbeats 4000000 in
theorem evJ9_floorMod {G : jj_G} {h : List jj_C} {a b : Nat} (ha : a < 2 ^ 31) (hb0 : 0 < b) (hb : b < 2 ^ 31) : jj_Ev G mJ9_floorMod 0 [.int (nI a), .int (nI b)] (h) 0 0 (some (.int (nI (a % b)))) (h) := by
  refine jj_Ev_of (lo := [some (.int (nI a)), some (.int (nI b)), none]) (by decide +kernel) (Nat.le_of_ble_eq_true rfl) rfl (by trivial) ?_
  refine jj_iload_n dJ9_floorMod_7cf53_0 rfl ?_
  refine jj_iload_n dJ9_floorMod_7cf53_1 rfl ?_
  refine jj_irem dJ9_floorMod_7cf53_2 (nI_ne0 hb0 hb) (pk_rem ha hb0 hb) ?_
  refine jj_istore_n dJ9_floorMod_7cf53_3 rfl (by decide) rfl ?_
  refine jj_iload_n dJ9_floorMod_7cf53_4 rfl ?_
  refine jj_iload_n dJ9_floorMod_7cf53_5 rfl ?_
  refine jj_ixor dJ9_floorMod_7cf53_6 rfl ?_
  refine jj_if_ge (tgt := 18) dJ9_floorMod_7cf53_7 (by decide) (fun _ => ?_) (fun q => absurd (jb_xor0 ha hb) q)
  refine jj_iload_n dJ9_floorMod_7cf53_18 rfl ?_
  exact jj_leaf dJ9_floorMod_7cf53_19 (by first | rfl | simp_all) rfl
set_option maxRecDepth 100000 in
set_option maxHeartbeats 4000000 in
theorem ev0_on {G : jj_G} {h : List jj_C} {s t : Nat} (hs : s < 5) (ht : t < 5) : jj_Ev G m0_on 1 [.int (nI s), .int (nI t)] (h) 0 0 (some (.int (nI ((s + t) % 5)))) (h) := by
  refine jj_Ev_of (lo := [some (.int (nI s)), some (.int (nI t))]) (by decide +kernel) (Nat.le_of_ble_eq_true rfl) rfl (by trivial) ?_
  refine jj_iload_n dX0_on_0 rfl ?_
  refine jj_iload_n dX0_on_1 rfl ?_
  refine jj_iadd dX0_on_2 (show nI s + nI t = nI (s + t) from nI_add s t) ?_
  refine jj_iconst (v := 5) dX0_on_3 (by decide) ?_
  refine jj_callS (M2 := mJ9_floorMod) dX0_on_4 ml0_15 tmJ9_floorMod (evJ9_floorMod (a := s + t) (b := 5) (by omega) (by decide) (by decide)) rfl rfl (by decide) (Nat.le_of_ble_eq_true rfl) ?_
  exact jj_leaf dX0_on_7 (by first | rfl | simp_all) rfl
set_option maxRecDepth 100000 in
set_option maxHeartbeats 4000000 in
theorem ev0_across {G : jj_G} {h : List jj_C} {f s : Nat} (hf : f < 12) (hs : s < 5) : jj_Ev G m0_across 1 [.int (nI f), .int (nI s)] (h) 0 0 (some (.int (nI (jb_s f s)))) (h) := by
  refine jj_Ev_of (lo := [some (.int (nI f)), some (.int (nI s))]) (by decide +kernel) (Nat.le_of_ble_eq_true rfl) rfl (by trivial) ?_
  refine jj_iload_n dX0_across_0 rfl ?_
  refine jj_callS (M2 := m0_isField) dX0_across_1 ml0_9 tm0_isField (ev0_isField_v hf) rfl rfl (by decide) (Nat.le_of_ble_eq_true rfl) ?_
  refine jj_if_eq (tgt := 14) dX0_across_4 (by decide) (fun q => absurd q (by decide)) (fun _ => ?_)
  refine jj_iload_n dX0_across_7 rfl ?_
  refine jj_callS (M2 := m0_isSide) dX0_across_8 ml0_21 tm0_isSide (ev0_isSide_v hs) rfl rfl (by decide) (Nat.le_of_ble_eq_true rfl) ?_
  refine jj_if_ne (tgt := 17) dX0_across_11 (by decide) (fun _ => ?_) (fun q => absurd q (by decide))
  refine jj_gsewn dX0_across_17 fs0_24 ?_
  refine jj_iload_n dX0_across_20 rfl ?_
  refine jj_iconst (v := 5) dX0_across_21 (by decide) ?_
  refine jj_imul dX0_across_22 rfl ?_
  refine jj_iload_n dX0_across_23 rfl ?_
  refine jj_iadd dX0_across_24 rfl ?_
  refine jj_sewnld dX0_across_25 (jb_s_in f hf s hs) (jb_s_at f hf s hs) ?_
  exact jj_leaf dX0_across_26 (by first | rfl | simp_all) rfl
set_option maxRecDepth 100000 in
set_option maxHeartbeats 4000000 in
theorem ev0_across_b {G : jj_G} {h : List jj_C} (x y : Int32) (hb : ¬ ((0 ≤ x ∧ x < 12) ∧ (0 ≤ y ∧ y < 5))) : jj_Ev G m0_across 1 [.int x, .int y] (h) 0 0 (some (.int (-2))) (h) := by
  refine jj_Ev_of (lo := [some (.int x), some (.int y)]) (by decide +kernel) (Nat.le_of_ble_eq_true rfl) rfl (by trivial) ?_
  refine jj_iload_n dX0_across_0 rfl ?_
  refine jj_callS (M2 := m0_isField) dX0_across_1 ml0_9 tm0_isField (ev0_isField x) rfl rfl (by decide) (Nat.le_of_ble_eq_true rfl) ?_
  refine jj_if_eq (tgt := 14) dX0_across_4 (by decide) (fun c4 => ?_) (fun c4 => ?_)
  · refine jj_bipush (v := (-2)) dX0_across_14 (by decide) ?_
    exact jj_leaf dX0_across_16 rfl rfl
  · refine jj_iload_n dX0_across_7 rfl ?_
    refine jj_callS (M2 := m0_isSide) dX0_across_8 ml0_21 tm0_isSide (ev0_isSide y) rfl rfl (by decide) (Nat.le_of_ble_eq_true rfl) ?_
    refine jj_if_ne (tgt := 17) dX0_across_11 (by decide) (fun c11 => ?_) (fun c11 => ?_)
    · refine jj_gsewn dX0_across_17 fs0_24 ?_
      refine jj_iload_n dX0_across_20 rfl ?_
      refine jj_iconst (v := 5) dX0_across_21 (by decide) ?_
      refine jj_imul dX0_across_22 rfl ?_
      refine jj_iload_n dX0_across_23 rfl ?_
      refine jj_iadd dX0_across_24 rfl ?_
      exact absurd (And.intro (jb_b1 c4) (jb_b1 c11)) hb
    · refine jj_bipush (v := (-2)) dX0_across_14 (by decide) ?_
      exact jj_leaf dX0_across_16 rfl rfl
end
section
/-! THE BALL: sides, neighbours, distances -/
/-- the first place from k on, of n, at which p holds (k + n: none) -/
def jb_fst (p : Nat → Bool) : Nat → Nat → Nat
  | k, 0 => k
  | k, n + 1 => if p k = true then k else jb_fst p (k + 1) n
theorem jb_fst_no {p : Nat → Bool} {k n : Nat} (h : p k = false) (hk : k < n) : jb_fst p k (n - k) = jb_fst p (k + 1) (n - (k + 1)) := by
  obtain ⟨j, rfl⟩ : ∃ j, n = k + j + 1 := ⟨n - k - 1, by omega⟩
  rw [show k + j + 1 - k = j + 1 by omega, show k + j + 1 - (k + 1) = j by omega, jb_fst, if_neg (by rw [h]; decide)]
theorem jb_fst_yes {p : Nat → Bool} {k n : Nat} (h : p k = true) (hk : k < n) : jb_fst p k (n - k) = k := by
  obtain ⟨j, rfl⟩ : ∃ j, n = k + j + 1 := ⟨n - k - 1, by omega⟩
  rw [show k + j + 1 - k = j + 1 by omega, jb_fst, if_pos h]
theorem jb_fst_end (p : Nat → Bool) (n : Nat) : jb_fst p n (n - n) = n := by rw [Nat.sub_self]; rfl
/-- a place or none -/
def jb_pl (n k : Nat) : Int32 := if k < n then nI k else -1
def jb_sdN (f o : Nat) : Nat := jb_fst (fun s => jb_s f s == o) 0 5
def jb_sd (f o : Nat) : Int32 := jb_pl 5 (jb_sdN f o)
def jb_alk (f : Nat) : Nat → Nat
  | 0 => 0
  | k + 1 => jb_alk f k ||| 2 ^ jb_s f k
def jb_al (f : Nat) : Nat := jb_alk f 5
def jb_wt (a : Nat) : Nat → Nat
  | 0 => a
  | k + 1 => if a.testBit k = true then jb_wt a k ||| jb_al k else jb_wt a k
def jb_rc (f : Nat) : Nat → Nat
  | 0 => 2 ^ f
  | k + 1 => jb_wt (jb_rc f k) 12
def jb_far (f o : Nat) : Nat := jb_fst (fun k => (jb_rc f k).testBit o) 0 12
def jb_op (f : Nat) : Nat := jb_fst (fun o => jb_far f o == 3) 0 12
theorem jb_al_lt : ∀ f, f < 12 → jb_al f < 4096 := by decide +kernel
theorem jb_far_lt : ∀ f, f < 12 → ∀ o, o < 12 → jb_far f o < 4 := by decide +kernel
theorem jb_op_lt : ∀ f, f < 12 → jb_op f < 12 := by decide +kernel
theorem jb_wt_lt {a : Nat} (ha : a < 4096) : ∀ k, k ≤ 12 → jb_wt a k < 4096 := by
  intro k
  induction k with
  | zero => intro _; exact ha
  | succ k ih =>
    intro hk
    have h1 := ih (by omega)
    unfold jb_wt
    split
    · exact Nat.or_lt_two_pow (n := 12) h1 (jb_al_lt k (by omega))
    · exact h1
theorem jb_rc_lt {f : Nat} (hf : f < 12) : ∀ k, jb_rc f k < 4096 := by
  intro k
  induction k with
  | zero => exact Nat.pow_lt_pow_right (by decide) hf
  | succ k ih => exact jb_wt_lt ih 12 (Nat.le_refl 12)
set_option maxRecDepth 100000 in
set_option maxHeartbeats 4000000 in
theorem ev0_sideTo {G : jj_G} {h : List jj_C} {f o : Nat} (hf : f < 12) (ho : o < 12) : jj_Ev G m0_sideTo 2 [.int (nI f), .int (nI o)] (h) 0 0 (some (.int (jb_sd f o))) (h) := by
  refine jj_Ev_of (lo := [some (.int (nI f)), some (.int (nI o)), none]) (by decide +kernel) (Nat.le_of_ble_eq_true rfl) rfl (by trivial) ?_
  have L : ∀ k, k ≤ 5 → jj_Go G m0_sideTo 2 2 [some (.int (nI f)), some (.int (nI o)), some (.int (nI k))] [] (h) 0 0 (some (.int (jb_pl 5 (jb_fst (fun s => jb_s f s == o) k (5 - k))))) (h) := by
    refine jj_up 5 (fun k hk ih => ?_) ?_
    · refine jj_iload_n dX0_sideTo_2 rfl ?_
      refine jj_iconst (v := 5) dX0_sideTo_3 (by decide) ?_
      refine jj_icmp_ge (tgt := 31) dX0_sideTo_4 (by decide) (fun q => absurd q (jb_ge hk (by decide))) (fun _ => ?_)
      refine jj_iload_n dX0_sideTo_7 rfl ?_
      refine jj_callS (M2 := m0_isField) dX0_sideTo_8 ml0_9 tm0_isField (ev0_isField_v ho) rfl rfl (by decide) (Nat.le_of_ble_eq_true rfl) ?_
      refine jj_if_eq (tgt := 25) dX0_sideTo_11 (by decide) (fun q => absurd q (by decide)) (fun _ => ?_)
      refine jj_iload_n dX0_sideTo_14 rfl ?_
      refine jj_iload_n dX0_sideTo_15 rfl ?_
      refine jj_callS (M2 := m0_across) dX0_sideTo_16 ml0_28 tm0_across (ev0_across hf hk) rfl rfl (by decide) (Nat.le_of_ble_eq_true rfl) ?_
      refine jj_iload_n dX0_sideTo_19 rfl ?_
      refine jj_icmp_ne (tgt := 25) dX0_sideTo_20 (by decide) (fun c20 => ?_) (fun c20 => ?_)
      · refine jj_iinc dX0_sideTo_25 rfl (jb_i k) (by decide) rfl ?_
        refine jj_goto (tgt := 2) dX0_sideTo_28 (by decide) ?_
        rw [jb_fst_no (by simpa using fun q => c20 (by rw [q])) hk]
        exact ih
      · refine jj_iload_n dX0_sideTo_23 rfl ?_
        exact jj_leaf dX0_sideTo_24 (by rw [jb_fst_yes (by simpa using (jb_inj (by have := jb_s_lt f hf k hk; omega) (by omega)).mp c20) hk, jb_pl, if_pos hk]; rfl) rfl
    · refine jj_iload_n dX0_sideTo_2 rfl ?_
      refine jj_iconst (v := 5) dX0_sideTo_3 (by decide) ?_
      refine jj_icmp_ge (tgt := 31) dX0_sideTo_4 (by decide) (fun _ => ?_) (fun q => absurd (jb_ge' (n := 5) (by decide)) q)
      refine jj_iconst (v := (-1)) dX0_sideTo_31 (by decide) ?_
      exact jj_leaf dX0_sideTo_32 (by rw [jb_fst_end, jb_pl, if_neg (by decide)]; rfl) rfl
  refine jj_iconst (v := 0) dX0_sideTo_0 (by decide) ?_
  refine jj_istore_n dX0_sideTo_1 rfl (by decide) rfl ?_
  exact L 0 (by decide)
set_option maxRecDepth 100000 in
set_option maxHeartbeats 4000000 in
theorem ev0_sideTo_n {G : jj_G} {h : List jj_C} {f : Nat} (_hf : f < 12) : jj_Ev G m0_sideTo 2 [.int (nI f), .int (-1)] (h) 0 0 (some (.int (-1))) (h) := by
  refine jj_Ev_of (lo := [some (.int (nI f)), some (.int (-1)), none]) (by decide +kernel) (Nat.le_of_ble_eq_true rfl) rfl (by trivial) ?_
  have L : ∀ k, k ≤ 5 → jj_Go G m0_sideTo 2 2 [some (.int (nI f)), some (.int (-1)), some (.int (nI k))] [] (h) 0 0 (some (.int (-1))) (h) := by
    refine jj_up 5 (fun k hk ih => ?_) ?_
    · refine jj_iload_n dX0_sideTo_2 rfl ?_
      refine jj_iconst (v := 5) dX0_sideTo_3 (by decide) ?_
      refine jj_icmp_ge (tgt := 31) dX0_sideTo_4 (by decide) (fun q => absurd q (jb_ge hk (by decide))) (fun _ => ?_)
      refine jj_iload_n dX0_sideTo_7 rfl ?_
      refine jj_callS (M2 := m0_isField) dX0_sideTo_8 ml0_9 tm0_isField (ev0_isField (-1)) rfl rfl (by decide) (Nat.le_of_ble_eq_true rfl) ?_
      refine jj_if_eq (tgt := 25) dX0_sideTo_11 (by decide) (fun _ => ?_) (fun q => absurd (jb_bf (by decide)) q)
      refine jj_iinc dX0_sideTo_25 rfl (jb_i k) (by decide) rfl ?_
      refine jj_goto (tgt := 2) dX0_sideTo_28 (by decide) ?_
      exact ih
    · refine jj_iload_n dX0_sideTo_2 rfl ?_
      refine jj_iconst (v := 5) dX0_sideTo_3 (by decide) ?_
      refine jj_icmp_ge (tgt := 31) dX0_sideTo_4 (by decide) (fun _ => ?_) (fun q => absurd (jb_ge' (n := 5) (by decide)) q)
      refine jj_iconst (v := (-1)) dX0_sideTo_31 (by decide) ?_
      exact jj_leaf dX0_sideTo_32 rfl rfl
  refine jj_iconst (v := 0) dX0_sideTo_0 (by decide) ?_
  refine jj_istore_n dX0_sideTo_1 rfl (by decide) rfl ?_
  exact L 0 (by decide)
set_option maxRecDepth 100000 in
set_option maxHeartbeats 4000000 in
theorem ev0_allBeside {G : jj_G} {h : List jj_C} {f : Nat} (hf : f < 12) : jj_Ev G m0_allBeside 2 [.int (nI f)] (h) 0 0 (some (.int (nI (jb_al f)))) (h) := by
  refine jj_Ev_of (lo := [some (.int (nI f)), none, none]) (by decide +kernel) (Nat.le_of_ble_eq_true rfl) rfl (by trivial) ?_
  have L : ∀ k, k ≤ 5 → jj_Go G m0_allBeside 2 4 [some (.int (nI f)), some (.int (nI (jb_alk f k))), some (.int (nI k))] [] (h) 0 0 (some (.int (nI (jb_al f)))) (h) := by
    refine jj_up 5 (fun k hk ih => ?_) ?_
    · refine jj_iload_n dX0_allBeside_4 rfl ?_
      refine jj_iconst (v := 5) dX0_allBeside_5 (by decide) ?_
      refine jj_icmp_ge (tgt := 32) dX0_allBeside_6 (by decide) (fun q => absurd q (jb_ge hk (by decide))) (fun _ => ?_)
      refine jj_iload_n dX0_allBeside_9 rfl ?_
      refine jj_callS (M2 := m0_isField) dX0_allBeside_10 ml0_9 tm0_isField (ev0_isField_v hf) rfl rfl (by decide) (Nat.le_of_ble_eq_true rfl) ?_
      refine jj_if_eq (tgt := 32) dX0_allBeside_13 (by decide) (fun q => absurd q (by decide)) (fun _ => ?_)
      refine jj_iload_n dX0_allBeside_16 rfl ?_
      refine jj_iconst (v := 1) dX0_allBeside_17 (by decide) ?_
      refine jj_iload_n dX0_allBeside_18 rfl ?_
      refine jj_iload_n dX0_allBeside_19 rfl ?_
      refine jj_callS (M2 := m0_across) dX0_allBeside_20 ml0_28 tm0_across (ev0_across hf hk) rfl rfl (by decide) (Nat.le_of_ble_eq_true rfl) ?_
      refine jj_ishl dX0_allBeside_23 (jb_2k _ (by have := jb_s_lt f hf k hk; omega)) ?_
      refine jj_ior dX0_allBeside_24 (fa_or _ _) ?_
      refine jj_istore_n dX0_allBeside_25 rfl (by decide) rfl ?_
      refine jj_iinc dX0_allBeside_26 rfl (jb_i k) (by decide) rfl ?_
      refine jj_goto (tgt := 4) dX0_allBeside_29 (by decide) ?_
      exact ih
    · refine jj_iload_n dX0_allBeside_4 rfl ?_
      refine jj_iconst (v := 5) dX0_allBeside_5 (by decide) ?_
      refine jj_icmp_ge (tgt := 32) dX0_allBeside_6 (by decide) (fun _ => ?_) (fun q => absurd (jb_ge' (n := 5) (by decide)) q)
      refine jj_iload_n dX0_allBeside_32 rfl ?_
      exact jj_leaf dX0_allBeside_33 rfl rfl
  refine jj_iconst (v := 0) dX0_allBeside_0 (by decide) ?_
  refine jj_istore_n dX0_allBeside_1 rfl (by decide) rfl ?_
  refine jj_iconst (v := 0) dX0_allBeside_2 (by decide) ?_
  refine jj_istore_n dX0_allBeside_3 rfl (by decide) rfl ?_
  exact L 0 (by decide)
set_option maxRecDepth 100000 in
set_option maxHeartbeats 4000000 in
theorem ev0_withThoseBeside {G : jj_G} {h : List jj_C} {a : Nat} (ha : a < 4096) : jj_Ev G m0_withThoseBeside 3 [.int (nI a)] (h) 0 0 (some (.int (nI (jb_wt a 12)))) (h) := by
  refine jj_Ev_of (lo := [some (.int (nI a)), none, none]) (by decide +kernel) (Nat.le_of_ble_eq_true rfl) rfl (by trivial) ?_
  have L : ∀ k, k ≤ 12 → jj_Go G m0_withThoseBeside 3 4 [some (.int (nI a)), some (.int (nI (jb_wt a k))), some (.int (nI k))] [] (h) 0 0 (some (.int (nI (jb_wt a 12)))) (h) := by
    refine jj_up 12 (fun k hk ih => ?_) ?_
    · refine jj_iload_n dX0_withThoseBeside_4 rfl ?_
      refine jj_bipush (v := 12) dX0_withThoseBeside_5 (by decide) ?_
      refine jj_icmp_ge (tgt := 31) dX0_withThoseBeside_7 (by decide) (fun q => absurd q (jb_ge hk (by decide))) (fun _ => ?_)
      refine jj_iload_n dX0_withThoseBeside_10 rfl ?_
      refine jj_iload_n dX0_withThoseBeside_11 rfl ?_
      refine jj_callS (M2 := m0_holds) dX0_withThoseBeside_12 ml0_31 tm0_holds (ev0_holds (a := a) (by omega) hk) rfl rfl (by decide) (Nat.le_of_ble_eq_true rfl) ?_
      refine jj_if_eq (tgt := 25) dX0_withThoseBeside_15 (by decide) (fun c15 => ?_) (fun c15 => ?_)
      · refine jj_iinc dX0_withThoseBeside_25 rfl (jb_i k) (by decide) rfl ?_
        refine jj_goto (tgt := 4) dX0_withThoseBeside_28 (by decide) ?_
        unfold jb_wt at ih
        first | (rw [if_neg (jb_b0 c15)] at ih; exact ih) | (rw [if_pos (jb_b1 c15)] at ih; exact ih)
      · refine jj_iload_n dX0_withThoseBeside_18 rfl ?_
        refine jj_iload_n dX0_withThoseBeside_19 rfl ?_
        refine jj_callS (M2 := m0_allBeside) dX0_withThoseBeside_20 ml0_39 tm0_allBeside (ev0_allBeside hk) rfl rfl (by decide) (Nat.le_of_ble_eq_true rfl) ?_
        refine jj_ior dX0_withThoseBeside_23 (fa_or _ _) ?_
        refine jj_istore_n dX0_withThoseBeside_24 rfl (by decide) rfl ?_
        refine jj_iinc dX0_withThoseBeside_25 rfl (jb_i k) (by decide) rfl ?_
        refine jj_goto (tgt := 4) dX0_withThoseBeside_28 (by decide) ?_
        unfold jb_wt at ih
        first | (rw [if_neg (jb_b0 c15)] at ih; exact ih) | (rw [if_pos (jb_b1 c15)] at ih; exact ih)
    · refine jj_iload_n dX0_withThoseBeside_4 rfl ?_
      refine jj_bipush (v := 12) dX0_withThoseBeside_5 (by decide) ?_
      refine jj_icmp_ge (tgt := 31) dX0_withThoseBeside_7 (by decide) (fun _ => ?_) (fun q => absurd (jb_ge' (n := 12) (by decide)) q)
      refine jj_iload_n dX0_withThoseBeside_31 rfl ?_
      exact jj_leaf dX0_withThoseBeside_32 rfl rfl
  refine jj_iload_n dX0_withThoseBeside_0 rfl ?_
  refine jj_istore_n dX0_withThoseBeside_1 rfl (by decide) rfl ?_
  refine jj_iconst (v := 0) dX0_withThoseBeside_2 (by decide) ?_
  refine jj_istore_n dX0_withThoseBeside_3 rfl (by decide) rfl ?_
  exact L 0 (by decide)
set_option maxRecDepth 100000 in
set_option maxHeartbeats 4000000 in
theorem ev0_distance {G : jj_G} {h : List jj_C} {f o : Nat} (hf : f < 12) (ho : o < 12) : jj_Ev G m0_distance 4 [.int (nI f), .int (nI o)] (h) 0 0 (some (.int (nI (jb_far f o)))) (h) := by
  refine jj_Ev_of (lo := [some (.int (nI f)), some (.int (nI o)), none, none]) (by decide +kernel) (Nat.le_of_ble_eq_true rfl) rfl (by trivial) ?_
  have hr : nI (jb_far f o) = jb_pl 12 (jb_far f o) := by rw [jb_pl, if_pos (by have := jb_far_lt f hf o ho; omega)]
  rw [hr]
  have L : ∀ k, k ≤ 12 → jj_Go G m0_distance 4 6 [some (.int (nI f)), some (.int (nI o)), some (.int (nI (jb_rc f k))), some (.int (nI k))] [] (h) 0 0 (some (.int (jb_pl 12 (jb_fst (fun k => (jb_rc f k).testBit o) k (12 - k))))) (h) := by
    refine jj_up 12 (fun k hk ih => ?_) ?_
    · refine jj_iload_n dX0_distance_6 rfl ?_
      refine jj_bipush (v := 12) dX0_distance_7 (by decide) ?_
      refine jj_icmp_ge (tgt := 33) dX0_distance_9 (by decide) (fun q => absurd q (jb_ge hk (by decide))) (fun _ => ?_)
      refine jj_iload_n dX0_distance_12 rfl ?_
      refine jj_iload_n dX0_distance_13 rfl ?_
      refine jj_callS (M2 := m0_holds) dX0_distance_14 ml0_31 tm0_holds (ev0_holds (a := jb_rc f k) (by have := jb_rc_lt hf k; omega) ho) rfl rfl (by decide) (Nat.le_of_ble_eq_true rfl) ?_
      refine jj_if_eq (tgt := 22) dX0_distance_17 (by decide) (fun c17 => ?_) (fun c17 => ?_)
      · refine jj_iload_n dX0_distance_22 rfl ?_
        refine jj_callS (M2 := m0_withThoseBeside) dX0_distance_23 ml0_35 tm0_withThoseBeside (ev0_withThoseBeside (a := jb_rc f k) (jb_rc_lt hf k)) rfl rfl (by decide) (Nat.le_of_ble_eq_true rfl) ?_
        refine jj_istore_n dX0_distance_26 rfl (by decide) rfl ?_
        refine jj_iinc dX0_distance_27 rfl (jb_i k) (by decide) rfl ?_
        refine jj_goto (tgt := 6) dX0_distance_30 (by decide) ?_
        rw [jb_fst_no (by simpa using jb_b0 c17) hk]
        exact ih
      · refine jj_iload_n dX0_distance_20 rfl ?_
        exact jj_leaf dX0_distance_21 (by rw [jb_fst_yes (p := fun k => (jb_rc f k).testBit o) (jb_b1 c17) hk, jb_pl, if_pos hk]; rfl) rfl
    · refine jj_iload_n dX0_distance_6 rfl ?_
      refine jj_bipush (v := 12) dX0_distance_7 (by decide) ?_
      refine jj_icmp_ge (tgt := 33) dX0_distance_9 (by decide) (fun _ => ?_) (fun q => absurd (jb_ge' (n := 12) (by decide)) q)
      refine jj_iconst (v := (-1)) dX0_distance_33 (by decide) ?_
      exact jj_leaf dX0_distance_34 (by rw [jb_fst_end, jb_pl, if_neg (by decide)]; rfl) rfl
  refine jj_iconst (v := 1) dX0_distance_0 (by decide) ?_
  refine jj_iload_n dX0_distance_1 rfl ?_
  refine jj_ishl dX0_distance_2 (jb_2k f (by omega)) ?_
  refine jj_istore_n dX0_distance_3 rfl (by decide) rfl ?_
  refine jj_iconst (v := 0) dX0_distance_4 (by decide) ?_
  refine jj_istore_n dX0_distance_5 rfl (by decide) rfl ?_
  exact L 0 (by decide)
set_option maxRecDepth 100000 in
set_option maxHeartbeats 4000000 in
theorem ev0_opposite {G : jj_G} {h : List jj_C} {f : Nat} (hf : f < 12) : jj_Ev G m0_opposite 5 [.int (nI f)] (h) 0 0 (some (.int (nI (jb_op f)))) (h) := by
  refine jj_Ev_of (lo := [some (.int (nI f)), none]) (by decide +kernel) (Nat.le_of_ble_eq_true rfl) rfl (by trivial) ?_
  have hr : nI (jb_op f) = jb_pl 12 (jb_op f) := by rw [jb_pl, if_pos (jb_op_lt f hf)]
  rw [hr]
  have L : ∀ k, k ≤ 12 → jj_Go G m0_opposite 5 2 [some (.int (nI f)), some (.int (nI k))] [] (h) 0 0 (some (.int (jb_pl 12 (jb_fst (fun o => jb_far f o == 3) k (12 - k))))) (h) := by
    refine jj_up 12 (fun k hk ih => ?_) ?_
    · refine jj_iload_n dX0_opposite_2 rfl ?_
      refine jj_bipush (v := 12) dX0_opposite_3 (by decide) ?_
      refine jj_icmp_ge (tgt := 25) dX0_opposite_5 (by decide) (fun q => absurd q (jb_ge hk (by decide))) (fun _ => ?_)
      refine jj_iload_n dX0_opposite_8 rfl ?_
      refine jj_iload_n dX0_opposite_9 rfl ?_
      refine jj_callS (M2 := m0_distance) dX0_opposite_10 ml0_42 tm0_distance (ev0_distance hf hk) rfl rfl (by decide) (Nat.le_of_ble_eq_true rfl) ?_
      refine jj_iconst (v := 3) dX0_opposite_13 (by decide) ?_
      refine jj_icmp_ne (tgt := 19) dX0_opposite_14 (by decide) (fun c14 => ?_) (fun c14 => ?_)
      · refine jj_iinc dX0_opposite_19 rfl (jb_i k) (by decide) rfl ?_
        refine jj_goto (tgt := 2) dX0_opposite_22 (by decide) ?_
        rw [jb_fst_no (by simpa using fun q => c14 (by rw [q]; rfl)) hk]
        exact ih
      · refine jj_iload_n dX0_opposite_17 rfl ?_
        exact jj_leaf dX0_opposite_18 (by rw [jb_fst_yes (by simpa using (jb_inj (by have := jb_far_lt f hf k hk; omega) (by decide)).mp c14) hk, jb_pl, if_pos hk]; rfl) rfl
    · refine jj_iload_n dX0_opposite_2 rfl ?_
      refine jj_bipush (v := 12) dX0_opposite_3 (by decide) ?_
      refine jj_icmp_ge (tgt := 25) dX0_opposite_5 (by decide) (fun _ => ?_) (fun q => absurd (jb_ge' (n := 12) (by decide)) q)
      refine jj_iconst (v := (-1)) dX0_opposite_25 (by decide) ?_
      exact jj_leaf dX0_opposite_26 (by rw [jb_fst_end, jb_pl, if_neg (by decide)]; rfl) rfl
  refine jj_iconst (v := 0) dX0_opposite_0 (by decide) ?_
  refine jj_istore_n dX0_opposite_1 rfl (by decide) rfl ?_
  exact L 0 (by decide)
end
section
/-- a state: its ints, its rows of ints, its rows of longs, its longs, each by its number -/
abbrev jj_S : Type := (Nat → Int32) × (Nat → Nat → Int32) × (Nat → Nat → Int64) × (Nat → Int64)
def tx_sg (s : jj_S) : Nat → Int32 := s.2.1 0
def tx_sgS (s : jj_S) (v : Nat → Int32) : jj_S := (s.1, jU s.2.1 0 v, s.2.2)
def tx_len (s : jj_S) : Int32 := s.1 0
def tx_lenS (s : jj_S) (v : Int32) : jj_S := (jU s.1 0 v, s.2)
def tx_ts (s : jj_S) : Int32 := s.1 1
def tx_tsS (s : jj_S) (v : Int32) : jj_S := (jU s.1 1 v, s.2)
def tx_te (s : jj_S) : Int32 := s.1 2
def tx_teS (s : jj_S) (v : Int32) : jj_S := (jU s.1 2 v, s.2)
def tx_wd (s : jj_S) : Nat → Int32 := s.2.1 1
def tx_wdS (s : jj_S) (v : Nat → Int32) : jj_S := (s.1, jU s.2.1 1 v, s.2.2)
def tx_fs (s : jj_S) : Nat → Int32 := s.2.1 2
def tx_fsS (s : jj_S) (v : Nat → Int32) : jj_S := (s.1, jU s.2.1 2 v, s.2.2)
def tx_sc (s : jj_S) : Nat → Int32 := s.2.1 3
def tx_scS (s : jj_S) (v : Nat → Int32) : jj_S := (s.1, jU s.2.1 3 v, s.2.2)
def tx_lc (s : jj_S) : Int32 := s.1 3
def tx_lcS (s : jj_S) (v : Int32) : jj_S := (jU s.1 3 v, s.2)
def tn_go (s : jj_S) : Nat → Int32 := s.2.1 4
def tn_goS (s : jj_S) (v : Nat → Int32) : jj_S := (s.1, jU s.2.1 4 v, s.2.2)
def tn_ah (s : jj_S) : Nat → Int32 := s.2.1 5
def tn_ahS (s : jj_S) (v : Nat → Int32) : jj_S := (s.1, jU s.2.1 5 v, s.2.2)
def wa_op (s : jj_S) : Nat → Int32 := s.2.1 6
def wa_opS (s : jj_S) (v : Nat → Int32) : jj_S := (s.1, jU s.2.1 6 v, s.2.2)
def wa_rw (s : jj_S) : Nat → Int32 := s.2.1 7
def wa_rwS (s : jj_S) (v : Nat → Int32) : jj_S := (s.1, jU s.2.1 7 v, s.2.2)
def wa_fr (s : jj_S) : Nat → Int32 := s.2.1 8
def wa_frS (s : jj_S) (v : Nat → Int32) : jj_S := (s.1, jU s.2.1 8 v, s.2.2)
def wa_rc (s : jj_S) : Int32 := s.1 4
def wa_rcS (s : jj_S) (v : Int32) : jj_S := (jU s.1 4 v, s.2)
def wa_wc (s : jj_S) : Int32 := s.1 5
def wa_wcS (s : jj_S) (v : Int32) : jj_S := (jU s.1 5 v, s.2)
def wa_ws (s : jj_S) : Int32 := s.1 6
def wa_wsS (s : jj_S) (v : Int32) : jj_S := (jU s.1 6 v, s.2)
def wa_wn (s : jj_S) : Int32 := s.1 7
def wa_wnS (s : jj_S) (v : Int32) : jj_S := (jU s.1 7 v, s.2)
def wa_rf (s : jj_S) : Int32 := s.1 8
def wa_rfS (s : jj_S) (v : Int32) : jj_S := (jU s.1 8 v, s.2)
def wa_wf (s : jj_S) : Int32 := s.1 9
def wa_wfS (s : jj_S) (v : Int32) : jj_S := (jU s.1 9 v, s.2)
def sh_he (s : jj_S) : Nat → Int64 := s.2.2.1 0
def sh_heS (s : jj_S) (v : Nat → Int64) : jj_S := (s.1, s.2.1, jU s.2.2.1 0 v, s.2.2.2)
def sh_th (s : jj_S) : Nat → Int64 := s.2.2.1 1
def sh_thS (s : jj_S) (v : Nat → Int64) : jj_S := (s.1, s.2.1, jU s.2.2.1 1 v, s.2.2.2)
def s0_kd (s : jj_S) : Nat → Int32 := s.2.1 9
def s0_kdS (s : jj_S) (v : Nat → Int32) : jj_S := (s.1, jU s.2.1 9 v, s.2.2)
def s0_tu (s : jj_S) : Nat → Int32 := s.2.1 10
def s0_tuS (s : jj_S) (v : Nat → Int32) : jj_S := (s.1, jU s.2.1 10 v, s.2.2)
def s0_pl (s : jj_S) : Int32 := s.1 10
def s0_plS (s : jj_S) (v : Int32) : jj_S := (jU s.1 10 v, s.2)
def s0_en (s : jj_S) : Int32 := s.1 11
def s0_enS (s : jj_S) (v : Int32) : jj_S := (jU s.1 11 v, s.2)
def s0_st (s : jj_S) : Int32 := s.1 12
def s0_stS (s : jj_S) (v : Int32) : jj_S := (jU s.1 12 v, s.2)
def s0_tk (s : jj_S) : Int32 := s.1 13
def s0_tkS (s : jj_S) (v : Int32) : jj_S := (jU s.1 13 v, s.2)
def s1_kd (s : jj_S) : Nat → Int32 := s.2.1 11
def s1_kdS (s : jj_S) (v : Nat → Int32) : jj_S := (s.1, jU s.2.1 11 v, s.2.2)
def s1_tu (s : jj_S) : Nat → Int32 := s.2.1 12
def s1_tuS (s : jj_S) (v : Nat → Int32) : jj_S := (s.1, jU s.2.1 12 v, s.2.2)
def s1_pl (s : jj_S) : Int32 := s.1 14
def s1_plS (s : jj_S) (v : Int32) : jj_S := (jU s.1 14 v, s.2)
def s1_en (s : jj_S) : Int32 := s.1 15
def s1_enS (s : jj_S) (v : Int32) : jj_S := (jU s.1 15 v, s.2)
def s1_st (s : jj_S) : Int32 := s.1 16
def s1_stS (s : jj_S) (v : Int32) : jj_S := (jU s.1 16 v, s.2)
def s1_tk (s : jj_S) : Int32 := s.1 17
def s1_tkS (s : jj_S) (v : Int32) : jj_S := (jU s.1 17 v, s.2)
def s2_kd (s : jj_S) : Nat → Int32 := s.2.1 13
def s2_kdS (s : jj_S) (v : Nat → Int32) : jj_S := (s.1, jU s.2.1 13 v, s.2.2)
def s2_tu (s : jj_S) : Nat → Int32 := s.2.1 14
def s2_tuS (s : jj_S) (v : Nat → Int32) : jj_S := (s.1, jU s.2.1 14 v, s.2.2)
def s2_pl (s : jj_S) : Int32 := s.1 18
def s2_plS (s : jj_S) (v : Int32) : jj_S := (jU s.1 18 v, s.2)
def s2_en (s : jj_S) : Int32 := s.1 19
def s2_enS (s : jj_S) (v : Int32) : jj_S := (jU s.1 19 v, s.2)
def s2_st (s : jj_S) : Int32 := s.1 20
def s2_stS (s : jj_S) (v : Int32) : jj_S := (jU s.1 20 v, s.2)
def s2_tk (s : jj_S) : Int32 := s.1 21
def s2_tkS (s : jj_S) (v : Int32) : jj_S := (jU s.1 21 v, s.2)
def s3_kd (s : jj_S) : Nat → Int32 := s.2.1 15
def s3_kdS (s : jj_S) (v : Nat → Int32) : jj_S := (s.1, jU s.2.1 15 v, s.2.2)
def s3_tu (s : jj_S) : Nat → Int32 := s.2.1 16
def s3_tuS (s : jj_S) (v : Nat → Int32) : jj_S := (s.1, jU s.2.1 16 v, s.2.2)
def s3_pl (s : jj_S) : Int32 := s.1 22
def s3_plS (s : jj_S) (v : Int32) : jj_S := (jU s.1 22 v, s.2)
def s3_en (s : jj_S) : Int32 := s.1 23
def s3_enS (s : jj_S) (v : Int32) : jj_S := (jU s.1 23 v, s.2)
def s3_st (s : jj_S) : Int32 := s.1 24
def s3_stS (s : jj_S) (v : Int32) : jj_S := (jU s.1 24 v, s.2)
def s3_tk (s : jj_S) : Int32 := s.1 25
def s3_tkS (s : jj_S) (v : Int32) : jj_S := (jU s.1 25 v, s.2)
def mo_ball (s : jj_S) : Nat → Int32 := s.2.1 17
def mo_ballS (s : jj_S) (v : Nat → Int32) : jj_S := (s.1, jU s.2.1 17 v, s.2.2)
def mo_wall (s : jj_S) : Nat → Int32 := s.2.1 18
def mo_wallS (s : jj_S) (v : Nat → Int32) : jj_S := (s.1, jU s.2.1 18 v, s.2.2)
def mo_told (s : jj_S) : Nat → Int32 := s.2.1 19
def mo_toldS (s : jj_S) (v : Nat → Int32) : jj_S := (s.1, jU s.2.1 19 v, s.2.2)
def mo_kind (s : jj_S) : Nat → Int32 := s.2.1 20
def mo_kindS (s : jj_S) (v : Nat → Int32) : jj_S := (s.1, jU s.2.1 20 v, s.2.2)
def mo_tf (s : jj_S) : Int32 := s.1 26
def mo_tfS (s : jj_S) (v : Int32) : jj_S := (jU s.1 26 v, s.2)
def mo_td (s : jj_S) : Int32 := s.1 27
def mo_tdS (s : jj_S) (v : Int32) : jj_S := (jU s.1 27 v, s.2)
def mo_fi (s : jj_S) : Int32 := s.1 28
def mo_fiS (s : jj_S) (v : Int32) : jj_S := (jU s.1 28 v, s.2)
def mo_sd (s : jj_S) : Int32 := s.1 29
def mo_sdS (s : jj_S) (v : Int32) : jj_S := (jU s.1 29 v, s.2)
def mo_st (s : jj_S) : Int32 := s.1 30
def mo_stS (s : jj_S) (v : Int32) : jj_S := (jU s.1 30 v, s.2)
def mo_by (s : jj_S) : Int32 := s.1 31
def mo_byS (s : jj_S) (v : Int32) : jj_S := (jU s.1 31 v, s.2)
def mo_text (s : jj_S) : Nat → Int32 := s.2.1 21
def mo_textS (s : jj_S) (v : Nat → Int32) : jj_S := (s.1, jU s.2.1 21 v, s.2.2)
def mo_pos (s : jj_S) : Int32 := s.1 32
def mo_posS (s : jj_S) (v : Int32) : jj_S := (jU s.1 32 v, s.2)
def mo_tat (s : jj_S) : Int32 := s.1 33
def mo_tatS (s : jj_S) (v : Int32) : jj_S := (jU s.1 33 v, s.2)
def mo_tok (s : jj_S) : Int64 := s.2.2.2 0
def mo_tokS (s : jj_S) (v : Int64) : jj_S := (s.1, s.2.1, s.2.2.1, jU s.2.2.2 0 v)
def mo_dig (s : jj_S) : Int32 := s.1 34
def mo_digS (s : jj_S) (v : Int32) : jj_S := (jU s.1 34 v, s.2)
def mo_num (s : jj_S) : Int32 := s.1 35
def mo_numS (s : jj_S) (v : Int32) : jj_S := (jU s.1 35 v, s.2)
def mo_fa (s : jj_S) : Int32 := s.1 36
def mo_faS (s : jj_S) (v : Int32) : jj_S := (jU s.1 36 v, s.2)
def mo_rm (s : jj_S) : Int32 := s.1 37
def mo_rmS (s : jj_S) (v : Int32) : jj_S := (jU s.1 37 v, s.2)
def mo_read (s : jj_S) : Nat → Int32 := s.2.1 22
def mo_readS (s : jj_S) (v : Nat → Int32) : jj_S := (s.1, jU s.2.1 22 v, s.2.2)
def mo_img (s : jj_S) : Nat → Int32 := s.2.1 23
def mo_imgS (s : jj_S) (v : Nat → Int32) : jj_S := (s.1, jU s.2.1 23 v, s.2.2)
def mo_isk (s : jj_S) : Nat → Int32 := s.2.1 24
def mo_iskS (s : jj_S) (v : Nat → Int32) : jj_S := (s.1, jU s.2.1 24 v, s.2.2)
def mo_to (s : jj_S) : Nat → Int32 := s.2.1 25
def mo_toS (s : jj_S) (v : Nat → Int32) : jj_S := (s.1, jU s.2.1 25 v, s.2.2)
def mo_on (s : jj_S) : Nat → Int32 := s.2.1 26
def mo_onS (s : jj_S) (v : Nat → Int32) : jj_S := (s.1, jU s.2.1 26 v, s.2.2)
def mo_row (s : jj_S) : Nat → Int32 := s.2.1 27
def mo_rowS (s : jj_S) (v : Nat → Int32) : jj_S := (s.1, jU s.2.1 27 v, s.2.2)
def mo_now (s : jj_S) : Nat → Int64 := s.2.2.1 2
def mo_nowS (s : jj_S) (v : Nat → Int64) : jj_S := (s.1, s.2.1, jU s.2.2.1 2 v, s.2.2.2)
def mo_then (s : jj_S) : Nat → Int64 := s.2.2.1 3
def mo_thenS (s : jj_S) (v : Nat → Int64) : jj_S := (s.1, s.2.1, jU s.2.2.1 3 v, s.2.2.2)
def mo_fst (s : jj_S) : Nat → Int32 := s.2.1 28
def mo_fstS (s : jj_S) (v : Nat → Int32) : jj_S := (s.1, jU s.2.1 28 v, s.2.2)
/-- the cells of a state, in the order in which they are made -/
def jj_m (s : jj_S) : List jj_C := [.inl (5, [.ref 1, .ref 6, .ref 9, .ref 13, .ref 16, .ref 19, .ref 22, .ref 25]),
  .inl (2, [.ref 2, .int (tx_len s), .int (tx_ts s), .int (tx_te s), .ref 3, .ref 4, .ref 5, .int (tx_lc s)]),
  .inr (.inl (jv 200 (tx_sg s))),
  .inr (.inl (jv 12 (tx_wd s))),
  .inr (.inl (jv 12 (tx_fs s))),
  .inr (.inl (jv 12 (tx_sc s))),
  .inl (3, [.ref 7, .ref 8]),
  .inr (.inl (jv 720 (tn_go s))),
  .inr (.inl (jv 12 (tn_ah s))),
  .inl (4, [.ref 10, .ref 11, .ref 12, .int (wa_rc s), .int (wa_wc s), .int (wa_ws s), .int (wa_wn s), .int (wa_rf s), .int (wa_wf s)]),
  .inr (.inl (jv 12 (wa_op s))),
  .inr (.inl (jv 12 (wa_rw s))),
  .inr (.inl (jv 12 (wa_fr s))),
  .inl (1, [.ref 14, .ref 15]),
  .inr (.inr (.inr (jv 12 (sh_he s)))),
  .inr (.inr (.inr (jv 12 (sh_th s)))),
  .inl (0, [.ref 17, .ref 18, .int (s0_pl s), .int (s0_en s), .int (s0_st s), .int (s0_tk s)]),
  .inr (.inl (jv 12 (s0_kd s))),
  .inr (.inl (jv 12 (s0_tu s))),
  .inl (0, [.ref 20, .ref 21, .int (s1_pl s), .int (s1_en s), .int (s1_st s), .int (s1_tk s)]),
  .inr (.inl (jv 12 (s1_kd s))),
  .inr (.inl (jv 12 (s1_tu s))),
  .inl (0, [.ref 23, .ref 24, .int (s2_pl s), .int (s2_en s), .int (s2_st s), .int (s2_tk s)]),
  .inr (.inl (jv 12 (s2_kd s))),
  .inr (.inl (jv 12 (s2_tu s))),
  .inl (0, [.ref 26, .ref 27, .int (s3_pl s), .int (s3_en s), .int (s3_st s), .int (s3_tk s)]),
  .inr (.inl (jv 12 (s3_kd s))),
  .inr (.inl (jv 12 (s3_tu s))),
  .inl (6, [.ref 29, .ref 30, .ref 31, .ref 32, .int (mo_tf s), .int (mo_td s), .int (mo_fi s), .int (mo_sd s), .int (mo_st s), .int (mo_by s), .ref 33, .int (mo_pos s), .int (mo_tat s), .long (mo_tok s), .int (mo_dig s), .int (mo_num s), .int (mo_fa s), .int (mo_rm s), .ref 34, .ref 35, .ref 36, .ref 37, .ref 38, .ref 39, .ref 40, .ref 41, .ref 42]),
  .inr (.inl (jv 60 (mo_ball s))),
  .inr (.inr (.inl (jv 60 (mo_wall s)))),
  .inr (.inl (jv 12 (mo_told s))),
  .inr (.inl (jv 12 (mo_kind s))),
  .inr (.inl (jv 200 (mo_text s))),
  .inr (.inl (jv 36 (mo_read s))),
  .inr (.inl (jv 30 (mo_img s))),
  .inr (.inr (.inl (jv 2 (mo_isk s)))),
  .inr (.inl (jv 12 (mo_to s))),
  .inr (.inl (jv 12 (mo_on s))),
  .inr (.inl (jv 12 (mo_row s))),
  .inr (.inr (.inr (jv 12 (mo_now s)))),
  .inr (.inr (.inr (jv 12 (mo_then s)))),
  .inr (.inl (jv 12 (mo_fst s)))]
end
section
/-! THE TEXTS' CONSTANTS, by their places 0 .. 7: the string has the number 1000002 + i, its bytes 1000010 + i -/
section JS
variable {G : jj_G} {M : jj_M} {d pc : Nat} {lo : List (Option Value)} {st st0 : List Value} {h : List jj_C} {kc ks : Nat} {r : Option Value} {h' : List jj_C} {i : Nat}
theorem js_ad (G : jj_G) (i : Nat) : jj_ad G (1000002 + i) = jj_x G (2 + i) := by
  unfold jj_ad
  rw [if_neg (by omega), show 1000002 + i - 1000000 = 2 + i by omega]
theorem js_ad2 (G : jj_G) (i : Nat) : jj_ad G (1000010 + i) = jj_x G (10 + i) := by
  unfold jj_ad
  rw [if_neg (by omega), show 1000010 + i - 1000000 = 10 + i by omega]
theorem js_ldc {idx : Nat} (hd : decode (jj_b M) pc = .ok (.ldc idx, 2)) (hi : i < 8) (hx : jj_ti.getD i 0 = idx) (hc : (jj_y M).cls = RX3) (K : jj_Go G M d (pc + 2) lo (.ref (1000002 + i) :: st) h kc ks r h') : jj_Go G M d pc lo st h kc ks r h' := by
  intro p e R s m args below meth c X H locs cells slots ls Q hR hS hL h4 h5 fin
  subst hx
  have hz := X.O.2.1.1 i hi
  rw [← hc] at hz
  have := K p e R s m args below meth c X H locs cells slots ls Q hR hS hL h4 h5 fin
  refine va_ldcS X.ex X.bt X.own hz hd ?_
  rw [← js_ad]
  exact this
theorem js_val {idx : Nat} (hd : decode (jj_b M) pc = .ok (.getfield idx, 3)) (hi : i < 8) (hw : Cond.fieldLink (jj_y M).cls idx "java/lang/String" "value" "[B" ∈ jj_ws) (K : jj_Go G M d (pc + 3) lo (.ref (1000010 + i) :: st) h kc ks r h') : jj_Go G M d pc lo (.ref (1000002 + i) :: st) h kc ks r h' := by
  intro p e R s m args below meth c X H locs cells slots ls Q hR hS hL h4 h5 fin
  have hz := (X.O.1.2.2.2.1.1 i hi).2.2.1
  have := K p e R s m args below meth c X H locs cells slots ls Q hR hS hL h4 h5 fin
  show W p (jj_l G) e R s m args below meth c H locs cells slots Q (F0 m pc ls (.ref (jj_ad G (1000002 + i)) :: st.map (jj_v G)))
  rw [js_ad]
  refine vk_getf X.ex X.bt hz hS X.own (X.ts _ hw) (fun _ q => q) hd ?_
  show W p (jj_l G) e R s m args below meth c H locs cells slots Q (F0 m (pc + 3) ls (.ref (jj_x G (10 + i)) :: st.map (jj_v G)))
  rw [← js_ad2]
  exact this
theorem js_cod {idx : Nat} (hd : decode (jj_b M) pc = .ok (.getfield idx, 3)) (hi : i < 8) (hw : Cond.fieldLink (jj_y M).cls idx "java/lang/String" "coder" "B" ∈ jj_ws) (K : jj_Go G M d (pc + 3) lo (.int 0 :: st) h kc ks r h') : jj_Go G M d pc lo (.ref (1000002 + i) :: st) h kc ks r h' := by
  intro p e R s m args below meth c X H locs cells slots ls Q hR hS hL h4 h5 fin
  have hz := (X.O.1.2.2.2.1.1 i hi).2.1
  have := K p e R s m args below meth c X H locs cells slots ls Q hR hS hL h4 h5 fin
  show W p (jj_l G) e R s m args below meth c H locs cells slots Q (F0 m pc ls (.ref (jj_ad G (1000002 + i)) :: st.map (jj_v G)))
  rw [js_ad]
  exact vk_getf X.ex X.bt hz hS X.own (X.ts _ hw) (fun _ q => q) hd this
theorem js_len (hd : decode (jj_b M) pc = .ok (.arraylength, 1)) (hi : i < 8) (K : jj_Go G M d (pc + 1) lo (.int (nI (jj_tl.getD i 0)) :: st) h kc ks r h') : jj_Go G M d pc lo (.ref (1000010 + i) :: st) h kc ks r h' := by
  intro p e R s m args below meth c X H locs cells slots ls Q hR hS hL h4 h5 fin
  have hz := (X.O.1.2.2.2.1.1 i hi).2.2.2
  have := K p e R s m args below meth c X H locs cells slots ls Q hR hS hL h4 h5 fin
  show W p (jj_l G) e R s m args below meth c H locs cells slots Q (F0 m pc ls (.ref (jj_ad G (1000010 + i)) :: st.map (jj_v G)))
  rw [js_ad2]
  exact va_tlen X.ex X.bt hz hS rfl hd this
theorem js_bld {j : Nat} (hd : decode (jj_b M) pc = .ok (.baload, 1)) (hi : i < 8) (hj : j < jj_tl.getD i 0) (K : jj_Go G M d (pc + 1) lo (.int ((jj_tb.getD i []).getD j 0) :: st) h kc ks r h') : jj_Go G M d pc lo (.int (nI j) :: .ref (1000010 + i) :: st) h kc ks r h' := by
  intro p e R s m args below meth c X H locs cells slots ls Q hR hS hL h4 h5 fin
  have hz := (X.O.1.2.2.2.1.1 i hi).2.2.2
  have hl : ∀ i, i < 8 → jj_tl.getD i 0 < 100 := by decide +kernel
  have hl2 := hl i hi
  have := K p e R s m args below meth c X H locs cells slots ls Q hR hS hL h4 h5 fin
  show W p (jj_l G) e R s m args below meth c H locs cells slots Q (F0 m pc ls (.int (nI j) :: .ref (jj_ad G (1000010 + i)) :: st.map (jj_v G)))
  rw [js_ad2]
  exact va_tb X.ex X.bt hz hS (jb_in hj (by omega)) (v := .int ((jj_tb.getD i []).getD j 0)) (by rw [nI_clamp (by omega)]) hd this
theorem js_comp {idx : Nat} (hd : decode (jj_b M) pc = .ok (.getstatic idx, 3)) (hw : Cond.fieldLink (jj_y M).cls idx "java/lang/String" "COMPACT_STRINGS" "Z" ∈ jj_ws) (K : jj_Go G M d (pc + 3) lo (.int 1 :: st) h kc ks r h') : jj_Go G M d pc lo st h kc ks r h' := by
  intro p e R s m args below meth c X H locs cells slots ls Q hR hS hL h4 h5 fin
  exact va_gets X.ex X.bt X.O.1.2.2.2.2.1 hS X.own (X.ts _ hw) (fun _ q => q) hd (K p e R s m args below meth c X H locs cells slots ls Q hR hS hL h4 h5 fin)
theorem js_fmt {idx : Nat} (hd : decode (jj_b M) pc = .ok (.getstatic idx, 3)) (hw : Cond.fieldLink (jj_y M).cls idx "jdk/internal/util/Preconditions" "SIOOBE_FORMATTER" "Ljava/util/function/BiFunction;" ∈ jj_ws) (K1 : jj_Go G M d (pc + 3) lo (.null :: st) h kc ks r h') (K2 : jj_Go G M d (pc + 3) lo (.ref 1000018 :: st) h kc ks r h') : jj_Go G M d pc lo st h kc ks r h' := by
  intro p e R s m args below meth c X H locs cells slots ls Q hR hS hL h4 h5 fin
  rcases X.O.1.2.2.2.2.2 with hz | hz
  · exact va_gets X.ex X.bt hz hS X.own (X.ts _ hw) (fun _ q => q) hd (K1 p e R s m args below meth c X H locs cells slots ls Q hR hS hL h4 h5 fin)
  · have := K2 p e R s m args below meth c X H locs cells slots ls Q hR hS hL h4 h5 fin
    exact va_gets X.ex X.bt hz hS X.own (X.ts _ hw) (fun _ q => q) hd this
theorem js_call {idx n d2 : Nat} {M2 : jj_M} {av : List Value} {r2 : Option Value} {hm : List jj_C} (hi : i < 8) (hd : decode (jj_b M) pc = .ok (.invokevirtual idx, 3)) (hl : Cond.methodLink (jj_y M).cls idx (jj_y M2) ∈ jj_ws) (F : jj_mV M2 n) (E : jj_Ev G M2 d2 (.ref (1000002 + i) :: av) h 0 0 r2 hm) (hC : (jj_y M2).cls = "java/lang/String") (hn : av.length = n) (hst : st0 = av.reverse ++ .ref (1000002 + i) :: st) (hd2 : d2 + 1 ≤ d) (hw : (st.map fun v => v.category).sum ≤ 8)
    (K : jj_Go G M d (pc + 3) lo (r2.toList ++ st) hm kc ks r h') : jj_Go G M d pc lo st0 h kc ks r h' := by
  intro p e R s m args below meth c X H locs cells slots ls Q hR hS hL h4 h5 fin
  obtain ⟨⟨f1, f2, f3, f4⟩, f5, f6⟩ := F
  have hrm := X.rm
  have hw' : ((st.map (jj_v G)).map fun v => v.category).sum ≤ 8 := by
    rw [List.map_map, show ((fun v : Value => v.category) ∘ jj_v G) = (fun v => v.category) from funext (jj_v_cat G)]
    exact hw
  refine jj_back (kc2 := 0) (ks2 := 0) (kc := kc) (ks := ks) rfl (va_runV (C := "java/lang/String") (b := jj_ad G (1000002 + i)) (As := av.map (jj_v G)) (rest := st.map (jj_v G)) (g := F0 m pc ls (st0.map (jj_v G))) ⟨X.ex, X.bt, X.2.2.2.1, X.own, X.ts⟩ E (cwV n X.ts (jj_good ?_) rfl rfl rfl ⟨hC, f3⟩ ⟨?_, ?_⟩) ⟨jj_blind, ?_, fun U hU hW => ⟨rfl, jj_pay X hR hS U hU hW⟩⟩ rfl (by rw [List.length_map]; exact hn) hL.1 (by show st0.map (jj_v G) = _; rw [hst, List.map_append, List.map_reverse]; rfl) (lv_room hw') hd ⟨by omega, by omega⟩) X hS hL (by omega) (by omega) (by simpa only [Nat.zero_add] using fin) K
  · intro w hw1
    simp only [wsV, List.cons_append, List.nil_append, List.mem_cons] at hw1
    rcases hw1 with rfl | rfl | rfl | rfl | rfl | hw1
    · exact hl
    · exact f5
    · rw [← hC]; exact f6
    · rw [← hC]; exact f1
    · exact f2
    · exact hw1
  · show d2 + 1 ≤ R.frames
    omega
  · show 8 + (jj_n M2 + 11) + 64 * d2 ≤ R.locals
    omega
  · rw [js_ad]
    exact vk_recv (adK := fun i => jj_x G (2 + i)) (i := i) X.O.1.2.2.2.1 hi hS
end JS
end
section
/-- how many of the first k bits are set -/
def jb_pcn (a : Nat) : Nat → Nat
  | 0 => 0
  | k + 1 => jb_pcn a k + (if a.testBit k = true then 1 else 0)
def jb_pc (a : Nat) : Nat := jb_pcn a 12
def jb_hs (v c : Int32) : Int32 := (v.toUInt32 >>> (c.toUInt32 &&& Int32.toUInt32 31)).toInt32
def jb_bcF (x : Int32) : Int32 :=
  let a := x - (jb_hs x 1 &&& 1431655765)
  let b := (a &&& 858993459) + (jb_hs a 2 &&& 858993459)
  let c := (b + jb_hs b 4) &&& 252645135
  let e := c + jb_hs c 8
  (e + jb_hs e 16) &&& 63
theorem jb_bcA : ∀ a, a < 2048 → jb_bcF (nI a) = nI (jb_pc a) := by decide +kernel
theorem jb_bcB : ∀ a, a < 2048 → jb_bcF (nI (2048 + a)) = nI (jb_pc (2048 + a)) := by decide +kernel
theorem jb_bc {a : Nat} (ha : a < 4096) : jb_bcF (nI a) = nI (jb_pc a) := by
  rcases Nat.lt_or_ge a 2048 with h | h
  · exact jb_bcA a h
  · have := jb_bcB (a - 2048) (by omega)
    rwa [show 2048 + (a - 2048) = a by omega] at this
set_option maxRecDepth 100000 in
set_option maxHeartbeats 4000000 in
theorem evJ6_bitCount {G : jj_G} {h : List jj_C} {a : Nat} (ha : a < 4096) : jj_Ev G mJ6_bitCount 0 [.int (nI a)] (h) 0 0 (some (.int (nI (jb_pc a)))) (h) := by
  refine jj_Ev_of (lo := [some (.int (nI a))]) (by decide +kernel) (Nat.le_of_ble_eq_true rfl) rfl (by trivial) ?_
  rw [← jb_bc ha]
  refine jj_iload_n dJ6_bitCount_0f7a4_0 rfl ?_
  refine jj_iload_n dJ6_bitCount_0f7a4_1 rfl ?_
  refine jj_iconst (v := 1) dJ6_bitCount_0f7a4_2 (by decide) ?_
  refine jj_iushr dJ6_bitCount_0f7a4_3 rfl ?_
  refine jj_ldcw dJ6_bitCount_0f7a4_4 kcJ6_265 ?_
  refine jj_iand dJ6_bitCount_0f7a4_7 rfl ?_
  refine jj_isub dJ6_bitCount_0f7a4_8 rfl ?_
  refine jj_istore_n dJ6_bitCount_0f7a4_9 rfl (by decide) rfl ?_
  refine jj_iload_n dJ6_bitCount_0f7a4_10 rfl ?_
  refine jj_ldcw dJ6_bitCount_0f7a4_11 kcJ6_266 ?_
  refine jj_iand dJ6_bitCount_0f7a4_14 rfl ?_
  refine jj_iload_n dJ6_bitCount_0f7a4_15 rfl ?_
  refine jj_iconst (v := 2) dJ6_bitCount_0f7a4_16 (by decide) ?_
  refine jj_iushr dJ6_bitCount_0f7a4_17 rfl ?_
  refine jj_ldcw dJ6_bitCount_0f7a4_18 kcJ6_266 ?_
  refine jj_iand dJ6_bitCount_0f7a4_21 rfl ?_
  refine jj_iadd dJ6_bitCount_0f7a4_22 rfl ?_
  refine jj_istore_n dJ6_bitCount_0f7a4_23 rfl (by decide) rfl ?_
  refine jj_iload_n dJ6_bitCount_0f7a4_24 rfl ?_
  refine jj_iload_n dJ6_bitCount_0f7a4_25 rfl ?_
  refine jj_iconst (v := 4) dJ6_bitCount_0f7a4_26 (by decide) ?_
  refine jj_iushr dJ6_bitCount_0f7a4_27 rfl ?_
  refine jj_iadd dJ6_bitCount_0f7a4_28 rfl ?_
  refine jj_ldcw dJ6_bitCount_0f7a4_29 kcJ6_267 ?_
  refine jj_iand dJ6_bitCount_0f7a4_32 rfl ?_
  refine jj_istore_n dJ6_bitCount_0f7a4_33 rfl (by decide) rfl ?_
  refine jj_iload_n dJ6_bitCount_0f7a4_34 rfl ?_
  refine jj_iload_n dJ6_bitCount_0f7a4_35 rfl ?_
  refine jj_bipush (v := 8) dJ6_bitCount_0f7a4_36 (by decide) ?_
  refine jj_iushr dJ6_bitCount_0f7a4_38 rfl ?_
  refine jj_iadd dJ6_bitCount_0f7a4_39 rfl ?_
  refine jj_istore_n dJ6_bitCount_0f7a4_40 rfl (by decide) rfl ?_
  refine jj_iload_n dJ6_bitCount_0f7a4_41 rfl ?_
  refine jj_iload_n dJ6_bitCount_0f7a4_42 rfl ?_
  refine jj_bipush (v := 16) dJ6_bitCount_0f7a4_43 (by decide) ?_
  refine jj_iushr dJ6_bitCount_0f7a4_45 rfl ?_
  refine jj_iadd dJ6_bitCount_0f7a4_46 rfl ?_
  refine jj_istore_n dJ6_bitCount_0f7a4_47 rfl (by decide) rfl ?_
  refine jj_iload_n dJ6_bitCount_0f7a4_48 rfl ?_
  refine jj_bipush (v := 63) dJ6_bitCount_0f7a4_49 (by decide) ?_
  refine jj_iand dJ6_bitCount_0f7a4_51 rfl ?_
  exact jj_leaf dJ6_bitCount_0f7a4_52 rfl rfl
def js_c (i j : Nat) : Int32 := (jj_tb.getD i []).getD j 0
theorem js_c1 : ∀ i, i < 8 → ∀ j, j < jj_tl.getD i 0 → ((js_c i j &&& 255).toUInt32 % 65536).toInt32 = js_c i j ∧ narrow .char (.int (js_c i j)) = .int (js_c i j) := by decide +kernel
theorem js_l0 : ∀ i, i < 8 → nI (jj_tl.getD i 0) >>> ((0 : Int32) &&& 31) = nI (jj_tl.getD i 0) := by decide +kernel
theorem js_ll : ∀ i, i < 8 → jj_tl.getD i 0 < 100 := by decide +kernel
set_option maxRecDepth 100000 in
set_option maxHeartbeats 4000000 in
theorem evJ0_coder {G : jj_G} {h : List jj_C} {i : Nat} (hi : i < 8) : jj_Ev G mJ0_coder 0 [.ref (1000002 + i)] (h) 0 0 (some (.int 0)) (h) := by
  refine jj_Ev_of (lo := [some (.ref (1000002 + i))]) (by decide +kernel) (Nat.le_of_ble_eq_true rfl) rfl (by rfl) ?_
  refine js_comp dJ0_coder_7d493_0 fsJ0_38 ?_
  refine jj_if_eq (tgt := 13) dJ0_coder_7d493_3 (by decide) (fun q => absurd q (by decide)) (fun _ => ?_)
  refine jj_aload_n dJ0_coder_7d493_6 rfl ?_
  refine js_cod dJ0_coder_7d493_7 hi fsJ0_15 ?_
  refine jj_goto (tgt := 14) dJ0_coder_7d493_10 (by decide) ?_
  exact jj_leaf dJ0_coder_7d493_14 rfl rfl
set_option maxRecDepth 100000 in
set_option maxHeartbeats 4000000 in
theorem evJ0_isLatin1 {G : jj_G} {h : List jj_C} {i : Nat} (hi : i < 8) : jj_Ev G mJ0_isLatin1 0 [.ref (1000002 + i)] (h) 0 0 (some (.int 1)) (h) := by
  refine jj_Ev_of (lo := [some (.ref (1000002 + i))]) (by decide +kernel) (Nat.le_of_ble_eq_true rfl) rfl (Or.inr rfl) ?_
  refine js_comp dJ0_isLatin1_aae02_0 fsJ0_38 ?_
  refine jj_if_eq (tgt := 17) dJ0_isLatin1_aae02_3 (by decide) (fun q => absurd q (by decide)) (fun _ => ?_)
  refine jj_aload_n dJ0_isLatin1_aae02_6 rfl ?_
  refine js_cod dJ0_isLatin1_aae02_7 hi fsJ0_15 ?_
  refine jj_if_ne (tgt := 17) dJ0_isLatin1_aae02_10 (by decide) (fun q => absurd rfl q) (fun _ => ?_)
  refine jj_iconst (v := 1) dJ0_isLatin1_aae02_13 (by decide) ?_
  refine jj_goto (tgt := 18) dJ0_isLatin1_aae02_14 (by decide) ?_
  exact jj_leaf dJ0_isLatin1_aae02_18 rfl rfl
set_option maxRecDepth 100000 in
set_option maxHeartbeats 4000000 in
theorem evJ0_length {G : jj_G} {h : List jj_C} {i : Nat} (hi : i < 8) : jj_Ev G mJ0_length 1 [.ref (1000002 + i)] (h) 0 0 (some (.int (nI (jj_tl.getD i 0)))) (h) := by
  refine jj_Ev_of (lo := [some (.ref (1000002 + i))]) (by decide +kernel) (Nat.le_of_ble_eq_true rfl) rfl (by trivial) ?_
  refine jj_aload_n dJ0_length_8abf5_0 rfl ?_
  refine js_val dJ0_length_8abf5_1 hi fsJ0_9 ?_
  refine js_len dJ0_length_8abf5_4 hi ?_
  refine jj_aload_n dJ0_length_8abf5_5 rfl ?_
  refine js_call (M2 := mJ0_coder) hi dJ0_length_8abf5_6 mlJ0_335 tmJ0_coder (evJ0_coder hi) rfl rfl rfl (by decide) (Nat.le_of_ble_eq_true rfl) ?_
  refine jj_ishr dJ0_length_8abf5_9 (js_l0 i hi) ?_
  exact jj_leaf dJ0_length_8abf5_10 rfl rfl
set_option maxRecDepth 100000 in
set_option maxHeartbeats 4000000 in
theorem evJ3_checkIndex_a {G : jj_G} {h : List jj_C} {j n : Nat} (hj : j < n) (hn : n < 2 ^ 31) : jj_Ev G mJ3_checkIndex 0 [.int (nI j), .int (nI n), .null] (h) 0 0 (some (.int (nI j))) (h) := by
  refine jj_Ev_of (lo := [some (.int (nI j)), some (.int (nI n)), some (.null)]) (by decide +kernel) (Nat.le_of_ble_eq_true rfl) rfl (by trivial) ?_
  refine jj_iload_n dJ3_checkIndex_8e157_0 rfl ?_
  refine jj_if_lt (tgt := 9) dJ3_checkIndex_8e157_1 (by decide) (fun q => absurd q (jb_lt0 (by omega))) (fun _ => ?_)
  refine jj_iload_n dJ3_checkIndex_8e157_4 rfl ?_
  refine jj_iload_n dJ3_checkIndex_8e157_5 rfl ?_
  refine jj_icmp_lt (tgt := 16) dJ3_checkIndex_8e157_6 (by decide) (fun _ => ?_) (fun q => absurd (nI_lt hj (by omega)) q)
  refine jj_iload_n dJ3_checkIndex_8e157_16 rfl ?_
  exact jj_leaf dJ3_checkIndex_8e157_17 rfl rfl
set_option maxRecDepth 100000 in
set_option maxHeartbeats 4000000 in
theorem evJ3_checkIndex_b {G : jj_G} {h : List jj_C} {j n : Nat} (hj : j < n) (hn : n < 2 ^ 31) : jj_Ev G mJ3_checkIndex 0 [.int (nI j), .int (nI n), .ref 1000018] (h) 0 0 (some (.int (nI j))) (h) := by
  refine jj_Ev_of (lo := [some (.int (nI j)), some (.int (nI n)), some (.ref 1000018)]) (by decide +kernel) (Nat.le_of_ble_eq_true rfl) rfl (by trivial) ?_
  refine jj_iload_n dJ3_checkIndex_8e157_0 rfl ?_
  refine jj_if_lt (tgt := 9) dJ3_checkIndex_8e157_1 (by decide) (fun q => absurd q (jb_lt0 (by omega))) (fun _ => ?_)
  refine jj_iload_n dJ3_checkIndex_8e157_4 rfl ?_
  refine jj_iload_n dJ3_checkIndex_8e157_5 rfl ?_
  refine jj_icmp_lt (tgt := 16) dJ3_checkIndex_8e157_6 (by decide) (fun _ => ?_) (fun q => absurd (nI_lt hj (by omega)) q)
  refine jj_iload_n dJ3_checkIndex_8e157_16 rfl ?_
  exact jj_leaf dJ3_checkIndex_8e157_17 rfl rfl
set_option maxRecDepth 100000 in
set_option maxHeartbeats 4000000 in
theorem evJ0_checkIndex {G : jj_G} {h : List jj_C} {j n : Nat} (hj : j < n) (hn : n < 2 ^ 31) : jj_Ev G mJ0_checkIndex 1 [.int (nI j), .int (nI n)] (h) 0 0 (none) (h) := by
  refine jj_Ev_of (lo := [some (.int (nI j)), some (.int (nI n))]) (by decide +kernel) (Nat.le_of_ble_eq_true rfl) rfl (by trivial) ?_
  refine jj_iload_n dJ0_checkIndex_df160_0 rfl ?_
  refine jj_iload_n dJ0_checkIndex_df160_1 rfl ?_
  refine js_fmt dJ0_checkIndex_df160_2 fsJ0_1053 ?_ ?_
  · skip
    refine jj_callS (M2 := mJ3_checkIndex) dJ0_checkIndex_df160_5 mlJ0_1059 tmJ3_checkIndex (evJ3_checkIndex_a hj hn) rfl rfl (by decide) (Nat.le_of_ble_eq_true rfl) ?_
    refine jj_pop dJ0_checkIndex_df160_8 rfl ?_
    exact jj_leaf dJ0_checkIndex_df160_9 rfl rfl
  · skip
    refine jj_callS (M2 := mJ3_checkIndex) dJ0_checkIndex_df160_5 mlJ0_1059 tmJ3_checkIndex (evJ3_checkIndex_b hj hn) rfl rfl (by decide) (Nat.le_of_ble_eq_true rfl) ?_
    refine jj_pop dJ0_checkIndex_df160_8 rfl ?_
    exact jj_leaf dJ0_checkIndex_df160_9 rfl rfl
set_option maxRecDepth 100000 in
set_option maxHeartbeats 4000000 in
theorem evJ1_charAt {G : jj_G} {h : List jj_C} {i j : Nat} (hi : i < 8) (hj : j < jj_tl.getD i 0) : jj_Ev G mJ1_charAt 2 [.ref (1000010 + i), .int (nI j)] (h) 0 0 (some (.int (js_c i j))) (h) := by
  refine jj_Ev_of (lo := [some (.ref (1000010 + i)), some (.int (nI j))]) (by decide +kernel) (Nat.le_of_ble_eq_true rfl) rfl (js_c1 i hi j hj).2 ?_
  refine jj_iload_n dJ1_charAt_3b067_0 rfl ?_
  refine jj_aload_n dJ1_charAt_3b067_1 rfl ?_
  refine js_len dJ1_charAt_3b067_2 hi ?_
  refine jj_callS (M2 := mJ0_checkIndex) dJ1_charAt_3b067_3 mlJ1_9 tmJ0_checkIndex (evJ0_checkIndex hj (by have := js_ll i hi; omega)) rfl rfl (by decide) (Nat.le_of_ble_eq_true rfl) ?_
  refine jj_aload_n dJ1_charAt_3b067_6 rfl ?_
  refine jj_iload_n dJ1_charAt_3b067_7 rfl ?_
  refine js_bld dJ1_charAt_3b067_8 hi hj ?_
  refine jj_sipush (v := 255) dJ1_charAt_3b067_9 (by decide) ?_
  refine jj_iand dJ1_charAt_3b067_12 rfl ?_
  refine jj_i2c dJ1_charAt_3b067_13 (js_c1 i hi j hj).1 ?_
  exact jj_leaf dJ1_charAt_3b067_14 rfl rfl
set_option maxRecDepth 100000 in
set_option maxHeartbeats 4000000 in
theorem evJ0_charAt {G : jj_G} {h : List jj_C} {i j : Nat} (hi : i < 8) (hj : j < jj_tl.getD i 0) : jj_Ev G mJ0_charAt 4 [.ref (1000002 + i), .int (nI j)] (h) 0 0 (some (.int (js_c i j))) (h) := by
  refine jj_Ev_of (lo := [some (.ref (1000002 + i)), some (.int (nI j))]) (by decide +kernel) (Nat.le_of_ble_eq_true rfl) rfl (js_c1 i hi j hj).2 ?_
  refine jj_aload_n dJ0_charAt_5068e_0 rfl ?_
  refine js_call (M2 := mJ0_isLatin1) hi dJ0_charAt_5068e_1 mlJ0_492 tmJ0_isLatin1 (evJ0_isLatin1 hi) rfl rfl rfl (by decide) (Nat.le_of_ble_eq_true rfl) ?_
  refine jj_if_eq (tgt := 16) dJ0_charAt_5068e_4 (by decide) (fun q => absurd q (by decide)) (fun _ => ?_)
  refine jj_aload_n dJ0_charAt_5068e_7 rfl ?_
  refine js_val dJ0_charAt_5068e_8 hi fsJ0_9 ?_
  refine jj_iload_n dJ0_charAt_5068e_11 rfl ?_
  refine jj_callS (M2 := mJ1_charAt) dJ0_charAt_5068e_12 mlJ0_495 tmJ1_charAt (evJ1_charAt hi hj) rfl rfl (by decide) (Nat.le_of_ble_eq_true rfl) ?_
  exact jj_leaf dJ0_charAt_5068e_15 rfl rfl
end
section
/-! SCENES (i: 0 told, 1 now, 2 and 3 kept) and what a turning's table tells -/
/-- the first k as f, the others as g -/
def jF {α : Type} (f g : Nat → α) (k : Nat) : Nat → α := fun j => if j < k then f j else g j
theorem jF_0 {α : Type} (f g : Nat → α) : jF f g 0 = g := funext fun j => if_neg (Nat.not_lt_zero j)
theorem jF_in {α : Type} {f g : Nat → α} {k j : Nat} (h : j < k) : jF f g k j = f j := if_pos h
theorem jF_out {α : Type} {f g : Nat → α} {k j : Nat} (h : k ≤ j) : jF f g k j = g j := if_neg (Nat.not_lt.mpr h)
theorem jF_s {α : Type} (f g : Nat → α) (k : Nat) : jU (jF f g k) k (f k) = jF f g (k + 1) := by
  funext j
  unfold jU jF
  by_cases h : j = k
  · subst h
    rw [if_pos rfl, if_pos (Nat.lt_succ_self j)]
  · rw [if_neg h]
    by_cases h2 : j < k
    · rw [if_pos h2, if_pos (by omega)]
    · rw [if_neg h2, if_neg (by omega)]
theorem jF_s' {α : Type} {f g : Nat → α} {k : Nat} {x : α} (h : f k = x) : jU (jF f g k) k x = jF f g (k + 1) := h ▸ jF_s f g k
def j1_all (kd : Nat → Int32) (x : Int32) : Nat → Nat
  | 0 => 0
  | k + 1 => if kd k = x then j1_all kd x k ||| 2 ^ k else j1_all kd x k
theorem j1_all_lt (kd : Nat → Int32) (x : Int32) : ∀ k, k ≤ 12 → j1_all kd x k < 4096 := by
  intro k
  induction k with
  | zero => intro _; exact (by decide : (0 : Nat) < 4096)
  | succ k ih =>
    intro hk
    have h1 := ih (by omega)
    unfold j1_all
    split
    · exact Nat.or_lt_two_pow (n := 12) h1 (Nat.pow_lt_pow_right (by decide) hk)
    · exact h1

set_option maxRecDepth 100000 in
set_option maxHeartbeats 4000000 in
theorem ev1_kindOf_0 {G : jj_G} {s : jj_S} {k : Nat} (hk : k < 12) : jj_Ev G m1_kindOf 0 [.ref 16, .int (nI k)] (jj_m s) 0 0 (some (.int (s0_kd s k))) (jj_m s) := by
  refine jj_Ev_of (lo := [some (.ref 16), some (.int (nI k))]) (by decide +kernel) (Nat.le_of_ble_eq_true rfl) rfl (by trivial) ?_
  refine jj_iload_n dX1_kindOf_0 rfl ?_
  refine jj_if_lt (tgt := 22) dX1_kindOf_1 (by decide) (fun q => absurd q (jb_lt0 (by omega))) (fun _ => ?_)
  refine jj_iload_n dX1_kindOf_4 rfl ?_
  refine jj_aload_n dX1_kindOf_5 rfl ?_
  refine jj_getf dX1_kindOf_6 fl1_9 rfl rfl ?_
  refine jv_alen_i (v := 12) dX1_kindOf_9 rfl rfl ?_
  refine jj_icmp_ge (tgt := 22) dX1_kindOf_10 (by decide) (fun q => absurd q (jb_ge hk (by decide))) (fun _ => ?_)
  refine jj_aload_n dX1_kindOf_13 rfl ?_
  refine jj_getf dX1_kindOf_14 fl1_9 rfl rfl ?_
  refine jj_iload_n dX1_kindOf_17 rfl ?_
  refine jv_iald dX1_kindOf_18 rfl (hk) (by decide) ?_
  refine jj_goto (tgt := 23) dX1_kindOf_19 (by decide) ?_
  exact jj_leaf dX1_kindOf_23 rfl rfl
set_option maxRecDepth 100000 in
set_option maxHeartbeats 4000000 in
theorem ev1_plant_0 {G : jj_G} {s : jj_S} {k : Nat} (x : Int32) (hk : k < 12) : jj_Ev G m1_plant 0 [.ref 16, .int (nI k), .int x] (jj_m s) 0 0 (none) (jj_m (s0_kdS s (jU (s0_kd s) k x))) := by
  refine jj_Ev_of (lo := [some (.ref 16), some (.int (nI k)), some (.int x)]) (by decide +kernel) (Nat.le_of_ble_eq_true rfl) rfl (by trivial) ?_
  refine jj_iload_n dX1_plant_0 rfl ?_
  refine jj_if_lt (tgt := 20) dX1_plant_1 (by decide) (fun q => absurd q (jb_lt0 (by omega))) (fun _ => ?_)
  refine jj_iload_n dX1_plant_4 rfl ?_
  refine jj_aload_n dX1_plant_5 rfl ?_
  refine jj_getf dX1_plant_6 fl1_9 rfl rfl ?_
  refine jv_alen_i (v := 12) dX1_plant_9 rfl rfl ?_
  refine jj_icmp_ge (tgt := 20) dX1_plant_10 (by decide) (fun q => absurd q (jb_ge hk (by decide))) (fun _ => ?_)
  refine jj_aload_n dX1_plant_13 rfl ?_
  refine jj_getf dX1_plant_14 fl1_9 rfl rfl ?_
  refine jj_iload_n dX1_plant_17 rfl ?_
  refine jj_iload_n dX1_plant_18 rfl ?_
  refine jv_iast dX1_plant_19 rfl (hk) (by decide) rfl ?_
  exact jj_leaf dX1_plant_20 rfl rfl
set_option maxRecDepth 100000 in
set_option maxHeartbeats 4000000 in
theorem ev1_stand_0 {G : jj_G} {s : jj_S} (x y : Int32) : jj_Ev G m1_stand 0 [.ref 16, .int x, .int y] (jj_m s) 0 0 (none) (jj_m (s0_enS (s0_plS s x) y)) := by
  refine jj_Ev_of (lo := [some (.ref 16), some (.int x), some (.int y)]) (by decide +kernel) (Nat.le_of_ble_eq_true rfl) rfl (by trivial) ?_
  refine jj_aload_n dX1_stand_0 rfl ?_
  refine jj_iload_n dX1_stand_1 rfl ?_
  refine jj_putf dX1_stand_2 (fw1_26 _) rfl (Nat.le_of_ble_eq_true rfl) rfl rfl rfl ?_
  refine jj_aload_n dX1_stand_5 rfl ?_
  refine jj_iload_n dX1_stand_6 rfl ?_
  refine jj_putf dX1_stand_7 (fw1_30 _) rfl (Nat.le_of_ble_eq_true rfl) rfl rfl rfl ?_
  exact jj_leaf dX1_stand_10 rfl rfl
set_option maxRecDepth 100000 in
set_option maxHeartbeats 4000000 in
theorem ev1_kindOf_1 {G : jj_G} {s : jj_S} {k : Nat} (hk : k < 12) : jj_Ev G m1_kindOf 0 [.ref 19, .int (nI k)] (jj_m s) 0 0 (some (.int (s1_kd s k))) (jj_m s) := by
  refine jj_Ev_of (lo := [some (.ref 19), some (.int (nI k))]) (by decide +kernel) (Nat.le_of_ble_eq_true rfl) rfl (by trivial) ?_
  refine jj_iload_n dX1_kindOf_0 rfl ?_
  refine jj_if_lt (tgt := 22) dX1_kindOf_1 (by decide) (fun q => absurd q (jb_lt0 (by omega))) (fun _ => ?_)
  refine jj_iload_n dX1_kindOf_4 rfl ?_
  refine jj_aload_n dX1_kindOf_5 rfl ?_
  refine jj_getf dX1_kindOf_6 fl1_9 rfl rfl ?_
  refine jv_alen_i (v := 12) dX1_kindOf_9 rfl rfl ?_
  refine jj_icmp_ge (tgt := 22) dX1_kindOf_10 (by decide) (fun q => absurd q (jb_ge hk (by decide))) (fun _ => ?_)
  refine jj_aload_n dX1_kindOf_13 rfl ?_
  refine jj_getf dX1_kindOf_14 fl1_9 rfl rfl ?_
  refine jj_iload_n dX1_kindOf_17 rfl ?_
  refine jv_iald dX1_kindOf_18 rfl (hk) (by decide) ?_
  refine jj_goto (tgt := 23) dX1_kindOf_19 (by decide) ?_
  exact jj_leaf dX1_kindOf_23 rfl rfl
set_option maxRecDepth 100000 in
set_option maxHeartbeats 4000000 in
theorem ev1_plant_1 {G : jj_G} {s : jj_S} {k : Nat} (x : Int32) (hk : k < 12) : jj_Ev G m1_plant 0 [.ref 19, .int (nI k), .int x] (jj_m s) 0 0 (none) (jj_m (s1_kdS s (jU (s1_kd s) k x))) := by
  refine jj_Ev_of (lo := [some (.ref 19), some (.int (nI k)), some (.int x)]) (by decide +kernel) (Nat.le_of_ble_eq_true rfl) rfl (by trivial) ?_
  refine jj_iload_n dX1_plant_0 rfl ?_
  refine jj_if_lt (tgt := 20) dX1_plant_1 (by decide) (fun q => absurd q (jb_lt0 (by omega))) (fun _ => ?_)
  refine jj_iload_n dX1_plant_4 rfl ?_
  refine jj_aload_n dX1_plant_5 rfl ?_
  refine jj_getf dX1_plant_6 fl1_9 rfl rfl ?_
  refine jv_alen_i (v := 12) dX1_plant_9 rfl rfl ?_
  refine jj_icmp_ge (tgt := 20) dX1_plant_10 (by decide) (fun q => absurd q (jb_ge hk (by decide))) (fun _ => ?_)
  refine jj_aload_n dX1_plant_13 rfl ?_
  refine jj_getf dX1_plant_14 fl1_9 rfl rfl ?_
  refine jj_iload_n dX1_plant_17 rfl ?_
  refine jj_iload_n dX1_plant_18 rfl ?_
  refine jv_iast dX1_plant_19 rfl (hk) (by decide) rfl ?_
  exact jj_leaf dX1_plant_20 rfl rfl
set_option maxRecDepth 100000 in
set_option maxHeartbeats 4000000 in
theorem ev1_stand_1 {G : jj_G} {s : jj_S} (x y : Int32) : jj_Ev G m1_stand 0 [.ref 19, .int x, .int y] (jj_m s) 0 0 (none) (jj_m (s1_enS (s1_plS s x) y)) := by
  refine jj_Ev_of (lo := [some (.ref 19), some (.int x), some (.int y)]) (by decide +kernel) (Nat.le_of_ble_eq_true rfl) rfl (by trivial) ?_
  refine jj_aload_n dX1_stand_0 rfl ?_
  refine jj_iload_n dX1_stand_1 rfl ?_
  refine jj_putf dX1_stand_2 (fw1_26 _) rfl (Nat.le_of_ble_eq_true rfl) rfl rfl rfl ?_
  refine jj_aload_n dX1_stand_5 rfl ?_
  refine jj_iload_n dX1_stand_6 rfl ?_
  refine jj_putf dX1_stand_7 (fw1_30 _) rfl (Nat.le_of_ble_eq_true rfl) rfl rfl rfl ?_
  exact jj_leaf dX1_stand_10 rfl rfl
set_option maxRecDepth 100000 in
set_option maxHeartbeats 4000000 in
theorem ev1_kindOf_2 {G : jj_G} {s : jj_S} {k : Nat} (hk : k < 12) : jj_Ev G m1_kindOf 0 [.ref 22, .int (nI k)] (jj_m s) 0 0 (some (.int (s2_kd s k))) (jj_m s) := by
  refine jj_Ev_of (lo := [some (.ref 22), some (.int (nI k))]) (by decide +kernel) (Nat.le_of_ble_eq_true rfl) rfl (by trivial) ?_
  refine jj_iload_n dX1_kindOf_0 rfl ?_
  refine jj_if_lt (tgt := 22) dX1_kindOf_1 (by decide) (fun q => absurd q (jb_lt0 (by omega))) (fun _ => ?_)
  refine jj_iload_n dX1_kindOf_4 rfl ?_
  refine jj_aload_n dX1_kindOf_5 rfl ?_
  refine jj_getf dX1_kindOf_6 fl1_9 rfl rfl ?_
  refine jv_alen_i (v := 12) dX1_kindOf_9 rfl rfl ?_
  refine jj_icmp_ge (tgt := 22) dX1_kindOf_10 (by decide) (fun q => absurd q (jb_ge hk (by decide))) (fun _ => ?_)
  refine jj_aload_n dX1_kindOf_13 rfl ?_
  refine jj_getf dX1_kindOf_14 fl1_9 rfl rfl ?_
  refine jj_iload_n dX1_kindOf_17 rfl ?_
  refine jv_iald dX1_kindOf_18 rfl (hk) (by decide) ?_
  refine jj_goto (tgt := 23) dX1_kindOf_19 (by decide) ?_
  exact jj_leaf dX1_kindOf_23 rfl rfl
set_option maxRecDepth 100000 in
set_option maxHeartbeats 4000000 in
theorem ev1_forget_2 {G : jj_G} {s : jj_S}  : jj_Ev G m1_forget 0 [.ref 22] (jj_m s) 0 0 (none) (jj_m (s2_tkS s 0)) := by
  refine jj_Ev_of (lo := [some (.ref 22)]) (by decide +kernel) (Nat.le_of_ble_eq_true rfl) rfl (by trivial) ?_
  refine jj_aload_n dX1_forget_0 rfl ?_
  refine jj_iconst (v := 0) dX1_forget_1 (by decide) ?_
  refine jj_putf dX1_forget_2 (fw1_36 _) rfl (Nat.le_of_ble_eq_true rfl) rfl rfl rfl ?_
  exact jj_leaf dX1_forget_5 rfl rfl
set_option maxRecDepth 100000 in
set_option maxHeartbeats 4000000 in
theorem ev1_isTaken_2 {G : jj_G} {s : jj_S}  (hb : s2_tk s = 0 ∨ s2_tk s = 1) : jj_Ev G m1_isTaken 0 [.ref 22] (jj_m s) 0 0 (some (.int (s2_tk s))) (jj_m s) := by
  refine jj_Ev_of (lo := [some (.ref 22)]) (by decide +kernel) (Nat.le_of_ble_eq_true rfl) rfl hb ?_
  refine jj_aload_n dX1_isTaken_0 rfl ?_
  refine jj_getf dX1_isTaken_1 fl1_36 rfl rfl ?_
  exact jj_leaf dX1_isTaken_4 rfl rfl
set_option maxRecDepth 100000 in
set_option maxHeartbeats 4000000 in
theorem ev1_kindOf_3 {G : jj_G} {s : jj_S} {k : Nat} (hk : k < 12) : jj_Ev G m1_kindOf 0 [.ref 25, .int (nI k)] (jj_m s) 0 0 (some (.int (s3_kd s k))) (jj_m s) := by
  refine jj_Ev_of (lo := [some (.ref 25), some (.int (nI k))]) (by decide +kernel) (Nat.le_of_ble_eq_true rfl) rfl (by trivial) ?_
  refine jj_iload_n dX1_kindOf_0 rfl ?_
  refine jj_if_lt (tgt := 22) dX1_kindOf_1 (by decide) (fun q => absurd q (jb_lt0 (by omega))) (fun _ => ?_)
  refine jj_iload_n dX1_kindOf_4 rfl ?_
  refine jj_aload_n dX1_kindOf_5 rfl ?_
  refine jj_getf dX1_kindOf_6 fl1_9 rfl rfl ?_
  refine jv_alen_i (v := 12) dX1_kindOf_9 rfl rfl ?_
  refine jj_icmp_ge (tgt := 22) dX1_kindOf_10 (by decide) (fun q => absurd q (jb_ge hk (by decide))) (fun _ => ?_)
  refine jj_aload_n dX1_kindOf_13 rfl ?_
  refine jj_getf dX1_kindOf_14 fl1_9 rfl rfl ?_
  refine jj_iload_n dX1_kindOf_17 rfl ?_
  refine jv_iald dX1_kindOf_18 rfl (hk) (by decide) ?_
  refine jj_goto (tgt := 23) dX1_kindOf_19 (by decide) ?_
  exact jj_leaf dX1_kindOf_23 rfl rfl
set_option maxRecDepth 100000 in
set_option maxHeartbeats 4000000 in
theorem ev1_forget_3 {G : jj_G} {s : jj_S}  : jj_Ev G m1_forget 0 [.ref 25] (jj_m s) 0 0 (none) (jj_m (s3_tkS s 0)) := by
  refine jj_Ev_of (lo := [some (.ref 25)]) (by decide +kernel) (Nat.le_of_ble_eq_true rfl) rfl (by trivial) ?_
  refine jj_aload_n dX1_forget_0 rfl ?_
  refine jj_iconst (v := 0) dX1_forget_1 (by decide) ?_
  refine jj_putf dX1_forget_2 (fw1_36 _) rfl (Nat.le_of_ble_eq_true rfl) rfl rfl rfl ?_
  exact jj_leaf dX1_forget_5 rfl rfl
set_option maxRecDepth 100000 in
set_option maxHeartbeats 4000000 in
theorem ev1_isTaken_3 {G : jj_G} {s : jj_S}  (hb : s3_tk s = 0 ∨ s3_tk s = 1) : jj_Ev G m1_isTaken 0 [.ref 25] (jj_m s) 0 0 (some (.int (s3_tk s))) (jj_m s) := by
  refine jj_Ev_of (lo := [some (.ref 25)]) (by decide +kernel) (Nat.le_of_ble_eq_true rfl) rfl hb ?_
  refine jj_aload_n dX1_isTaken_0 rfl ?_
  refine jj_getf dX1_isTaken_1 fl1_36 rfl rfl ?_
  exact jj_leaf dX1_isTaken_4 rfl rfl
set_option maxRecDepth 100000 in
set_option maxHeartbeats 4000000 in
theorem ev1_place {G : jj_G} {s : jj_S}  : jj_Ev G m1_place 0 [.ref 19] (jj_m s) 0 0 (some (.int (s1_pl s))) (jj_m s) := by
  refine jj_Ev_of (lo := [some (.ref 19)]) (by decide +kernel) (Nat.le_of_ble_eq_true rfl) rfl (by trivial) ?_
  refine jj_aload_n dX1_place_0 rfl ?_
  refine jj_getf dX1_place_1 fl1_26 rfl rfl ?_
  exact jj_leaf dX1_place_4 rfl rfl
set_option maxRecDepth 100000 in
set_option maxHeartbeats 4000000 in
theorem ev1_entry {G : jj_G} {s : jj_S}  : jj_Ev G m1_entry 0 [.ref 19] (jj_m s) 0 0 (some (.int (s1_en s))) (jj_m s) := by
  refine jj_Ev_of (lo := [some (.ref 19)]) (by decide +kernel) (Nat.le_of_ble_eq_true rfl) rfl (by trivial) ?_
  refine jj_aload_n dX1_entry_0 rfl ?_
  refine jj_getf dX1_entry_1 fl1_30 rfl rfl ?_
  exact jj_leaf dX1_entry_4 rfl rfl
set_option maxRecDepth 100000 in
set_option maxHeartbeats 4000000 in
theorem ev1_steps {G : jj_G} {s : jj_S}  : jj_Ev G m1_steps 0 [.ref 19] (jj_m s) 0 0 (some (.int (s1_st s))) (jj_m s) := by
  refine jj_Ev_of (lo := [some (.ref 19)]) (by decide +kernel) (Nat.le_of_ble_eq_true rfl) rfl (by trivial) ?_
  refine jj_aload_n dX1_steps_0 rfl ?_
  refine jj_getf dX1_steps_1 fl1_33 rfl rfl ?_
  exact jj_leaf dX1_steps_4 rfl rfl
set_option maxRecDepth 100000 in
set_option maxHeartbeats 4000000 in
theorem ev1_move {G : jj_G} {s : jj_S} (x y : Int32) : jj_Ev G m1_move 1 [.ref 19, .int x, .int y] (jj_m s) 0 0 (none) (jj_m (s1_stS (s1_enS (s1_plS s x) y) (s1_st s + 1))) := by
  refine jj_Ev_of (lo := [some (.ref 19), some (.int x), some (.int y)]) (by decide +kernel) (Nat.le_of_ble_eq_true rfl) rfl (by trivial) ?_
  refine jj_aload_n dX1_move_0 rfl ?_
  refine jj_iload_n dX1_move_1 rfl ?_
  refine jj_iload_n dX1_move_2 rfl ?_
  refine jj_callV (M2 := m1_stand) dX1_move_3 ml1_18 tm1_stand (ev1_stand_1 (s := s) x y) rfl rfl rfl rfl rfl (by decide) (Nat.le_of_ble_eq_true rfl) ?_
  refine jj_aload_n dX1_move_6 rfl ?_
  refine jj_dup dX1_move_7 rfl ?_
  refine jj_getf dX1_move_8 fl1_33 rfl rfl ?_
  refine jj_iconst (v := 1) dX1_move_11 (by decide) ?_
  refine jj_iadd dX1_move_12 rfl ?_
  refine jj_putf dX1_move_13 (fw1_33 _) rfl (Nat.le_of_ble_eq_true rfl) rfl rfl rfl ?_
  exact jj_leaf dX1_move_16 rfl rfl
set_option maxRecDepth 100000 in
set_option maxHeartbeats 4000000 in
theorem ev1_begin {G : jj_G} {s : jj_S}  : jj_Ev G m1_begin 1 [.ref 16] (jj_m s) 0 0 (none) (jj_m (s0_enS (s0_plS (s0_kdS s (jF (fun _ => (0 : Int32)) (s0_kd s) 12)) 0) 0)) := by
  refine jj_Ev_of (lo := [some (.ref 16), none]) (by decide +kernel) (Nat.le_of_ble_eq_true rfl) rfl (by trivial) ?_
  have L : ∀ k, k ≤ 12 → jj_Go G m1_begin 1 2 [some (.ref 16), some (.int (nI k))] [] (jj_m (s0_kdS s (jF (fun _ => (0 : Int32)) (s0_kd s) k))) 0 0 (none) (jj_m (s0_enS (s0_plS (s0_kdS s (jF (fun _ => (0 : Int32)) (s0_kd s) 12)) 0) 0)) := by
    refine jj_up 12 (fun k hk ih => ?_) ?_
    · refine jj_iload_n dX1_begin_2 rfl ?_
      refine jj_aload_n dX1_begin_3 rfl ?_
      refine jj_getf dX1_begin_4 fl1_9 rfl rfl ?_
      refine jv_alen_i (v := 12) dX1_begin_7 rfl rfl ?_
      refine jj_icmp_ge (tgt := 24) dX1_begin_8 (by decide) (fun q => absurd q (jb_ge hk (by decide))) (fun _ => ?_)
      refine jj_aload_n dX1_begin_11 rfl ?_
      refine jj_getf dX1_begin_12 fl1_9 rfl rfl ?_
      refine jj_iload_n dX1_begin_15 rfl ?_
      refine jj_iconst (v := 0) dX1_begin_16 (by decide) ?_
      refine jv_iast dX1_begin_17 rfl (hk) (by decide) rfl ?_
      refine jj_iinc dX1_begin_18 rfl (jb_i k) (by decide) rfl ?_
      refine jj_goto (tgt := 2) dX1_begin_21 (by decide) ?_
      exact jj_eq rfl rfl rfl (by rw [← jF_s' (f := fun _ => (0 : Int32)) rfl]; rfl) ih
    · refine jj_iload_n dX1_begin_2 rfl ?_
      refine jj_aload_n dX1_begin_3 rfl ?_
      refine jj_getf dX1_begin_4 fl1_9 rfl rfl ?_
      refine jv_alen_i (v := 12) dX1_begin_7 rfl rfl ?_
      refine jj_icmp_ge (tgt := 24) dX1_begin_8 (by decide) (fun _ => ?_) (fun q => absurd (jb_ge' (n := 12) (by decide)) q)
      refine jj_aload_n dX1_begin_24 rfl ?_
      refine jj_iconst (v := 0) dX1_begin_25 (by decide) ?_
      refine jj_iconst (v := 0) dX1_begin_26 (by decide) ?_
      refine jj_callV (M2 := m1_stand) dX1_begin_27 ml1_18 tm1_stand (ev1_stand_0 (s := s0_kdS s (jF (fun _ => (0 : Int32)) (s0_kd s) 12)) 0 0) rfl rfl rfl rfl rfl (by decide) (Nat.le_of_ble_eq_true rfl) ?_
      exact jj_leaf dX1_begin_30 rfl rfl
  refine jj_iconst (v := 0) dX1_begin_0 (by decide) ?_
  refine jj_istore_n dX1_begin_1 rfl (by decide) rfl ?_
  exact jj_eq rfl rfl rfl (by rw [jF_0]; rfl) (L 0 (by decide))
set_option maxRecDepth 100000 in
set_option maxHeartbeats 4000000 in
theorem ev1_take_1_0 {G : jj_G} {s : jj_S}  : jj_Ev G m1_take 1 [.ref 19, .ref 16] (jj_m s) 0 0 (none) (jj_m (s1_tkS (s1_stS (s1_enS (s1_plS (s1_kdS s (jF (s0_kd s) (s1_kd s) 12)) (s0_pl s)) (s0_en s)) (s0_st s)) 1)) := by
  refine jj_Ev_of (lo := [some (.ref 19), some (.ref 16), none]) (by decide +kernel) (Nat.le_of_ble_eq_true rfl) rfl (by trivial) ?_
  have L : ∀ k, k ≤ 12 → jj_Go G m1_take 1 2 [some (.ref 19), some (.ref 16), some (.int (nI k))] [] (jj_m (s1_kdS s (jF (s0_kd s) (s1_kd s) k))) 0 0 (none) (jj_m (s1_tkS (s1_stS (s1_enS (s1_plS (s1_kdS s (jF (s0_kd s) (s1_kd s) 12)) (s0_pl s)) (s0_en s)) (s0_st s)) 1)) := by
    refine jj_up 12 (fun k hk ih => ?_) ?_
    · refine jj_iload_n dX1_take_2 rfl ?_
      refine jj_aload_n dX1_take_3 rfl ?_
      refine jj_getf dX1_take_4 fl1_9 rfl rfl ?_
      refine jv_alen_i (v := 12) dX1_take_7 rfl rfl ?_
      refine jj_icmp_ge (tgt := 28) dX1_take_8 (by decide) (fun q => absurd q (jb_ge hk (by decide))) (fun _ => ?_)
      refine jj_aload_n dX1_take_11 rfl ?_
      refine jj_getf dX1_take_12 fl1_9 rfl rfl ?_
      refine jj_iload_n dX1_take_15 rfl ?_
      refine jj_aload_n dX1_take_16 rfl ?_
      refine jj_iload_n dX1_take_17 rfl ?_
      refine jj_callV (M2 := m1_kindOf) dX1_take_18 ml1_22 tm1_kindOf (ev1_kindOf_0 (s := s1_kdS s (jF (s0_kd s) (s1_kd s) k)) hk) rfl rfl rfl rfl rfl (by decide) (Nat.le_of_ble_eq_true rfl) ?_
      refine jv_iast dX1_take_21 rfl (hk) (by decide) rfl ?_
      refine jj_iinc dX1_take_22 rfl (jb_i k) (by decide) rfl ?_
      refine jj_goto (tgt := 2) dX1_take_25 (by decide) ?_
      exact jj_eq rfl rfl rfl (by rw [← jF_s' (f := s0_kd s) (g := s1_kd s) rfl]; rfl) ih
    · refine jj_iload_n dX1_take_2 rfl ?_
      refine jj_aload_n dX1_take_3 rfl ?_
      refine jj_getf dX1_take_4 fl1_9 rfl rfl ?_
      refine jv_alen_i (v := 12) dX1_take_7 rfl rfl ?_
      refine jj_icmp_ge (tgt := 28) dX1_take_8 (by decide) (fun _ => ?_) (fun q => absurd (jb_ge' (n := 12) (by decide)) q)
      refine jj_aload_n dX1_take_28 rfl ?_
      refine jj_aload_n dX1_take_29 rfl ?_
      refine jj_getf dX1_take_30 fl1_26 rfl rfl ?_
      refine jj_putf dX1_take_33 (fw1_26 _) rfl (Nat.le_of_ble_eq_true rfl) rfl rfl rfl ?_
      refine jj_aload_n dX1_take_36 rfl ?_
      refine jj_aload_n dX1_take_37 rfl ?_
      refine jj_getf dX1_take_38 fl1_30 rfl rfl ?_
      refine jj_putf dX1_take_41 (fw1_30 _) rfl (Nat.le_of_ble_eq_true rfl) rfl rfl rfl ?_
      refine jj_aload_n dX1_take_44 rfl ?_
      refine jj_aload_n dX1_take_45 rfl ?_
      refine jj_getf dX1_take_46 fl1_33 rfl rfl ?_
      refine jj_putf dX1_take_49 (fw1_33 _) rfl (Nat.le_of_ble_eq_true rfl) rfl rfl rfl ?_
      refine jj_aload_n dX1_take_52 rfl ?_
      refine jj_iconst (v := 1) dX1_take_53 (by decide) ?_
      refine jj_putf dX1_take_54 (fw1_36 _) rfl (Nat.le_of_ble_eq_true rfl) rfl rfl rfl ?_
      exact jj_leaf dX1_take_57 rfl rfl
  refine jj_iconst (v := 0) dX1_take_0 (by decide) ?_
  refine jj_istore_n dX1_take_1 rfl (by decide) rfl ?_
  exact jj_eq rfl rfl rfl (by rw [jF_0]; rfl) (L 0 (by decide))
set_option maxRecDepth 100000 in
set_option maxHeartbeats 4000000 in
theorem ev1_take_2_1 {G : jj_G} {s : jj_S}  : jj_Ev G m1_take 1 [.ref 22, .ref 19] (jj_m s) 0 0 (none) (jj_m (s2_tkS (s2_stS (s2_enS (s2_plS (s2_kdS s (jF (s1_kd s) (s2_kd s) 12)) (s1_pl s)) (s1_en s)) (s1_st s)) 1)) := by
  refine jj_Ev_of (lo := [some (.ref 22), some (.ref 19), none]) (by decide +kernel) (Nat.le_of_ble_eq_true rfl) rfl (by trivial) ?_
  have L : ∀ k, k ≤ 12 → jj_Go G m1_take 1 2 [some (.ref 22), some (.ref 19), some (.int (nI k))] [] (jj_m (s2_kdS s (jF (s1_kd s) (s2_kd s) k))) 0 0 (none) (jj_m (s2_tkS (s2_stS (s2_enS (s2_plS (s2_kdS s (jF (s1_kd s) (s2_kd s) 12)) (s1_pl s)) (s1_en s)) (s1_st s)) 1)) := by
    refine jj_up 12 (fun k hk ih => ?_) ?_
    · refine jj_iload_n dX1_take_2 rfl ?_
      refine jj_aload_n dX1_take_3 rfl ?_
      refine jj_getf dX1_take_4 fl1_9 rfl rfl ?_
      refine jv_alen_i (v := 12) dX1_take_7 rfl rfl ?_
      refine jj_icmp_ge (tgt := 28) dX1_take_8 (by decide) (fun q => absurd q (jb_ge hk (by decide))) (fun _ => ?_)
      refine jj_aload_n dX1_take_11 rfl ?_
      refine jj_getf dX1_take_12 fl1_9 rfl rfl ?_
      refine jj_iload_n dX1_take_15 rfl ?_
      refine jj_aload_n dX1_take_16 rfl ?_
      refine jj_iload_n dX1_take_17 rfl ?_
      refine jj_callV (M2 := m1_kindOf) dX1_take_18 ml1_22 tm1_kindOf (ev1_kindOf_1 (s := s2_kdS s (jF (s1_kd s) (s2_kd s) k)) hk) rfl rfl rfl rfl rfl (by decide) (Nat.le_of_ble_eq_true rfl) ?_
      refine jv_iast dX1_take_21 rfl (hk) (by decide) rfl ?_
      refine jj_iinc dX1_take_22 rfl (jb_i k) (by decide) rfl ?_
      refine jj_goto (tgt := 2) dX1_take_25 (by decide) ?_
      exact jj_eq rfl rfl rfl (by rw [← jF_s' (f := s1_kd s) (g := s2_kd s) rfl]; rfl) ih
    · refine jj_iload_n dX1_take_2 rfl ?_
      refine jj_aload_n dX1_take_3 rfl ?_
      refine jj_getf dX1_take_4 fl1_9 rfl rfl ?_
      refine jv_alen_i (v := 12) dX1_take_7 rfl rfl ?_
      refine jj_icmp_ge (tgt := 28) dX1_take_8 (by decide) (fun _ => ?_) (fun q => absurd (jb_ge' (n := 12) (by decide)) q)
      refine jj_aload_n dX1_take_28 rfl ?_
      refine jj_aload_n dX1_take_29 rfl ?_
      refine jj_getf dX1_take_30 fl1_26 rfl rfl ?_
      refine jj_putf dX1_take_33 (fw1_26 _) rfl (Nat.le_of_ble_eq_true rfl) rfl rfl rfl ?_
      refine jj_aload_n dX1_take_36 rfl ?_
      refine jj_aload_n dX1_take_37 rfl ?_
      refine jj_getf dX1_take_38 fl1_30 rfl rfl ?_
      refine jj_putf dX1_take_41 (fw1_30 _) rfl (Nat.le_of_ble_eq_true rfl) rfl rfl rfl ?_
      refine jj_aload_n dX1_take_44 rfl ?_
      refine jj_aload_n dX1_take_45 rfl ?_
      refine jj_getf dX1_take_46 fl1_33 rfl rfl ?_
      refine jj_putf dX1_take_49 (fw1_33 _) rfl (Nat.le_of_ble_eq_true rfl) rfl rfl rfl ?_
      refine jj_aload_n dX1_take_52 rfl ?_
      refine jj_iconst (v := 1) dX1_take_53 (by decide) ?_
      refine jj_putf dX1_take_54 (fw1_36 _) rfl (Nat.le_of_ble_eq_true rfl) rfl rfl rfl ?_
      exact jj_leaf dX1_take_57 rfl rfl
  refine jj_iconst (v := 0) dX1_take_0 (by decide) ?_
  refine jj_istore_n dX1_take_1 rfl (by decide) rfl ?_
  exact jj_eq rfl rfl rfl (by rw [jF_0]; rfl) (L 0 (by decide))
set_option maxRecDepth 100000 in
set_option maxHeartbeats 4000000 in
theorem ev1_take_3_1 {G : jj_G} {s : jj_S}  : jj_Ev G m1_take 1 [.ref 25, .ref 19] (jj_m s) 0 0 (none) (jj_m (s3_tkS (s3_stS (s3_enS (s3_plS (s3_kdS s (jF (s1_kd s) (s3_kd s) 12)) (s1_pl s)) (s1_en s)) (s1_st s)) 1)) := by
  refine jj_Ev_of (lo := [some (.ref 25), some (.ref 19), none]) (by decide +kernel) (Nat.le_of_ble_eq_true rfl) rfl (by trivial) ?_
  have L : ∀ k, k ≤ 12 → jj_Go G m1_take 1 2 [some (.ref 25), some (.ref 19), some (.int (nI k))] [] (jj_m (s3_kdS s (jF (s1_kd s) (s3_kd s) k))) 0 0 (none) (jj_m (s3_tkS (s3_stS (s3_enS (s3_plS (s3_kdS s (jF (s1_kd s) (s3_kd s) 12)) (s1_pl s)) (s1_en s)) (s1_st s)) 1)) := by
    refine jj_up 12 (fun k hk ih => ?_) ?_
    · refine jj_iload_n dX1_take_2 rfl ?_
      refine jj_aload_n dX1_take_3 rfl ?_
      refine jj_getf dX1_take_4 fl1_9 rfl rfl ?_
      refine jv_alen_i (v := 12) dX1_take_7 rfl rfl ?_
      refine jj_icmp_ge (tgt := 28) dX1_take_8 (by decide) (fun q => absurd q (jb_ge hk (by decide))) (fun _ => ?_)
      refine jj_aload_n dX1_take_11 rfl ?_
      refine jj_getf dX1_take_12 fl1_9 rfl rfl ?_
      refine jj_iload_n dX1_take_15 rfl ?_
      refine jj_aload_n dX1_take_16 rfl ?_
      refine jj_iload_n dX1_take_17 rfl ?_
      refine jj_callV (M2 := m1_kindOf) dX1_take_18 ml1_22 tm1_kindOf (ev1_kindOf_1 (s := s3_kdS s (jF (s1_kd s) (s3_kd s) k)) hk) rfl rfl rfl rfl rfl (by decide) (Nat.le_of_ble_eq_true rfl) ?_
      refine jv_iast dX1_take_21 rfl (hk) (by decide) rfl ?_
      refine jj_iinc dX1_take_22 rfl (jb_i k) (by decide) rfl ?_
      refine jj_goto (tgt := 2) dX1_take_25 (by decide) ?_
      exact jj_eq rfl rfl rfl (by rw [← jF_s' (f := s1_kd s) (g := s3_kd s) rfl]; rfl) ih
    · refine jj_iload_n dX1_take_2 rfl ?_
      refine jj_aload_n dX1_take_3 rfl ?_
      refine jj_getf dX1_take_4 fl1_9 rfl rfl ?_
      refine jv_alen_i (v := 12) dX1_take_7 rfl rfl ?_
      refine jj_icmp_ge (tgt := 28) dX1_take_8 (by decide) (fun _ => ?_) (fun q => absurd (jb_ge' (n := 12) (by decide)) q)
      refine jj_aload_n dX1_take_28 rfl ?_
      refine jj_aload_n dX1_take_29 rfl ?_
      refine jj_getf dX1_take_30 fl1_26 rfl rfl ?_
      refine jj_putf dX1_take_33 (fw1_26 _) rfl (Nat.le_of_ble_eq_true rfl) rfl rfl rfl ?_
      refine jj_aload_n dX1_take_36 rfl ?_
      refine jj_aload_n dX1_take_37 rfl ?_
      refine jj_getf dX1_take_38 fl1_30 rfl rfl ?_
      refine jj_putf dX1_take_41 (fw1_30 _) rfl (Nat.le_of_ble_eq_true rfl) rfl rfl rfl ?_
      refine jj_aload_n dX1_take_44 rfl ?_
      refine jj_aload_n dX1_take_45 rfl ?_
      refine jj_getf dX1_take_46 fl1_33 rfl rfl ?_
      refine jj_putf dX1_take_49 (fw1_33 _) rfl (Nat.le_of_ble_eq_true rfl) rfl rfl rfl ?_
      refine jj_aload_n dX1_take_52 rfl ?_
      refine jj_iconst (v := 1) dX1_take_53 (by decide) ?_
      refine jj_putf dX1_take_54 (fw1_36 _) rfl (Nat.le_of_ble_eq_true rfl) rfl rfl rfl ?_
      exact jj_leaf dX1_take_57 rfl rfl
  refine jj_iconst (v := 0) dX1_take_0 (by decide) ?_
  refine jj_istore_n dX1_take_1 rfl (by decide) rfl ?_
  exact jj_eq rfl rfl rfl (by rw [jF_0]; rfl) (L 0 (by decide))
set_option maxRecDepth 100000 in
set_option maxHeartbeats 4000000 in
theorem ev1_take_1_2 {G : jj_G} {s : jj_S}  : jj_Ev G m1_take 1 [.ref 19, .ref 22] (jj_m s) 0 0 (none) (jj_m (s1_tkS (s1_stS (s1_enS (s1_plS (s1_kdS s (jF (s2_kd s) (s1_kd s) 12)) (s2_pl s)) (s2_en s)) (s2_st s)) 1)) := by
  refine jj_Ev_of (lo := [some (.ref 19), some (.ref 22), none]) (by decide +kernel) (Nat.le_of_ble_eq_true rfl) rfl (by trivial) ?_
  have L : ∀ k, k ≤ 12 → jj_Go G m1_take 1 2 [some (.ref 19), some (.ref 22), some (.int (nI k))] [] (jj_m (s1_kdS s (jF (s2_kd s) (s1_kd s) k))) 0 0 (none) (jj_m (s1_tkS (s1_stS (s1_enS (s1_plS (s1_kdS s (jF (s2_kd s) (s1_kd s) 12)) (s2_pl s)) (s2_en s)) (s2_st s)) 1)) := by
    refine jj_up 12 (fun k hk ih => ?_) ?_
    · refine jj_iload_n dX1_take_2 rfl ?_
      refine jj_aload_n dX1_take_3 rfl ?_
      refine jj_getf dX1_take_4 fl1_9 rfl rfl ?_
      refine jv_alen_i (v := 12) dX1_take_7 rfl rfl ?_
      refine jj_icmp_ge (tgt := 28) dX1_take_8 (by decide) (fun q => absurd q (jb_ge hk (by decide))) (fun _ => ?_)
      refine jj_aload_n dX1_take_11 rfl ?_
      refine jj_getf dX1_take_12 fl1_9 rfl rfl ?_
      refine jj_iload_n dX1_take_15 rfl ?_
      refine jj_aload_n dX1_take_16 rfl ?_
      refine jj_iload_n dX1_take_17 rfl ?_
      refine jj_callV (M2 := m1_kindOf) dX1_take_18 ml1_22 tm1_kindOf (ev1_kindOf_2 (s := s1_kdS s (jF (s2_kd s) (s1_kd s) k)) hk) rfl rfl rfl rfl rfl (by decide) (Nat.le_of_ble_eq_true rfl) ?_
      refine jv_iast dX1_take_21 rfl (hk) (by decide) rfl ?_
      refine jj_iinc dX1_take_22 rfl (jb_i k) (by decide) rfl ?_
      refine jj_goto (tgt := 2) dX1_take_25 (by decide) ?_
      exact jj_eq rfl rfl rfl (by rw [← jF_s' (f := s2_kd s) (g := s1_kd s) rfl]; rfl) ih
    · refine jj_iload_n dX1_take_2 rfl ?_
      refine jj_aload_n dX1_take_3 rfl ?_
      refine jj_getf dX1_take_4 fl1_9 rfl rfl ?_
      refine jv_alen_i (v := 12) dX1_take_7 rfl rfl ?_
      refine jj_icmp_ge (tgt := 28) dX1_take_8 (by decide) (fun _ => ?_) (fun q => absurd (jb_ge' (n := 12) (by decide)) q)
      refine jj_aload_n dX1_take_28 rfl ?_
      refine jj_aload_n dX1_take_29 rfl ?_
      refine jj_getf dX1_take_30 fl1_26 rfl rfl ?_
      refine jj_putf dX1_take_33 (fw1_26 _) rfl (Nat.le_of_ble_eq_true rfl) rfl rfl rfl ?_
      refine jj_aload_n dX1_take_36 rfl ?_
      refine jj_aload_n dX1_take_37 rfl ?_
      refine jj_getf dX1_take_38 fl1_30 rfl rfl ?_
      refine jj_putf dX1_take_41 (fw1_30 _) rfl (Nat.le_of_ble_eq_true rfl) rfl rfl rfl ?_
      refine jj_aload_n dX1_take_44 rfl ?_
      refine jj_aload_n dX1_take_45 rfl ?_
      refine jj_getf dX1_take_46 fl1_33 rfl rfl ?_
      refine jj_putf dX1_take_49 (fw1_33 _) rfl (Nat.le_of_ble_eq_true rfl) rfl rfl rfl ?_
      refine jj_aload_n dX1_take_52 rfl ?_
      refine jj_iconst (v := 1) dX1_take_53 (by decide) ?_
      refine jj_putf dX1_take_54 (fw1_36 _) rfl (Nat.le_of_ble_eq_true rfl) rfl rfl rfl ?_
      exact jj_leaf dX1_take_57 rfl rfl
  refine jj_iconst (v := 0) dX1_take_0 (by decide) ?_
  refine jj_istore_n dX1_take_1 rfl (by decide) rfl ?_
  exact jj_eq rfl rfl rfl (by rw [jF_0]; rfl) (L 0 (by decide))
set_option maxRecDepth 100000 in
set_option maxHeartbeats 4000000 in
theorem ev1_take_1_3 {G : jj_G} {s : jj_S}  : jj_Ev G m1_take 1 [.ref 19, .ref 25] (jj_m s) 0 0 (none) (jj_m (s1_tkS (s1_stS (s1_enS (s1_plS (s1_kdS s (jF (s3_kd s) (s1_kd s) 12)) (s3_pl s)) (s3_en s)) (s3_st s)) 1)) := by
  refine jj_Ev_of (lo := [some (.ref 19), some (.ref 25), none]) (by decide +kernel) (Nat.le_of_ble_eq_true rfl) rfl (by trivial) ?_
  have L : ∀ k, k ≤ 12 → jj_Go G m1_take 1 2 [some (.ref 19), some (.ref 25), some (.int (nI k))] [] (jj_m (s1_kdS s (jF (s3_kd s) (s1_kd s) k))) 0 0 (none) (jj_m (s1_tkS (s1_stS (s1_enS (s1_plS (s1_kdS s (jF (s3_kd s) (s1_kd s) 12)) (s3_pl s)) (s3_en s)) (s3_st s)) 1)) := by
    refine jj_up 12 (fun k hk ih => ?_) ?_
    · refine jj_iload_n dX1_take_2 rfl ?_
      refine jj_aload_n dX1_take_3 rfl ?_
      refine jj_getf dX1_take_4 fl1_9 rfl rfl ?_
      refine jv_alen_i (v := 12) dX1_take_7 rfl rfl ?_
      refine jj_icmp_ge (tgt := 28) dX1_take_8 (by decide) (fun q => absurd q (jb_ge hk (by decide))) (fun _ => ?_)
      refine jj_aload_n dX1_take_11 rfl ?_
      refine jj_getf dX1_take_12 fl1_9 rfl rfl ?_
      refine jj_iload_n dX1_take_15 rfl ?_
      refine jj_aload_n dX1_take_16 rfl ?_
      refine jj_iload_n dX1_take_17 rfl ?_
      refine jj_callV (M2 := m1_kindOf) dX1_take_18 ml1_22 tm1_kindOf (ev1_kindOf_3 (s := s1_kdS s (jF (s3_kd s) (s1_kd s) k)) hk) rfl rfl rfl rfl rfl (by decide) (Nat.le_of_ble_eq_true rfl) ?_
      refine jv_iast dX1_take_21 rfl (hk) (by decide) rfl ?_
      refine jj_iinc dX1_take_22 rfl (jb_i k) (by decide) rfl ?_
      refine jj_goto (tgt := 2) dX1_take_25 (by decide) ?_
      exact jj_eq rfl rfl rfl (by rw [← jF_s' (f := s3_kd s) (g := s1_kd s) rfl]; rfl) ih
    · refine jj_iload_n dX1_take_2 rfl ?_
      refine jj_aload_n dX1_take_3 rfl ?_
      refine jj_getf dX1_take_4 fl1_9 rfl rfl ?_
      refine jv_alen_i (v := 12) dX1_take_7 rfl rfl ?_
      refine jj_icmp_ge (tgt := 28) dX1_take_8 (by decide) (fun _ => ?_) (fun q => absurd (jb_ge' (n := 12) (by decide)) q)
      refine jj_aload_n dX1_take_28 rfl ?_
      refine jj_aload_n dX1_take_29 rfl ?_
      refine jj_getf dX1_take_30 fl1_26 rfl rfl ?_
      refine jj_putf dX1_take_33 (fw1_26 _) rfl (Nat.le_of_ble_eq_true rfl) rfl rfl rfl ?_
      refine jj_aload_n dX1_take_36 rfl ?_
      refine jj_aload_n dX1_take_37 rfl ?_
      refine jj_getf dX1_take_38 fl1_30 rfl rfl ?_
      refine jj_putf dX1_take_41 (fw1_30 _) rfl (Nat.le_of_ble_eq_true rfl) rfl rfl rfl ?_
      refine jj_aload_n dX1_take_44 rfl ?_
      refine jj_aload_n dX1_take_45 rfl ?_
      refine jj_getf dX1_take_46 fl1_33 rfl rfl ?_
      refine jj_putf dX1_take_49 (fw1_33 _) rfl (Nat.le_of_ble_eq_true rfl) rfl rfl rfl ?_
      refine jj_aload_n dX1_take_52 rfl ?_
      refine jj_iconst (v := 1) dX1_take_53 (by decide) ?_
      refine jj_putf dX1_take_54 (fw1_36 _) rfl (Nat.le_of_ble_eq_true rfl) rfl rfl rfl ?_
      exact jj_leaf dX1_take_57 rfl rfl
  refine jj_iconst (v := 0) dX1_take_0 (by decide) ?_
  refine jj_istore_n dX1_take_1 rfl (by decide) rfl ?_
  exact jj_eq rfl rfl rfl (by rw [jF_0]; rfl) (L 0 (by decide))
set_option maxRecDepth 100000 in
set_option maxHeartbeats 4000000 in
theorem ev1_allOfKind {G : jj_G} {s : jj_S} (x : Int32) : jj_Ev G m1_allOfKind 0 [.ref 19, .int x] (jj_m s) 0 0 (some (.int (nI (j1_all (s1_kd s) x 12)))) (jj_m s) := by
  refine jj_Ev_of (lo := [some (.ref 19), some (.int x), none, none]) (by decide +kernel) (Nat.le_of_ble_eq_true rfl) rfl (by trivial) ?_
  have L : ∀ k, k ≤ 12 → jj_Go G m1_allOfKind 0 4 [some (.ref 19), some (.int x), some (.int (nI (j1_all (s1_kd s) x k))), some (.int (nI k))] [] (jj_m s) 0 0 (some (.int (nI (j1_all (s1_kd s) x 12)))) (jj_m s) := by
    refine jj_up 12 (fun k hk ih => ?_) ?_
    · refine jj_iload_n dX1_allOfKind_4 rfl ?_
      refine jj_aload_n dX1_allOfKind_5 rfl ?_
      refine jj_getf dX1_allOfKind_6 fl1_9 rfl rfl ?_
      refine jv_alen_i (v := 12) dX1_allOfKind_9 rfl rfl ?_
      refine jj_icmp_ge (tgt := 35) dX1_allOfKind_10 (by decide) (fun q => absurd q (jb_ge hk (by decide))) (fun _ => ?_)
      refine jj_aload_n dX1_allOfKind_13 rfl ?_
      refine jj_getf dX1_allOfKind_14 fl1_9 rfl rfl ?_
      refine jj_iload_n dX1_allOfKind_17 rfl ?_
      refine jv_iald dX1_allOfKind_18 rfl (hk) (by decide) ?_
      refine jj_iload_n dX1_allOfKind_19 rfl ?_
      refine jj_icmp_ne (tgt := 29) dX1_allOfKind_20 (by decide) (fun c20 => ?_) (fun c20 => ?_)
      · refine jj_iinc dX1_allOfKind_29 rfl (jb_i k) (by decide) rfl ?_
        refine jj_goto (tgt := 4) dX1_allOfKind_32 (by decide) ?_
        unfold j1_all at ih
        first | (rw [if_neg c20] at ih; exact ih) | (rw [if_pos c20] at ih; exact ih)
      · refine jj_iload_n dX1_allOfKind_23 rfl ?_
        refine jj_iconst (v := 1) dX1_allOfKind_24 (by decide) ?_
        refine jj_iload_n dX1_allOfKind_25 rfl ?_
        refine jj_ishl dX1_allOfKind_26 (jb_2k k (by omega)) ?_
        refine jj_ior dX1_allOfKind_27 (fa_or _ _) ?_
        refine jj_istore_n dX1_allOfKind_28 rfl (by decide) rfl ?_
        refine jj_iinc dX1_allOfKind_29 rfl (jb_i k) (by decide) rfl ?_
        refine jj_goto (tgt := 4) dX1_allOfKind_32 (by decide) ?_
        unfold j1_all at ih
        first | (rw [if_neg c20] at ih; exact ih) | (rw [if_pos c20] at ih; exact ih)
    · refine jj_iload_n dX1_allOfKind_4 rfl ?_
      refine jj_aload_n dX1_allOfKind_5 rfl ?_
      refine jj_getf dX1_allOfKind_6 fl1_9 rfl rfl ?_
      refine jv_alen_i (v := 12) dX1_allOfKind_9 rfl rfl ?_
      refine jj_icmp_ge (tgt := 35) dX1_allOfKind_10 (by decide) (fun _ => ?_) (fun q => absurd (jb_ge' (n := 12) (by decide)) q)
      refine jj_iload_n dX1_allOfKind_35 rfl ?_
      exact jj_leaf dX1_allOfKind_36 rfl rfl
  refine jj_iconst (v := 0) dX1_allOfKind_0 (by decide) ?_
  refine jj_istore_n dX1_allOfKind_1 rfl (by decide) rfl ?_
  refine jj_iconst (v := 0) dX1_allOfKind_2 (by decide) ?_
  refine jj_istore_n dX1_allOfKind_3 rfl (by decide) rfl ?_
  exact L 0 (by decide)
set_option maxRecDepth 100000 in
set_option maxHeartbeats 4000000 in
theorem ev4_isTurning {G : jj_G} {h : List jj_C} {t : Nat} (ht : t < 60) : jj_Ev G m4_isTurning 0 [.int (nI t)] (h) 0 0 (some (.int 1)) (h) := by
  refine jj_Ev_of (lo := [some (.int (nI t))]) (by decide +kernel) (Nat.le_of_ble_eq_true rfl) rfl (Or.inr rfl) ?_
  refine jj_iload_n dX4_isTurning_0 rfl ?_
  refine jj_if_lt (tgt := 14) dX4_isTurning_1 (by decide) (fun q => absurd q (jb_lt0 (by omega))) (fun _ => ?_)
  refine jj_iload_n dX4_isTurning_4 rfl ?_
  refine jj_bipush (v := 60) dX4_isTurning_5 (by decide) ?_
  refine jj_icmp_ge (tgt := 14) dX4_isTurning_7 (by decide) (fun q => absurd q (jb_ge ht (by decide))) (fun _ => ?_)
  refine jj_iconst (v := 1) dX4_isTurning_10 (by decide) ?_
  refine jj_goto (tgt := 15) dX4_isTurning_11 (by decide) ?_
  exact jj_leaf dX4_isTurning_15 rfl rfl
theorem j4_mul (a b : Nat) : nI a * nI b = nI (a * b) := (Int32.ofNat_mul a b).symm
set_option maxRecDepth 100000 in
set_option maxHeartbeats 4000000 in
theorem ev4_number {G : jj_G} {h : List jj_C} {a b : Nat} : jj_Ev G m4_number 0 [.int (nI a), .int (nI b)] (h) 0 0 (some (.int (nI (a * 5 + b)))) (h) := by
  refine jj_Ev_of (lo := [some (.int (nI a)), some (.int (nI b))]) (by decide +kernel) (Nat.le_of_ble_eq_true rfl) rfl (by trivial) ?_
  refine jj_iload_n dX4_number_0 rfl ?_
  refine jj_iconst (v := 5) dX4_number_1 (by decide) ?_
  refine jj_imul dX4_number_2 (j4_mul a 5) ?_
  refine jj_iload_n dX4_number_3 rfl ?_
  refine jj_iadd dX4_number_4 (nI_add _ _) ?_
  exact jj_leaf dX4_number_5 rfl rfl
set_option maxRecDepth 100000 in
set_option maxHeartbeats 4000000 in
theorem ev4_goal {G : jj_G} {s : jj_S} {t f : Nat} (ht : t < 60) (hf : f < 12) : jj_Ev G m4_goal 1 [.ref 6, .int (nI t), .int (nI f)] (jj_m s) 0 0 (some (.int (tn_go s (t * 12 + f)))) (jj_m s) := by
  refine jj_Ev_of (lo := [some (.ref 6), some (.int (nI t)), some (.int (nI f))]) (by decide +kernel) (Nat.le_of_ble_eq_true rfl) rfl (by trivial) ?_
  refine jj_iload_n dX4_goal_0 rfl ?_
  refine jj_callS (M2 := m4_isTurning) dX4_goal_1 ml4_44 tm4_isTurning (ev4_isTurning ht) rfl rfl (by decide) (Nat.le_of_ble_eq_true rfl) ?_
  refine jj_if_eq (tgt := 14) dX4_goal_4 (by decide) (fun q => absurd q (by decide)) (fun _ => ?_)
  refine jj_iload_n dX4_goal_7 rfl ?_
  refine jj_callS (M2 := m0_isField) dX4_goal_8 ml4_48 tm0_isField (ev0_isField_v hf) rfl rfl (by decide) (Nat.le_of_ble_eq_true rfl) ?_
  refine jj_if_ne (tgt := 17) dX4_goal_11 (by decide) (fun _ => ?_) (fun q => absurd q (by decide))
  refine jj_aload_n dX4_goal_17 rfl ?_
  refine jj_getf dX4_goal_18 fl4_9 rfl rfl ?_
  refine jj_iload_n dX4_goal_21 rfl ?_
  refine jj_bipush (v := 12) dX4_goal_22 (by decide) ?_
  refine jj_imul dX4_goal_24 (j4_mul t 12) ?_
  refine jj_iload_n dX4_goal_25 rfl ?_
  refine jj_iadd dX4_goal_26 (nI_add _ _) ?_
  refine jv_iald dX4_goal_27 rfl (by omega) (by decide) ?_
  exact jj_leaf dX4_goal_28 rfl rfl
/-- the kinds laid to their goals, the first k of them -/
def j1_tu (g : Nat → Nat) (kd tu : Nat → Int32) : Nat → Nat → Int32
  | 0 => tu
  | k + 1 => jU (j1_tu g kd tu k) (g k) (kd k)
def j1_ct (f g : Nat → Int32) : Nat → Nat
  | 0 => 0
  | k + 1 => if f k = g k then j1_ct f g k else j1_ct f g k + 1
theorem j1_ct_le (f g : Nat → Int32) : ∀ k, j1_ct f g k ≤ k := by
  intro k
  induction k with
  | zero => exact Nat.le_refl 0
  | succ k ih => unfold j1_ct; split <;> omega
set_option maxRecDepth 100000 in
set_option maxHeartbeats 4000000 in
theorem ev1_turn {G : jj_G} {s : jj_S} {t : Nat} {g : Nat → Nat} (ht : t < 60) (hg : ∀ k, k < 12 → tn_go s (t * 12 + k) = nI (g k) ∧ g k < 12) : jj_Ev G m1_turn 2 [.ref 19, .ref 6, .int (nI t)] (jj_m s) 0 0 (some (.int (nI (j1_ct (j1_tu g (s1_kd s) (s1_tu s) 12) (s1_kd s) 12)))) (jj_m (s1_kdS (s1_tuS s (j1_tu g (s1_kd s) (s1_tu s) 12)) (jF (j1_tu g (s1_kd s) (s1_tu s) 12) (s1_kd s) 12))) := by
  refine jj_Ev_of (lo := [some (.ref 19), some (.ref 6), some (.int (nI t)), none, none]) (by decide +kernel) (Nat.le_of_ble_eq_true rfl) rfl (by trivial) ?_
  have L2 : ∀ k, k ≤ 12 → jj_Go G m1_turn 2 54 [some (.ref 19), some (.ref 6), some (.int (nI t)), some (.int (nI (j1_ct (j1_tu g (s1_kd s) (s1_tu s) 12) (s1_kd s) k))), some (.int (nI k))] [] (jj_m (s1_kdS (s1_tuS s (j1_tu g (s1_kd s) (s1_tu s) 12)) (jF (j1_tu g (s1_kd s) (s1_tu s) 12) (s1_kd s) k))) 0 0 (some (.int (nI (j1_ct (j1_tu g (s1_kd s) (s1_tu s) 12) (s1_kd s) 12)))) (jj_m (s1_kdS (s1_tuS s (j1_tu g (s1_kd s) (s1_tu s) 12)) (jF (j1_tu g (s1_kd s) (s1_tu s) 12) (s1_kd s) 12))) := by
    refine jj_up 12 (fun k hk ih => ?_) ?_
    · refine jj_iload dX1_turn_54 rfl ?_
      refine jj_aload_n dX1_turn_56 rfl ?_
      refine jj_getf dX1_turn_57 fl1_15 rfl rfl ?_
      refine jv_alen_i (v := 12) dX1_turn_60 rfl rfl ?_
      refine jj_icmp_ge (tgt := 102) dX1_turn_61 (by decide) (fun q => absurd q (jb_ge hk (by decide))) (fun _ => ?_)
      refine jj_aload_n dX1_turn_64 rfl ?_
      refine jj_getf dX1_turn_65 fl1_15 rfl rfl ?_
      refine jj_iload dX1_turn_68 rfl ?_
      refine jv_iald dX1_turn_70 rfl (hk) (by decide) ?_
      refine jj_aload_n dX1_turn_71 rfl ?_
      refine jj_iload dX1_turn_72 rfl ?_
      refine jj_callV (M2 := m1_kindOf) dX1_turn_74 ml1_22 tm1_kindOf (ev1_kindOf_1 (s := s1_kdS (s1_tuS s (j1_tu g (s1_kd s) (s1_tu s) 12)) (jF (j1_tu g (s1_kd s) (s1_tu s) 12) (s1_kd s) k)) hk) rfl rfl rfl rfl rfl (by decide) (Nat.le_of_ble_eq_true rfl) ?_
      refine jj_icmp_eq (tgt := 83) dX1_turn_77 (by decide) (fun c77 => ?_) (fun c77 => ?_)
      · refine jj_aload_n dX1_turn_83 rfl ?_
        refine jj_iload dX1_turn_84 rfl ?_
        refine jj_aload_n dX1_turn_86 rfl ?_
        refine jj_getf dX1_turn_87 fl1_15 rfl rfl ?_
        refine jj_iload dX1_turn_90 rfl ?_
        refine jv_iald dX1_turn_92 rfl (hk) (by decide) ?_
        refine jj_callV (M2 := m1_plant) dX1_turn_93 ml1_46 tm1_plant (ev1_plant_1 (s := s1_kdS (s1_tuS s (j1_tu g (s1_kd s) (s1_tu s) 12)) (jF (j1_tu g (s1_kd s) (s1_tu s) 12) (s1_kd s) k)) _ hk) rfl rfl rfl rfl rfl (by decide) (Nat.le_of_ble_eq_true rfl) ?_
        refine jj_iinc dX1_turn_96 rfl (jb_i k) (by decide) rfl ?_
        refine jj_goto (tgt := 54) dX1_turn_99 (by decide) ?_
        unfold j1_ct at ih
        have e : (jF (j1_tu g (s1_kd s) (s1_tu s) 12) (s1_kd s) k) k = s1_kd s k := jF_out (Nat.le_refl k)
        have c := c77
        rw [show s1_kd (s1_kdS (s1_tuS s (j1_tu g (s1_kd s) (s1_tu s) 12)) (jF (j1_tu g (s1_kd s) (s1_tu s) 12) (s1_kd s) k)) k = s1_kd s k from e, show s1_tu (s1_kdS (s1_tuS s (j1_tu g (s1_kd s) (s1_tu s) 12)) (jF (j1_tu g (s1_kd s) (s1_tu s) 12) (s1_kd s) k)) k = (j1_tu g (s1_kd s) (s1_tu s) 12) k from rfl] at c
        first | (rw [if_pos c] at ih; exact jj_eq rfl rfl rfl (by rw [← jF_s ((j1_tu g (s1_kd s) (s1_tu s) 12)) (s1_kd s) k]; rfl) ih) | (rw [if_neg c] at ih; exact jj_eq rfl rfl rfl (by rw [← jF_s ((j1_tu g (s1_kd s) (s1_tu s) 12)) (s1_kd s) k]; rfl) ih)
      · refine jj_iinc dX1_turn_80 rfl (jb_i _) (by decide) rfl ?_
        refine jj_aload_n dX1_turn_83 rfl ?_
        refine jj_iload dX1_turn_84 rfl ?_
        refine jj_aload_n dX1_turn_86 rfl ?_
        refine jj_getf dX1_turn_87 fl1_15 rfl rfl ?_
        refine jj_iload dX1_turn_90 rfl ?_
        refine jv_iald dX1_turn_92 rfl (hk) (by decide) ?_
        refine jj_callV (M2 := m1_plant) dX1_turn_93 ml1_46 tm1_plant (ev1_plant_1 (s := s1_kdS (s1_tuS s (j1_tu g (s1_kd s) (s1_tu s) 12)) (jF (j1_tu g (s1_kd s) (s1_tu s) 12) (s1_kd s) k)) _ hk) rfl rfl rfl rfl rfl (by decide) (Nat.le_of_ble_eq_true rfl) ?_
        refine jj_iinc dX1_turn_96 rfl (jb_i k) (by decide) rfl ?_
        refine jj_goto (tgt := 54) dX1_turn_99 (by decide) ?_
        unfold j1_ct at ih
        have e : (jF (j1_tu g (s1_kd s) (s1_tu s) 12) (s1_kd s) k) k = s1_kd s k := jF_out (Nat.le_refl k)
        have c := c77
        rw [show s1_kd (s1_kdS (s1_tuS s (j1_tu g (s1_kd s) (s1_tu s) 12)) (jF (j1_tu g (s1_kd s) (s1_tu s) 12) (s1_kd s) k)) k = s1_kd s k from e, show s1_tu (s1_kdS (s1_tuS s (j1_tu g (s1_kd s) (s1_tu s) 12)) (jF (j1_tu g (s1_kd s) (s1_tu s) 12) (s1_kd s) k)) k = (j1_tu g (s1_kd s) (s1_tu s) 12) k from rfl] at c
        first | (rw [if_pos c] at ih; exact jj_eq rfl rfl rfl (by rw [← jF_s ((j1_tu g (s1_kd s) (s1_tu s) 12)) (s1_kd s) k]; rfl) ih) | (rw [if_neg c] at ih; exact jj_eq rfl rfl rfl (by rw [← jF_s ((j1_tu g (s1_kd s) (s1_tu s) 12)) (s1_kd s) k]; rfl) ih)
    · refine jj_iload dX1_turn_54 rfl ?_
      refine jj_aload_n dX1_turn_56 rfl ?_
      refine jj_getf dX1_turn_57 fl1_15 rfl rfl ?_
      refine jv_alen_i (v := 12) dX1_turn_60 rfl rfl ?_
      refine jj_icmp_ge (tgt := 102) dX1_turn_61 (by decide) (fun _ => ?_) (fun q => absurd (jb_ge' (n := 12) (by decide)) q)
      refine jj_iload_n dX1_turn_102 rfl ?_
      exact jj_leaf dX1_turn_103 rfl rfl
  have L1 : ∀ k, k ≤ 12 → jj_Go G m1_turn 2 2 [some (.ref 19), some (.ref 6), some (.int (nI t)), some (.int (nI k)), none] [] (jj_m (s1_tuS s (j1_tu g (s1_kd s) (s1_tu s) k))) 0 0 (some (.int (nI (j1_ct (j1_tu g (s1_kd s) (s1_tu s) 12) (s1_kd s) 12)))) (jj_m (s1_kdS (s1_tuS s (j1_tu g (s1_kd s) (s1_tu s) 12)) (jF (j1_tu g (s1_kd s) (s1_tu s) 12) (s1_kd s) 12))) := by
    refine jj_up 12 (fun k hk ih => ?_) ?_
    · refine jj_iload_n dX1_turn_2 rfl ?_
      refine jj_bipush (v := 12) dX1_turn_3 (by decide) ?_
      refine jj_icmp_ge (tgt := 49) dX1_turn_5 (by decide) (fun q => absurd q (jb_ge hk (by decide))) (fun _ => ?_)
      refine jj_aload_n dX1_turn_8 rfl ?_
      refine jj_iload_n dX1_turn_9 rfl ?_
      refine jj_iload_n dX1_turn_10 rfl ?_
      refine jj_callV (M2 := m4_goal) dX1_turn_11 ml1_40 tm4_goal (ev4_goal (s := s1_tuS s (j1_tu g (s1_kd s) (s1_tu s) k)) ht hk) rfl rfl rfl rfl rfl (by decide) (Nat.le_of_ble_eq_true rfl) ?_
      refine jj_eq (st' := [.int (nI (g k))]) rfl rfl (by rw [← (hg k hk).1]; rfl) rfl ?_
      refine jj_istore dX1_turn_14 (by decide) rfl ?_
      refine jj_iload dX1_turn_16 rfl ?_
      refine jj_if_lt (tgt := 43) dX1_turn_18 (by decide) (fun q => absurd q (jb_lt0 (by have := (hg k hk).2; omega))) (fun _ => ?_)
      refine jj_iload dX1_turn_21 rfl ?_
      refine jj_aload_n dX1_turn_23 rfl ?_
      refine jj_getf dX1_turn_24 fl1_15 rfl rfl ?_
      refine jv_alen_i (v := 12) dX1_turn_27 rfl rfl ?_
      refine jj_icmp_ge (tgt := 43) dX1_turn_28 (by decide) (fun q => absurd q (jb_ge (hg k hk).2 (by decide))) (fun _ => ?_)
      refine jj_aload_n dX1_turn_31 rfl ?_
      refine jj_getf dX1_turn_32 fl1_15 rfl rfl ?_
      refine jj_iload dX1_turn_35 rfl ?_
      refine jj_aload_n dX1_turn_37 rfl ?_
      refine jj_iload_n dX1_turn_38 rfl ?_
      refine jj_callV (M2 := m1_kindOf) dX1_turn_39 ml1_22 tm1_kindOf (ev1_kindOf_1 (s := s1_tuS s (j1_tu g (s1_kd s) (s1_tu s) k)) hk) rfl rfl rfl rfl rfl (by decide) (Nat.le_of_ble_eq_true rfl) ?_
      refine jv_iast dX1_turn_42 rfl ((hg k hk).2) (by decide) rfl ?_
      refine jj_iinc dX1_turn_43 rfl (jb_i k) (by decide) rfl ?_
      refine jj_goto (tgt := 2) dX1_turn_46 (by decide) ?_
      refine jj_less (lo' := [some (.ref 19), some (.ref 6), some (.int (nI t)), some (.int (nI (k + 1))), none]) (fun j v hj => ?_) (jj_eq rfl rfl rfl rfl ih)
      match j, hj with
      | 0, hj => exact hj
      | 1, hj => exact hj
      | 2, hj => exact hj
      | 3, hj => exact hj
      | 4, hj => exact absurd hj (by simp)
      | j + 5, hj => exact absurd hj (by simp)
    · refine jj_iload_n dX1_turn_2 rfl ?_
      refine jj_bipush (v := 12) dX1_turn_3 (by decide) ?_
      refine jj_icmp_ge (tgt := 49) dX1_turn_5 (by decide) (fun _ => ?_) (fun q => absurd (jb_ge' (n := 12) (by decide)) q)
      refine jj_iconst (v := 0) dX1_turn_49 (by decide) ?_
      refine jj_istore_n dX1_turn_50 rfl (by decide) rfl ?_
      refine jj_iconst (v := 0) dX1_turn_51 (by decide) ?_
      refine jj_istore dX1_turn_52 (by decide) rfl ?_
      exact jj_eq rfl rfl rfl (by rw [jF_0]; rfl) (L2 0 (by decide))
  refine jj_iconst (v := 0) dX1_turn_0 (by decide) ?_
  refine jj_istore_n dX1_turn_1 rfl (by decide) rfl ?_
  exact L1 0 (by decide)
end
section
/-! TURNINGS over a table g -/
def j4_ok (s : jj_S) (g : Nat → Nat → Nat) : Prop := ∀ t, t < 60 → ∀ f, f < 12 → tn_go s (t * 12 + f) = nI (g t f) ∧ g t f < 12
def jb_all (p : Nat → Bool) : Nat → Bool
  | 0 => true
  | k + 1 => jb_all p k && p k
theorem jb_all_iff (p : Nat → Bool) : ∀ n, jb_all p n = true ↔ ∀ k, k < n → p k = true := by
  intro n
  induction n with
  | zero => exact ⟨fun _ k hk => absurd hk (Nat.not_lt_zero k), fun _ => rfl⟩
  | succ n ih =>
    rw [jb_all, Bool.and_eq_true, ih]
    constructor
    · intro h k hk
      rcases Nat.lt_or_ge k n with q | q
      · exact h.1 k q
      · rw [show k = n by omega]
        exact h.2
    · exact fun h => ⟨fun k hk => h k (by omega), h n (Nat.lt_succ_self n)⟩
def j4_cnt (p : Nat → Bool) : Nat → Nat
  | 0 => 0
  | k + 1 => if p k = true then j4_cnt p k + 1 else j4_cnt p k
/-- a ring: its fields so far, where one is -/
def j4_rg (g : Nat → Nat) (f : Nat) : Nat → Nat × Nat
  | 0 => (0, f)
  | k + 1 => ((j4_rg g f k).1 ||| 2 ^ (j4_rg g f k).2, g (j4_rg g f k).2)
def j4_fx (g : Nat → Nat) (c : Int64) : Nat → Int64 × Nat
  | 0 => (1, 0)
  | k + 1 => if (j4_fx g c k).2.testBit k = true then j4_fx g c k else ((j4_fx g c k).1 * c, (j4_fx g c k).2 ||| (j4_rg g k 12).1)
def j4_un (g : Nat → Nat → Nat) (c : Int64) : Nat → Int64
  | 0 => 0
  | k + 1 => j4_un g c k + (j4_fx (g k) c 12).1
theorem j4_rg_lt {g : Nat → Nat} {f : Nat} (hf : f < 12) (hg : ∀ f, f < 12 → g f < 12) : ∀ k, (j4_rg g f k).1 < 4096 ∧ (j4_rg g f k).2 < 12 := by
  intro k
  induction k with
  | zero => exact ⟨by show 0 < 4096; decide, hf⟩
  | succ k ih => exact ⟨Nat.or_lt_two_pow (n := 12) ih.1 (Nat.pow_lt_pow_right (by decide) ih.2), hg _ ih.2⟩
theorem j4_fx_lt {g : Nat → Nat} (c : Int64) (hg : ∀ f, f < 12 → g f < 12) : ∀ k, k ≤ 12 → (j4_fx g c k).2 < 4096 := by
  intro k
  induction k with
  | zero => intro _; exact (by decide : (0 : Nat) < 4096)
  | succ k ih =>
    intro hk
    have h1 := ih (by omega)
    unfold j4_fx
    split
    · exact h1
    · exact Nat.or_lt_two_pow (n := 12) h1 (j4_rg_lt (by omega) hg 12).1
theorem ev4_goal_n {G : jj_G} {s : jj_S} {g : Nat → Nat → Nat} {t f : Nat} (hg : j4_ok s g) (ht : t < 60) (hf : f < 12) : jj_Ev G m4_goal 1 [.ref 6, .int (nI t), .int (nI f)] (jj_m s) 0 0 (some (.int (nI (g t f)))) (jj_m s) := by
  have := ev4_goal (G := G) (s := s) ht hf
  rwa [(hg t ht f hf).1] at this
theorem j4_b1 {x : Int32} (h : ¬ x = 0) (h2 : x = 0 ∨ x = 1) : x = 1 := h2.resolve_left h
set_option maxRecDepth 100000 in
set_option maxHeartbeats 4000000 in
theorem ev4_brings_1 {G : jj_G} {s : jj_S} {g : Nat → Nat → Nat} {t : Nat} (hg : j4_ok s g) (ht : t < 60) : jj_Ev G m4_brings 2 [.ref 6, .int (nI t), .ref 19, .ref 19] (jj_m s) 0 0 (some (.int (jb_b (jb_all (fun f => s1_kd s (g t f) == s1_kd s f) 12 = true)))) (jj_m s) := by
  refine jj_Ev_of (lo := [some (.ref 6), some (.int (nI t)), some (.ref 19), some (.ref 19), none]) (by decide +kernel) (Nat.le_of_ble_eq_true rfl) rfl (jb_b01 _) ?_
  have L : ∀ k, k ≤ 12 → (∀ j, j < k → s1_kd s (g t j) = s1_kd s j) → jj_Go G m4_brings 2 3 [some (.ref 6), some (.int (nI t)), some (.ref 19), some (.ref 19), some (.int (nI k))] [] (jj_m s) 0 0 (some (.int (jb_b (jb_all (fun f => s1_kd s (g t f) == s1_kd s f) 12 = true)))) (jj_m s) := by
    refine jj_up 12 (fun k hk ih => ?_) ?_
    · intro hp
      refine jj_iload dX4_brings_3 rfl ?_
      refine jj_bipush (v := 12) dX4_brings_5 (by decide) ?_
      refine jj_icmp_ge (tgt := 38) dX4_brings_7 (by decide) (fun q => absurd q (jb_ge hk (by decide))) (fun _ => ?_)
      refine jj_aload_n dX4_brings_10 rfl ?_
      refine jj_aload_n dX4_brings_11 rfl ?_
      refine jj_iload_n dX4_brings_12 rfl ?_
      refine jj_iload dX4_brings_13 rfl ?_
      refine jj_callV (M2 := m4_goal) dX4_brings_15 ml4_35 tm4_goal (ev4_goal_n hg ht hk) rfl rfl rfl rfl rfl (by decide) (Nat.le_of_ble_eq_true rfl) ?_
      refine jj_callV (M2 := m1_kindOf) dX4_brings_18 ml4_55 tm1_kindOf (ev1_kindOf_1 (hg t ht k hk).2) rfl rfl rfl rfl rfl (by decide) (Nat.le_of_ble_eq_true rfl) ?_
      refine jj_aload_n dX4_brings_21 rfl ?_
      refine jj_iload dX4_brings_22 rfl ?_
      refine jj_callV (M2 := m1_kindOf) dX4_brings_24 ml4_55 tm1_kindOf (ev1_kindOf_1 hk) rfl rfl rfl rfl rfl (by decide) (Nat.le_of_ble_eq_true rfl) ?_
      refine jj_icmp_eq (tgt := 32) dX4_brings_27 (by decide) (fun c27 => ?_) (fun c27 => ?_)
      · refine jj_iinc dX4_brings_32 rfl (jb_i k) (by decide) rfl ?_
        refine jj_goto (tgt := 3) dX4_brings_35 (by decide) ?_
        refine ih (fun j hj => ?_)
        rcases Nat.lt_or_ge j k with q | q
        · exact hp j q
        · rw [show j = k by omega]
          exact c27
      · refine jj_iconst (v := 0) dX4_brings_30 (by decide) ?_
        exact jj_leaf dX4_brings_31 (by rw [jb_bf (fun q => c27 (by simpa using (jb_all_iff _ 12).mp q k hk))]; rfl) rfl
    · intro hp
      refine jj_iload dX4_brings_3 rfl ?_
      refine jj_bipush (v := 12) dX4_brings_5 (by decide) ?_
      refine jj_icmp_ge (tgt := 38) dX4_brings_7 (by decide) (fun _ => ?_) (fun q => absurd (jb_ge' (n := 12) (by decide)) q)
      refine jj_iconst (v := 1) dX4_brings_38 (by decide) ?_
      exact jj_leaf dX4_brings_39 (by rw [jb_bt ((jb_all_iff _ 12).mpr fun j hj => by simpa using hp j hj)]; rfl) rfl
  refine jj_iconst (v := 0) dX4_brings_0 (by decide) ?_
  refine jj_istore dX4_brings_1 (by decide) rfl ?_
  exact L 0 (by decide) (fun j hj => absurd hj (by omega))
set_option maxRecDepth 100000 in
set_option maxHeartbeats 4000000 in
theorem ev4_brings_2 {G : jj_G} {s : jj_S} {g : Nat → Nat → Nat} {t : Nat} (hg : j4_ok s g) (ht : t < 60) : jj_Ev G m4_brings 2 [.ref 6, .int (nI t), .ref 22, .ref 19] (jj_m s) 0 0 (some (.int (jb_b (jb_all (fun f => s1_kd s (g t f) == s2_kd s f) 12 = true)))) (jj_m s) := by
  refine jj_Ev_of (lo := [some (.ref 6), some (.int (nI t)), some (.ref 22), some (.ref 19), none]) (by decide +kernel) (Nat.le_of_ble_eq_true rfl) rfl (jb_b01 _) ?_
  have L : ∀ k, k ≤ 12 → (∀ j, j < k → s1_kd s (g t j) = s2_kd s j) → jj_Go G m4_brings 2 3 [some (.ref 6), some (.int (nI t)), some (.ref 22), some (.ref 19), some (.int (nI k))] [] (jj_m s) 0 0 (some (.int (jb_b (jb_all (fun f => s1_kd s (g t f) == s2_kd s f) 12 = true)))) (jj_m s) := by
    refine jj_up 12 (fun k hk ih => ?_) ?_
    · intro hp
      refine jj_iload dX4_brings_3 rfl ?_
      refine jj_bipush (v := 12) dX4_brings_5 (by decide) ?_
      refine jj_icmp_ge (tgt := 38) dX4_brings_7 (by decide) (fun q => absurd q (jb_ge hk (by decide))) (fun _ => ?_)
      refine jj_aload_n dX4_brings_10 rfl ?_
      refine jj_aload_n dX4_brings_11 rfl ?_
      refine jj_iload_n dX4_brings_12 rfl ?_
      refine jj_iload dX4_brings_13 rfl ?_
      refine jj_callV (M2 := m4_goal) dX4_brings_15 ml4_35 tm4_goal (ev4_goal_n hg ht hk) rfl rfl rfl rfl rfl (by decide) (Nat.le_of_ble_eq_true rfl) ?_
      refine jj_callV (M2 := m1_kindOf) dX4_brings_18 ml4_55 tm1_kindOf (ev1_kindOf_1 (hg t ht k hk).2) rfl rfl rfl rfl rfl (by decide) (Nat.le_of_ble_eq_true rfl) ?_
      refine jj_aload_n dX4_brings_21 rfl ?_
      refine jj_iload dX4_brings_22 rfl ?_
      refine jj_callV (M2 := m1_kindOf) dX4_brings_24 ml4_55 tm1_kindOf (ev1_kindOf_2 hk) rfl rfl rfl rfl rfl (by decide) (Nat.le_of_ble_eq_true rfl) ?_
      refine jj_icmp_eq (tgt := 32) dX4_brings_27 (by decide) (fun c27 => ?_) (fun c27 => ?_)
      · refine jj_iinc dX4_brings_32 rfl (jb_i k) (by decide) rfl ?_
        refine jj_goto (tgt := 3) dX4_brings_35 (by decide) ?_
        refine ih (fun j hj => ?_)
        rcases Nat.lt_or_ge j k with q | q
        · exact hp j q
        · rw [show j = k by omega]
          exact c27
      · refine jj_iconst (v := 0) dX4_brings_30 (by decide) ?_
        exact jj_leaf dX4_brings_31 (by rw [jb_bf (fun q => c27 (by simpa using (jb_all_iff _ 12).mp q k hk))]; rfl) rfl
    · intro hp
      refine jj_iload dX4_brings_3 rfl ?_
      refine jj_bipush (v := 12) dX4_brings_5 (by decide) ?_
      refine jj_icmp_ge (tgt := 38) dX4_brings_7 (by decide) (fun _ => ?_) (fun q => absurd (jb_ge' (n := 12) (by decide)) q)
      refine jj_iconst (v := 1) dX4_brings_38 (by decide) ?_
      exact jj_leaf dX4_brings_39 (by rw [jb_bt ((jb_all_iff _ 12).mpr fun j hj => by simpa using hp j hj)]; rfl) rfl
  refine jj_iconst (v := 0) dX4_brings_0 (by decide) ?_
  refine jj_istore dX4_brings_1 (by decide) rfl ?_
  exact L 0 (by decide) (fun j hj => absurd hj (by omega))
set_option maxRecDepth 100000 in
set_option maxHeartbeats 4000000 in
theorem ev4_brings_3 {G : jj_G} {s : jj_S} {g : Nat → Nat → Nat} {t : Nat} (hg : j4_ok s g) (ht : t < 60) : jj_Ev G m4_brings 2 [.ref 6, .int (nI t), .ref 25, .ref 19] (jj_m s) 0 0 (some (.int (jb_b (jb_all (fun f => s1_kd s (g t f) == s3_kd s f) 12 = true)))) (jj_m s) := by
  refine jj_Ev_of (lo := [some (.ref 6), some (.int (nI t)), some (.ref 25), some (.ref 19), none]) (by decide +kernel) (Nat.le_of_ble_eq_true rfl) rfl (jb_b01 _) ?_
  have L : ∀ k, k ≤ 12 → (∀ j, j < k → s1_kd s (g t j) = s3_kd s j) → jj_Go G m4_brings 2 3 [some (.ref 6), some (.int (nI t)), some (.ref 25), some (.ref 19), some (.int (nI k))] [] (jj_m s) 0 0 (some (.int (jb_b (jb_all (fun f => s1_kd s (g t f) == s3_kd s f) 12 = true)))) (jj_m s) := by
    refine jj_up 12 (fun k hk ih => ?_) ?_
    · intro hp
      refine jj_iload dX4_brings_3 rfl ?_
      refine jj_bipush (v := 12) dX4_brings_5 (by decide) ?_
      refine jj_icmp_ge (tgt := 38) dX4_brings_7 (by decide) (fun q => absurd q (jb_ge hk (by decide))) (fun _ => ?_)
      refine jj_aload_n dX4_brings_10 rfl ?_
      refine jj_aload_n dX4_brings_11 rfl ?_
      refine jj_iload_n dX4_brings_12 rfl ?_
      refine jj_iload dX4_brings_13 rfl ?_
      refine jj_callV (M2 := m4_goal) dX4_brings_15 ml4_35 tm4_goal (ev4_goal_n hg ht hk) rfl rfl rfl rfl rfl (by decide) (Nat.le_of_ble_eq_true rfl) ?_
      refine jj_callV (M2 := m1_kindOf) dX4_brings_18 ml4_55 tm1_kindOf (ev1_kindOf_1 (hg t ht k hk).2) rfl rfl rfl rfl rfl (by decide) (Nat.le_of_ble_eq_true rfl) ?_
      refine jj_aload_n dX4_brings_21 rfl ?_
      refine jj_iload dX4_brings_22 rfl ?_
      refine jj_callV (M2 := m1_kindOf) dX4_brings_24 ml4_55 tm1_kindOf (ev1_kindOf_3 hk) rfl rfl rfl rfl rfl (by decide) (Nat.le_of_ble_eq_true rfl) ?_
      refine jj_icmp_eq (tgt := 32) dX4_brings_27 (by decide) (fun c27 => ?_) (fun c27 => ?_)
      · refine jj_iinc dX4_brings_32 rfl (jb_i k) (by decide) rfl ?_
        refine jj_goto (tgt := 3) dX4_brings_35 (by decide) ?_
        refine ih (fun j hj => ?_)
        rcases Nat.lt_or_ge j k with q | q
        · exact hp j q
        · rw [show j = k by omega]
          exact c27
      · refine jj_iconst (v := 0) dX4_brings_30 (by decide) ?_
        exact jj_leaf dX4_brings_31 (by rw [jb_bf (fun q => c27 (by simpa using (jb_all_iff _ 12).mp q k hk))]; rfl) rfl
    · intro hp
      refine jj_iload dX4_brings_3 rfl ?_
      refine jj_bipush (v := 12) dX4_brings_5 (by decide) ?_
      refine jj_icmp_ge (tgt := 38) dX4_brings_7 (by decide) (fun _ => ?_) (fun q => absurd (jb_ge' (n := 12) (by decide)) q)
      refine jj_iconst (v := 1) dX4_brings_38 (by decide) ?_
      exact jj_leaf dX4_brings_39 (by rw [jb_bt ((jb_all_iff _ 12).mpr fun j hj => by simpa using hp j hj)]; rfl) rfl
  refine jj_iconst (v := 0) dX4_brings_0 (by decide) ?_
  refine jj_istore dX4_brings_1 (by decide) rfl ?_
  exact L 0 (by decide) (fun j hj => absurd hj (by omega))
set_option maxRecDepth 100000 in
set_option maxHeartbeats 4000000 in
theorem ev4_bringing_1 {G : jj_G} {s : jj_S} {g : Nat → Nat → Nat} (hg : j4_ok s g) : jj_Ev G m4_bringing 3 [.ref 6, .ref 19, .ref 19] (jj_m s) 0 0 (some (.int (nI (j4_cnt (fun t => jb_all (fun f => s1_kd s (g t f) == s1_kd s f) 12) 60)))) (jj_m s) := by
  refine jj_Ev_of (lo := [some (.ref 6), some (.ref 19), some (.ref 19), none, none]) (by decide +kernel) (Nat.le_of_ble_eq_true rfl) rfl (by trivial) ?_
  have L : ∀ k, k ≤ 60 → jj_Go G m4_bringing 3 5 [some (.ref 6), some (.ref 19), some (.ref 19), some (.int (nI (j4_cnt (fun t => jb_all (fun f => s1_kd s (g t f) == s1_kd s f) 12) k))), some (.int (nI k))] [] (jj_m s) 0 0 (some (.int (nI (j4_cnt (fun t => jb_all (fun f => s1_kd s (g t f) == s1_kd s f) 12) 60)))) (jj_m s) := by
    refine jj_up 60 (fun k hk ih => ?_) ?_
    · refine jj_iload dX4_bringing_5 rfl ?_
      refine jj_bipush (v := 60) dX4_bringing_7 (by decide) ?_
      refine jj_icmp_ge (tgt := 32) dX4_bringing_9 (by decide) (fun q => absurd q (jb_ge hk (by decide))) (fun _ => ?_)
      refine jj_aload_n dX4_bringing_12 rfl ?_
      refine jj_iload dX4_bringing_13 rfl ?_
      refine jj_aload_n dX4_bringing_15 rfl ?_
      refine jj_aload_n dX4_bringing_16 rfl ?_
      refine jj_callV (M2 := m4_brings) dX4_bringing_17 ml4_51 tm4_brings (ev4_brings_1 hg hk) rfl rfl rfl rfl rfl (by decide) (Nat.le_of_ble_eq_true rfl) ?_
      refine jj_if_eq (tgt := 26) dX4_bringing_20 (by decide) (fun c20 => ?_) (fun c20 => ?_)
      · refine jj_iinc dX4_bringing_26 rfl (jb_i k) (by decide) rfl ?_
        refine jj_goto (tgt := 5) dX4_bringing_29 (by decide) ?_
        unfold j4_cnt at ih
        first | (rw [if_neg (jb_b0 c20)] at ih; exact ih) | (rw [if_pos (jb_b1 c20)] at ih; exact ih)
      · refine jj_iinc dX4_bringing_23 rfl (jb_i _) (by decide) rfl ?_
        refine jj_iinc dX4_bringing_26 rfl (jb_i k) (by decide) rfl ?_
        refine jj_goto (tgt := 5) dX4_bringing_29 (by decide) ?_
        unfold j4_cnt at ih
        first | (rw [if_neg (jb_b0 c20)] at ih; exact ih) | (rw [if_pos (jb_b1 c20)] at ih; exact ih)
    · refine jj_iload dX4_bringing_5 rfl ?_
      refine jj_bipush (v := 60) dX4_bringing_7 (by decide) ?_
      refine jj_icmp_ge (tgt := 32) dX4_bringing_9 (by decide) (fun _ => ?_) (fun q => absurd (jb_ge' (n := 60) (by decide)) q)
      refine jj_iload_n dX4_bringing_32 rfl ?_
      exact jj_leaf dX4_bringing_33 rfl rfl
  refine jj_iconst (v := 0) dX4_bringing_0 (by decide) ?_
  refine jj_istore_n dX4_bringing_1 rfl (by decide) rfl ?_
  refine jj_iconst (v := 0) dX4_bringing_2 (by decide) ?_
  refine jj_istore dX4_bringing_3 (by decide) rfl ?_
  exact L 0 (by decide)
set_option maxRecDepth 100000 in
set_option maxHeartbeats 4000000 in
theorem ev4_bringing_2 {G : jj_G} {s : jj_S} {g : Nat → Nat → Nat} (hg : j4_ok s g) : jj_Ev G m4_bringing 3 [.ref 6, .ref 22, .ref 19] (jj_m s) 0 0 (some (.int (nI (j4_cnt (fun t => jb_all (fun f => s1_kd s (g t f) == s2_kd s f) 12) 60)))) (jj_m s) := by
  refine jj_Ev_of (lo := [some (.ref 6), some (.ref 22), some (.ref 19), none, none]) (by decide +kernel) (Nat.le_of_ble_eq_true rfl) rfl (by trivial) ?_
  have L : ∀ k, k ≤ 60 → jj_Go G m4_bringing 3 5 [some (.ref 6), some (.ref 22), some (.ref 19), some (.int (nI (j4_cnt (fun t => jb_all (fun f => s1_kd s (g t f) == s2_kd s f) 12) k))), some (.int (nI k))] [] (jj_m s) 0 0 (some (.int (nI (j4_cnt (fun t => jb_all (fun f => s1_kd s (g t f) == s2_kd s f) 12) 60)))) (jj_m s) := by
    refine jj_up 60 (fun k hk ih => ?_) ?_
    · refine jj_iload dX4_bringing_5 rfl ?_
      refine jj_bipush (v := 60) dX4_bringing_7 (by decide) ?_
      refine jj_icmp_ge (tgt := 32) dX4_bringing_9 (by decide) (fun q => absurd q (jb_ge hk (by decide))) (fun _ => ?_)
      refine jj_aload_n dX4_bringing_12 rfl ?_
      refine jj_iload dX4_bringing_13 rfl ?_
      refine jj_aload_n dX4_bringing_15 rfl ?_
      refine jj_aload_n dX4_bringing_16 rfl ?_
      refine jj_callV (M2 := m4_brings) dX4_bringing_17 ml4_51 tm4_brings (ev4_brings_2 hg hk) rfl rfl rfl rfl rfl (by decide) (Nat.le_of_ble_eq_true rfl) ?_
      refine jj_if_eq (tgt := 26) dX4_bringing_20 (by decide) (fun c20 => ?_) (fun c20 => ?_)
      · refine jj_iinc dX4_bringing_26 rfl (jb_i k) (by decide) rfl ?_
        refine jj_goto (tgt := 5) dX4_bringing_29 (by decide) ?_
        unfold j4_cnt at ih
        first | (rw [if_neg (jb_b0 c20)] at ih; exact ih) | (rw [if_pos (jb_b1 c20)] at ih; exact ih)
      · refine jj_iinc dX4_bringing_23 rfl (jb_i _) (by decide) rfl ?_
        refine jj_iinc dX4_bringing_26 rfl (jb_i k) (by decide) rfl ?_
        refine jj_goto (tgt := 5) dX4_bringing_29 (by decide) ?_
        unfold j4_cnt at ih
        first | (rw [if_neg (jb_b0 c20)] at ih; exact ih) | (rw [if_pos (jb_b1 c20)] at ih; exact ih)
    · refine jj_iload dX4_bringing_5 rfl ?_
      refine jj_bipush (v := 60) dX4_bringing_7 (by decide) ?_
      refine jj_icmp_ge (tgt := 32) dX4_bringing_9 (by decide) (fun _ => ?_) (fun q => absurd (jb_ge' (n := 60) (by decide)) q)
      refine jj_iload_n dX4_bringing_32 rfl ?_
      exact jj_leaf dX4_bringing_33 rfl rfl
  refine jj_iconst (v := 0) dX4_bringing_0 (by decide) ?_
  refine jj_istore_n dX4_bringing_1 rfl (by decide) rfl ?_
  refine jj_iconst (v := 0) dX4_bringing_2 (by decide) ?_
  refine jj_istore dX4_bringing_3 (by decide) rfl ?_
  exact L 0 (by decide)
set_option maxRecDepth 100000 in
set_option maxHeartbeats 4000000 in
theorem ev4_bringing_3 {G : jj_G} {s : jj_S} {g : Nat → Nat → Nat} (hg : j4_ok s g) : jj_Ev G m4_bringing 3 [.ref 6, .ref 25, .ref 19] (jj_m s) 0 0 (some (.int (nI (j4_cnt (fun t => jb_all (fun f => s1_kd s (g t f) == s3_kd s f) 12) 60)))) (jj_m s) := by
  refine jj_Ev_of (lo := [some (.ref 6), some (.ref 25), some (.ref 19), none, none]) (by decide +kernel) (Nat.le_of_ble_eq_true rfl) rfl (by trivial) ?_
  have L : ∀ k, k ≤ 60 → jj_Go G m4_bringing 3 5 [some (.ref 6), some (.ref 25), some (.ref 19), some (.int (nI (j4_cnt (fun t => jb_all (fun f => s1_kd s (g t f) == s3_kd s f) 12) k))), some (.int (nI k))] [] (jj_m s) 0 0 (some (.int (nI (j4_cnt (fun t => jb_all (fun f => s1_kd s (g t f) == s3_kd s f) 12) 60)))) (jj_m s) := by
    refine jj_up 60 (fun k hk ih => ?_) ?_
    · refine jj_iload dX4_bringing_5 rfl ?_
      refine jj_bipush (v := 60) dX4_bringing_7 (by decide) ?_
      refine jj_icmp_ge (tgt := 32) dX4_bringing_9 (by decide) (fun q => absurd q (jb_ge hk (by decide))) (fun _ => ?_)
      refine jj_aload_n dX4_bringing_12 rfl ?_
      refine jj_iload dX4_bringing_13 rfl ?_
      refine jj_aload_n dX4_bringing_15 rfl ?_
      refine jj_aload_n dX4_bringing_16 rfl ?_
      refine jj_callV (M2 := m4_brings) dX4_bringing_17 ml4_51 tm4_brings (ev4_brings_3 hg hk) rfl rfl rfl rfl rfl (by decide) (Nat.le_of_ble_eq_true rfl) ?_
      refine jj_if_eq (tgt := 26) dX4_bringing_20 (by decide) (fun c20 => ?_) (fun c20 => ?_)
      · refine jj_iinc dX4_bringing_26 rfl (jb_i k) (by decide) rfl ?_
        refine jj_goto (tgt := 5) dX4_bringing_29 (by decide) ?_
        unfold j4_cnt at ih
        first | (rw [if_neg (jb_b0 c20)] at ih; exact ih) | (rw [if_pos (jb_b1 c20)] at ih; exact ih)
      · refine jj_iinc dX4_bringing_23 rfl (jb_i _) (by decide) rfl ?_
        refine jj_iinc dX4_bringing_26 rfl (jb_i k) (by decide) rfl ?_
        refine jj_goto (tgt := 5) dX4_bringing_29 (by decide) ?_
        unfold j4_cnt at ih
        first | (rw [if_neg (jb_b0 c20)] at ih; exact ih) | (rw [if_pos (jb_b1 c20)] at ih; exact ih)
    · refine jj_iload dX4_bringing_5 rfl ?_
      refine jj_bipush (v := 60) dX4_bringing_7 (by decide) ?_
      refine jj_icmp_ge (tgt := 32) dX4_bringing_9 (by decide) (fun _ => ?_) (fun q => absurd (jb_ge' (n := 60) (by decide)) q)
      refine jj_iload_n dX4_bringing_32 rfl ?_
      exact jj_leaf dX4_bringing_33 rfl rfl
  refine jj_iconst (v := 0) dX4_bringing_0 (by decide) ?_
  refine jj_istore_n dX4_bringing_1 rfl (by decide) rfl ?_
  refine jj_iconst (v := 0) dX4_bringing_2 (by decide) ?_
  refine jj_istore dX4_bringing_3 (by decide) rfl ?_
  exact L 0 (by decide)
set_option maxRecDepth 100000 in
set_option maxHeartbeats 4000000 in
theorem ev4_ringOf {G : jj_G} {s : jj_S} {g : Nat → Nat → Nat} {t f : Nat} (hg : j4_ok s g) (ht : t < 60) (hf : f < 12) : jj_Ev G m4_ringOf 2 [.ref 6, .int (nI t), .int (nI f)] (jj_m s) 0 0 (some (.int (nI (j4_rg (g t) f 12).1))) (jj_m s) := by
  refine jj_Ev_of (lo := [some (.ref 6), some (.int (nI t)), some (.int (nI f)), none, none, none]) (by decide +kernel) (Nat.le_of_ble_eq_true rfl) rfl (by trivial) ?_
  have hb := j4_rg_lt (g := g t) hf (fun f hf => (hg t ht f hf).2)
  have L : ∀ k, k ≤ 12 → jj_Go G m4_ringOf 2 8 [some (.ref 6), some (.int (nI t)), some (.int (nI f)), some (.int (nI (j4_rg (g t) f k).1)), some (.int (nI (j4_rg (g t) f k).2)), some (.int (nI k))] [] (jj_m s) 0 0 (some (.int (nI (j4_rg (g t) f 12).1))) (jj_m s) := by
    refine jj_up 12 (fun k hk ih => ?_) ?_
    · refine jj_iload dX4_ringOf_8 rfl ?_
      refine jj_bipush (v := 12) dX4_ringOf_10 (by decide) ?_
      refine jj_icmp_ge (tgt := 45) dX4_ringOf_12 (by decide) (fun q => absurd q (jb_ge hk (by decide))) (fun _ => ?_)
      refine jj_iload dX4_ringOf_15 rfl ?_
      refine jj_callS (M2 := m0_isField) dX4_ringOf_17 ml4_48 tm0_isField (ev0_isField_v (hb k).2) rfl rfl (by decide) (Nat.le_of_ble_eq_true rfl) ?_
      refine jj_if_eq (tgt := 45) dX4_ringOf_20 (by decide) (fun q => absurd q (by decide)) (fun _ => ?_)
      refine jj_iload_n dX4_ringOf_23 rfl ?_
      refine jj_iconst (v := 1) dX4_ringOf_24 (by decide) ?_
      refine jj_iload dX4_ringOf_25 rfl ?_
      refine jj_ishl dX4_ringOf_27 (jb_2k _ (by have := (hb k).2; omega)) ?_
      refine jj_ior dX4_ringOf_28 (fa_or _ _) ?_
      refine jj_istore_n dX4_ringOf_29 rfl (by decide) rfl ?_
      refine jj_aload_n dX4_ringOf_30 rfl ?_
      refine jj_iload_n dX4_ringOf_31 rfl ?_
      refine jj_iload dX4_ringOf_32 rfl ?_
      refine jj_callV (M2 := m4_goal) dX4_ringOf_34 ml4_35 tm4_goal (ev4_goal_n hg ht (hb k).2) rfl rfl rfl rfl rfl (by decide) (Nat.le_of_ble_eq_true rfl) ?_
      refine jj_istore dX4_ringOf_37 (by decide) rfl ?_
      refine jj_iinc dX4_ringOf_39 rfl (jb_i k) (by decide) rfl ?_
      refine jj_goto (tgt := 8) dX4_ringOf_42 (by decide) ?_
      exact ih
    · refine jj_iload dX4_ringOf_8 rfl ?_
      refine jj_bipush (v := 12) dX4_ringOf_10 (by decide) ?_
      refine jj_icmp_ge (tgt := 45) dX4_ringOf_12 (by decide) (fun _ => ?_) (fun q => absurd (jb_ge' (n := 12) (by decide)) q)
      refine jj_iload_n dX4_ringOf_45 rfl ?_
      exact jj_leaf dX4_ringOf_46 rfl rfl
  refine jj_iconst (v := 0) dX4_ringOf_0 (by decide) ?_
  refine jj_istore_n dX4_ringOf_1 rfl (by decide) rfl ?_
  refine jj_iload_n dX4_ringOf_2 rfl ?_
  refine jj_istore dX4_ringOf_3 (by decide) rfl ?_
  refine jj_iconst (v := 0) dX4_ringOf_5 (by decide) ?_
  refine jj_istore dX4_ringOf_6 (by decide) rfl ?_
  exact L 0 (by decide)
set_option maxRecDepth 100000 in
set_option maxHeartbeats 4000000 in
theorem ev4_fixedWays {G : jj_G} {s : jj_S} {g : Nat → Nat → Nat} {t : Nat} (c : Int32) (hg : j4_ok s g) (ht : t < 60) : jj_Ev G m4_fixedWays 3 [.ref 6, .int (nI t), .int c] (jj_m s) 0 0 (some (.long (j4_fx (g t) c.toInt64 12).1)) (jj_m s) := by
  refine jj_Ev_of (lo := [some (.ref 6), some (.int (nI t)), some (.int c), none, none, none, none]) (by decide +kernel) (Nat.le_of_ble_eq_true rfl) rfl (by trivial) ?_
  have hb := j4_fx_lt (g := g t) c.toInt64 (fun f hf => (hg t ht f hf).2)
  have L : ∀ k, k ≤ 12 → jj_Go G m4_fixedWays 3 8 [some (.ref 6), some (.int (nI t)), some (.int c), some (.long (j4_fx (g t) c.toInt64 k).1), none, some (.int (nI (j4_fx (g t) c.toInt64 k).2)), some (.int (nI k))] [] (jj_m s) 0 0 (some (.long (j4_fx (g t) c.toInt64 12).1)) (jj_m s) := by
    refine jj_up 12 (fun k hk ih => ?_) ?_
    · refine jj_iload dX4_fixedWays_8 rfl ?_
      refine jj_bipush (v := 12) dX4_fixedWays_10 (by decide) ?_
      refine jj_icmp_ge (tgt := 48) dX4_fixedWays_12 (by decide) (fun q => absurd q (jb_ge hk (by decide))) (fun _ => ?_)
      refine jj_iload dX4_fixedWays_15 rfl ?_
      refine jj_iload dX4_fixedWays_17 rfl ?_
      refine jj_callS (M2 := m0_holds) dX4_fixedWays_19 ml4_61 tm0_holds (ev0_holds (a := (j4_fx (g t) c.toInt64 k).2) (by have := hb k (by omega); omega) hk) rfl rfl (by decide) (Nat.le_of_ble_eq_true rfl) ?_
      refine jj_if_ne (tgt := 42) dX4_fixedWays_22 (by decide) (fun c22 => ?_) (fun c22 => ?_)
      · refine jj_iinc dX4_fixedWays_42 rfl (jb_i k) (by decide) rfl ?_
        refine jj_goto (tgt := 8) dX4_fixedWays_45 (by decide) ?_
        unfold j4_fx at ih
        first | (rw [if_pos (jb_b1 c22)] at ih; exact ih) | (rw [if_neg (jb_b0 c22)] at ih; exact ih)
      · refine jj_lload_n dX4_fixedWays_25 rfl ?_
        refine jj_iload_n dX4_fixedWays_26 rfl ?_
        refine jj_i2l dX4_fixedWays_27 rfl ?_
        refine jj_lmul dX4_fixedWays_28 rfl ?_
        refine jj_lstore_n dX4_fixedWays_29 rfl (by decide) rfl ?_
        refine jj_iload dX4_fixedWays_30 rfl ?_
        refine jj_aload_n dX4_fixedWays_32 rfl ?_
        refine jj_iload_n dX4_fixedWays_33 rfl ?_
        refine jj_iload dX4_fixedWays_34 rfl ?_
        refine jj_callV (M2 := m4_ringOf) dX4_fixedWays_36 ml4_65 tm4_ringOf (ev4_ringOf hg ht hk) rfl rfl rfl rfl rfl (by decide) (Nat.le_of_ble_eq_true rfl) ?_
        refine jj_ior dX4_fixedWays_39 (fa_or _ _) ?_
        refine jj_istore dX4_fixedWays_40 (by decide) rfl ?_
        refine jj_iinc dX4_fixedWays_42 rfl (jb_i k) (by decide) rfl ?_
        refine jj_goto (tgt := 8) dX4_fixedWays_45 (by decide) ?_
        unfold j4_fx at ih
        first | (rw [if_pos (jb_b1 c22)] at ih; exact ih) | (rw [if_neg (jb_b0 c22)] at ih; exact ih)
    · refine jj_iload dX4_fixedWays_8 rfl ?_
      refine jj_bipush (v := 12) dX4_fixedWays_10 (by decide) ?_
      refine jj_icmp_ge (tgt := 48) dX4_fixedWays_12 (by decide) (fun _ => ?_) (fun q => absurd (jb_ge' (n := 12) (by decide)) q)
      refine jj_lload_n dX4_fixedWays_48 rfl ?_
      exact jj_leaf dX4_fixedWays_49 rfl rfl
  refine jj_lconst (v := 1) dX4_fixedWays_0 (by decide) ?_
  refine jj_lstore_n dX4_fixedWays_1 rfl (by decide) rfl ?_
  refine jj_iconst (v := 0) dX4_fixedWays_2 (by decide) ?_
  refine jj_istore dX4_fixedWays_3 (by decide) rfl ?_
  refine jj_iconst (v := 0) dX4_fixedWays_5 (by decide) ?_
  refine jj_istore dX4_fixedWays_6 (by decide) rfl ?_
  exact L 0 (by decide)
set_option maxRecDepth 100000 in
set_option maxHeartbeats 4000000 in
theorem ev4_unlikeWays {G : jj_G} {s : jj_S} {g : Nat → Nat → Nat} (c : Int32) (hg : j4_ok s g) : jj_Ev G m4_unlikeWays 4 [.ref 6, .int c] (jj_m s) 0 0 (some (.long (j4_un g c.toInt64 60 / 60))) (jj_m s) := by
  refine jj_Ev_of (lo := [some (.ref 6), some (.int c), none, none, none]) (by decide +kernel) (Nat.le_of_ble_eq_true rfl) rfl (by trivial) ?_
  have L : ∀ k, k ≤ 60 → jj_Go G m4_unlikeWays 4 5 [some (.ref 6), some (.int c), some (.long (j4_un g c.toInt64 k)), none, some (.int (nI k))] [] (jj_m s) 0 0 (some (.long (j4_un g c.toInt64 60 / 60))) (jj_m s) := by
    refine jj_up 60 (fun k hk ih => ?_) ?_
    · refine jj_iload dX4_unlikeWays_5 rfl ?_
      refine jj_bipush (v := 60) dX4_unlikeWays_7 (by decide) ?_
      refine jj_icmp_ge (tgt := 28) dX4_unlikeWays_9 (by decide) (fun q => absurd q (jb_ge hk (by decide))) (fun _ => ?_)
      refine jj_lload_n dX4_unlikeWays_12 rfl ?_
      refine jj_aload_n dX4_unlikeWays_13 rfl ?_
      refine jj_iload dX4_unlikeWays_14 rfl ?_
      refine jj_iload_n dX4_unlikeWays_16 rfl ?_
      refine jj_callV (M2 := m4_fixedWays) dX4_unlikeWays_17 ml4_68 tm4_fixedWays (ev4_fixedWays c hg hk) rfl rfl rfl rfl rfl (by decide) (Nat.le_of_ble_eq_true rfl) ?_
      refine jj_ladd dX4_unlikeWays_20 rfl ?_
      refine jj_lstore_n dX4_unlikeWays_21 rfl (by decide) rfl ?_
      refine jj_iinc dX4_unlikeWays_22 rfl (jb_i k) (by decide) rfl ?_
      refine jj_goto (tgt := 5) dX4_unlikeWays_25 (by decide) ?_
      exact ih
    · refine jj_iload dX4_unlikeWays_5 rfl ?_
      refine jj_bipush (v := 60) dX4_unlikeWays_7 (by decide) ?_
      refine jj_icmp_ge (tgt := 28) dX4_unlikeWays_9 (by decide) (fun _ => ?_) (fun q => absurd (jb_ge' (n := 60) (by decide)) q)
      refine jj_lload_n dX4_unlikeWays_28 rfl ?_
      refine jj_ldc2 dX4_unlikeWays_29 kc4_72 ?_
      refine jj_ldiv dX4_unlikeWays_32 (by decide) rfl ?_
      exact jj_leaf dX4_unlikeWays_33 rfl rfl
  refine jj_lconst (v := 0) dX4_unlikeWays_0 (by decide) ?_
  refine jj_lstore_n dX4_unlikeWays_1 rfl (by decide) rfl ?_
  refine jj_iconst (v := 0) dX4_unlikeWays_2 (by decide) ?_
  refine jj_istore dX4_unlikeWays_3 (by decide) rfl ?_
  exact L 0 (by decide)
end
section
/-! WALLS over o: the fields that are open to each, by bits -/
def j5_ok (s : jj_S) (o : Nat → Nat) : Prop := ∀ f, f < 12 → wa_op s f = nI (o f) ∧ o f < 4096
theorem jb_nm1 {a : Nat} (h : a < 2 ^ 31) : ¬ nI a = -1 := by
  intro q
  have h1 := congrArg Int32.toInt q
  rw [nI_toInt h] at h1
  have h2 : (-1 : Int32).toInt = -1 := by decide
  omega
def j5_sc (o : Nat → Nat) (f : Nat) : Nat → Nat
  | 0 => 0
  | k + 1 => if (o f).testBit (jb_s f k) = true then j5_sc o f k else j5_sc o f k ||| 2 ^ k
theorem j5_sc_lt (o : Nat → Nat) (f : Nat) : ∀ k, k ≤ 5 → j5_sc o f k < 32 := by
  intro k
  induction k with
  | zero => intro _; exact (by decide : (0 : Nat) < 32)
  | succ k ih =>
    intro hk
    have h1 := ih (by omega)
    unfold j5_sc
    split
    · exact h1
    · exact Nat.or_lt_two_pow (n := 5) h1 (Nat.pow_lt_pow_right (by decide) hk)
def j5_wl (o : Nat → Nat) : Nat → Nat
  | 0 => 0
  | k + 1 => j5_wl o k + jb_pc (j5_sc o k 5)
theorem jb_pcn_le (a : Nat) : ∀ k, jb_pcn a k ≤ k := by
  intro k
  induction k with
  | zero => exact Nat.le_refl 0
  | succ k ih => unfold jb_pcn; split <;> omega
theorem j5_wl_le (o : Nat → Nat) : ∀ k, j5_wl o k ≤ 12 * k := by
  intro k
  induction k with
  | zero => exact Nat.le_refl 0
  | succ k ih =>
    have : jb_pc (j5_sc o k 5) ≤ 12 := jb_pcn_le _ 12
    unfold j5_wl
    omega
def j5_any (o : Nat → Nat) (a : Nat) : Nat → Nat
  | 0 => 0
  | k + 1 => if a.testBit k = true then j5_any o a k ||| o k else j5_any o a k
theorem j5_any_lt {o : Nat → Nat} (ho : ∀ f, f < 12 → o f < 4096) (a : Nat) : ∀ k, k ≤ 12 → j5_any o a k < 4096 := by
  intro k
  induction k with
  | zero => intro _; exact (by decide : (0 : Nat) < 4096)
  | succ k ih =>
    intro hk
    have h1 := ih (by omega)
    unfold j5_any
    split
    · exact Nat.or_lt_two_pow (n := 12) h1 (ho k (by omega))
    · exact h1
def j5_in (o : Nat → Nat) (f : Nat) : Nat → Nat
  | 0 => 2 ^ f
  | k + 1 => j5_in o f k ||| j5_any o (j5_in o f k) 12
theorem j5_in_lt {o : Nat → Nat} (ho : ∀ f, f < 12 → o f < 4096) {f : Nat} (hf : f < 12) : ∀ k, j5_in o f k < 4096 := by
  intro k
  induction k with
  | zero => exact Nat.pow_lt_pow_right (by decide) hf
  | succ k ih => exact Nat.or_lt_two_pow (n := 12) ih (j5_any_lt ho _ 12 (Nat.le_refl 12))
/-- insides met so far: their fields, how many -/
def j5_ic (o : Nat → Nat) : Nat → Nat × Nat
  | 0 => (0, 0)
  | k + 1 => if (j5_ic o k).1.testBit k = true then j5_ic o k else ((j5_ic o k).1 ||| j5_in o k 11, (j5_ic o k).2 + 1)
theorem j5_ic_lt {o : Nat → Nat} (ho : ∀ f, f < 12 → o f < 4096) : ∀ k, k ≤ 12 → (j5_ic o k).1 < 4096 := by
  intro k
  induction k with
  | zero => intro _; exact (by decide : (0 : Nat) < 4096)
  | succ k ih =>
    intro hk
    have h1 := ih (by omega)
    unfold j5_ic
    split
    · exact h1
    · exact Nat.or_lt_two_pow (n := 12) h1 (j5_in_lt ho (by omega) 11)
def j5_wa (o : Nat → Nat) (a : Nat) : Bool := jb_all (fun f => o f &&& a != 0) 12
/-- wardens, over the first k sets: how many, the set, how many sets -/
def j5_wst (w : Int32 × Int32 × Nat) (k : Nat) (b : Int32) (ok : Bool) : Int32 × Int32 × Nat :=
  if w.1 = -1 ∨ b < w.1 then (if ok = true then (b, nI k, 1) else w)
  else if b = w.1 then (if ok = true then (w.1, w.2.1, w.2.2 + 1) else w) else w
def j5_wd (o : Nat → Nat) : Nat → Int32 × Int32 × Nat
  | 0 => (-1, -1, 0)
  | k + 1 => j5_wst (j5_wd o k) k (nI (jb_pc k)) (j5_wa o k)
/-- what findWardens does -/
def j5_fw (s : jj_S) (w : Int32 × Int32 × Nat) : jj_S := if wa_wf s = 0 then wa_wfS (wa_wnS (wa_wsS (wa_wcS s w.1) w.2.1) (nI w.2.2)) 1 else s
def j5_cl (a g : Nat) : Nat := a &&& (4095 ^^^ 2 ^ g)
theorem j5_clv {a g : Nat} (ha : a < 4096) (hg : g < 12) : nI a &&& (nI (2 ^ g) ^^^ (-1)) = nI (j5_cl a g) := by
  apply b_ext
  intro i hi
  rw [b_and, b_xor, b_m1 i hi, jb_nb _ _ hi, jb_nb _ _ hi, jb_nb _ _ hi, j5_cl, Nat.testBit_and, Nat.testBit_xor]
  by_cases h12 : i < 12
  · have e : ∀ i, i < 12 → (4095 : Nat).testBit i = true := by decide
    rw [e i h12, Bool.xor_comm]
  · have e : a.testBit i = false := Nat.testBit_lt_two_pow (Nat.lt_of_lt_of_le (show a < 2 ^ 12 from ha) (Nat.pow_le_pow_right (by decide) (show 12 ≤ i by omega)))
    rw [e, Bool.false_and, Bool.false_and]
theorem j5_cl_lt {a g : Nat} (ha : a < 4096) : j5_cl a g < 4096 := Nat.lt_of_le_of_lt Nat.and_le_left ha
set_option maxRecDepth 100000 in
set_option maxHeartbeats 4000000 in
theorem ev5_openTo {G : jj_G} {s : jj_S} {k : Nat} (hk : k < 12) : jj_Ev G m5_openTo 0 [.ref 9, .int (nI k)] (jj_m s) 0 0 (some (.int (wa_op s k))) (jj_m s) := by
  refine jj_Ev_of (lo := [some (.ref 9), some (.int (nI k))]) (by decide +kernel) (Nat.le_of_ble_eq_true rfl) rfl (by trivial) ?_
  refine jj_iload_n dX5_openTo_0 rfl ?_
  refine jj_if_lt (tgt := 22) dX5_openTo_1 (by decide) (fun q => absurd q (jb_lt0 (by omega))) (fun _ => ?_)
  refine jj_iload_n dX5_openTo_4 rfl ?_
  refine jj_aload_n dX5_openTo_5 rfl ?_
  refine jj_getf dX5_openTo_6 fl5_9 rfl rfl ?_
  refine jv_alen_i (v := 12) dX5_openTo_9 rfl rfl ?_
  refine jj_icmp_ge (tgt := 22) dX5_openTo_10 (by decide) (fun q => absurd q (jb_ge hk (by decide))) (fun _ => ?_)
  refine jj_aload_n dX5_openTo_13 rfl ?_
  refine jj_getf dX5_openTo_14 fl5_9 rfl rfl ?_
  refine jj_iload_n dX5_openTo_17 rfl ?_
  refine jv_iald dX5_openTo_18 rfl (hk) (by decide) ?_
  refine jj_goto (tgt := 23) dX5_openTo_19 (by decide) ?_
  exact jj_leaf dX5_openTo_23 rfl rfl
theorem ev5_openTo_n {G : jj_G} {s : jj_S} {o : Nat → Nat} {k : Nat} (ho : j5_ok s o) (hk : k < 12) : jj_Ev G m5_openTo 0 [.ref 9, .int (nI k)] (jj_m s) 0 0 (some (.int (nI (o k)))) (jj_m s) := by
  have := ev5_openTo (G := G) (s := s) hk
  rwa [(ho k hk).1] at this
set_option maxRecDepth 100000 in
set_option maxHeartbeats 4000000 in
theorem ev5_forgetFound {G : jj_G} {s : jj_S}  : jj_Ev G m5_forgetFound 0 [.ref 9] (jj_m s) 0 0 (none) (jj_m (wa_wfS (wa_rfS s 0) 0)) := by
  refine jj_Ev_of (lo := [some (.ref 9)]) (by decide +kernel) (Nat.le_of_ble_eq_true rfl) rfl (by trivial) ?_
  refine jj_aload_n dX5_forgetFound_0 rfl ?_
  refine jj_iconst (v := 0) dX5_forgetFound_1 (by decide) ?_
  refine jj_putf dX5_forgetFound_2 (fw5_33 _) rfl (Nat.le_of_ble_eq_true rfl) rfl rfl rfl ?_
  refine jj_aload_n dX5_forgetFound_5 rfl ?_
  refine jj_iconst (v := 0) dX5_forgetFound_6 (by decide) ?_
  refine jj_putf dX5_forgetFound_7 (fw5_37 _) rfl (Nat.le_of_ble_eq_true rfl) rfl rfl rfl ?_
  exact jj_leaf dX5_forgetFound_10 rfl rfl
set_option maxRecDepth 100000 in
set_option maxHeartbeats 4000000 in
theorem ev5_setOpen {G : jj_G} {s : jj_S} {k : Nat} (x : Int32) (hk : k < 12) : jj_Ev G m5_setOpen 1 [.ref 9, .int (nI k), .int x] (jj_m s) 0 0 (none) (jj_m (wa_wfS (wa_rfS (wa_opS s (jU (wa_op s) k x)) 0) 0)) := by
  refine jj_Ev_of (lo := [some (.ref 9), some (.int (nI k)), some (.int x)]) (by decide +kernel) (Nat.le_of_ble_eq_true rfl) rfl (by trivial) ?_
  refine jj_iload_n dX5_setOpen_0 rfl ?_
  refine jj_if_lt (tgt := 20) dX5_setOpen_1 (by decide) (fun q => absurd q (jb_lt0 (by omega))) (fun _ => ?_)
  refine jj_iload_n dX5_setOpen_4 rfl ?_
  refine jj_aload_n dX5_setOpen_5 rfl ?_
  refine jj_getf dX5_setOpen_6 fl5_9 rfl rfl ?_
  refine jv_alen_i (v := 12) dX5_setOpen_9 rfl rfl ?_
  refine jj_icmp_ge (tgt := 20) dX5_setOpen_10 (by decide) (fun q => absurd q (jb_ge hk (by decide))) (fun _ => ?_)
  refine jj_aload_n dX5_setOpen_13 rfl ?_
  refine jj_getf dX5_setOpen_14 fl5_9 rfl rfl ?_
  refine jj_iload_n dX5_setOpen_17 rfl ?_
  refine jj_iload_n dX5_setOpen_18 rfl ?_
  refine jv_iast dX5_setOpen_19 rfl (hk) (by decide) rfl ?_
  refine jj_aload_n dX5_setOpen_20 rfl ?_
  refine jj_callV (M2 := m5_forgetFound) dX5_setOpen_21 ml5_30 tm5_forgetFound (ev5_forgetFound (s := wa_opS s (jU (wa_op s) k x))) rfl rfl rfl rfl rfl (by decide) (Nat.le_of_ble_eq_true rfl) ?_
  exact jj_leaf dX5_setOpen_24 rfl rfl
set_option maxRecDepth 100000 in
set_option maxHeartbeats 4000000 in
theorem ev5_clear {G : jj_G} {s : jj_S}  : jj_Ev G m5_clear 3 [.ref 9] (jj_m s) 0 0 (none) (jj_m (wa_wfS (wa_rfS (wa_opS s (jF (fun f => nI (jb_al f)) (wa_op s) 12)) 0) 0)) := by
  refine jj_Ev_of (lo := [some (.ref 9), none]) (by decide +kernel) (Nat.le_of_ble_eq_true rfl) rfl (by trivial) ?_
  have L : ∀ k, k ≤ 12 → jj_Go G m5_clear 3 2 [some (.ref 9), some (.int (nI k))] [] (jj_m (wa_opS s (jF (fun f => nI (jb_al f)) (wa_op s) k))) 0 0 (none) (jj_m (wa_wfS (wa_rfS (wa_opS s (jF (fun f => nI (jb_al f)) (wa_op s) 12)) 0) 0)) := by
    refine jj_up 12 (fun k hk ih => ?_) ?_
    · refine jj_iload_n dX5_clear_2 rfl ?_
      refine jj_aload_n dX5_clear_3 rfl ?_
      refine jj_getf dX5_clear_4 fl5_9 rfl rfl ?_
      refine jv_alen_i (v := 12) dX5_clear_7 rfl rfl ?_
      refine jj_icmp_ge (tgt := 27) dX5_clear_8 (by decide) (fun q => absurd q (jb_ge hk (by decide))) (fun _ => ?_)
      refine jj_aload_n dX5_clear_11 rfl ?_
      refine jj_getf dX5_clear_12 fl5_9 rfl rfl ?_
      refine jj_iload_n dX5_clear_15 rfl ?_
      refine jj_iload_n dX5_clear_16 rfl ?_
      refine jj_callS (M2 := m0_allBeside) dX5_clear_17 ml5_24 tm0_allBeside (ev0_allBeside hk) rfl rfl (by decide) (Nat.le_of_ble_eq_true rfl) ?_
      refine jv_iast dX5_clear_20 rfl (hk) (by decide) rfl ?_
      refine jj_iinc dX5_clear_21 rfl (jb_i k) (by decide) rfl ?_
      refine jj_goto (tgt := 2) dX5_clear_24 (by decide) ?_
      exact jj_eq rfl rfl rfl (by rw [← jF_s' (f := fun f => nI (jb_al f)) rfl]; rfl) ih
    · refine jj_iload_n dX5_clear_2 rfl ?_
      refine jj_aload_n dX5_clear_3 rfl ?_
      refine jj_getf dX5_clear_4 fl5_9 rfl rfl ?_
      refine jv_alen_i (v := 12) dX5_clear_7 rfl rfl ?_
      refine jj_icmp_ge (tgt := 27) dX5_clear_8 (by decide) (fun _ => ?_) (fun q => absurd (jb_ge' (n := 12) (by decide)) q)
      refine jj_aload_n dX5_clear_27 rfl ?_
      refine jj_callV (M2 := m5_forgetFound) dX5_clear_28 ml5_30 tm5_forgetFound (ev5_forgetFound (s := wa_opS s (jF (fun f => nI (jb_al f)) (wa_op s) 12))) rfl rfl rfl rfl rfl (by decide) (Nat.le_of_ble_eq_true rfl) ?_
      exact jj_leaf dX5_clear_31 rfl rfl
  refine jj_iconst (v := 0) dX5_clear_0 (by decide) ?_
  refine jj_istore_n dX5_clear_1 rfl (by decide) rfl ?_
  exact jj_eq rfl rfl rfl (by rw [jF_0]; rfl) (L 0 (by decide))
set_option maxRecDepth 100000 in
set_option maxHeartbeats 4000000 in
theorem ev5_through_t {G : jj_G} {s : jj_S} {o : Nat → Nat} {f t : Nat} (ho : j5_ok s o) (hf : f < 12) (ht : t < 5) (hb : (o f).testBit (jb_s f t) = true) : jj_Ev G m5_through 2 [.ref 9, .int (nI f), .int (nI t)] (jj_m s) 0 0 (some (.int (nI (jb_s f t)))) (jj_m s) := by
  refine jj_Ev_of (lo := [some (.ref 9), some (.int (nI f)), some (.int (nI t)), none]) (by decide +kernel) (Nat.le_of_ble_eq_true rfl) rfl (by trivial) ?_
  refine jj_iload_n dX5_through_0 rfl ?_
  refine jj_iload_n dX5_through_1 rfl ?_
  refine jj_callS (M2 := m0_across) dX5_through_2 ml5_51 tm0_across (ev0_across hf ht) rfl rfl (by decide) (Nat.le_of_ble_eq_true rfl) ?_
  refine jj_istore_n dX5_through_5 rfl (by decide) rfl ?_
  refine jj_aload_n dX5_through_6 rfl ?_
  refine jj_iload_n dX5_through_7 rfl ?_
  refine jj_callV (M2 := m5_openTo) dX5_through_8 ml5_44 tm5_openTo (ev5_openTo_n ho hf) rfl rfl rfl rfl rfl (by decide) (Nat.le_of_ble_eq_true rfl) ?_
  refine jj_iload_n dX5_through_11 rfl ?_
  refine jj_callS (M2 := m0_holds) dX5_through_12 ml5_54 tm0_holds (ev0_holds (a := o f) (by have := (ho f hf).2; omega) (jb_s_lt f hf t ht)) rfl rfl (by decide) (Nat.le_of_ble_eq_true rfl) ?_
  refine jj_if_eq (tgt := 22) dX5_through_15 (by decide) (fun q => absurd q (by rw [jb_bt hb]; decide)) (fun _ => ?_)
  refine jj_iload_n dX5_through_18 rfl ?_
  refine jj_goto (tgt := 23) dX5_through_19 (by decide) ?_
  exact jj_leaf dX5_through_23 rfl rfl
set_option maxRecDepth 100000 in
set_option maxHeartbeats 4000000 in
theorem ev5_through_f {G : jj_G} {s : jj_S} {o : Nat → Nat} {f t : Nat} (ho : j5_ok s o) (hf : f < 12) (ht : t < 5) (hb : ¬ (o f).testBit (jb_s f t) = true) : jj_Ev G m5_through 2 [.ref 9, .int (nI f), .int (nI t)] (jj_m s) 0 0 (some (.int (-1))) (jj_m s) := by
  refine jj_Ev_of (lo := [some (.ref 9), some (.int (nI f)), some (.int (nI t)), none]) (by decide +kernel) (Nat.le_of_ble_eq_true rfl) rfl (by trivial) ?_
  refine jj_iload_n dX5_through_0 rfl ?_
  refine jj_iload_n dX5_through_1 rfl ?_
  refine jj_callS (M2 := m0_across) dX5_through_2 ml5_51 tm0_across (ev0_across hf ht) rfl rfl (by decide) (Nat.le_of_ble_eq_true rfl) ?_
  refine jj_istore_n dX5_through_5 rfl (by decide) rfl ?_
  refine jj_aload_n dX5_through_6 rfl ?_
  refine jj_iload_n dX5_through_7 rfl ?_
  refine jj_callV (M2 := m5_openTo) dX5_through_8 ml5_44 tm5_openTo (ev5_openTo_n ho hf) rfl rfl rfl rfl rfl (by decide) (Nat.le_of_ble_eq_true rfl) ?_
  refine jj_iload_n dX5_through_11 rfl ?_
  refine jj_callS (M2 := m0_holds) dX5_through_12 ml5_54 tm0_holds (ev0_holds (a := o f) (by have := (ho f hf).2; omega) (jb_s_lt f hf t ht)) rfl rfl (by decide) (Nat.le_of_ble_eq_true rfl) ?_
  refine jj_if_eq (tgt := 22) dX5_through_15 (by decide) (fun _ => ?_) (fun q => absurd (jb_bf hb) q)
  refine jj_iconst (v := (-1)) dX5_through_22 (by decide) ?_
  exact jj_leaf dX5_through_23 rfl rfl
set_option maxRecDepth 100000 in
set_option maxHeartbeats 4000000 in
theorem ev5_sidesClosed {G : jj_G} {s : jj_S} {o : Nat → Nat} {f : Nat} (ho : j5_ok s o) (hf : f < 12) : jj_Ev G m5_sidesClosed 3 [.ref 9, .int (nI f)] (jj_m s) 0 0 (some (.int (nI (j5_sc o f 5)))) (jj_m s) := by
  refine jj_Ev_of (lo := [some (.ref 9), some (.int (nI f)), none, none]) (by decide +kernel) (Nat.le_of_ble_eq_true rfl) rfl (by trivial) ?_
  have L : ∀ k, k ≤ 5 → jj_Go G m5_sidesClosed 3 4 [some (.ref 9), some (.int (nI f)), some (.int (nI (j5_sc o f k))), some (.int (nI k))] [] (jj_m s) 0 0 (some (.int (nI (j5_sc o f 5)))) (jj_m s) := by
    refine jj_up 5 (fun k hk ih => ?_) ?_
    · unfold j5_sc at ih
      by_cases hb : (o f).testBit (jb_s f k) = true
      · rw [if_pos hb] at ih
        refine jj_iload_n dX5_sidesClosed_4 rfl ?_
        refine jj_iconst (v := 5) dX5_sidesClosed_5 (by decide) ?_
        refine jj_icmp_ge (tgt := 31) dX5_sidesClosed_6 (by decide) (fun q => absurd q (jb_ge hk (by decide))) (fun _ => ?_)
        refine jj_aload_n dX5_sidesClosed_9 rfl ?_
        refine jj_iload_n dX5_sidesClosed_10 rfl ?_
        refine jj_iload_n dX5_sidesClosed_11 rfl ?_
        refine jj_callV (M2 := m5_through) dX5_sidesClosed_12 ml5_58 tm5_through (ev5_through_t ho hf hk hb) rfl rfl rfl rfl rfl (by decide) (Nat.le_of_ble_eq_true rfl) ?_
        refine jj_iconst (v := (-1)) dX5_sidesClosed_15 (by decide) ?_
        refine jj_icmp_ne (tgt := 25) dX5_sidesClosed_16 (by decide) (fun _ => ?_) (fun q => absurd q (jb_nm1 (by have := jb_s_lt f hf k hk; omega)))
        refine jj_iinc dX5_sidesClosed_25 rfl (jb_i k) (by decide) rfl ?_
        refine jj_goto (tgt := 4) dX5_sidesClosed_28 (by decide) ?_
        exact ih
      · rw [if_neg hb] at ih
        refine jj_iload_n dX5_sidesClosed_4 rfl ?_
        refine jj_iconst (v := 5) dX5_sidesClosed_5 (by decide) ?_
        refine jj_icmp_ge (tgt := 31) dX5_sidesClosed_6 (by decide) (fun q => absurd q (jb_ge hk (by decide))) (fun _ => ?_)
        refine jj_aload_n dX5_sidesClosed_9 rfl ?_
        refine jj_iload_n dX5_sidesClosed_10 rfl ?_
        refine jj_iload_n dX5_sidesClosed_11 rfl ?_
        refine jj_callV (M2 := m5_through) dX5_sidesClosed_12 ml5_58 tm5_through (ev5_through_f ho hf hk hb) rfl rfl rfl rfl rfl (by decide) (Nat.le_of_ble_eq_true rfl) ?_
        refine jj_iconst (v := (-1)) dX5_sidesClosed_15 (by decide) ?_
        refine jj_icmp_ne (tgt := 25) dX5_sidesClosed_16 (by decide) (fun q => absurd rfl q) (fun _ => ?_)
        refine jj_iload_n dX5_sidesClosed_19 rfl ?_
        refine jj_iconst (v := 1) dX5_sidesClosed_20 (by decide) ?_
        refine jj_iload_n dX5_sidesClosed_21 rfl ?_
        refine jj_ishl dX5_sidesClosed_22 (jb_2k k (by omega)) ?_
        refine jj_ior dX5_sidesClosed_23 (fa_or _ _) ?_
        refine jj_istore_n dX5_sidesClosed_24 rfl (by decide) rfl ?_
        refine jj_iinc dX5_sidesClosed_25 rfl (jb_i k) (by decide) rfl ?_
        refine jj_goto (tgt := 4) dX5_sidesClosed_28 (by decide) ?_
        exact ih
    · refine jj_iload_n dX5_sidesClosed_4 rfl ?_
      refine jj_iconst (v := 5) dX5_sidesClosed_5 (by decide) ?_
      refine jj_icmp_ge (tgt := 31) dX5_sidesClosed_6 (by decide) (fun _ => ?_) (fun q => absurd (jb_ge' (n := 5) (by decide)) q)
      refine jj_iload_n dX5_sidesClosed_31 rfl ?_
      exact jj_leaf dX5_sidesClosed_32 rfl rfl
  refine jj_iconst (v := 0) dX5_sidesClosed_0 (by decide) ?_
  refine jj_istore_n dX5_sidesClosed_1 rfl (by decide) rfl ?_
  refine jj_iconst (v := 0) dX5_sidesClosed_2 (by decide) ?_
  refine jj_istore_n dX5_sidesClosed_3 rfl (by decide) rfl ?_
  exact L 0 (by decide)
set_option maxRecDepth 100000 in
set_option maxHeartbeats 4000000 in
theorem ev5_wallCount {G : jj_G} {s : jj_S} {o : Nat → Nat}  (ho : j5_ok s o) : jj_Ev G m5_wallCount 4 [.ref 9] (jj_m s) 0 0 (some (.int (nI (j5_wl o 12 / 2)))) (jj_m s) := by
  refine jj_Ev_of (lo := [some (.ref 9), none, none]) (by decide +kernel) (Nat.le_of_ble_eq_true rfl) rfl (by trivial) ?_
  have L : ∀ k, k ≤ 12 → jj_Go G m5_wallCount 4 4 [some (.ref 9), some (.int (nI (j5_wl o k))), some (.int (nI k))] [] (jj_m s) 0 0 (some (.int (nI (j5_wl o 12 / 2)))) (jj_m s) := by
    refine jj_up 12 (fun k hk ih => ?_) ?_
    · refine jj_iload_n dX5_wallCount_4 rfl ?_
      refine jj_bipush (v := 12) dX5_wallCount_5 (by decide) ?_
      refine jj_icmp_ge (tgt := 27) dX5_wallCount_7 (by decide) (fun q => absurd q (jb_ge hk (by decide))) (fun _ => ?_)
      refine jj_iload_n dX5_wallCount_10 rfl ?_
      refine jj_aload_n dX5_wallCount_11 rfl ?_
      refine jj_iload_n dX5_wallCount_12 rfl ?_
      refine jj_callV (M2 := m5_sidesClosed) dX5_wallCount_13 ml5_61 tm5_sidesClosed (ev5_sidesClosed ho hk) rfl rfl rfl rfl rfl (by decide) (Nat.le_of_ble_eq_true rfl) ?_
      refine jj_callS (M2 := mJ6_bitCount) dX5_wallCount_16 ml5_64 tmJ6_bitCount (evJ6_bitCount (a := j5_sc o k 5) (by have := j5_sc_lt o k 5 (Nat.le_refl 5); omega)) rfl rfl (by decide) (Nat.le_of_ble_eq_true rfl) ?_
      refine jj_iadd dX5_wallCount_19 (nI_add _ _) ?_
      refine jj_istore_n dX5_wallCount_20 rfl (by decide) rfl ?_
      refine jj_iinc dX5_wallCount_21 rfl (jb_i k) (by decide) rfl ?_
      refine jj_goto (tgt := 4) dX5_wallCount_24 (by decide) ?_
      exact ih
    · refine jj_iload_n dX5_wallCount_4 rfl ?_
      refine jj_bipush (v := 12) dX5_wallCount_5 (by decide) ?_
      refine jj_icmp_ge (tgt := 27) dX5_wallCount_7 (by decide) (fun _ => ?_) (fun q => absurd (jb_ge' (n := 12) (by decide)) q)
      refine jj_iload_n dX5_wallCount_27 rfl ?_
      refine jj_iconst (v := 2) dX5_wallCount_28 (by decide) ?_
      refine jj_idiv dX5_wallCount_29 (by decide) (pk_div (d := 2) (by have := j5_wl_le o 12; omega) (by decide) (by decide)) ?_
      exact jj_leaf dX5_wallCount_30 rfl rfl
  refine jj_iconst (v := 0) dX5_wallCount_0 (by decide) ?_
  refine jj_istore_n dX5_wallCount_1 rfl (by decide) rfl ?_
  refine jj_iconst (v := 0) dX5_wallCount_2 (by decide) ?_
  refine jj_istore_n dX5_wallCount_3 rfl (by decide) rfl ?_
  exact L 0 (by decide)
set_option maxRecDepth 100000 in
set_option maxHeartbeats 4000000 in
theorem ev5_openToAny {G : jj_G} {s : jj_S} {o : Nat → Nat} {a : Nat} (ho : j5_ok s o) (ha : a < 4096) : jj_Ev G m5_openToAny 2 [.ref 9, .int (nI a)] (jj_m s) 0 0 (some (.int (nI (j5_any o a 12)))) (jj_m s) := by
  refine jj_Ev_of (lo := [some (.ref 9), some (.int (nI a)), none, none]) (by decide +kernel) (Nat.le_of_ble_eq_true rfl) rfl (by trivial) ?_
  have L : ∀ k, k ≤ 12 → jj_Go G m5_openToAny 2 4 [some (.ref 9), some (.int (nI a)), some (.int (nI (j5_any o a k))), some (.int (nI k))] [] (jj_m s) 0 0 (some (.int (nI (j5_any o a 12)))) (jj_m s) := by
    refine jj_up 12 (fun k hk ih => ?_) ?_
    · refine jj_iload_n dX5_openToAny_4 rfl ?_
      refine jj_bipush (v := 12) dX5_openToAny_5 (by decide) ?_
      refine jj_icmp_ge (tgt := 32) dX5_openToAny_7 (by decide) (fun q => absurd q (jb_ge hk (by decide))) (fun _ => ?_)
      refine jj_iload_n dX5_openToAny_10 rfl ?_
      refine jj_iload_n dX5_openToAny_11 rfl ?_
      refine jj_callS (M2 := m0_holds) dX5_openToAny_12 ml5_54 tm0_holds (ev0_holds (a := a) (by omega) hk) rfl rfl (by decide) (Nat.le_of_ble_eq_true rfl) ?_
      refine jj_if_eq (tgt := 26) dX5_openToAny_15 (by decide) (fun c15 => ?_) (fun c15 => ?_)
      · refine jj_iinc dX5_openToAny_26 rfl (jb_i k) (by decide) rfl ?_
        refine jj_goto (tgt := 4) dX5_openToAny_29 (by decide) ?_
        unfold j5_any at ih
        first | (rw [if_neg (jb_b0 c15)] at ih; exact ih) | (rw [if_pos (jb_b1 c15)] at ih; exact ih)
      · refine jj_iload_n dX5_openToAny_18 rfl ?_
        refine jj_aload_n dX5_openToAny_19 rfl ?_
        refine jj_iload_n dX5_openToAny_20 rfl ?_
        refine jj_callV (M2 := m5_openTo) dX5_openToAny_21 ml5_44 tm5_openTo (ev5_openTo_n ho hk) rfl rfl rfl rfl rfl (by decide) (Nat.le_of_ble_eq_true rfl) ?_
        refine jj_ior dX5_openToAny_24 (fa_or _ _) ?_
        refine jj_istore_n dX5_openToAny_25 rfl (by decide) rfl ?_
        refine jj_iinc dX5_openToAny_26 rfl (jb_i k) (by decide) rfl ?_
        refine jj_goto (tgt := 4) dX5_openToAny_29 (by decide) ?_
        unfold j5_any at ih
        first | (rw [if_neg (jb_b0 c15)] at ih; exact ih) | (rw [if_pos (jb_b1 c15)] at ih; exact ih)
    · refine jj_iload_n dX5_openToAny_4 rfl ?_
      refine jj_bipush (v := 12) dX5_openToAny_5 (by decide) ?_
      refine jj_icmp_ge (tgt := 32) dX5_openToAny_7 (by decide) (fun _ => ?_) (fun q => absurd (jb_ge' (n := 12) (by decide)) q)
      refine jj_iload_n dX5_openToAny_32 rfl ?_
      exact jj_leaf dX5_openToAny_33 rfl rfl
  refine jj_iconst (v := 0) dX5_openToAny_0 (by decide) ?_
  refine jj_istore_n dX5_openToAny_1 rfl (by decide) rfl ?_
  refine jj_iconst (v := 0) dX5_openToAny_2 (by decide) ?_
  refine jj_istore_n dX5_openToAny_3 rfl (by decide) rfl ?_
  exact L 0 (by decide)
set_option maxRecDepth 100000 in
set_option maxHeartbeats 4000000 in
theorem ev5_insideOf {G : jj_G} {s : jj_S} {o : Nat → Nat} {f : Nat} (ho : j5_ok s o) (hf : f < 12) : jj_Ev G m5_insideOf 3 [.ref 9, .int (nI f)] (jj_m s) 0 0 (some (.int (nI (j5_in o f 11)))) (jj_m s) := by
  refine jj_Ev_of (lo := [some (.ref 9), some (.int (nI f)), none, none]) (by decide +kernel) (Nat.le_of_ble_eq_true rfl) rfl (by trivial) ?_
  have hb := j5_in_lt (fun f hf => (ho f hf).2) hf
  have L : ∀ k, k ≤ 11 → jj_Go G m5_insideOf 3 6 [some (.ref 9), some (.int (nI f)), some (.int (nI (j5_in o f k))), some (.int (nI (k + 1)))] [] (jj_m s) 0 0 (some (.int (nI (j5_in o f 11)))) (jj_m s) := by
    refine jj_up 11 (fun k hk ih => ?_) ?_
    · refine jj_iload_n dX5_insideOf_6 rfl ?_
      refine jj_bipush (v := 12) dX5_insideOf_7 (by decide) ?_
      refine jj_icmp_ge (tgt := 26) dX5_insideOf_9 (by decide) (fun q => absurd q (jb_ge (k := k + 1) (n := 12) (by omega) (by decide))) (fun _ => ?_)
      refine jj_iload_n dX5_insideOf_12 rfl ?_
      refine jj_aload_n dX5_insideOf_13 rfl ?_
      refine jj_iload_n dX5_insideOf_14 rfl ?_
      refine jj_callV (M2 := m5_openToAny) dX5_insideOf_15 ml5_69 tm5_openToAny (ev5_openToAny ho (hb k)) rfl rfl rfl rfl rfl (by decide) (Nat.le_of_ble_eq_true rfl) ?_
      refine jj_ior dX5_insideOf_18 (fa_or _ _) ?_
      refine jj_istore_n dX5_insideOf_19 rfl (by decide) rfl ?_
      refine jj_iinc dX5_insideOf_20 rfl (jb_i (k + 1)) (by decide) rfl ?_
      refine jj_goto (tgt := 6) dX5_insideOf_23 (by decide) ?_
      exact ih
    · refine jj_iload_n dX5_insideOf_6 rfl ?_
      refine jj_bipush (v := 12) dX5_insideOf_7 (by decide) ?_
      refine jj_icmp_ge (tgt := 26) dX5_insideOf_9 (by decide) (fun _ => ?_) (fun q => absurd (jb_ge' (n := 12) (by decide)) q)
      refine jj_iload_n dX5_insideOf_26 rfl ?_
      exact jj_leaf dX5_insideOf_27 rfl rfl
  refine jj_iconst (v := 1) dX5_insideOf_0 (by decide) ?_
  refine jj_iload_n dX5_insideOf_1 rfl ?_
  refine jj_ishl dX5_insideOf_2 (jb_2k f (by omega)) ?_
  refine jj_istore_n dX5_insideOf_3 rfl (by decide) rfl ?_
  refine jj_iconst (v := 1) dX5_insideOf_4 (by decide) ?_
  refine jj_istore_n dX5_insideOf_5 rfl (by decide) rfl ?_
  exact L 0 (by decide)
set_option maxRecDepth 100000 in
set_option maxHeartbeats 4000000 in
theorem ev5_insideCount {G : jj_G} {s : jj_S} {o : Nat → Nat}  (ho : j5_ok s o) : jj_Ev G m5_insideCount 4 [.ref 9] (jj_m s) 0 0 (some (.int (nI (j5_ic o 12).2))) (jj_m s) := by
  refine jj_Ev_of (lo := [some (.ref 9), none, none, none]) (by decide +kernel) (Nat.le_of_ble_eq_true rfl) rfl (by trivial) ?_
  have hb := j5_ic_lt (fun f hf => (ho f hf).2)
  have L : ∀ k, k ≤ 12 → jj_Go G m5_insideCount 4 6 [some (.ref 9), some (.int (nI (j5_ic o k).1)), some (.int (nI (j5_ic o k).2)), some (.int (nI k))] [] (jj_m s) 0 0 (some (.int (nI (j5_ic o 12).2))) (jj_m s) := by
    refine jj_up 12 (fun k hk ih => ?_) ?_
    · refine jj_iload_n dX5_insideCount_6 rfl ?_
      refine jj_bipush (v := 12) dX5_insideCount_7 (by decide) ?_
      refine jj_icmp_ge (tgt := 37) dX5_insideCount_9 (by decide) (fun q => absurd q (jb_ge hk (by decide))) (fun _ => ?_)
      refine jj_iload_n dX5_insideCount_12 rfl ?_
      refine jj_iload_n dX5_insideCount_13 rfl ?_
      refine jj_callS (M2 := m0_holds) dX5_insideCount_14 ml5_54 tm0_holds (ev0_holds (a := (j5_ic o k).1) (by have := hb k (by omega); omega) hk) rfl rfl (by decide) (Nat.le_of_ble_eq_true rfl) ?_
      refine jj_if_ne (tgt := 31) dX5_insideCount_17 (by decide) (fun c17 => ?_) (fun c17 => ?_)
      · refine jj_iinc dX5_insideCount_31 rfl (jb_i k) (by decide) rfl ?_
        refine jj_goto (tgt := 6) dX5_insideCount_34 (by decide) ?_
        unfold j5_ic at ih
        first | (rw [if_pos (jb_b1 c17)] at ih; exact ih) | (rw [if_neg (jb_b0 c17)] at ih; exact ih)
      · refine jj_iinc dX5_insideCount_20 rfl (jb_i _) (by decide) rfl ?_
        refine jj_iload_n dX5_insideCount_23 rfl ?_
        refine jj_aload_n dX5_insideCount_24 rfl ?_
        refine jj_iload_n dX5_insideCount_25 rfl ?_
        refine jj_callV (M2 := m5_insideOf) dX5_insideCount_26 ml5_72 tm5_insideOf (ev5_insideOf ho hk) rfl rfl rfl rfl rfl (by decide) (Nat.le_of_ble_eq_true rfl) ?_
        refine jj_ior dX5_insideCount_29 (fa_or _ _) ?_
        refine jj_istore_n dX5_insideCount_30 rfl (by decide) rfl ?_
        refine jj_iinc dX5_insideCount_31 rfl (jb_i k) (by decide) rfl ?_
        refine jj_goto (tgt := 6) dX5_insideCount_34 (by decide) ?_
        unfold j5_ic at ih
        first | (rw [if_pos (jb_b1 c17)] at ih; exact ih) | (rw [if_neg (jb_b0 c17)] at ih; exact ih)
    · refine jj_iload_n dX5_insideCount_6 rfl ?_
      refine jj_bipush (v := 12) dX5_insideCount_7 (by decide) ?_
      refine jj_icmp_ge (tgt := 37) dX5_insideCount_9 (by decide) (fun _ => ?_) (fun q => absurd (jb_ge' (n := 12) (by decide)) q)
      refine jj_iload_n dX5_insideCount_37 rfl ?_
      exact jj_leaf dX5_insideCount_38 rfl rfl
  refine jj_iconst (v := 0) dX5_insideCount_0 (by decide) ?_
  refine jj_istore_n dX5_insideCount_1 rfl (by decide) rfl ?_
  refine jj_iconst (v := 0) dX5_insideCount_2 (by decide) ?_
  refine jj_istore_n dX5_insideCount_3 rfl (by decide) rfl ?_
  refine jj_iconst (v := 0) dX5_insideCount_4 (by decide) ?_
  refine jj_istore_n dX5_insideCount_5 rfl (by decide) rfl ?_
  exact L 0 (by decide)
set_option maxRecDepth 100000 in
set_option maxHeartbeats 4000000 in
theorem ev5_wardsAll {G : jj_G} {s : jj_S} {o : Nat → Nat} {a : Nat} (ho : j5_ok s o) (_ha : a < 4096) : jj_Ev G m5_wardsAll 0 [.ref 9, .int (nI a)] (jj_m s) 0 0 (some (.int (jb_b (j5_wa o a = true)))) (jj_m s) := by
  refine jj_Ev_of (lo := [some (.ref 9), some (.int (nI a)), none]) (by decide +kernel) (Nat.le_of_ble_eq_true rfl) rfl (jb_b01 _) ?_
  have L : ∀ k, k ≤ 12 → (∀ j, j < k → ¬ o j &&& a = 0) → jj_Go G m5_wardsAll 0 2 [some (.ref 9), some (.int (nI a)), some (.int (nI k))] [] (jj_m s) 0 0 (some (.int (jb_b (j5_wa o a = true)))) (jj_m s) := by
    refine jj_up 12 (fun k hk ih => ?_) ?_
    · intro hp
      have e1 : wa_op s k = nI (o k) := (ho k hk).1
      have hlt : o k &&& a < 2 ^ 31 := Nat.lt_of_le_of_lt Nat.and_le_left (by have := (ho k hk).2; omega)
      refine jj_iload_n dX5_wardsAll_2 rfl ?_
      refine jj_aload_n dX5_wardsAll_3 rfl ?_
      refine jj_getf dX5_wardsAll_4 fl5_9 rfl rfl ?_
      refine jv_alen_i (v := 12) dX5_wardsAll_7 rfl rfl ?_
      refine jj_icmp_ge (tgt := 30) dX5_wardsAll_8 (by decide) (fun q => absurd q (jb_ge hk (by decide))) (fun _ => ?_)
      refine jj_aload_n dX5_wardsAll_11 rfl ?_
      refine jj_getf dX5_wardsAll_12 fl5_9 rfl rfl ?_
      refine jj_iload_n dX5_wardsAll_15 rfl ?_
      refine jv_iald dX5_wardsAll_16 rfl (hk) (by decide) ?_
      refine jj_iload_n dX5_wardsAll_17 rfl ?_
      refine jj_iand (v := nI (o k &&& a)) dX5_wardsAll_18 (by rw [e1]; exact fa_and _ _) ?_
      refine jj_if_ne (tgt := 24) dX5_wardsAll_19 (by decide) (fun c19 => ?_) (fun c19 => ?_)
      · refine jj_iinc dX5_wardsAll_24 rfl (jb_i k) (by decide) rfl ?_
        refine jj_goto (tgt := 2) dX5_wardsAll_27 (by decide) ?_
        refine ih (fun j hj => ?_)
        rcases Nat.lt_or_ge j k with q | q
        · exact hp j q
        · rw [show j = k by omega]
          exact fun z => c19 (by rw [z]; rfl)
      · refine jj_iconst (v := 0) dX5_wardsAll_22 (by decide) ?_
        exact jj_leaf dX5_wardsAll_23 (by unfold j5_wa; rw [jb_bf (fun q => by have := (jb_all_iff _ 12).mp q k hk; simp [(jb_inj hlt (by decide)).mp c19] at this)]; rfl) rfl
    · intro hp
      refine jj_iload_n dX5_wardsAll_2 rfl ?_
      refine jj_aload_n dX5_wardsAll_3 rfl ?_
      refine jj_getf dX5_wardsAll_4 fl5_9 rfl rfl ?_
      refine jv_alen_i (v := 12) dX5_wardsAll_7 rfl rfl ?_
      refine jj_icmp_ge (tgt := 30) dX5_wardsAll_8 (by decide) (fun _ => ?_) (fun q => absurd (jb_ge' (n := 12) (by decide)) q)
      refine jj_iconst (v := 1) dX5_wardsAll_30 (by decide) ?_
      exact jj_leaf dX5_wardsAll_31 (by unfold j5_wa; rw [jb_bt ((jb_all_iff _ 12).mpr fun j hj => by simpa using hp j hj)]; rfl) rfl
  refine jj_iconst (v := 0) dX5_wardsAll_0 (by decide) ?_
  refine jj_istore_n dX5_wardsAll_1 rfl (by decide) rfl ?_
  exact L 0 (by decide) (fun j hj => absurd hj (by omega))
set_option maxRecDepth 100000 in
set_option maxHeartbeats 4000000 in
theorem ev5_findWardens {G : jj_G} {s : jj_S} {o : Nat → Nat}  {w : Int32 × Int32 × Nat} (ho : j5_ok s o) (hW : j5_wd o 4096 = w) : jj_Ev G m5_findWardens 1 [.ref 9] (jj_m s) 0 0 (none) (jj_m (j5_fw s w)) := by
  refine jj_Ev_of (lo := [some (.ref 9), none, none, none]) (by decide +kernel) (Nat.le_of_ble_eq_true rfl) rfl (by trivial) ?_
  unfold j5_fw
  by_cases hw : wa_wf s = 0
  · rw [if_pos hw]
    have fin : jj_m (wa_wfS (wa_wnS (wa_wsS (wa_wcS s w.1) w.2.1) (nI w.2.2)) 1) = jj_m (j5_fw s w) := by unfold j5_fw; rw [if_pos hw]
    rw [fin]
    have L : ∀ k, k ≤ 4096 → jj_Go G m5_findWardens 1 25 [some (.ref 9), some (.int (nI k)), none, none] [] (jj_m (wa_wnS (wa_wsS (wa_wcS s (j5_wd o k).1) (j5_wd o k).2.1) (nI (j5_wd o k).2.2))) 0 0 (none) (jj_m (j5_fw s w)) := by
      refine jj_up 4096 (fun k hk ih => ?_) ?_
      · by_cases hA : (j5_wd o k).1 = -1 ∨ nI (jb_pc k) < (j5_wd o k).1
        · have J : jj_Go G m5_findWardens 1 59 [some (.ref 9), some (.int (nI k)), some (.int (nI (jb_pc k))), some (.int 1)] [] (jj_m (wa_wnS (wa_wsS (wa_wcS s (j5_wd o k).1) (j5_wd o k).2.1) (nI (j5_wd o k).2.2))) 0 0 (none) (jj_m (j5_fw s w)) := by
            refine jj_iload_n dX5_findWardens_59 rfl ?_
            refine jj_if_ne (tgt := 71) dX5_findWardens_60 (by decide) (fun _ => ?_) (fun q => absurd q (by decide))
            refine jj_aload_n dX5_findWardens_71 rfl ?_
            refine jj_iload_n dX5_findWardens_72 rfl ?_
            refine jj_callV (M2 := m5_wardsAll) dX5_findWardens_73 ml5_88 tm5_wardsAll (ev5_wardsAll (s := (wa_wnS (wa_wsS (wa_wcS s (j5_wd o k).1) (j5_wd o k).2.1) (nI (j5_wd o k).2.2))) (o := o) (a := k) ho (by omega)) rfl rfl rfl rfl rfl (by decide) (Nat.le_of_ble_eq_true rfl) ?_
            refine jj_if_eq (tgt := 108) dX5_findWardens_76 (by decide) (fun c76 => ?_) (fun c76 => ?_)
            · refine jj_iinc dX5_findWardens_108 rfl (jb_i k) (by decide) rfl ?_
              refine jj_goto (tgt := 25) dX5_findWardens_111 (by decide) ?_
              have e : j5_wd o (k + 1) = _ := show j5_wst _ _ _ _ = _ by unfold j5_wst; rw [if_pos hA, if_neg (jb_b0 c76)]
              rw [e] at ih
              refine jj_less (lo' := [some (.ref 9), some (.int (nI (k + 1))), none, none]) (fun j v hj => ?_) (jj_eq rfl rfl rfl rfl ih)
              match j, hj with
              | 0, hj => exact hj
              | 1, hj => exact hj
              | 2, hj => exact absurd hj (by simp)
              | 3, hj => exact absurd hj (by simp)
              | j + 4, hj => exact absurd hj (by simp)
            · refine jj_iload_n dX5_findWardens_79 rfl ?_
              refine jj_if_eq (tgt := 98) dX5_findWardens_80 (by decide) (fun q => absurd q (by decide)) (fun _ => ?_)
              refine jj_aload_n dX5_findWardens_83 rfl ?_
              refine jj_iload_n dX5_findWardens_84 rfl ?_
              refine jj_putf dX5_findWardens_85 (fw5_78 _) rfl (Nat.le_of_ble_eq_true rfl) rfl rfl rfl ?_
              refine jj_aload_n dX5_findWardens_88 rfl ?_
              refine jj_iload_n dX5_findWardens_89 rfl ?_
              refine jj_putf dX5_findWardens_90 (fw5_82 _) rfl (Nat.le_of_ble_eq_true rfl) rfl rfl rfl ?_
              refine jj_aload_n dX5_findWardens_93 rfl ?_
              refine jj_iconst (v := 0) dX5_findWardens_94 (by decide) ?_
              refine jj_putf dX5_findWardens_95 (fw5_85 _) rfl (Nat.le_of_ble_eq_true rfl) rfl rfl rfl ?_
              refine jj_aload_n dX5_findWardens_98 rfl ?_
              refine jj_dup dX5_findWardens_99 rfl ?_
              refine jj_getf dX5_findWardens_100 fl5_85 rfl rfl ?_
              refine jj_iconst (v := 1) dX5_findWardens_103 (by decide) ?_
              refine jj_iadd (v := nI 1) dX5_findWardens_104 (by decide) ?_
              refine jj_putf dX5_findWardens_105 (fw5_85 _) rfl (Nat.le_of_ble_eq_true rfl) rfl rfl rfl ?_
              refine jj_iinc dX5_findWardens_108 rfl (jb_i k) (by decide) rfl ?_
              refine jj_goto (tgt := 25) dX5_findWardens_111 (by decide) ?_
              have e : j5_wd o (k + 1) = _ := show j5_wst _ _ _ _ = _ by unfold j5_wst; rw [if_pos hA, if_pos (jb_b1 c76)]
              rw [e] at ih
              refine jj_less (lo' := [some (.ref 9), some (.int (nI (k + 1))), none, none]) (fun j v hj => ?_) (jj_eq rfl rfl rfl rfl ih)
              match j, hj with
              | 0, hj => exact hj
              | 1, hj => exact hj
              | 2, hj => exact absurd hj (by simp)
              | 3, hj => exact absurd hj (by simp)
              | j + 4, hj => exact absurd hj (by simp)
          refine jj_iload_n dX5_findWardens_25 rfl ?_
          refine jj_sipush (v := 4095) dX5_findWardens_26 (by decide) ?_
          refine jj_icmp_gt (tgt := 114) dX5_findWardens_29 (by decide) (fun q => absurd q (nI_nlt (a := 4095) (b := k) (by omega) (by omega) |> fun q z => q z)) (fun _ => ?_)
          refine jj_iload_n dX5_findWardens_32 rfl ?_
          refine jj_callS (M2 := mJ6_bitCount) dX5_findWardens_33 ml5_64 tmJ6_bitCount (evJ6_bitCount (a := k) (by omega)) rfl rfl (by decide) (Nat.le_of_ble_eq_true rfl) ?_
          refine jj_istore_n dX5_findWardens_36 rfl (by decide) rfl ?_
          refine jj_aload_n dX5_findWardens_37 rfl ?_
          refine jj_getf dX5_findWardens_38 fl5_78 rfl rfl ?_
          refine jj_iconst (v := (-1)) dX5_findWardens_41 (by decide) ?_
          refine jj_icmp_eq (tgt := 53) dX5_findWardens_42 (by decide) (fun c42 => ?_) (fun c42 => ?_)
          · refine jj_iconst (v := 1) dX5_findWardens_53 (by decide) ?_
            refine jj_goto (tgt := 58) dX5_findWardens_54 (by decide) ?_
            refine jj_istore_n dX5_findWardens_58 rfl (by decide) rfl ?_
            exact J
          · refine jj_iload_n dX5_findWardens_45 rfl ?_
            refine jj_aload_n dX5_findWardens_46 rfl ?_
            refine jj_getf dX5_findWardens_47 fl5_78 rfl rfl ?_
            refine jj_icmp_ge (tgt := 57) dX5_findWardens_50 (by decide) (fun c50 => ?_) (fun c50 => ?_)
            · exact absurd (hA.resolve_left c42) (Int32.not_lt.mpr c50)
            · refine jj_iconst (v := 1) dX5_findWardens_53 (by decide) ?_
              refine jj_goto (tgt := 58) dX5_findWardens_54 (by decide) ?_
              refine jj_istore_n dX5_findWardens_58 rfl (by decide) rfl ?_
              exact J
        · by_cases hB : nI (jb_pc k) = (j5_wd o k).1
          · have J : jj_Go G m5_findWardens 1 59 [some (.ref 9), some (.int (nI k)), some (.int (nI (jb_pc k))), some (.int 0)] [] (jj_m (wa_wnS (wa_wsS (wa_wcS s (j5_wd o k).1) (j5_wd o k).2.1) (nI (j5_wd o k).2.2))) 0 0 (none) (jj_m (j5_fw s w)) := by
              refine jj_iload_n dX5_findWardens_59 rfl ?_
              refine jj_if_ne (tgt := 71) dX5_findWardens_60 (by decide) (fun q => absurd rfl q) (fun _ => ?_)
              refine jj_iload_n dX5_findWardens_63 rfl ?_
              refine jj_aload_n dX5_findWardens_64 rfl ?_
              refine jj_getf dX5_findWardens_65 fl5_78 rfl rfl ?_
              refine jj_icmp_ne (tgt := 108) dX5_findWardens_68 (by decide) (fun q => absurd hB q) (fun _ => ?_)
              refine jj_aload_n dX5_findWardens_71 rfl ?_
              refine jj_iload_n dX5_findWardens_72 rfl ?_
              refine jj_callV (M2 := m5_wardsAll) dX5_findWardens_73 ml5_88 tm5_wardsAll (ev5_wardsAll (s := (wa_wnS (wa_wsS (wa_wcS s (j5_wd o k).1) (j5_wd o k).2.1) (nI (j5_wd o k).2.2))) (o := o) (a := k) ho (by omega)) rfl rfl rfl rfl rfl (by decide) (Nat.le_of_ble_eq_true rfl) ?_
              refine jj_if_eq (tgt := 108) dX5_findWardens_76 (by decide) (fun c76 => ?_) (fun c76 => ?_)
              · refine jj_iinc dX5_findWardens_108 rfl (jb_i k) (by decide) rfl ?_
                refine jj_goto (tgt := 25) dX5_findWardens_111 (by decide) ?_
                have e : j5_wd o (k + 1) = _ := show j5_wst _ _ _ _ = _ by unfold j5_wst; rw [if_neg hA, if_pos hB, if_neg (jb_b0 c76)]
                rw [e] at ih
                refine jj_less (lo' := [some (.ref 9), some (.int (nI (k + 1))), none, none]) (fun j v hj => ?_) (jj_eq rfl rfl rfl rfl ih)
                match j, hj with
                | 0, hj => exact hj
                | 1, hj => exact hj
                | 2, hj => exact absurd hj (by simp)
                | 3, hj => exact absurd hj (by simp)
                | j + 4, hj => exact absurd hj (by simp)
              · refine jj_iload_n dX5_findWardens_79 rfl ?_
                refine jj_if_eq (tgt := 98) dX5_findWardens_80 (by decide) (fun _ => ?_) (fun q => absurd rfl q)
                refine jj_aload_n dX5_findWardens_98 rfl ?_
                refine jj_dup dX5_findWardens_99 rfl ?_
                refine jj_getf dX5_findWardens_100 fl5_85 rfl rfl ?_
                refine jj_iconst (v := 1) dX5_findWardens_103 (by decide) ?_
                refine jj_iadd dX5_findWardens_104 (jb_i _) ?_
                refine jj_putf dX5_findWardens_105 (fw5_85 _) rfl (Nat.le_of_ble_eq_true rfl) rfl rfl rfl ?_
                refine jj_iinc dX5_findWardens_108 rfl (jb_i k) (by decide) rfl ?_
                refine jj_goto (tgt := 25) dX5_findWardens_111 (by decide) ?_
                have e : j5_wd o (k + 1) = _ := show j5_wst _ _ _ _ = _ by unfold j5_wst; rw [if_neg hA, if_pos hB, if_pos (jb_b1 c76)]
                rw [e] at ih
                refine jj_less (lo' := [some (.ref 9), some (.int (nI (k + 1))), none, none]) (fun j v hj => ?_) (jj_eq rfl rfl rfl rfl ih)
                match j, hj with
                | 0, hj => exact hj
                | 1, hj => exact hj
                | 2, hj => exact absurd hj (by simp)
                | 3, hj => exact absurd hj (by simp)
                | j + 4, hj => exact absurd hj (by simp)
            refine jj_iload_n dX5_findWardens_25 rfl ?_
            refine jj_sipush (v := 4095) dX5_findWardens_26 (by decide) ?_
            refine jj_icmp_gt (tgt := 114) dX5_findWardens_29 (by decide) (fun q => absurd q (nI_nlt (a := 4095) (b := k) (by omega) (by omega) |> fun q z => q z)) (fun _ => ?_)
            refine jj_iload_n dX5_findWardens_32 rfl ?_
            refine jj_callS (M2 := mJ6_bitCount) dX5_findWardens_33 ml5_64 tmJ6_bitCount (evJ6_bitCount (a := k) (by omega)) rfl rfl (by decide) (Nat.le_of_ble_eq_true rfl) ?_
            refine jj_istore_n dX5_findWardens_36 rfl (by decide) rfl ?_
            refine jj_aload_n dX5_findWardens_37 rfl ?_
            refine jj_getf dX5_findWardens_38 fl5_78 rfl rfl ?_
            refine jj_iconst (v := (-1)) dX5_findWardens_41 (by decide) ?_
            refine jj_icmp_eq (tgt := 53) dX5_findWardens_42 (by decide) (fun q => absurd q (fun q => hA (Or.inl q))) (fun _ => ?_)
            refine jj_iload_n dX5_findWardens_45 rfl ?_
            refine jj_aload_n dX5_findWardens_46 rfl ?_
            refine jj_getf dX5_findWardens_47 fl5_78 rfl rfl ?_
            refine jj_icmp_ge (tgt := 57) dX5_findWardens_50 (by decide) (fun _ => ?_) (fun q => absurd (Int32.not_lt.mp fun q => hA (Or.inr q)) q)
            refine jj_iconst (v := 0) dX5_findWardens_57 (by decide) ?_
            refine jj_istore_n dX5_findWardens_58 rfl (by decide) rfl ?_
            exact J
          · have e : j5_wd o (k + 1) = _ := show j5_wst _ _ _ _ = _ by unfold j5_wst; rw [if_neg hA, if_neg hB]
            rw [e] at ih
            refine jj_iload_n dX5_findWardens_25 rfl ?_
            refine jj_sipush (v := 4095) dX5_findWardens_26 (by decide) ?_
            refine jj_icmp_gt (tgt := 114) dX5_findWardens_29 (by decide) (fun q => absurd q (nI_nlt (a := 4095) (b := k) (by omega) (by omega) |> fun q z => q z)) (fun _ => ?_)
            refine jj_iload_n dX5_findWardens_32 rfl ?_
            refine jj_callS (M2 := mJ6_bitCount) dX5_findWardens_33 ml5_64 tmJ6_bitCount (evJ6_bitCount (a := k) (by omega)) rfl rfl (by decide) (Nat.le_of_ble_eq_true rfl) ?_
            refine jj_istore_n dX5_findWardens_36 rfl (by decide) rfl ?_
            refine jj_aload_n dX5_findWardens_37 rfl ?_
            refine jj_getf dX5_findWardens_38 fl5_78 rfl rfl ?_
            refine jj_iconst (v := (-1)) dX5_findWardens_41 (by decide) ?_
            refine jj_icmp_eq (tgt := 53) dX5_findWardens_42 (by decide) (fun q => absurd q (fun q => hA (Or.inl q))) (fun _ => ?_)
            refine jj_iload_n dX5_findWardens_45 rfl ?_
            refine jj_aload_n dX5_findWardens_46 rfl ?_
            refine jj_getf dX5_findWardens_47 fl5_78 rfl rfl ?_
            refine jj_icmp_ge (tgt := 57) dX5_findWardens_50 (by decide) (fun _ => ?_) (fun q => absurd (Int32.not_lt.mp fun q => hA (Or.inr q)) q)
            refine jj_iconst (v := 0) dX5_findWardens_57 (by decide) ?_
            refine jj_istore_n dX5_findWardens_58 rfl (by decide) rfl ?_
            refine jj_iload_n dX5_findWardens_59 rfl ?_
            refine jj_if_ne (tgt := 71) dX5_findWardens_60 (by decide) (fun q => absurd rfl q) (fun _ => ?_)
            refine jj_iload_n dX5_findWardens_63 rfl ?_
            refine jj_aload_n dX5_findWardens_64 rfl ?_
            refine jj_getf dX5_findWardens_65 fl5_78 rfl rfl ?_
            refine jj_icmp_ne (tgt := 108) dX5_findWardens_68 (by decide) (fun _ => ?_) (fun q => absurd q hB)
            refine jj_iinc dX5_findWardens_108 rfl (jb_i k) (by decide) rfl ?_
            refine jj_goto (tgt := 25) dX5_findWardens_111 (by decide) ?_
            refine jj_less (lo' := [some (.ref 9), some (.int (nI (k + 1))), none, none]) (fun j v hj => ?_) (jj_eq rfl rfl rfl rfl ih)
            match j, hj with
            | 0, hj => exact hj
            | 1, hj => exact hj
            | 2, hj => exact absurd hj (by simp)
            | 3, hj => exact absurd hj (by simp)
            | j + 4, hj => exact absurd hj (by simp)
      · rw [hW]
        refine jj_iload_n dX5_findWardens_25 rfl ?_
        refine jj_sipush (v := 4095) dX5_findWardens_26 (by decide) ?_
        refine jj_icmp_gt (tgt := 114) dX5_findWardens_29 (by decide) (fun _ => ?_) (fun q => absurd (nI_lt (a := 4095) (b := 4096) (by decide) (by decide)) q)
        refine jj_aload_n dX5_findWardens_114 rfl ?_
        refine jj_iconst (v := 1) dX5_findWardens_115 (by decide) ?_
        refine jj_putf dX5_findWardens_116 (fw5_37 _) rfl (Nat.le_of_ble_eq_true rfl) rfl rfl rfl ?_
        exact jj_leaf dX5_findWardens_119 rfl fin
    refine jj_aload_n dX5_findWardens_0 rfl ?_
    refine jj_getf dX5_findWardens_1 fl5_37 rfl rfl ?_
    refine jj_if_eq (tgt := 8) dX5_findWardens_4 (by decide) (fun _ => ?_) (fun q => absurd hw q)
    refine jj_aload_n dX5_findWardens_8 rfl ?_
    refine jj_iconst (v := (-1)) dX5_findWardens_9 (by decide) ?_
    refine jj_putf dX5_findWardens_10 (fw5_78 _) rfl (Nat.le_of_ble_eq_true rfl) rfl rfl rfl ?_
    refine jj_aload_n dX5_findWardens_13 rfl ?_
    refine jj_iconst (v := (-1)) dX5_findWardens_14 (by decide) ?_
    refine jj_putf dX5_findWardens_15 (fw5_82 _) rfl (Nat.le_of_ble_eq_true rfl) rfl rfl rfl ?_
    refine jj_aload_n dX5_findWardens_18 rfl ?_
    refine jj_iconst (v := 0) dX5_findWardens_19 (by decide) ?_
    refine jj_putf dX5_findWardens_20 (fw5_85 _) rfl (Nat.le_of_ble_eq_true rfl) rfl rfl rfl ?_
    refine jj_iconst (v := 0) dX5_findWardens_23 (by decide) ?_
    refine jj_istore_n dX5_findWardens_24 rfl (by decide) rfl ?_
    refine jj_less (lo' := [some (.ref 9), some (.int (nI 0)), none, none]) (fun j v hj => ?_) (jj_eq rfl rfl rfl rfl (L 0 (by decide)))
    match j, hj with
    | 0, hj => exact hj
    | 1, hj => exact hj
    | 2, hj => exact absurd hj (by simp)
    | 3, hj => exact absurd hj (by simp)
    | j + 4, hj => exact absurd hj (by simp)
  · rw [if_neg hw]
    refine jj_aload_n dX5_findWardens_0 rfl ?_
    refine jj_getf dX5_findWardens_1 fl5_37 rfl rfl ?_
    refine jj_if_eq (tgt := 8) dX5_findWardens_4 (by decide) (fun q => absurd q hw) (fun _ => ?_)
    exact jj_leaf dX5_findWardens_7 rfl rfl
set_option maxRecDepth 100000 in
set_option maxHeartbeats 4000000 in
theorem ev5_wardenCount {G : jj_G} {s : jj_S} {o : Nat → Nat}  {w : Int32 × Int32 × Nat} (ho : j5_ok s o) (hW : j5_wd o 4096 = w) : jj_Ev G m5_wardenCount 2 [.ref 9] (jj_m s) 0 0 (some (.int (wa_wc (j5_fw s w)))) (jj_m (j5_fw s w)) := by
  refine jj_Ev_of (lo := [some (.ref 9)]) (by decide +kernel) (Nat.le_of_ble_eq_true rfl) rfl (by trivial) ?_
  refine jj_aload_n dX5_wardenCount_0 rfl ?_
  refine jj_callV (M2 := m5_findWardens) dX5_wardenCount_1 ml5_75 tm5_findWardens (ev5_findWardens ho hW) rfl rfl rfl rfl rfl (by decide) (Nat.le_of_ble_eq_true rfl) ?_
  refine jj_aload_n dX5_wardenCount_4 rfl ?_
  refine jj_getf dX5_wardenCount_5 fl5_78 rfl rfl ?_
  exact jj_leaf dX5_wardenCount_8 rfl rfl
set_option maxRecDepth 100000 in
set_option maxHeartbeats 4000000 in
theorem ev5_wardenSet {G : jj_G} {s : jj_S} {o : Nat → Nat}  {w : Int32 × Int32 × Nat} (ho : j5_ok s o) (hW : j5_wd o 4096 = w) : jj_Ev G m5_wardenSet 2 [.ref 9] (jj_m s) 0 0 (some (.int (wa_ws (j5_fw s w)))) (jj_m (j5_fw s w)) := by
  refine jj_Ev_of (lo := [some (.ref 9)]) (by decide +kernel) (Nat.le_of_ble_eq_true rfl) rfl (by trivial) ?_
  refine jj_aload_n dX5_wardenSet_0 rfl ?_
  refine jj_callV (M2 := m5_findWardens) dX5_wardenSet_1 ml5_75 tm5_findWardens (ev5_findWardens ho hW) rfl rfl rfl rfl rfl (by decide) (Nat.le_of_ble_eq_true rfl) ?_
  refine jj_aload_n dX5_wardenSet_4 rfl ?_
  refine jj_getf dX5_wardenSet_5 fl5_82 rfl rfl ?_
  exact jj_leaf dX5_wardenSet_8 rfl rfl
set_option maxRecDepth 100000 in
set_option maxHeartbeats 4000000 in
theorem ev5_wardenSets {G : jj_G} {s : jj_S} {o : Nat → Nat}  {w : Int32 × Int32 × Nat} (ho : j5_ok s o) (hW : j5_wd o 4096 = w) : jj_Ev G m5_wardenSets 2 [.ref 9] (jj_m s) 0 0 (some (.int (wa_wn (j5_fw s w)))) (jj_m (j5_fw s w)) := by
  refine jj_Ev_of (lo := [some (.ref 9)]) (by decide +kernel) (Nat.le_of_ble_eq_true rfl) rfl (by trivial) ?_
  refine jj_aload_n dX5_wardenSets_0 rfl ?_
  refine jj_callV (M2 := m5_findWardens) dX5_wardenSets_1 ml5_75 tm5_findWardens (ev5_findWardens ho hW) rfl rfl rfl rfl rfl (by decide) (Nat.le_of_ble_eq_true rfl) ?_
  refine jj_aload_n dX5_wardenSets_4 rfl ?_
  refine jj_getf dX5_wardenSets_5 fl5_85 rfl rfl ?_
  exact jj_leaf dX5_wardenSets_8 rfl rfl
theorem j5_okS {s : jj_S} {o : Nat → Nat} {f x : Nat} (ho : j5_ok s o) (hx : x < 4096) : j5_ok (wa_wfS (wa_rfS (wa_opS s (jU (wa_op s) f (nI x))) 0) 0) (jU o f x) := by
  intro k hk
  by_cases e : k = f
  · subst e
    exact ⟨(jU_at _ _ _).trans (by rw [jU_at]), by rw [jU_at]; exact hx⟩
  · exact ⟨(jU_ne _ _ e).trans (by rw [jU_ne _ _ e]; exact (ho k hk).1), by rw [jU_ne _ _ e]; exact (ho k hk).2⟩
set_option maxRecDepth 100000 in
set_option maxHeartbeats 4000000 in
theorem ev5_close {G : jj_G} {s : jj_S} {o : Nat → Nat} {f g : Nat} (ho : j5_ok s o) (hf : f < 12) (hg : g < 12) (hs : ¬ jb_sd f g = -1) : jj_Ev G m5_close 3 [.ref 9, .int (nI f), .int (nI g)] (jj_m s) 0 0 (none) (jj_m (wa_wfS (wa_rfS (wa_opS (wa_wfS (wa_rfS (wa_opS s (jU (wa_op s) f (nI (j5_cl (o f) g)))) 0) 0) (jU (wa_op (wa_wfS (wa_rfS (wa_opS s (jU (wa_op s) f (nI (j5_cl (o f) g)))) 0) 0)) g (nI (j5_cl ((jU o f (j5_cl (o f) g)) g) f)))) 0) 0)) := by
  refine jj_Ev_of (lo := [some (.ref 9), some (.int (nI f)), some (.int (nI g))]) (by decide +kernel) (Nat.le_of_ble_eq_true rfl) rfl (by trivial) ?_
  have h1 := j5_okS (f := f) (x := j5_cl (o f) g) ho (j5_cl_lt (ho f hf).2)
  refine jj_iload_n dX5_close_0 rfl ?_
  refine jj_iload_n dX5_close_1 rfl ?_
  refine jj_callS (M2 := m0_sideTo) dX5_close_2 ml5_40 tm0_sideTo (ev0_sideTo hf hg) rfl rfl (by decide) (Nat.le_of_ble_eq_true rfl) ?_
  refine jj_iconst (v := (-1)) dX5_close_5 (by decide) ?_
  refine jj_icmp_eq (tgt := 41) dX5_close_6 (by decide) (fun q => absurd q hs) (fun _ => ?_)
  refine jj_aload_n dX5_close_9 rfl ?_
  refine jj_iload_n dX5_close_10 rfl ?_
  refine jj_aload_n dX5_close_11 rfl ?_
  refine jj_iload_n dX5_close_12 rfl ?_
  refine jj_callV (M2 := m5_openTo) dX5_close_13 ml5_44 tm5_openTo (ev5_openTo_n ho hf) rfl rfl rfl rfl rfl (by decide) (Nat.le_of_ble_eq_true rfl) ?_
  refine jj_iconst (v := 1) dX5_close_16 (by decide) ?_
  refine jj_iload_n dX5_close_17 rfl ?_
  refine jj_ishl dX5_close_18 (jb_2k g (by omega)) ?_
  refine jj_iconst (v := (-1)) dX5_close_19 (by decide) ?_
  refine jj_ixor dX5_close_20 rfl ?_
  refine jj_iand dX5_close_21 (j5_clv (ho f hf).2 hg) ?_
  refine jj_callV (M2 := m5_setOpen) dX5_close_22 ml5_47 tm5_setOpen (ev5_setOpen (s := s) _ hf) rfl rfl rfl rfl rfl (by decide) (Nat.le_of_ble_eq_true rfl) ?_
  refine jj_aload_n dX5_close_25 rfl ?_
  refine jj_iload_n dX5_close_26 rfl ?_
  refine jj_aload_n dX5_close_27 rfl ?_
  refine jj_iload_n dX5_close_28 rfl ?_
  refine jj_callV (M2 := m5_openTo) dX5_close_29 ml5_44 tm5_openTo (ev5_openTo_n h1 hg) rfl rfl rfl rfl rfl (by decide) (Nat.le_of_ble_eq_true rfl) ?_
  refine jj_iconst (v := 1) dX5_close_32 (by decide) ?_
  refine jj_iload_n dX5_close_33 rfl ?_
  refine jj_ishl dX5_close_34 (jb_2k f (by omega)) ?_
  refine jj_iconst (v := (-1)) dX5_close_35 (by decide) ?_
  refine jj_ixor dX5_close_36 rfl ?_
  refine jj_iand dX5_close_37 (j5_clv (h1 g hg).2 hf) ?_
  refine jj_callV (M2 := m5_setOpen) dX5_close_38 ml5_47 tm5_setOpen (ev5_setOpen (s := (wa_wfS (wa_rfS (wa_opS s (jU (wa_op s) f (nI (j5_cl (o f) g)))) 0) 0)) _ hg) rfl rfl rfl rfl rfl (by decide) (Nat.le_of_ble_eq_true rfl) ?_
  exact jj_leaf dX5_close_41 rfl rfl
set_option maxRecDepth 100000 in
set_option maxHeartbeats 4000000 in
theorem ev5_open {G : jj_G} {s : jj_S} {o : Nat → Nat} {f g : Nat} (ho : j5_ok s o) (hf : f < 12) (hg : g < 12) (hs : ¬ jb_sd f g = -1) : jj_Ev G m5_open 3 [.ref 9, .int (nI f), .int (nI g)] (jj_m s) 0 0 (none) (jj_m (wa_wfS (wa_rfS (wa_opS (wa_wfS (wa_rfS (wa_opS s (jU (wa_op s) f (nI ((o f) ||| 2 ^ g)))) 0) 0) (jU (wa_op (wa_wfS (wa_rfS (wa_opS s (jU (wa_op s) f (nI ((o f) ||| 2 ^ g)))) 0) 0)) g (nI (((jU o f ((o f) ||| 2 ^ g)) g) ||| 2 ^ f)))) 0) 0)) := by
  refine jj_Ev_of (lo := [some (.ref 9), some (.int (nI f)), some (.int (nI g))]) (by decide +kernel) (Nat.le_of_ble_eq_true rfl) rfl (by trivial) ?_
  have h1 := j5_okS (f := f) (x := (o f) ||| 2 ^ g) ho (Nat.or_lt_two_pow (n := 12) (ho f hf).2 (Nat.pow_lt_pow_right (by decide) hg))
  refine jj_iload_n dX5_open_0 rfl ?_
  refine jj_iload_n dX5_open_1 rfl ?_
  refine jj_callS (M2 := m0_sideTo) dX5_open_2 ml5_40 tm0_sideTo (ev0_sideTo hf hg) rfl rfl (by decide) (Nat.le_of_ble_eq_true rfl) ?_
  refine jj_iconst (v := (-1)) dX5_open_5 (by decide) ?_
  refine jj_icmp_eq (tgt := 37) dX5_open_6 (by decide) (fun q => absurd q hs) (fun _ => ?_)
  refine jj_aload_n dX5_open_9 rfl ?_
  refine jj_iload_n dX5_open_10 rfl ?_
  refine jj_aload_n dX5_open_11 rfl ?_
  refine jj_iload_n dX5_open_12 rfl ?_
  refine jj_callV (M2 := m5_openTo) dX5_open_13 ml5_44 tm5_openTo (ev5_openTo_n ho hf) rfl rfl rfl rfl rfl (by decide) (Nat.le_of_ble_eq_true rfl) ?_
  refine jj_iconst (v := 1) dX5_open_16 (by decide) ?_
  refine jj_iload_n dX5_open_17 rfl ?_
  refine jj_ishl dX5_open_18 (jb_2k g (by omega)) ?_
  refine jj_ior dX5_open_19 (fa_or _ _) ?_
  refine jj_callV (M2 := m5_setOpen) dX5_open_20 ml5_47 tm5_setOpen (ev5_setOpen (s := s) _ hf) rfl rfl rfl rfl rfl (by decide) (Nat.le_of_ble_eq_true rfl) ?_
  refine jj_aload_n dX5_open_23 rfl ?_
  refine jj_iload_n dX5_open_24 rfl ?_
  refine jj_aload_n dX5_open_25 rfl ?_
  refine jj_iload_n dX5_open_26 rfl ?_
  refine jj_callV (M2 := m5_openTo) dX5_open_27 ml5_44 tm5_openTo (ev5_openTo_n h1 hg) rfl rfl rfl rfl rfl (by decide) (Nat.le_of_ble_eq_true rfl) ?_
  refine jj_iconst (v := 1) dX5_open_30 (by decide) ?_
  refine jj_iload_n dX5_open_31 rfl ?_
  refine jj_ishl dX5_open_32 (jb_2k f (by omega)) ?_
  refine jj_ior dX5_open_33 (fa_or _ _) ?_
  refine jj_callV (M2 := m5_setOpen) dX5_open_34 ml5_47 tm5_setOpen (ev5_setOpen (s := (wa_wfS (wa_rfS (wa_opS s (jU (wa_op s) f (nI ((o f) ||| 2 ^ g)))) 0) 0)) _ hg) rfl rfl rfl rfl rfl (by decide) (Nat.le_of_ble_eq_true rfl) ?_
  exact jj_leaf dX5_open_37 rfl rfl
end
section
/-! ROUNDS. A search: the row as far as it goes, the first round, how many -/
abbrev j5_T : Type := (Nat → Nat) × (Nat → Int32) × Int32
def j5_sT (s : jj_S) (T : j5_T) : jj_S := wa_rcS (wa_frS (wa_rwS s (fun j => nI (T.1 j))) T.2.1) T.2.2
def j5_end (l : Nat) (T : j5_T) : j5_T := if l.testBit (T.1 11) = true then (T.1, (if T.2.2 = 0 then jF (fun j => nI (T.1 j)) T.2.1 12 else T.2.1), T.2.2 + 1) else T
/-- fields 1 .. m, those of nx, each by a step -/
def j5_lp (f : Nat → j5_T → j5_T) (nx : Nat) : Nat → j5_T → j5_T
  | 0, T => T
  | m + 1, T => if nx.testBit (m + 1) = true then f (m + 1) (j5_lp f nx m T) else j5_lp f nx m T
def j5_gr (o : Nat → Nat) (l : Nat) : Nat → Nat → Nat → j5_T → j5_T
  | 0, _, _, T => j5_end l T
  | n + 1, d, u, T => if l &&& (4095 ^^^ u) = 0 then T else j5_lp (fun k T => j5_gr o l n (d + 1) (u ||| 2 ^ k) (jU T.1 d k, T.2)) (o (T.1 (d - 1)) &&& (4095 ^^^ u)) 11 T
theorem j5_lp_keep {f : Nat → j5_T → j5_T} {nx d : Nat} (hf : ∀ k T, ∀ j, j < d → (f k T).1 j = T.1 j) (T : j5_T) : ∀ m, ∀ j, j < d → (j5_lp f nx m T).1 j = T.1 j := by
  intro m
  induction m with
  | zero => intro j _; rfl
  | succ m ih =>
    intro j hj
    unfold j5_lp
    split
    · rw [hf _ _ j hj]; exact ih j hj
    · exact ih j hj
theorem j5_gr_keep (o : Nat → Nat) (l : Nat) : ∀ n d u T, ∀ j, j < d → (j5_gr o l n d u T).1 j = T.1 j := by
  intro n
  induction n with
  | zero =>
    intro d u T j _
    show (j5_end l T).1 j = T.1 j
    unfold j5_end
    split <;> rfl
  | succ n ih =>
    intro d u T j hj
    unfold j5_gr
    split
    · rfl
    · refine j5_lp_keep (fun k T j hj => ?_) T 11 j hj
      rw [ih (d + 1) _ _ j (by omega)]
      exact jU_ne _ _ (by omega)
theorem j5_nv {a u : Nat} (ha : a < 4096) : nI a &&& (nI u ^^^ (-1)) = nI (a &&& (4095 ^^^ u)) := by
  apply b_ext
  intro i hi
  rw [b_and, b_xor, b_m1 i hi, jb_nb _ _ hi, jb_nb _ _ hi, jb_nb _ _ hi, Nat.testBit_and, Nat.testBit_xor]
  by_cases h12 : i < 12
  · have e : ∀ i, i < 12 → (4095 : Nat).testBit i = true := by decide
    rw [e i h12, Bool.xor_comm]
  · have e : a.testBit i = false := Nat.testBit_lt_two_pow (Nat.lt_of_lt_of_le (show a < 2 ^ 12 from ha) (Nat.pow_le_pow_right (by decide) (show 12 ≤ i by omega)))
    rw [e, Bool.false_and, Bool.false_and]
theorem j5_nv_lt {a u : Nat} (ha : a < 4096) : a &&& (4095 ^^^ u) < 4096 := Nat.lt_of_le_of_lt Nat.and_le_left ha
/-- those of a behind k -/
def j5_la (a k : Nat) : Nat := a &&& (4095 ^^^ (2 ^ (k + 1) - 1))
theorem j5_la1 : ∀ k, k < 12 → ∀ i, i < 32 → bt (-((2 : Int32) <<< (nI k &&& 31))) i = decide (k + 1 ≤ i) := by decide +kernel
theorem j5_la2 : ∀ k, k < 12 → ∀ i, i < 12 → (4095 ^^^ (2 ^ (k + 1) - 1)).testBit i = decide (k + 1 ≤ i) := by decide +kernel
theorem j5_lav {a k : Nat} (ha : a < 4096) (hk : k < 12) : nI a &&& (-((2 : Int32) <<< (nI k &&& 31))) = nI (j5_la a k) := by
  apply b_ext
  intro i hi
  rw [b_and, j5_la1 k hk i hi, jb_nb _ _ hi, jb_nb _ _ hi, j5_la, Nat.testBit_and]
  by_cases h12 : i < 12
  · rw [j5_la2 k hk i h12]
  · have e : a.testBit i = false := Nat.testBit_lt_two_pow (Nat.lt_of_lt_of_le (show a < 2 ^ 12 from ha) (Nat.pow_le_pow_right (by decide) (show 12 ≤ i by omega)))
    rw [e, Bool.false_and, Bool.false_and]
theorem j5_rU (s : jj_S) (T : j5_T) (d k : Nat) : wa_rwS (j5_sT s T) (jU (wa_rw (j5_sT s T)) d (nI k)) = j5_sT s (jU T.1 d k, T.2) := by
  have e : jU (wa_rw (j5_sT s T)) d (nI k) = fun j => nI (jU T.1 d k j) := by
    funext j
    by_cases h : j = d
    · subst h; rw [jU_at, jU_at]
    · rw [jU_ne _ _ h, jU_ne _ _ h]; rfl
  rw [e]
  unfold j5_sT wa_rcS wa_frS wa_rwS
  congr 1
  simp only [wa_rw]
  congr 1
  funext j
  unfold jU
  by_cases h1 : j = 8
  · simp [h1]
  · by_cases h2 : j = 7
    · simp [h2]
    · simp [h1, h2]
set_option maxRecDepth 100000 in
set_option maxHeartbeats 4000000 in
theorem ev5_endRound {G : jj_G} {s : jj_S} {T : j5_T} {l : Nat} (hl : l < 4096) (hr : T.1 11 < 12) : jj_Ev G m5_endRound 2 [.ref 9, .int (nI l)] (jj_m (j5_sT s T)) 0 0 (none) (jj_m (j5_sT s (j5_end l T))) := by
  refine jj_Ev_of (lo := [some (.ref 9), some (.int (nI l)), none]) (by decide +kernel) (Nat.le_of_ble_eq_true rfl) rfl (by trivial) ?_
  unfold j5_end
  by_cases hb : l.testBit (T.1 11) = true
  · rw [if_pos hb]
    by_cases hz : T.2.2 = 0
    · rw [if_pos hz]
      have L : ∀ k, k ≤ 12 → jj_Go G m5_endRound 2 24 [some (.ref 9), some (.int (nI l)), some (.int (nI k))] [] (jj_m (wa_frS (j5_sT s T) (jF (fun j => nI (T.1 j)) T.2.1 k))) 0 0 (none) (jj_m (j5_sT s (T.1, jF (fun j => nI (T.1 j)) T.2.1 12, T.2.2 + 1))) := by
        refine jj_up 12 (fun k hk ih => ?_) ?_
        · refine jj_iload_n dX5_endRound_24 rfl ?_
          refine jj_aload_n dX5_endRound_25 rfl ?_
          refine jj_getf dX5_endRound_26 fl5_18 rfl rfl ?_
          refine jv_alen_i (v := 12) dX5_endRound_29 rfl rfl ?_
          refine jj_icmp_ge (tgt := 60) dX5_endRound_30 (by decide) (fun q => absurd q (jb_ge hk (by decide))) (fun _ => ?_)
          refine jj_iload_n dX5_endRound_33 rfl ?_
          refine jj_aload_n dX5_endRound_34 rfl ?_
          refine jj_getf dX5_endRound_35 fl5_15 rfl rfl ?_
          refine jv_alen_i (v := 12) dX5_endRound_38 rfl rfl ?_
          refine jj_icmp_ge (tgt := 60) dX5_endRound_39 (by decide) (fun q => absurd q (jb_ge hk (by decide))) (fun _ => ?_)
          refine jj_aload_n dX5_endRound_42 rfl ?_
          refine jj_getf dX5_endRound_43 fl5_18 rfl rfl ?_
          refine jj_iload_n dX5_endRound_46 rfl ?_
          refine jj_aload_n dX5_endRound_47 rfl ?_
          refine jj_getf dX5_endRound_48 fl5_15 rfl rfl ?_
          refine jj_iload_n dX5_endRound_51 rfl ?_
          refine jv_iald dX5_endRound_52 rfl (hk) (by decide) ?_
          refine jv_iast dX5_endRound_53 rfl (hk) (by decide) rfl ?_
          refine jj_iinc dX5_endRound_54 rfl (jb_i k) (by decide) rfl ?_
          refine jj_goto (tgt := 24) dX5_endRound_57 (by decide) ?_
          exact jj_eq rfl rfl rfl (by rw [← jF_s' (f := fun j => nI (T.1 j)) rfl]; rfl) ih
        · refine jj_iload_n dX5_endRound_24 rfl ?_
          refine jj_aload_n dX5_endRound_25 rfl ?_
          refine jj_getf dX5_endRound_26 fl5_18 rfl rfl ?_
          refine jv_alen_i (v := 12) dX5_endRound_29 rfl rfl ?_
          refine jj_icmp_ge (tgt := 60) dX5_endRound_30 (by decide) (fun _ => ?_) (fun q => absurd (jb_ge' (n := 12) (by decide)) q)
          refine jj_aload_n dX5_endRound_60 rfl ?_
          refine jj_dup dX5_endRound_61 rfl ?_
          refine jj_getf dX5_endRound_62 fl5_95 rfl rfl ?_
          refine jj_iconst (v := 1) dX5_endRound_65 (by decide) ?_
          refine jj_iadd dX5_endRound_66 rfl ?_
          refine jj_putf dX5_endRound_67 (fw5_95 _) rfl (Nat.le_of_ble_eq_true rfl) rfl rfl rfl ?_
          exact jj_leaf dX5_endRound_70 rfl rfl
      refine jj_iload_n dX5_endRound_0 rfl ?_
      refine jj_aload_n dX5_endRound_1 rfl ?_
      refine jj_getf dX5_endRound_2 fl5_15 rfl rfl ?_
      refine jj_bipush (v := nI 11) dX5_endRound_5 (by decide) ?_
      refine jv_iald dX5_endRound_7 rfl (by decide) (by decide) ?_
      refine jj_callS (M2 := m0_holds) dX5_endRound_8 ml5_54 tm0_holds (ev0_holds (a := l) (by omega) hr) rfl rfl (by omega) (Nat.le_of_ble_eq_true rfl) ?_
      refine jj_if_ne (tgt := 15) dX5_endRound_11 (by decide) (fun _ => ?_) (fun q => absurd q (by rw [jb_bt hb]; decide))
      refine jj_aload_n dX5_endRound_15 rfl ?_
      refine jj_getf dX5_endRound_16 fl5_95 rfl rfl ?_
      refine jj_if_ne (tgt := 60) dX5_endRound_19 (by decide) (fun q => absurd hz q) (fun _ => ?_)
      refine jj_iconst (v := 0) dX5_endRound_22 (by decide) ?_
      refine jj_istore_n dX5_endRound_23 rfl (by decide) rfl ?_
      exact jj_eq rfl rfl rfl (by rw [jF_0]; rfl) (L 0 (by decide))
    · rw [if_neg hz]
      refine jj_iload_n dX5_endRound_0 rfl ?_
      refine jj_aload_n dX5_endRound_1 rfl ?_
      refine jj_getf dX5_endRound_2 fl5_15 rfl rfl ?_
      refine jj_bipush (v := nI 11) dX5_endRound_5 (by decide) ?_
      refine jv_iald dX5_endRound_7 rfl (by decide) (by decide) ?_
      refine jj_callS (M2 := m0_holds) dX5_endRound_8 ml5_54 tm0_holds (ev0_holds (a := l) (by omega) hr) rfl rfl (by omega) (Nat.le_of_ble_eq_true rfl) ?_
      refine jj_if_ne (tgt := 15) dX5_endRound_11 (by decide) (fun _ => ?_) (fun q => absurd q (by rw [jb_bt hb]; decide))
      refine jj_aload_n dX5_endRound_15 rfl ?_
      refine jj_getf dX5_endRound_16 fl5_95 rfl rfl ?_
      refine jj_if_ne (tgt := 60) dX5_endRound_19 (by decide) (fun _ => ?_) (fun q => absurd q hz)
      refine jj_aload_n dX5_endRound_60 rfl ?_
      refine jj_dup dX5_endRound_61 rfl ?_
      refine jj_getf dX5_endRound_62 fl5_95 rfl rfl ?_
      refine jj_iconst (v := 1) dX5_endRound_65 (by decide) ?_
      refine jj_iadd dX5_endRound_66 rfl ?_
      refine jj_putf dX5_endRound_67 (fw5_95 _) rfl (Nat.le_of_ble_eq_true rfl) rfl rfl rfl ?_
      exact jj_leaf dX5_endRound_70 rfl rfl
  · rw [if_neg hb]
    refine jj_iload_n dX5_endRound_0 rfl ?_
    refine jj_aload_n dX5_endRound_1 rfl ?_
    refine jj_getf dX5_endRound_2 fl5_15 rfl rfl ?_
    refine jj_bipush (v := nI 11) dX5_endRound_5 (by decide) ?_
    refine jv_iald dX5_endRound_7 rfl (by decide) (by decide) ?_
    refine jj_callS (M2 := m0_holds) dX5_endRound_8 ml5_54 tm0_holds (ev0_holds (a := l) (by omega) hr) rfl rfl (by omega) (Nat.le_of_ble_eq_true rfl) ?_
    refine jj_if_ne (tgt := 15) dX5_endRound_11 (by decide) (fun q => absurd (jb_bf hb) q) (fun _ => ?_)
    exact jj_leaf dX5_endRound_14 rfl rfl
theorem jb_gt1 {d : Nat} (h : 1 ≤ d) (h2 : d < 2 ^ 31) : ¬ nI d < 1 := nI_nlt (a := d) (b := 1) h h2
set_option maxRecDepth 100000 in
set_option maxHeartbeats 4000000 in
theorem ev5_goRound {G : jj_G} {s : jj_S} {o : Nat → Nat} {l : Nat} (ho : j5_ok s o) (hl : l < 4096) : ∀ n d u T, d + n = 12 → 1 ≤ d → (∀ j, j < d → T.1 j < 12) → u < 4096 → jj_Ev G m5_goRound (n + 3) [.ref 9, .int (nI d), .int (nI u), .int (nI l)] (jj_m (j5_sT s T)) 0 0 none (jj_m (j5_sT s (j5_gr o l n d u T))) := by
  intro n
  induction n with
  | zero =>
    intro d u T hd h1 hT hu
    have hd2 : d = 12 := by omega
    subst hd2
    refine jj_Ev_of (lo := [some (.ref 9), some (.int (nI 12)), some (.int (nI u)), some (.int (nI l)), none, none]) (by decide +kernel) (Nat.le_of_ble_eq_true rfl) rfl (by trivial) ?_
    refine jj_iload_n dX5_goRound_0 rfl ?_
    refine jj_iconst (v := 1) dX5_goRound_1 (by decide) ?_
    refine jj_icmp_lt (tgt := 14) dX5_goRound_2 (by decide) (fun q => absurd q (by decide)) (fun _ => ?_)
    refine jj_iload_n dX5_goRound_5 rfl ?_
    refine jj_aload_n dX5_goRound_6 rfl ?_
    refine jj_getf dX5_goRound_7 fl5_15 rfl rfl ?_
    refine jv_alen_i (v := 12) dX5_goRound_10 rfl rfl ?_
    refine jj_icmp_lt (tgt := 20) dX5_goRound_11 (by decide) (fun q => absurd q (by decide)) (fun _ => ?_)
    refine jj_aload_n dX5_goRound_14 rfl ?_
    refine jj_iload_n dX5_goRound_15 rfl ?_
    refine jj_callV (M2 := m5_endRound) dX5_goRound_16 ml5_102 tm5_endRound (ev5_endRound (s := s) (T := T) hl (hT 11 (by decide))) rfl rfl rfl rfl rfl (by omega) (Nat.le_of_ble_eq_true rfl) ?_
    exact jj_leaf dX5_goRound_19 rfl rfl
  | succ n ihn =>
    intro d u T hd h1 hT hu
    unfold j5_gr
    refine jj_Ev_of (lo := [some (.ref 9), some (.int (nI d)), some (.int (nI u)), some (.int (nI l)), none, none]) (by decide +kernel) (Nat.le_of_ble_eq_true rfl) rfl (by trivial) ?_
    have hlt := j5_nv_lt (a := l) (u := u) hl
    by_cases hz : l &&& (4095 ^^^ u) = 0
    · rw [if_pos hz]
      refine jj_iload_n dX5_goRound_0 rfl ?_
      refine jj_iconst (v := 1) dX5_goRound_1 (by decide) ?_
      refine jj_icmp_lt (tgt := 14) dX5_goRound_2 (by decide) (fun q => absurd q (jb_gt1 h1 (by omega))) (fun _ => ?_)
      refine jj_iload_n dX5_goRound_5 rfl ?_
      refine jj_aload_n dX5_goRound_6 rfl ?_
      refine jj_getf dX5_goRound_7 fl5_15 rfl rfl ?_
      refine jv_alen_i (v := 12) dX5_goRound_10 rfl rfl ?_
      refine jj_icmp_lt (tgt := 20) dX5_goRound_11 (by decide) (fun _ => ?_) (fun q => absurd (nI_lt (a := d) (b := 12) (by omega) (by decide)) q)
      refine jj_iload_n dX5_goRound_20 rfl ?_
      refine jj_iload_n dX5_goRound_21 rfl ?_
      refine jj_iconst (v := (-1)) dX5_goRound_22 (by decide) ?_
      refine jj_ixor dX5_goRound_23 rfl ?_
      refine jj_iand dX5_goRound_24 (j5_nv hl) ?_
      refine jj_if_ne (tgt := 29) dX5_goRound_25 (by decide) (fun q => absurd (by rw [hz]; rfl) q) (fun _ => ?_)
      exact jj_leaf dX5_goRound_28 rfl rfl
    · rw [if_neg hz]
      have hr := hT (d - 1) (by omega)
      have hnx := j5_nv_lt (a := o (T.1 (d - 1))) (u := u) (ho _ hr).2
      generalize hnxe : o (T.1 (d - 1)) &&& (4095 ^^^ u) = nx at hnx ⊢
      generalize hfe : (fun k (T : j5_T) => j5_gr o l n (d + 1) (u ||| 2 ^ k) (jU T.1 d k, T.2)) = f
      have hfk : ∀ k T, ∀ j, j < d → (f k T).1 j = T.1 j := by
        intro k T j hj
        rw [← hfe]
        show (j5_gr o l n (d + 1) (u ||| 2 ^ k) (jU T.1 d k, T.2)).1 j = T.1 j
        rw [j5_gr_keep o l n (d + 1) _ _ j (by omega)]
        exact jU_ne _ _ (by omega)
      have L : ∀ k, k ≤ 11 → jj_Go G m5_goRound (n + 1 + 3) 50 [some (.ref 9), some (.int (nI d)), some (.int (nI u)), some (.int (nI l)), some (.int (nI nx)), some (.int (nI (k + 1)))] [] (jj_m (j5_sT s (j5_lp f nx k T))) 0 0 (none) (jj_m (j5_sT s (j5_lp f nx 11 T))) := by
        refine jj_up 11 (fun k hk ih => ?_) ?_
        · have hk1 := j5_lp_keep (nx := nx) hfk T k
          generalize hTk : j5_lp f nx k T = Tk at hk1 ⊢
          have hT2 : ∀ j, j < d + 1 → jU Tk.1 d (k + 1) j < 12 := by
            intro j hj
            by_cases e : j = d
            · subst e; rw [jU_at]; omega
            · rw [jU_ne _ _ e, hk1 j (by omega)]; exact hT j (by omega)
          have hu2 : u ||| 2 ^ (k + 1) < 4096 := Nat.or_lt_two_pow (n := 12) hu (Nat.pow_lt_pow_right (by decide) (by omega))
          have E := ihn (d + 1) (u ||| 2 ^ (k + 1)) (jU Tk.1 d (k + 1), Tk.2) (by omega) (by omega) hT2 hu2
          have ef : f (k + 1) Tk = j5_gr o l n (d + 1) (u ||| 2 ^ (k + 1)) (jU Tk.1 d (k + 1), Tk.2) := by rw [← hfe]
          rw [j5_lp, hTk, ef] at ih
          refine jj_iload dX5_goRound_50 rfl ?_
          refine jj_bipush (v := 12) dX5_goRound_52 (by decide) ?_
          refine jj_icmp_ge (tgt := 95) dX5_goRound_54 (by decide) (fun q => absurd q (jb_ge (k := k + 1) (n := 12) (by omega) (by decide))) (fun _ => ?_)
          refine jj_iload dX5_goRound_57 rfl ?_
          refine jj_iload dX5_goRound_59 rfl ?_
          refine jj_ishr dX5_goRound_61 rfl ?_
          refine jj_iconst (v := 1) dX5_goRound_62 (by decide) ?_
          refine jj_iand dX5_goRound_63 (jb_sh (by omega) (by omega)) ?_
          refine jj_if_eq (tgt := 89) dX5_goRound_64 (by decide) (fun c64 => ?_) (fun c64 => ?_)
          · refine jj_iinc dX5_goRound_89 rfl (jb_i (k + 1)) (by decide) rfl ?_
            refine jj_goto (tgt := 50) dX5_goRound_92 (by decide) ?_
            first | (rw [if_neg (jb_b0 c64)] at ih; exact ih) | (rw [if_pos (jb_b1 c64)] at ih; exact ih)
          · refine jj_aload_n dX5_goRound_67 rfl ?_
            refine jj_getf dX5_goRound_68 fl5_15 rfl rfl ?_
            refine jj_iload_n dX5_goRound_71 rfl ?_
            refine jj_iload dX5_goRound_72 rfl ?_
            refine jv_iast dX5_goRound_74 rfl (by omega) (by decide) rfl ?_
            refine jj_eq rfl rfl rfl (by rw [← j5_rU]; rfl : _ = jj_m (j5_sT s (jU Tk.1 d (k + 1), Tk.2))) ?_
            refine jj_aload_n dX5_goRound_75 rfl ?_
            refine jj_iload_n dX5_goRound_76 rfl ?_
            refine jj_iconst (v := 1) dX5_goRound_77 (by decide) ?_
            refine jj_iadd dX5_goRound_78 (nI_add d 1) ?_
            refine jj_iload_n dX5_goRound_79 rfl ?_
            refine jj_iconst (v := 1) dX5_goRound_80 (by decide) ?_
            refine jj_iload dX5_goRound_81 rfl ?_
            refine jj_ishl dX5_goRound_83 (jb_2k (k + 1) (by omega)) ?_
            refine jj_ior dX5_goRound_84 (fa_or _ _) ?_
            refine jj_iload_n dX5_goRound_85 rfl ?_
            refine jj_callS (M2 := m5_goRound) dX5_goRound_86 ml5_98 tm5_goRound (E) rfl rfl (by omega) (Nat.le_of_ble_eq_true rfl) ?_
            refine jj_iinc dX5_goRound_89 rfl (jb_i (k + 1)) (by decide) rfl ?_
            refine jj_goto (tgt := 50) dX5_goRound_92 (by decide) ?_
            first | (rw [if_neg (jb_b0 c64)] at ih; exact ih) | (rw [if_pos (jb_b1 c64)] at ih; exact ih)
        · refine jj_iload dX5_goRound_50 rfl ?_
          refine jj_bipush (v := 12) dX5_goRound_52 (by decide) ?_
          refine jj_icmp_ge (tgt := 95) dX5_goRound_54 (by decide) (fun _ => ?_) (fun q => absurd (jb_ge' (n := 12) (by decide)) q)
          exact jj_leaf dX5_goRound_95 rfl rfl
      refine jj_iload_n dX5_goRound_0 rfl ?_
      refine jj_iconst (v := 1) dX5_goRound_1 (by decide) ?_
      refine jj_icmp_lt (tgt := 14) dX5_goRound_2 (by decide) (fun q => absurd q (jb_gt1 h1 (by omega))) (fun _ => ?_)
      refine jj_iload_n dX5_goRound_5 rfl ?_
      refine jj_aload_n dX5_goRound_6 rfl ?_
      refine jj_getf dX5_goRound_7 fl5_15 rfl rfl ?_
      refine jv_alen_i (v := 12) dX5_goRound_10 rfl rfl ?_
      refine jj_icmp_lt (tgt := 20) dX5_goRound_11 (by decide) (fun _ => ?_) (fun q => absurd (nI_lt (a := d) (b := 12) (by omega) (by decide)) q)
      refine jj_iload_n dX5_goRound_20 rfl ?_
      refine jj_iload_n dX5_goRound_21 rfl ?_
      refine jj_iconst (v := (-1)) dX5_goRound_22 (by decide) ?_
      refine jj_ixor dX5_goRound_23 rfl ?_
      refine jj_iand dX5_goRound_24 (j5_nv hl) ?_
      refine jj_if_ne (tgt := 29) dX5_goRound_25 (by decide) (fun _ => ?_) (fun q => absurd q (fun q => hz ((jb_inj (by omega) (by decide)).mp q)))
      refine jj_aload_n dX5_goRound_29 rfl ?_
      refine jj_aload_n dX5_goRound_30 rfl ?_
      refine jj_getf dX5_goRound_31 fl5_15 rfl rfl ?_
      refine jj_iload_n dX5_goRound_34 rfl ?_
      refine jj_iconst (v := 1) dX5_goRound_35 (by decide) ?_
      refine jj_isub dX5_goRound_36 (pk_sub (a := d) (b := 1) h1) ?_
      refine jv_iald dX5_goRound_37 rfl (by omega) (by decide) ?_
      refine jj_callV (M2 := m5_openTo) dX5_goRound_38 ml5_44 tm5_openTo (ev5_openTo_n (s := j5_sT s T) ho hr) rfl rfl rfl rfl rfl (by omega) (Nat.le_of_ble_eq_true rfl) ?_
      refine jj_iload_n dX5_goRound_41 rfl ?_
      refine jj_iconst (v := (-1)) dX5_goRound_42 (by decide) ?_
      refine jj_ixor dX5_goRound_43 rfl ?_
      refine jj_iand dX5_goRound_44 ((j5_nv (ho _ hr).2).trans (by rw [hnxe])) ?_
      refine jj_istore dX5_goRound_45 (by decide) rfl ?_
      refine jj_iconst (v := 1) dX5_goRound_47 (by decide) ?_
      refine jj_istore dX5_goRound_48 (by decide) rfl ?_
      exact L 0 (by decide)
/-- the search over the seconds 1 .. m -/
def j5_fs (o : Nat → Nat) : Nat → j5_T → j5_T
  | 0, T => T
  | m + 1, T => if (o 0).testBit (m + 1) = true then j5_gr o (j5_la (o 0) (m + 1)) 10 2 (1 ||| 2 ^ (m + 1)) (jU (j5_fs o m T).1 1 (m + 1), (j5_fs o m T).2) else j5_fs o m T
theorem j5_fs_keep (o : Nat → Nat) (T : j5_T) : ∀ m, (j5_fs o m T).1 0 = T.1 0 := by
  intro m
  induction m with
  | zero => rfl
  | succ m ih =>
    unfold j5_fs
    split
    · rw [j5_gr_keep o _ 10 2 _ _ 0 (by decide)]
      show jU (j5_fs o m T).1 1 (m + 1) 0 = T.1 0
      rw [jU_ne _ _ (by decide)]
      exact ih
    · exact ih
/-- what findRounds does -/
def j5_fr (s : jj_S) (T : j5_T) : jj_S := if wa_rf s = 0 then wa_rfS (j5_sT s T) 1 else s
set_option maxRecDepth 100000 in
set_option maxHeartbeats 4000000 in
theorem ev5_findRounds {G : jj_G} {s : jj_S} {o : Nat → Nat} {r0 : Nat → Nat} {T : j5_T} (ho : j5_ok s o) (hr : wa_rw s = fun j => nI (r0 j)) (hT : j5_fs o 11 (jU r0 0 0, wa_fr s, 0) = T) : jj_Ev G m5_findRounds 15 [.ref 9] (jj_m s) 0 0 (none) (jj_m (j5_fr s T)) := by
  refine jj_Ev_of (lo := [some (.ref 9), none, none]) (by decide +kernel) (Nat.le_of_ble_eq_true rfl) rfl (by trivial) ?_
  unfold j5_fr
  by_cases hw : wa_rf s = 0
  · rw [if_pos hw]
    have L : ∀ k, k ≤ 11 → jj_Go G m5_findRounds 15 22 [some (.ref 9), some (.int (nI (k + 1))), none] [] (jj_m (j5_sT s (j5_fs o k (jU r0 0 0, wa_fr s, 0)))) 0 0 (none) (jj_m (wa_rfS (j5_sT s T) 1)) := by
      refine jj_up 11 (fun k hk ih => ?_) ?_
      · have h0 := j5_fs_keep o (jU r0 0 0, wa_fr s, 0) k
        have hrow0 : (j5_fs o k (jU r0 0 0, wa_fr s, 0)).1 0 < 12 := by rw [h0]; show jU r0 0 0 0 < 12; rw [jU_at]; decide
        rw [j5_fs] at ih
        generalize hTk : j5_fs o k (jU r0 0 0, wa_fr s, 0) = Tk at ih hrow0 ⊢
        have hT2 : ∀ j, j < 2 → jU Tk.1 1 (k + 1) j < 12 := by
          intro j hj
          by_cases e : j = 1
          · subst e; rw [jU_at]; omega
          · rw [jU_ne _ _ e, show j = 0 by omega]; exact hrow0
        have hu2 : 1 ||| 2 ^ (k + 1) < 4096 := Nat.or_lt_two_pow (n := 12) (by decide) (Nat.pow_lt_pow_right (by decide) (by omega))
        have hl : j5_la (o 0) (k + 1) < 4096 := Nat.lt_of_le_of_lt Nat.and_le_left (ho 0 (by decide)).2
        have E := ev5_goRound (G := G) (s := s) (o := o) ho hl 10 2 (1 ||| 2 ^ (k + 1)) (jU Tk.1 1 (k + 1), Tk.2) (by decide) (by decide) hT2 hu2
        by_cases hb : (o 0).testBit (k + 1) = true
        · rw [if_pos hb] at ih
          refine jj_iload_n dX5_findRounds_22 rfl ?_
          refine jj_bipush (v := 12) dX5_findRounds_23 (by decide) ?_
          refine jj_icmp_ge (tgt := 75) dX5_findRounds_25 (by decide) (fun q => absurd q (jb_ge (k := k + 1) (n := 12) (by omega) (by decide))) (fun _ => ?_)
          refine jj_aload_n dX5_findRounds_28 rfl ?_
          refine jj_iconst (v := nI 0) dX5_findRounds_29 (by decide) ?_
          refine jj_callV (M2 := m5_openTo) dX5_findRounds_30 ml5_44 tm5_openTo (ev5_openTo_n (s := j5_sT s Tk) (k := 0) ho (by decide)) rfl rfl rfl rfl rfl (by omega) (Nat.le_of_ble_eq_true rfl) ?_
          refine jj_iload_n dX5_findRounds_33 rfl ?_
          refine jj_callS (M2 := m0_holds) dX5_findRounds_34 ml5_54 tm0_holds (ev0_holds (a := o 0) (by have := (ho 0 (by decide)).2; omega) (by omega : k + 1 < 12)) rfl rfl (by omega) (Nat.le_of_ble_eq_true rfl) ?_
          refine jj_if_eq (tgt := 69) dX5_findRounds_37 (by decide) (fun q => absurd q (by rw [jb_bt hb]; decide)) (fun _ => ?_)
          refine jj_aload_n dX5_findRounds_40 rfl ?_
          refine jj_getf dX5_findRounds_41 fl5_15 rfl rfl ?_
          refine jj_iconst (v := nI 1) dX5_findRounds_44 (by decide) ?_
          refine jj_iload_n dX5_findRounds_45 rfl ?_
          refine jv_iast dX5_findRounds_46 rfl (by decide) (by decide) rfl ?_
          refine jj_eq rfl rfl rfl (by rw [← j5_rU]; rfl : _ = jj_m (j5_sT s (jU Tk.1 1 (k + 1), Tk.2))) ?_
          refine jj_aload_n dX5_findRounds_47 rfl ?_
          refine jj_iconst (v := nI 0) dX5_findRounds_48 (by decide) ?_
          refine jj_callV (M2 := m5_openTo) dX5_findRounds_49 ml5_44 tm5_openTo (ev5_openTo_n (s := j5_sT s (jU Tk.1 1 (k + 1), Tk.2)) (k := 0) ho (by decide)) rfl rfl rfl rfl rfl (by omega) (Nat.le_of_ble_eq_true rfl) ?_
          refine jj_iconst (v := 2) dX5_findRounds_52 (by decide) ?_
          refine jj_iload_n dX5_findRounds_53 rfl ?_
          refine jj_ishl dX5_findRounds_54 rfl ?_
          refine jj_ineg dX5_findRounds_55 rfl ?_
          refine jj_iand dX5_findRounds_56 (j5_lav (ho 0 (by decide)).2 (by omega : k + 1 < 12)) ?_
          refine jj_istore_n dX5_findRounds_57 rfl (by decide) rfl ?_
          refine jj_aload_n dX5_findRounds_58 rfl ?_
          refine jj_iconst (v := nI 2) dX5_findRounds_59 (by decide) ?_
          refine jj_iconst (v := nI 1) dX5_findRounds_60 (by decide) ?_
          refine jj_iconst (v := 1) dX5_findRounds_61 (by decide) ?_
          refine jj_iload_n dX5_findRounds_62 rfl ?_
          refine jj_ishl dX5_findRounds_63 (jb_2k (k + 1) (by omega)) ?_
          refine jj_ior dX5_findRounds_64 (fa_or 1 _) ?_
          refine jj_iload_n dX5_findRounds_65 rfl ?_
          refine jj_callS (M2 := m5_goRound) dX5_findRounds_66 ml5_98 tm5_goRound (E) rfl rfl (by omega) (Nat.le_of_ble_eq_true rfl) ?_
          refine jj_iinc dX5_findRounds_69 rfl (jb_i (k + 1)) (by decide) rfl ?_
          refine jj_goto (tgt := 22) dX5_findRounds_72 (by decide) ?_
          refine jj_less (lo' := [some (.ref 9), some (.int (nI (k + 2))), none]) (fun j v hj => ?_) (jj_eq rfl rfl rfl rfl (ih))
          match j, hj with
          | 0, hj => exact hj
          | 1, hj => exact hj
          | 2, hj => exact absurd hj (by simp)
          | j + 3, hj => exact absurd hj (by simp)
        · rw [if_neg hb] at ih
          refine jj_iload_n dX5_findRounds_22 rfl ?_
          refine jj_bipush (v := 12) dX5_findRounds_23 (by decide) ?_
          refine jj_icmp_ge (tgt := 75) dX5_findRounds_25 (by decide) (fun q => absurd q (jb_ge (k := k + 1) (n := 12) (by omega) (by decide))) (fun _ => ?_)
          refine jj_aload_n dX5_findRounds_28 rfl ?_
          refine jj_iconst (v := nI 0) dX5_findRounds_29 (by decide) ?_
          refine jj_callV (M2 := m5_openTo) dX5_findRounds_30 ml5_44 tm5_openTo (ev5_openTo_n (s := j5_sT s Tk) (k := 0) ho (by decide)) rfl rfl rfl rfl rfl (by omega) (Nat.le_of_ble_eq_true rfl) ?_
          refine jj_iload_n dX5_findRounds_33 rfl ?_
          refine jj_callS (M2 := m0_holds) dX5_findRounds_34 ml5_54 tm0_holds (ev0_holds (a := o 0) (by have := (ho 0 (by decide)).2; omega) (by omega : k + 1 < 12)) rfl rfl (by omega) (Nat.le_of_ble_eq_true rfl) ?_
          refine jj_if_eq (tgt := 69) dX5_findRounds_37 (by decide) (fun _ => ?_) (fun q => absurd (jb_bf hb) q)
          refine jj_iinc dX5_findRounds_69 rfl (jb_i (k + 1)) (by decide) rfl ?_
          refine jj_goto (tgt := 22) dX5_findRounds_72 (by decide) ?_
          refine jj_less (lo' := [some (.ref 9), some (.int (nI (k + 2))), none]) (fun j v hj => ?_) (jj_eq rfl rfl rfl rfl (ih))
          match j, hj with
          | 0, hj => exact hj
          | 1, hj => exact hj
          | 2, hj => exact absurd hj (by simp)
          | j + 3, hj => exact absurd hj (by simp)
      · rw [hT]
        refine jj_iload_n dX5_findRounds_22 rfl ?_
        refine jj_bipush (v := 12) dX5_findRounds_23 (by decide) ?_
        refine jj_icmp_ge (tgt := 75) dX5_findRounds_25 (by decide) (fun _ => ?_) (fun q => absurd (jb_ge' (n := 12) (by decide)) q)
        refine jj_aload_n dX5_findRounds_75 rfl ?_
        refine jj_iconst (v := 1) dX5_findRounds_76 (by decide) ?_
        refine jj_putf dX5_findRounds_77 (fw5_33 _) rfl (Nat.le_of_ble_eq_true rfl) rfl rfl rfl ?_
        exact jj_leaf dX5_findRounds_80 rfl rfl
    have e0 : jU (wa_rw s) 0 0 = fun j => nI (jU r0 0 0 j) := by
      funext j
      rw [hr]
      by_cases h : j = 0
      · subst h; rw [jU_at, jU_at]; rfl
      · rw [jU_ne _ _ h, jU_ne _ _ h]
    refine jj_aload_n dX5_findRounds_0 rfl ?_
    refine jj_getf dX5_findRounds_1 fl5_33 rfl rfl ?_
    refine jj_if_eq (tgt := 8) dX5_findRounds_4 (by decide) (fun _ => ?_) (fun q => absurd hw q)
    refine jj_aload_n dX5_findRounds_8 rfl ?_
    refine jj_iconst (v := 0) dX5_findRounds_9 (by decide) ?_
    refine jj_putf dX5_findRounds_10 (fw5_95 _) rfl (Nat.le_of_ble_eq_true rfl) rfl rfl rfl ?_
    refine jj_aload_n dX5_findRounds_13 rfl ?_
    refine jj_getf dX5_findRounds_14 fl5_15 rfl rfl ?_
    refine jj_iconst (v := nI 0) dX5_findRounds_17 (by decide) ?_
    refine jj_iconst (v := 0) dX5_findRounds_18 (by decide) ?_
    refine jv_iast dX5_findRounds_19 rfl (by decide) (by decide) rfl ?_
    refine jj_iconst (v := 1) dX5_findRounds_20 (by decide) ?_
    refine jj_istore_n dX5_findRounds_21 rfl (by decide) rfl ?_
    refine jj_less (lo' := [some (.ref 9), some (.int (nI 1)), none]) (fun j v hj => ?_) (jj_eq rfl rfl rfl (by show _ = jj_m (wa_rcS (wa_frS (wa_rwS s (fun j => nI (jU r0 0 0 j))) (wa_fr s)) 0); rw [← e0]; rfl) (L 0 (by decide)))
    match j, hj with
    | 0, hj => exact hj
    | 1, hj => exact hj
    | 2, hj => exact absurd hj (by simp)
    | j + 3, hj => exact absurd hj (by simp)
  · rw [if_neg hw]
    refine jj_aload_n dX5_findRounds_0 rfl ?_
    refine jj_getf dX5_findRounds_1 fl5_33 rfl rfl ?_
    refine jj_if_eq (tgt := 8) dX5_findRounds_4 (by decide) (fun q => absurd q hw) (fun _ => ?_)
    exact jj_leaf dX5_findRounds_7 rfl rfl
set_option maxRecDepth 100000 in
set_option maxHeartbeats 4000000 in
theorem ev5_roundCount {G : jj_G} {s : jj_S} {o : Nat → Nat} {r0 : Nat → Nat} {T : j5_T} (ho : j5_ok s o) (hr : wa_rw s = fun j => nI (r0 j)) (hT : j5_fs o 11 (jU r0 0 0, wa_fr s, 0) = T) : jj_Ev G m5_roundCount 16 [.ref 9] (jj_m s) 0 0 (some (.int (wa_rc (j5_fr s T)))) (jj_m (j5_fr s T)) := by
  refine jj_Ev_of (lo := [some (.ref 9)]) (by decide +kernel) (Nat.le_of_ble_eq_true rfl) rfl (by trivial) ?_
  refine jj_aload_n dX5_roundCount_0 rfl ?_
  refine jj_callV (M2 := m5_findRounds) dX5_roundCount_1 ml5_92 tm5_findRounds (ev5_findRounds ho hr hT) rfl rfl rfl rfl rfl (by omega) (Nat.le_of_ble_eq_true rfl) ?_
  refine jj_aload_n dX5_roundCount_4 rfl ?_
  refine jj_getf dX5_roundCount_5 fl5_95 rfl rfl ?_
  exact jj_leaf dX5_roundCount_8 rfl rfl
set_option maxRecDepth 100000 in
set_option maxHeartbeats 4000000 in
theorem ev5_inFirstRound {G : jj_G} {s : jj_S} {o : Nat → Nat} {r0 : Nat → Nat} {i : Nat} {T : j5_T} (ho : j5_ok s o) (hr : wa_rw s = fun j => nI (r0 j)) (hT : j5_fs o 11 (jU r0 0 0, wa_fr s, 0) = T) (hi : i < 12) : jj_Ev G m5_inFirstRound 16 [.ref 9, .int (nI i)] (jj_m s) 0 0 (some (.int (if wa_rc (j5_fr s T) ≤ 0 then -1 else wa_fr (j5_fr s T) i))) (jj_m (j5_fr s T)) := by
  refine jj_Ev_of (lo := [some (.ref 9), some (.int (nI i))]) (by decide +kernel) (Nat.le_of_ble_eq_true rfl) rfl (by trivial) ?_
  refine jj_aload_n dX5_inFirstRound_0 rfl ?_
  refine jj_callV (M2 := m5_findRounds) dX5_inFirstRound_1 ml5_92 tm5_findRounds (ev5_findRounds ho hr hT) rfl rfl rfl rfl rfl (by omega) (Nat.le_of_ble_eq_true rfl) ?_
  refine jj_aload_n dX5_inFirstRound_4 rfl ?_
  refine jj_getf dX5_inFirstRound_5 fl5_95 rfl rfl ?_
  refine jj_if_le (tgt := 33) dX5_inFirstRound_8 (by decide) (fun c8 => ?_) (fun c8 => ?_)
  · refine jj_iconst (v := (-1)) dX5_inFirstRound_33 (by decide) ?_
    exact jj_leaf dX5_inFirstRound_34 (by rw [if_pos c8]; rfl) rfl
  · refine jj_iload_n dX5_inFirstRound_11 rfl ?_
    refine jj_if_lt (tgt := 33) dX5_inFirstRound_12 (by decide) (fun q => absurd q (jb_lt0 (by omega))) (fun _ => ?_)
    refine jj_iload_n dX5_inFirstRound_15 rfl ?_
    refine jj_aload_n dX5_inFirstRound_16 rfl ?_
    refine jj_getf dX5_inFirstRound_17 fl5_18 rfl rfl ?_
    refine jv_alen_i (v := 12) dX5_inFirstRound_20 rfl rfl ?_
    refine jj_icmp_ge (tgt := 33) dX5_inFirstRound_21 (by decide) (fun q => absurd q (jb_ge hi (by decide))) (fun _ => ?_)
    refine jj_aload_n dX5_inFirstRound_24 rfl ?_
    refine jj_getf dX5_inFirstRound_25 fl5_18 rfl rfl ?_
    refine jj_iload_n dX5_inFirstRound_28 rfl ?_
    refine jv_iald dX5_inFirstRound_29 rfl (hi) (by decide) ?_
    refine jj_goto (tgt := 34) dX5_inFirstRound_30 (by decide) ?_
    exact jj_leaf dX5_inFirstRound_34 (by rw [if_neg c8]; rfl) rfl
end
