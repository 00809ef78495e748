-- ===== PART A: goes FIRST, ahead of the names: the tables' words, and 'selects' of the private methods out of them =====
/-- a private method of a class that the tables say can be made, by its rows of tables_1 -/
def lw_okq (q : MethodName × Nat) : Prop := (q.1.cls ≠ "java/lang/invoke/MethodHandle" ∧ q.1.cls ≠ "java/lang/invoke/VarHandle") ∧ Cond.instantiable q.1.cls q.2 ∈ tables_1 ∧ Cond.privateMethod q.1 ∈ tables_1 ∧ Cond.instanceMethod q.1 ∈ tables_1
theorem lw_p0 : lw_okq (⟨"OpenEyes$Pad", "faultOfLength", "(I)I"⟩, 2) := ⟨⟨by decide +kernel, by decide +kernel⟩, List.mem_of_getElem? (i := 23) (by decide +kernel), List.mem_of_getElem? (i := 276) (by decide +kernel), List.mem_of_getElem? (i := 277) (by decide +kernel)⟩
theorem lw_p1 : lw_okq (⟨"OpenEyes", "standingFault", "()I"⟩, 6) := ⟨⟨by decide +kernel, by decide +kernel⟩, List.mem_of_getElem? (i := 15) (by decide +kernel), List.mem_of_getElem? (i := 283) (by decide +kernel), List.mem_of_getElem? (i := 284) (by decide +kernel)⟩
theorem lw_p2 : lw_okq (⟨"OpenEyes$Shots", "openInSome", "(I)I"⟩, 4) := ⟨⟨by decide +kernel, by decide +kernel⟩, List.mem_of_getElem? (i := 44) (by decide +kernel), List.mem_of_getElem? (i := 362) (by decide +kernel), List.mem_of_getElem? (i := 363) (by decide +kernel)⟩
theorem lw_p3 : lw_okq (⟨"OpenEyes$HeadWork", "fillRow", "(LOpenEyes$Shots;IZI)I"⟩, 2) := ⟨⟨by decide +kernel, by decide +kernel⟩, List.mem_of_getElem? (i := 161) (by decide +kernel), List.mem_of_getElem? (i := 391) (by decide +kernel), List.mem_of_getElem? (i := 392) (by decide +kernel)⟩
theorem lw_p4 : lw_okq (⟨"OpenEyes$HeadWork", "cutsBehind", "(LOpenEyes$Shots;III)I"⟩, 2) := ⟨⟨by decide +kernel, by decide +kernel⟩, List.mem_of_getElem? (i := 161) (by decide +kernel), List.mem_of_getElem? (i := 396) (by decide +kernel), List.mem_of_getElem? (i := 397) (by decide +kernel)⟩
theorem lw_p5 : lw_okq (⟨"OpenEyes$HeadWork", "choose", "(LOpenEyes$Shots;I)V"⟩, 2) := ⟨⟨by decide +kernel, by decide +kernel⟩, List.mem_of_getElem? (i := 161) (by decide +kernel), List.mem_of_getElem? (i := 405) (by decide +kernel), List.mem_of_getElem? (i := 406) (by decide +kernel)⟩
theorem lw_p6 : lw_okq (⟨"OpenEyes$HeadWork", "firstLeast", "(I)I"⟩, 2) := ⟨⟨by decide +kernel, by decide +kernel⟩, List.mem_of_getElem? (i := 161) (by decide +kernel), List.mem_of_getElem? (i := 409) (by decide +kernel), List.mem_of_getElem? (i := 410) (by decide +kernel)⟩
theorem lw_p7 : lw_okq (⟨"OpenEyes$HeadWork", "firstBehind", "(LOpenEyes$Shots;II)I"⟩, 2) := ⟨⟨by decide +kernel, by decide +kernel⟩, List.mem_of_getElem? (i := 161) (by decide +kernel), List.mem_of_getElem? (i := 413) (by decide +kernel), List.mem_of_getElem? (i := 414) (by decide +kernel)⟩
theorem lw_p8 : lw_okq (⟨"OpenEyes$Shots", "fewestBad", "(I)I"⟩, 4) := ⟨⟨by decide +kernel, by decide +kernel⟩, List.mem_of_getElem? (i := 44) (by decide +kernel), List.mem_of_getElem? (i := 430) (by decide +kernel), List.mem_of_getElem? (i := 431) (by decide +kernel)⟩
theorem lw_p9 : lw_okq (⟨"OpenEyes$Blinks", "settingOf", "(II)I"⟩, 2) := ⟨⟨by decide +kernel, by decide +kernel⟩, List.mem_of_getElem? (i := 66) (by decide +kernel), List.mem_of_getElem? (i := 443) (by decide +kernel), List.mem_of_getElem? (i := 444) (by decide +kernel)⟩
theorem lw_p10 : lw_okq (⟨"OpenEyes$Blinks", "isFlashed", "(I)Z"⟩, 2) := ⟨⟨by decide +kernel, by decide +kernel⟩, List.mem_of_getElem? (i := 66) (by decide +kernel), List.mem_of_getElem? (i := 467) (by decide +kernel), List.mem_of_getElem? (i := 468) (by decide +kernel)⟩
theorem lw_p11 : lw_okq (⟨"OpenEyes$Blinks", "isShut", "(II)Z"⟩, 2) := ⟨⟨by decide +kernel, by decide +kernel⟩, List.mem_of_getElem? (i := 66) (by decide +kernel), List.mem_of_getElem? (i := 471) (by decide +kernel), List.mem_of_getElem? (i := 472) (by decide +kernel)⟩
theorem lw_p12 : lw_okq (⟨"OpenEyes$Odds", "quartersIn", "(II)I"⟩, 2) := ⟨⟨by decide +kernel, by decide +kernel⟩, List.mem_of_getElem? (i := 84) (by decide +kernel), List.mem_of_getElem? (i := 511) (by decide +kernel), List.mem_of_getElem? (i := 512) (by decide +kernel)⟩
theorem lw_p13 : lw_okq (⟨"OpenEyes$Stair", "wrongBetween", "(IIII)I"⟩, 6) := ⟨⟨by decide +kernel, by decide +kernel⟩, List.mem_of_getElem? (i := 102) (by decide +kernel), List.mem_of_getElem? (i := 595) (by decide +kernel), List.mem_of_getElem? (i := 596) (by decide +kernel)⟩
theorem lw_p14 : lw_okq (⟨"OpenEyes$Stair", "isHidden", "(IIII)Z"⟩, 6) := ⟨⟨by decide +kernel, by decide +kernel⟩, List.mem_of_getElem? (i := 102) (by decide +kernel), List.mem_of_getElem? (i := 599) (by decide +kernel), List.mem_of_getElem? (i := 600) (by decide +kernel)⟩
theorem lw_p15 : lw_okq (⟨"OpenEyes$Stair", "columnOf", "(I)I"⟩, 6) := ⟨⟨by decide +kernel, by decide +kernel⟩, List.mem_of_getElem? (i := 102) (by decide +kernel), List.mem_of_getElem? (i := 603) (by decide +kernel), List.mem_of_getElem? (i := 604) (by decide +kernel)⟩
def lw_privs_1 : List (MethodName × Nat) := [(⟨"OpenEyes$Pad", "faultOfLength", "(I)I"⟩, 2), (⟨"OpenEyes", "standingFault", "()I"⟩, 6), (⟨"OpenEyes$Shots", "openInSome", "(I)I"⟩, 4), (⟨"OpenEyes$HeadWork", "fillRow", "(LOpenEyes$Shots;IZI)I"⟩, 2), (⟨"OpenEyes$HeadWork", "cutsBehind", "(LOpenEyes$Shots;III)I"⟩, 2), (⟨"OpenEyes$HeadWork", "choose", "(LOpenEyes$Shots;I)V"⟩, 2), (⟨"OpenEyes$HeadWork", "firstLeast", "(I)I"⟩, 2), (⟨"OpenEyes$HeadWork", "firstBehind", "(LOpenEyes$Shots;II)I"⟩, 2), (⟨"OpenEyes$Shots", "fewestBad", "(I)I"⟩, 4), (⟨"OpenEyes$Blinks", "settingOf", "(II)I"⟩, 2), (⟨"OpenEyes$Blinks", "isFlashed", "(I)Z"⟩, 2), (⟨"OpenEyes$Blinks", "isShut", "(II)Z"⟩, 2), (⟨"OpenEyes$Odds", "quartersIn", "(II)I"⟩, 2), (⟨"OpenEyes$Stair", "wrongBetween", "(IIII)I"⟩, 6), (⟨"OpenEyes$Stair", "isHidden", "(IIII)Z"⟩, 6), (⟨"OpenEyes$Stair", "columnOf", "(I)I"⟩, 6)]
theorem lw_r1 : ∀ q ∈ lw_privs_1, lw_okq q := List.forall_mem_cons.mpr ⟨lw_p0, List.forall_mem_cons.mpr ⟨lw_p1, List.forall_mem_cons.mpr ⟨lw_p2, List.forall_mem_cons.mpr ⟨lw_p3, List.forall_mem_cons.mpr ⟨lw_p4, List.forall_mem_cons.mpr ⟨lw_p5, List.forall_mem_cons.mpr ⟨lw_p6, List.forall_mem_cons.mpr ⟨lw_p7, List.forall_mem_cons.mpr ⟨lw_p8, List.forall_mem_cons.mpr ⟨lw_p9, List.forall_mem_cons.mpr ⟨lw_p10, List.forall_mem_cons.mpr ⟨lw_p11, List.forall_mem_cons.mpr ⟨lw_p12, List.forall_mem_cons.mpr ⟨lw_p13, List.forall_mem_cons.mpr ⟨lw_p14, List.forall_mem_cons.mpr ⟨lw_p15, fun _ h => absurd h List.not_mem_nil⟩⟩⟩⟩⟩⟩⟩⟩⟩⟩⟩⟩⟩⟩⟩⟩
theorem lw_p16 : lw_okq (⟨"OpenEyes$Stair", "rowOf", "(I)I"⟩, 6) := ⟨⟨by decide +kernel, by decide +kernel⟩, List.mem_of_getElem? (i := 102) (by decide +kernel), List.mem_of_getElem? (i := 607) (by decide +kernel), List.mem_of_getElem? (i := 608) (by decide +kernel)⟩
theorem lw_p17 : lw_okq (⟨"OpenEyes$Stair", "areNeighbours", "(II)Z"⟩, 6) := ⟨⟨by decide +kernel, by decide +kernel⟩, List.mem_of_getElem? (i := 102) (by decide +kernel), List.mem_of_getElem? (i := 611) (by decide +kernel), List.mem_of_getElem? (i := 612) (by decide +kernel)⟩
theorem lw_p18 : lw_okq (⟨"OpenEyes$PlaceWork", "leftBehind", "(LOpenEyes$Stair;II)J"⟩, 4) := ⟨⟨by decide +kernel, by decide +kernel⟩, List.mem_of_getElem? (i := 174) (by decide +kernel), List.mem_of_getElem? (i := 628) (by decide +kernel), List.mem_of_getElem? (i := 629) (by decide +kernel)⟩
theorem lw_p19 : lw_okq (⟨"OpenEyes$PlaceWork", "allPlaces", "(LOpenEyes$Stair;)J"⟩, 4) := ⟨⟨by decide +kernel, by decide +kernel⟩, List.mem_of_getElem? (i := 174) (by decide +kernel), List.mem_of_getElem? (i := 639) (by decide +kernel), List.mem_of_getElem? (i := 640) (by decide +kernel)⟩
theorem lw_p20 : lw_okq (⟨"OpenEyes$PlaceWork", "noteFirst", "(II)V"⟩, 4) := ⟨⟨by decide +kernel, by decide +kernel⟩, List.mem_of_getElem? (i := 174) (by decide +kernel), List.mem_of_getElem? (i := 647) (by decide +kernel), List.mem_of_getElem? (i := 648) (by decide +kernel)⟩
theorem lw_p21 : lw_okq (⟨"OpenEyesModel", "begin", "(I)V"⟩, 25) := ⟨⟨by decide +kernel, by decide +kernel⟩, List.mem_of_getElem? (i := 702) (by decide +kernel), List.mem_of_getElem? (i := 708) (by decide +kernel), List.mem_of_getElem? (i := 709) (by decide +kernel)⟩
theorem lw_p22 : lw_okq (⟨"OpenEyesModel", "isPerson", "(I)Z"⟩, 25) := ⟨⟨by decide +kernel, by decide +kernel⟩, List.mem_of_getElem? (i := 702) (by decide +kernel), List.mem_of_getElem? (i := 801) (by decide +kernel), List.mem_of_getElem? (i := 802) (by decide +kernel)⟩
theorem lw_p23 : lw_okq (⟨"OpenEyesModel", "faultOfShot", "()I"⟩, 25) := ⟨⟨by decide +kernel, by decide +kernel⟩, List.mem_of_getElem? (i := 702) (by decide +kernel), List.mem_of_getElem? (i := 819) (by decide +kernel), List.mem_of_getElem? (i := 820) (by decide +kernel)⟩
theorem lw_p24 : lw_okq (⟨"OpenEyesModel", "faultOfStanding", "()I"⟩, 25) := ⟨⟨by decide +kernel, by decide +kernel⟩, List.mem_of_getElem? (i := 702) (by decide +kernel), List.mem_of_getElem? (i := 826) (by decide +kernel), List.mem_of_getElem? (i := 827) (by decide +kernel)⟩
theorem lw_p25 : lw_okq (⟨"OpenEyesModel", "places", "()I"⟩, 25) := ⟨⟨by decide +kernel, by decide +kernel⟩, List.mem_of_getElem? (i := 702) (by decide +kernel), List.mem_of_getElem? (i := 830) (by decide +kernel), List.mem_of_getElem? (i := 831) (by decide +kernel)⟩
theorem lw_p26 : lw_okq (⟨"OpenEyesModel", "badIn", "(I)I"⟩, 25) := ⟨⟨by decide +kernel, by decide +kernel⟩, List.mem_of_getElem? (i := 702) (by decide +kernel), List.mem_of_getElem? (i := 846) (by decide +kernel), List.mem_of_getElem? (i := 847) (by decide +kernel)⟩
theorem lw_p27 : lw_okq (⟨"OpenEyesModel", "isOpen", "(II)Z"⟩, 25) := ⟨⟨by decide +kernel, by decide +kernel⟩, List.mem_of_getElem? (i := 702) (by decide +kernel), List.mem_of_getElem? (i := 850) (by decide +kernel), List.mem_of_getElem? (i := 851) (by decide +kernel)⟩
theorem lw_p28 : lw_okq (⟨"OpenEyesModel", "hiddenIn", "(I)I"⟩, 25) := ⟨⟨by decide +kernel, by decide +kernel⟩, List.mem_of_getElem? (i := 702) (by decide +kernel), List.mem_of_getElem? (i := 854) (by decide +kernel), List.mem_of_getElem? (i := 855) (by decide +kernel)⟩
theorem lw_p29 : lw_okq (⟨"OpenEyesModel", "openIn", "(I)I"⟩, 25) := ⟨⟨by decide +kernel, by decide +kernel⟩, List.mem_of_getElem? (i := 702) (by decide +kernel), List.mem_of_getElem? (i := 862) (by decide +kernel), List.mem_of_getElem? (i := 863) (by decide +kernel)⟩
theorem lw_p30 : lw_okq (⟨"OpenEyesModel", "findCuts", "()V"⟩, 25) := ⟨⟨by decide +kernel, by decide +kernel⟩, List.mem_of_getElem? (i := 702) (by decide +kernel), List.mem_of_getElem? (i := 881) (by decide +kernel), List.mem_of_getElem? (i := 882) (by decide +kernel)⟩
theorem lw_p31 : lw_okq (⟨"OpenEyesModel", "cutsFrom", "(II)I"⟩, 25) := ⟨⟨by decide +kernel, by decide +kernel⟩, List.mem_of_getElem? (i := 702) (by decide +kernel), List.mem_of_getElem? (i := 885) (by decide +kernel), List.mem_of_getElem? (i := 886) (by decide +kernel)⟩
def lw_privs_2 : List (MethodName × Nat) := [(⟨"OpenEyes$Stair", "rowOf", "(I)I"⟩, 6), (⟨"OpenEyes$Stair", "areNeighbours", "(II)Z"⟩, 6), (⟨"OpenEyes$PlaceWork", "leftBehind", "(LOpenEyes$Stair;II)J"⟩, 4), (⟨"OpenEyes$PlaceWork", "allPlaces", "(LOpenEyes$Stair;)J"⟩, 4), (⟨"OpenEyes$PlaceWork", "noteFirst", "(II)V"⟩, 4), (⟨"OpenEyesModel", "begin", "(I)V"⟩, 25), (⟨"OpenEyesModel", "isPerson", "(I)Z"⟩, 25), (⟨"OpenEyesModel", "faultOfShot", "()I"⟩, 25), (⟨"OpenEyesModel", "faultOfStanding", "()I"⟩, 25), (⟨"OpenEyesModel", "places", "()I"⟩, 25), (⟨"OpenEyesModel", "badIn", "(I)I"⟩, 25), (⟨"OpenEyesModel", "isOpen", "(II)Z"⟩, 25), (⟨"OpenEyesModel", "hiddenIn", "(I)I"⟩, 25), (⟨"OpenEyesModel", "openIn", "(I)I"⟩, 25), (⟨"OpenEyesModel", "findCuts", "()V"⟩, 25), (⟨"OpenEyesModel", "cutsFrom", "(II)I"⟩, 25)]
theorem lw_r2 : ∀ q ∈ lw_privs_2, lw_okq q := List.forall_mem_cons.mpr ⟨lw_p16, List.forall_mem_cons.mpr ⟨lw_p17, List.forall_mem_cons.mpr ⟨lw_p18, List.forall_mem_cons.mpr ⟨lw_p19, List.forall_mem_cons.mpr ⟨lw_p20, List.forall_mem_cons.mpr ⟨lw_p21, List.forall_mem_cons.mpr ⟨lw_p22, List.forall_mem_cons.mpr ⟨lw_p23, List.forall_mem_cons.mpr ⟨lw_p24, List.forall_mem_cons.mpr ⟨lw_p25, List.forall_mem_cons.mpr ⟨lw_p26, List.forall_mem_cons.mpr ⟨lw_p27, List.forall_mem_cons.mpr ⟨lw_p28, List.forall_mem_cons.mpr ⟨lw_p29, List.forall_mem_cons.mpr ⟨lw_p30, List.forall_mem_cons.mpr ⟨lw_p31, fun _ h => absurd h List.not_mem_nil⟩⟩⟩⟩⟩⟩⟩⟩⟩⟩⟩⟩⟩⟩⟩⟩
theorem lw_p32 : lw_okq (⟨"OpenEyesModel", "fewestCuts", "()I"⟩, 25) := ⟨⟨by decide +kernel, by decide +kernel⟩, List.mem_of_getElem? (i := 702) (by decide +kernel), List.mem_of_getElem? (i := 889) (by decide +kernel), List.mem_of_getElem? (i := 890) (by decide +kernel)⟩
theorem lw_p33 : lw_okq (⟨"OpenEyesModel", "goesOn", "(IIII)Z"⟩, 25) := ⟨⟨by decide +kernel, by decide +kernel⟩, List.mem_of_getElem? (i := 702) (by decide +kernel), List.mem_of_getElem? (i := 893) (by decide +kernel), List.mem_of_getElem? (i := 894) (by decide +kernel)⟩
theorem lw_p34 : lw_okq (⟨"OpenEyesModel", "fewestBad", "(II)I"⟩, 25) := ⟨⟨by decide +kernel, by decide +kernel⟩, List.mem_of_getElem? (i := 702) (by decide +kernel), List.mem_of_getElem? (i := 901) (by decide +kernel), List.mem_of_getElem? (i := 902) (by decide +kernel)⟩
theorem lw_p35 : lw_okq (⟨"OpenEyesModel", "openAt", "(I)I"⟩, 25) := ⟨⟨by decide +kernel, by decide +kernel⟩, List.mem_of_getElem? (i := 702) (by decide +kernel), List.mem_of_getElem? (i := 921) (by decide +kernel), List.mem_of_getElem? (i := 922) (by decide +kernel)⟩
theorem lw_p36 : lw_okq (⟨"OpenEyesModel", "allOpen", "(I)J"⟩, 25) := ⟨⟨by decide +kernel, by decide +kernel⟩, List.mem_of_getElem? (i := 702) (by decide +kernel), List.mem_of_getElem? (i := 941) (by decide +kernel), List.mem_of_getElem? (i := 942) (by decide +kernel)⟩
theorem lw_p37 : lw_okq (⟨"OpenEyesModel", "quartersOf", "(II)I"⟩, 25) := ⟨⟨by decide +kernel, by decide +kernel⟩, List.mem_of_getElem? (i := 702) (by decide +kernel), List.mem_of_getElem? (i := 945) (by decide +kernel), List.mem_of_getElem? (i := 946) (by decide +kernel)⟩
theorem lw_p38 : lw_okq (⟨"OpenEyesModel", "noneOf", "(I)J"⟩, 25) := ⟨⟨by decide +kernel, by decide +kernel⟩, List.mem_of_getElem? (i := 702) (by decide +kernel), List.mem_of_getElem? (i := 957) (by decide +kernel), List.mem_of_getElem? (i := 958) (by decide +kernel)⟩
theorem lw_p39 : lw_okq (⟨"OpenEyesModel", "wrongWith", "(I)I"⟩, 25) := ⟨⟨by decide +kernel, by decide +kernel⟩, List.mem_of_getElem? (i := 702) (by decide +kernel), List.mem_of_getElem? (i := 993) (by decide +kernel), List.mem_of_getElem? (i := 994) (by decide +kernel)⟩
theorem lw_p40 : lw_okq (⟨"OpenEyesModel", "isHidden", "(II)Z"⟩, 25) := ⟨⟨by decide +kernel, by decide +kernel⟩, List.mem_of_getElem? (i := 702) (by decide +kernel), List.mem_of_getElem? (i := 997) (by decide +kernel), List.mem_of_getElem? (i := 998) (by decide +kernel)⟩
theorem lw_p41 : lw_okq (⟨"OpenEyesModel", "heightOf", "(I)I"⟩, 25) := ⟨⟨by decide +kernel, by decide +kernel⟩, List.mem_of_getElem? (i := 702) (by decide +kernel), List.mem_of_getElem? (i := 1001) (by decide +kernel), List.mem_of_getElem? (i := 1002) (by decide +kernel)⟩
theorem lw_p42 : lw_okq (⟨"OpenEyesModel", "areBeside", "(II)Z"⟩, 25) := ⟨⟨by decide +kernel, by decide +kernel⟩, List.mem_of_getElem? (i := 702) (by decide +kernel), List.mem_of_getElem? (i := 1005) (by decide +kernel), List.mem_of_getElem? (i := 1006) (by decide +kernel)⟩
theorem lw_p43 : lw_okq (⟨"OpenEyesModel", "findStandings", "()I"⟩, 25) := ⟨⟨by decide +kernel, by decide +kernel⟩, List.mem_of_getElem? (i := 702) (by decide +kernel), List.mem_of_getElem? (i := 1013) (by decide +kernel), List.mem_of_getElem? (i := 1014) (by decide +kernel)⟩
theorem lw_p44 : lw_okq (⟨"OpenEyesModel", "goesWith", "(I)Z"⟩, 25) := ⟨⟨by decide +kernel, by decide +kernel⟩, List.mem_of_getElem? (i := 702) (by decide +kernel), List.mem_of_getElem? (i := 1017) (by decide +kernel), List.mem_of_getElem? (i := 1018) (by decide +kernel)⟩
theorem lw_p45 : lw_okq (⟨"OpenEyesModel", "passAll", "()V"⟩, 25) := ⟨⟨by decide +kernel, by decide +kernel⟩, List.mem_of_getElem? (i := 702) (by decide +kernel), List.mem_of_getElem? (i := 1025) (by decide +kernel), List.mem_of_getElem? (i := 1026) (by decide +kernel)⟩
theorem lw_p46 : lw_okq (⟨"OpenEyesModel", "pass", "(I)I"⟩, 25) := ⟨⟨by decide +kernel, by decide +kernel⟩, List.mem_of_getElem? (i := 702) (by decide +kernel), List.mem_of_getElem? (i := 1029) (by decide +kernel), List.mem_of_getElem? (i := 1030) (by decide +kernel)⟩
def lw_privs_3 : List (MethodName × Nat) := [(⟨"OpenEyesModel", "fewestCuts", "()I"⟩, 25), (⟨"OpenEyesModel", "goesOn", "(IIII)Z"⟩, 25), (⟨"OpenEyesModel", "fewestBad", "(II)I"⟩, 25), (⟨"OpenEyesModel", "openAt", "(I)I"⟩, 25), (⟨"OpenEyesModel", "allOpen", "(I)J"⟩, 25), (⟨"OpenEyesModel", "quartersOf", "(II)I"⟩, 25), (⟨"OpenEyesModel", "noneOf", "(I)J"⟩, 25), (⟨"OpenEyesModel", "wrongWith", "(I)I"⟩, 25), (⟨"OpenEyesModel", "isHidden", "(II)Z"⟩, 25), (⟨"OpenEyesModel", "heightOf", "(I)I"⟩, 25), (⟨"OpenEyesModel", "areBeside", "(II)Z"⟩, 25), (⟨"OpenEyesModel", "findStandings", "()I"⟩, 25), (⟨"OpenEyesModel", "goesWith", "(I)Z"⟩, 25), (⟨"OpenEyesModel", "passAll", "()V"⟩, 25), (⟨"OpenEyesModel", "pass", "(I)I"⟩, 25)]
theorem lw_r3 : ∀ q ∈ lw_privs_3, lw_okq q := List.forall_mem_cons.mpr ⟨lw_p32, List.forall_mem_cons.mpr ⟨lw_p33, List.forall_mem_cons.mpr ⟨lw_p34, List.forall_mem_cons.mpr ⟨lw_p35, List.forall_mem_cons.mpr ⟨lw_p36, List.forall_mem_cons.mpr ⟨lw_p37, List.forall_mem_cons.mpr ⟨lw_p38, List.forall_mem_cons.mpr ⟨lw_p39, List.forall_mem_cons.mpr ⟨lw_p40, List.forall_mem_cons.mpr ⟨lw_p41, List.forall_mem_cons.mpr ⟨lw_p42, List.forall_mem_cons.mpr ⟨lw_p43, List.forall_mem_cons.mpr ⟨lw_p44, List.forall_mem_cons.mpr ⟨lw_p45, List.forall_mem_cons.mpr ⟨lw_p46, fun _ h => absurd h List.not_mem_nil⟩⟩⟩⟩⟩⟩⟩⟩⟩⟩⟩⟩⟩⟩⟩
def lw_privs : List (MethodName × Nat) := lw_privs_1 ++ (lw_privs_2 ++ (lw_privs_3))
def lw_tbl : List Cond := k2_sels lw_privs ++ tables_1
theorem lw_privs_ok : ∀ q ∈ lw_privs, lw_okq q := by
  show ∀ q ∈ lw_privs_1 ++ (lw_privs_2 ++ (lw_privs_3)), lw_okq q
  exact List.forall_mem_append.mpr ⟨lw_r1, List.forall_mem_append.mpr ⟨lw_r2, lw_r3⟩⟩
def RX0 : String := "OpenEyes$Blinks"
def TX0 : u_T := fun k => match k with
  | 0 => ("OpenEyes$Blinks", "flash", "I", false)
  | _ => ("OpenEyes$Blinks", "settings", "[I", true)
def tyX0 : Nat → FieldType := fun k => match k with
  | 0 => .int
  | _ => .array .int
abbrev wsX00 : List Cond := u_ws RX0 TX0 2
theorem nmX0 : ∀ a, a < 2 → ∀ b, b < 2 → a ≠ b → (TX0 a).2.1 ≠ (TX0 b).2.1 := by decide +kernel
theorem tyX0_ok : ∀ k, k < 2 → parseFieldDescriptor (TX0 k).2.2.1 = some (tyX0 k) := by decide +kernel
abbrev cX0_init : ByteArray := prog_2_method_1_code
def yX0_init : MethodName := ⟨RX0, "<init>", "()V"⟩
abbrev cX0_startPeople : ByteArray := prog_2_method_2_code
def yX0_startPeople : MethodName := ⟨RX0, "startPeople", "()V"⟩
abbrev cX0_copyFrom : ByteArray := prog_2_method_3_code
def yX0_copyFrom : MethodName := ⟨RX0, "copyFrom", "(LOpenEyes$Blinks;)V"⟩
abbrev cX0_fits : ByteArray := prog_2_method_4_code
def yX0_fits : MethodName := ⟨RX0, "fits", "(III)Z"⟩
abbrev cX0_change : ByteArray := prog_2_method_5_code
def yX0_change : MethodName := ⟨RX0, "change", "(III)I"⟩
abbrev cX0_settingOf : ByteArray := prog_2_method_6_code
def yX0_settingOf : MethodName := ⟨RX0, "settingOf", "(II)I"⟩
abbrev cX0_openAt : ByteArray := prog_2_method_7_code
def yX0_openAt : MethodName := ⟨RX0, "openAt", "(II)I"⟩
abbrev cX0_isFlashed : ByteArray := prog_2_method_8_code
def yX0_isFlashed : MethodName := ⟨RX0, "isFlashed", "(I)Z"⟩
abbrev cX0_isShut : ByteArray := prog_2_method_9_code
def yX0_isShut : MethodName := ⟨RX0, "isShut", "(II)Z"⟩
abbrev cX0_bestTenth : ByteArray := prog_2_method_10_code
def yX0_bestTenth : MethodName := ⟨RX0, "bestTenth", "(III)I"⟩
abbrev cX0_tenthsOfAll : ByteArray := prog_2_method_11_code
def yX0_tenthsOfAll : MethodName := ⟨RX0, "tenthsOfAll", "(III)I"⟩
def RX1 : String := "OpenEyes$HeadWork"
def TX1 : u_T := fun k => match k with
  | 0 => ("OpenEyes$HeadWork", "cutsFrom", "[I", true)
  | _ => ("OpenEyes$HeadWork", "chosen", "[I", true)
def tyX1 : Nat → FieldType := fun k => match k with
  | 0 => .array .int
  | _ => .array .int
abbrev wsX10 : List Cond := u_ws RX1 TX1 2
theorem nmX1 : ∀ a, a < 2 → ∀ b, b < 2 → a ≠ b → (TX1 a).2.1 ≠ (TX1 b).2.1 := by decide +kernel
theorem tyX1_ok : ∀ k, k < 2 → parseFieldDescriptor (TX1 k).2.2.1 = some (tyX1 k) := by decide +kernel
abbrev cX1_init : ByteArray := prog_3_method_1_code
def yX1_init : MethodName := ⟨RX1, "<init>", "()V"⟩
abbrev cX1_shotOf : ByteArray := prog_3_method_2_code
def yX1_shotOf : MethodName := ⟨RX1, "shotOf", "(I)I"⟩
abbrev cX1_solve : ByteArray := prog_3_method_3_code
def yX1_solve : MethodName := ⟨RX1, "solve", "(LOpenEyes$Shots;I)I"⟩
abbrev cX1_fillRow : ByteArray := prog_3_method_4_code
def yX1_fillRow : MethodName := ⟨RX1, "fillRow", "(LOpenEyes$Shots;IZI)I"⟩
abbrev cX1_cutsBehind : ByteArray := prog_3_method_5_code
def yX1_cutsBehind : MethodName := ⟨RX1, "cutsBehind", "(LOpenEyes$Shots;III)I"⟩
abbrev cX1_choose : ByteArray := prog_3_method_6_code
def yX1_choose : MethodName := ⟨RX1, "choose", "(LOpenEyes$Shots;I)V"⟩
abbrev cX1_firstLeast : ByteArray := prog_3_method_7_code
def yX1_firstLeast : MethodName := ⟨RX1, "firstLeast", "(I)I"⟩
abbrev cX1_firstBehind : ByteArray := prog_3_method_8_code
def yX1_firstBehind : MethodName := ⟨RX1, "firstBehind", "(LOpenEyes$Shots;II)I"⟩
def RX2 : String := "OpenEyes$Odds"
def TX2 : u_T := fun k => match k with
  | 0 => ("OpenEyes$Odds", "tired", "I", false)
  | _ => ("OpenEyes$Odds", "quarters", "[I", true)
def tyX2 : Nat → FieldType := fun k => match k with
  | 0 => .int
  | _ => .array .int
abbrev wsX20 : List Cond := u_ws RX2 TX2 2
theorem nmX2 : ∀ a, a < 2 → ∀ b, b < 2 → a ≠ b → (TX2 a).2.1 ≠ (TX2 b).2.1 := by decide +kernel
theorem tyX2_ok : ∀ k, k < 2 → parseFieldDescriptor (TX2 k).2.2.1 = some (tyX2 k) := by decide +kernel
abbrev cX2_init : ByteArray := prog_4_method_1_code
def yX2_init : MethodName := ⟨RX2, "<init>", "()V"⟩
abbrev cX2_startPeople : ByteArray := prog_4_method_2_code
def yX2_startPeople : MethodName := ⟨RX2, "startPeople", "()V"⟩
abbrev cX2_copyFrom : ByteArray := prog_4_method_3_code
def yX2_copyFrom : MethodName := ⟨RX2, "copyFrom", "(LOpenEyes$Odds;)V"⟩
abbrev cX2_changeTired : ByteArray := prog_4_method_4_code
def yX2_changeTired : MethodName := ⟨RX2, "changeTired", "(I)I"⟩
abbrev cX2_changeQuarters : ByteArray := prog_4_method_5_code
def yX2_changeQuarters : MethodName := ⟨RX2, "changeQuarters", "(II)I"⟩
abbrev cX2_quartersOf : ByteArray := prog_4_method_6_code
def yX2_quartersOf : MethodName := ⟨RX2, "quartersOf", "(I)I"⟩
abbrev cX2_quartersIn : ByteArray := prog_4_method_7_code
def yX2_quartersIn : MethodName := ⟨RX2, "quartersIn", "(II)I"⟩
abbrev cX2_waysOf : ByteArray := prog_4_method_8_code
def yX2_waysOf : MethodName := ⟨RX2, "waysOf", "(II)J"⟩
abbrev cX2_waysAllOpen : ByteArray := prog_4_method_9_code
def yX2_waysAllOpen : MethodName := ⟨RX2, "waysAllOpen", "(II)J"⟩
abbrev cX2_waysOneOf : ByteArray := prog_4_method_10_code
def yX2_waysOneOf : MethodName := ⟨RX2, "waysOneOf", "(II)J"⟩
abbrev cX2_drawShots : ByteArray := prog_4_method_11_code
def yX2_drawShots : MethodName := ⟨RX2, "drawShots", "(III)I"⟩
def RX3 : String := "OpenEyes$Pad"
def TX3 : u_T := fun k => match k with
  | 0 => ("OpenEyes$Pad", "signs", "[I", true)
  | _ => ("OpenEyes$Pad", "count", "I", false)
def tyX3 : Nat → FieldType := fun k => match k with
  | 0 => .array .int
  | _ => .int
abbrev wsX30 : List Cond := u_ws RX3 TX3 2
theorem nmX3 : ∀ a, a < 2 → ∀ b, b < 2 → a ≠ b → (TX3 a).2.1 ≠ (TX3 b).2.1 := by decide +kernel
theorem tyX3_ok : ∀ k, k < 2 → parseFieldDescriptor (TX3 k).2.2.1 = some (tyX3 k) := by decide +kernel
abbrev cX3_init : ByteArray := prog_5_method_1_code
def yX3_init : MethodName := ⟨RX3, "<init>", "()V"⟩
abbrev cX3_isFull : ByteArray := prog_5_method_2_code
def yX3_isFull : MethodName := ⟨RX3, "isFull", "()Z"⟩
abbrev cX3_add : ByteArray := prog_5_method_3_code
def yX3_add : MethodName := ⟨RX3, "add", "(I)I"⟩
abbrev cX3_clear : ByteArray := prog_5_method_4_code
def yX3_clear : MethodName := ⟨RX3, "clear", "()I"⟩
abbrev cX3_signAt : ByteArray := prog_5_method_5_code
def yX3_signAt : MethodName := ⟨RX3, "signAt", "(I)I"⟩
abbrev cX3_faultAsShot : ByteArray := prog_5_method_6_code
def yX3_faultAsShot : MethodName := ⟨RX3, "faultAsShot", "(I)I"⟩
abbrev cX3_faultAsStanding : ByteArray := prog_5_method_7_code
def yX3_faultAsStanding : MethodName := ⟨RX3, "faultAsStanding", "(II)I"⟩
abbrev cX3_readStanding : ByteArray := prog_5_method_8_code
def yX3_readStanding : MethodName := ⟨RX3, "readStanding", "([II)V"⟩
abbrev cX3_faultOfLength : ByteArray := prog_5_method_9_code
def yX3_faultOfLength : MethodName := ⟨RX3, "faultOfLength", "(I)I"⟩
abbrev cX3_isLook : ByteArray := prog_5_method_10_code
def yX3_isLook : MethodName := ⟨RX3, "isLook", "(I)Z"⟩
def RX4 : String := "OpenEyes$PlaceWork"
def TX4 : u_T := fun k => match k with
  | 0 => ("OpenEyes$PlaceWork", "leaves", "[J", true)
  | 1 => ("OpenEyes$PlaceWork", "first", "[I", true)
  | 2 => ("OpenEyes$PlaceWork", "people", "I", false)
  | _ => ("OpenEyes$PlaceWork", "count", "I", false)
def tyX4 : Nat → FieldType := fun k => match k with
  | 0 => .array .long
  | 1 => .array .int
  | 2 => .int
  | _ => .int
abbrev wsX40 : List Cond := u_ws RX4 TX4 4
theorem nmX4 : ∀ a, a < 4 → ∀ b, b < 4 → a ≠ b → (TX4 a).2.1 ≠ (TX4 b).2.1 := by decide +kernel
theorem tyX4_ok : ∀ k, k < 4 → parseFieldDescriptor (TX4 k).2.2.1 = some (tyX4 k) := by decide +kernel
abbrev cX4_init : ByteArray := prog_6_method_1_code
def yX4_init : MethodName := ⟨RX4, "<init>", "()V"⟩
abbrev cX4_firstOf : ByteArray := prog_6_method_2_code
def yX4_firstOf : MethodName := ⟨RX4, "firstOf", "(I)I"⟩
abbrev cX4_solve : ByteArray := prog_6_method_3_code
def yX4_solve : MethodName := ⟨RX4, "solve", "(LOpenEyes$Stair;I)V"⟩
abbrev cX4_leftBehind : ByteArray := prog_6_method_4_code
def yX4_leftBehind : MethodName := ⟨RX4, "leftBehind", "(LOpenEyes$Stair;II)J"⟩
abbrev cX4_allPlaces : ByteArray := prog_6_method_5_code
def yX4_allPlaces : MethodName := ⟨RX4, "allPlaces", "(LOpenEyes$Stair;)J"⟩
abbrev cX4_bitOf : ByteArray := prog_6_method_6_code
def yX4_bitOf : MethodName := ⟨RX4, "bitOf", "(II)J"⟩
abbrev cX4_countFrom : ByteArray := prog_6_method_7_code
def yX4_countFrom : MethodName := ⟨RX4, "countFrom", "(LOpenEyes$PlaceWork;IJ)I"⟩
abbrev cX4_noteFirst : ByteArray := prog_6_method_8_code
def yX4_noteFirst : MethodName := ⟨RX4, "noteFirst", "(II)V"⟩
def RX5 : String := "OpenEyes$Scene"
def TX5 : u_T := fun k => match k with
  | 0 => ("OpenEyes$Scene", "people", "I", false)
  | 1 => ("OpenEyes$Scene", "bride", "I", false)
  | 2 => ("OpenEyes$Scene", "shots", "LOpenEyes$Shots;", true)
  | 3 => ("OpenEyes$Scene", "blinks", "LOpenEyes$Blinks;", true)
  | 4 => ("OpenEyes$Scene", "odds", "LOpenEyes$Odds;", true)
  | _ => ("OpenEyes$Scene", "stair", "LOpenEyes$Stair;", true)
def tyX5 : Nat → FieldType := fun k => match k with
  | 0 => .int
  | 1 => .int
  | 2 => .object "OpenEyes$Shots"
  | 3 => .object "OpenEyes$Blinks"
  | 4 => .object "OpenEyes$Odds"
  | _ => .object "OpenEyes$Stair"
abbrev wsX50 : List Cond := u_ws RX5 TX5 6
theorem nmX5 : ∀ a, a < 6 → ∀ b, b < 6 → a ≠ b → (TX5 a).2.1 ≠ (TX5 b).2.1 := by decide +kernel
theorem tyX5_ok : ∀ k, k < 6 → parseFieldDescriptor (TX5 k).2.2.1 = some (tyX5 k) := by decide +kernel
abbrev cX5_init : ByteArray := prog_7_method_1_code
def yX5_init : MethodName := ⟨RX5, "<init>", "()V"⟩
abbrev cX5_has : ByteArray := prog_7_method_2_code
def yX5_has : MethodName := ⟨RX5, "has", "(I)Z"⟩
abbrev cX5_everybody : ByteArray := prog_7_method_3_code
def yX5_everybody : MethodName := ⟨RX5, "everybody", "()I"⟩
abbrev cX5_gather : ByteArray := prog_7_method_4_code
def yX5_gather : MethodName := ⟨RX5, "gather", "(I)I"⟩
abbrev cX5_copyFrom : ByteArray := prog_7_method_5_code
def yX5_copyFrom : MethodName := ⟨RX5, "copyFrom", "(LOpenEyes$Scene;)V"⟩
def RX6 : String := "OpenEyes$Shots"
def TX6 : u_T := fun k => match k with
  | 0 => ("OpenEyes$Shots", "count", "I", false)
  | 1 => ("OpenEyes$Shots", "hands", "I", false)
  | 2 => ("OpenEyes$Shots", "looks", "[I", true)
  | _ => ("OpenEyes$Shots", "openBits", "[I", true)
def tyX6 : Nat → FieldType := fun k => match k with
  | 0 => .int
  | 1 => .int
  | 2 => .array .int
  | _ => .array .int
abbrev wsX60 : List Cond := u_ws RX6 TX6 4
theorem nmX6 : ∀ a, a < 4 → ∀ b, b < 4 → a ≠ b → (TX6 a).2.1 ≠ (TX6 b).2.1 := by decide +kernel
theorem tyX6_ok : ∀ k, k < 4 → parseFieldDescriptor (TX6 k).2.2.1 = some (tyX6 k) := by decide +kernel
abbrev cX6_init : ByteArray := prog_8_method_1_code
def yX6_init : MethodName := ⟨RX6, "<init>", "()V"⟩
abbrev cX6_startPeople : ByteArray := prog_8_method_2_code
def yX6_startPeople : MethodName := ⟨RX6, "startPeople", "()V"⟩
abbrev cX6_copyFrom : ByteArray := prog_8_method_3_code
def yX6_copyFrom : MethodName := ⟨RX6, "copyFrom", "(LOpenEyes$Shots;)V"⟩
abbrev cX6_isFull : ByteArray := prog_8_method_4_code
def yX6_isFull : MethodName := ⟨RX6, "isFull", "()Z"⟩
abbrev cX6_has : ByteArray := prog_8_method_5_code
def yX6_has : MethodName := ⟨RX6, "has", "(I)Z"⟩
abbrev cX6_take : ByteArray := prog_8_method_6_code
def yX6_take : MethodName := ⟨RX6, "take", "(LOpenEyes$Pad;I)I"⟩
abbrev cX6_lookOf : ByteArray := prog_8_method_7_code
def yX6_lookOf : MethodName := ⟨RX6, "lookOf", "(II)I"⟩
abbrev cX6_isOpen : ByteArray := prog_8_method_8_code
def yX6_isOpen : MethodName := ⟨RX6, "isOpen", "(II)Z"⟩
abbrev cX6_holdHands : ByteArray := prog_8_method_9_code
def yX6_holdHands : MethodName := ⟨RX6, "holdHands", "(I)Z"⟩
abbrev cX6_badIn : ByteArray := prog_8_method_10_code
def yX6_badIn : MethodName := ⟨RX6, "badIn", "(II)I"⟩
abbrev cX6_hiddenIn : ByteArray := prog_8_method_11_code
def yX6_hiddenIn : MethodName := ⟨RX6, "hiddenIn", "(II)I"⟩
abbrev cX6_bestSingle : ByteArray := prog_8_method_12_code
def yX6_bestSingle : MethodName := ⟨RX6, "bestSingle", "(II)I"⟩
abbrev cX6_leastCover : ByteArray := prog_8_method_13_code
def yX6_leastCover : MethodName := ⟨RX6, "leastCover", "(I)I"⟩
abbrev cX6_openInSome : ByteArray := prog_8_method_14_code
def yX6_openInSome : MethodName := ⟨RX6, "openInSome", "(I)I"⟩
abbrev cX6_worstPerson : ByteArray := prog_8_method_15_code
def yX6_worstPerson : MethodName := ⟨RX6, "worstPerson", "(I)I"⟩
abbrev cX6_timesBad : ByteArray := prog_8_method_16_code
def yX6_timesBad : MethodName := ⟨RX6, "timesBad", "(I)I"⟩
abbrev cX6_fewestLeft : ByteArray := prog_8_method_17_code
def yX6_fewestLeft : MethodName := ⟨RX6, "fewestLeft", "(I)I"⟩
abbrev cX6_fewestBad : ByteArray := prog_8_method_18_code
def yX6_fewestBad : MethodName := ⟨RX6, "fewestBad", "(I)I"⟩
def RX7 : String := "OpenEyes$Stair"
def TX7 : u_T := fun k => match k with
  | 0 => ("OpenEyes$Stair", "rows", "I", false)
  | 1 => ("OpenEyes$Stair", "columns", "I", false)
  | 2 => ("OpenEyes$Stair", "rise", "I", false)
  | 3 => ("OpenEyes$Stair", "talls", "[I", true)
  | 4 => ("OpenEyes$Stair", "pairs", "[I", true)
  | _ => ("OpenEyes$Stair", "changed", "Z", false)
def tyX7 : Nat → FieldType := fun k => match k with
  | 0 => .int
  | 1 => .int
  | 2 => .int
  | 3 => .array .int
  | 4 => .array .int
  | _ => .boolean
abbrev wsX70 : List Cond := u_ws RX7 TX7 6
theorem nmX7 : ∀ a, a < 6 → ∀ b, b < 6 → a ≠ b → (TX7 a).2.1 ≠ (TX7 b).2.1 := by decide +kernel
theorem tyX7_ok : ∀ k, k < 6 → parseFieldDescriptor (TX7 k).2.2.1 = some (tyX7 k) := by decide +kernel
abbrev cX7_init : ByteArray := prog_9_method_1_code
def yX7_init : MethodName := ⟨RX7, "<init>", "()V"⟩
abbrev cX7_startPeople : ByteArray := prog_9_method_2_code
def yX7_startPeople : MethodName := ⟨RX7, "startPeople", "()V"⟩
abbrev cX7_copyFrom : ByteArray := prog_9_method_3_code
def yX7_copyFrom : MethodName := ⟨RX7, "copyFrom", "(LOpenEyes$Stair;)V"⟩
abbrev cX7_places : ByteArray := prog_9_method_4_code
def yX7_places : MethodName := ⟨RX7, "places", "()I"⟩
abbrev cX7_tallOf : ByteArray := prog_9_method_5_code
def yX7_tallOf : MethodName := ⟨RX7, "tallOf", "(I)I"⟩
abbrev cX7_build : ByteArray := prog_9_method_6_code
def yX7_build : MethodName := ⟨RX7, "build", "(II)I"⟩
abbrev cX7_changeRise : ByteArray := prog_9_method_7_code
def yX7_changeRise : MethodName := ⟨RX7, "changeRise", "(I)I"⟩
abbrev cX7_changeTall : ByteArray := prog_9_method_8_code
def yX7_changeTall : MethodName := ⟨RX7, "changeTall", "(II)I"⟩
abbrev cX7_changePair : ByteArray := prog_9_method_9_code
def yX7_changePair : MethodName := ⟨RX7, "changePair", "(III)I"⟩
abbrev cX7_firstWrong : ByteArray := prog_9_method_10_code
def yX7_firstWrong : MethodName := ⟨RX7, "firstWrong", "([II)I"⟩
abbrev cX7_wrongFor : ByteArray := prog_9_method_11_code
def yX7_wrongFor : MethodName := ⟨RX7, "wrongFor", "(I[II)I"⟩
abbrev cX7_wrongBetween : ByteArray := prog_9_method_12_code
def yX7_wrongBetween : MethodName := ⟨RX7, "wrongBetween", "(IIII)I"⟩
abbrev cX7_suits : ByteArray := prog_9_method_13_code
def yX7_suits : MethodName := ⟨RX7, "suits", "(IIII)Z"⟩
abbrev cX7_isHidden : ByteArray := prog_9_method_14_code
def yX7_isHidden : MethodName := ⟨RX7, "isHidden", "(IIII)Z"⟩
abbrev cX7_areNeighbours : ByteArray := prog_9_method_15_code
def yX7_areNeighbours : MethodName := ⟨RX7, "areNeighbours", "(II)Z"⟩
abbrev cX7_rowOf : ByteArray := prog_9_method_16_code
def yX7_rowOf : MethodName := ⟨RX7, "rowOf", "(I)I"⟩
abbrev cX7_columnOf : ByteArray := prog_9_method_17_code
def yX7_columnOf : MethodName := ⟨RX7, "columnOf", "(I)I"⟩
def RX8 : String := "OpenEyes"
def TX8 : u_T := fun k => match k with
  | 0 => ("OpenEyes", "pad", "LOpenEyes$Pad;", true)
  | 1 => ("OpenEyes", "now", "LOpenEyes$Scene;", true)
  | 2 => ("OpenEyes", "kept", "[LOpenEyes$Scene;", true)
  | 3 => ("OpenEyes", "headWork", "LOpenEyes$HeadWork;", true)
  | 4 => ("OpenEyes", "placeWork", "LOpenEyes$PlaceWork;", true)
  | _ => ("OpenEyes", "standing", "[I", true)
def tyX8 : Nat → FieldType := fun k => match k with
  | 0 => .object "OpenEyes$Pad"
  | 1 => .object "OpenEyes$Scene"
  | 2 => .array (.object "OpenEyes$Scene")
  | 3 => .object "OpenEyes$HeadWork"
  | 4 => .object "OpenEyes$PlaceWork"
  | _ => .array .int
abbrev wsX80 : List Cond := u_ws RX8 TX8 6
theorem nmX8 : ∀ a, a < 6 → ∀ b, b < 6 → a ≠ b → (TX8 a).2.1 ≠ (TX8 b).2.1 := by decide +kernel
theorem tyX8_ok : ∀ k, k < 6 → parseFieldDescriptor (TX8 k).2.2.1 = some (tyX8 k) := by decide +kernel
abbrev cX8_init : ByteArray := prog_1_method_1_code
def yX8_init : MethodName := ⟨RX8, "<init>", "()V"⟩
abbrev cX8_people : ByteArray := prog_1_method_2_code
def yX8_people : MethodName := ⟨RX8, "people", "(I)I"⟩
abbrev cX8_bride : ByteArray := prog_1_method_3_code
def yX8_bride : MethodName := ⟨RX8, "bride", "(I)I"⟩
abbrev cX8_say : ByteArray := prog_1_method_4_code
def yX8_say : MethodName := ⟨RX8, "say", "(I)I"⟩
abbrev cX8_wipe : ByteArray := prog_1_method_5_code
def yX8_wipe : MethodName := ⟨RX8, "wipe", "()I"⟩
abbrev cX8_fault : ByteArray := prog_1_method_6_code
def yX8_fault : MethodName := ⟨RX8, "fault", "(I)I"⟩
abbrev cX8_shot : ByteArray := prog_1_method_7_code
def yX8_shot : MethodName := ⟨RX8, "shot", "()I"⟩
abbrev cX8_look : ByteArray := prog_1_method_8_code
def yX8_look : MethodName := ⟨RX8, "look", "(II)I"⟩
abbrev cX8_single : ByteArray := prog_1_method_9_code
def yX8_single : MethodName := ⟨RX8, "single", "(I)I"⟩
abbrev cX8_cover : ByteArray := prog_1_method_10_code
def yX8_cover : MethodName := ⟨RX8, "cover", "()I"⟩
abbrev cX8_spoils : ByteArray := prog_1_method_11_code
def yX8_spoils : MethodName := ⟨RX8, "spoils", "(I)I"⟩
abbrev cX8_hands : ByteArray := prog_1_method_12_code
def yX8_hands : MethodName := ⟨RX8, "hands", "(I)I"⟩
abbrev cX8_heads : ByteArray := prog_1_method_13_code
def yX8_heads : MethodName := ⟨RX8, "heads", "(I)I"⟩
abbrev cX8_left : ByteArray := prog_1_method_14_code
def yX8_left : MethodName := ⟨RX8, "left", "()I"⟩
abbrev cX8_blink : ByteArray := prog_1_method_15_code
def yX8_blink : MethodName := ⟨RX8, "blink", "(III)I"⟩
abbrev cX8_flash : ByteArray := prog_1_method_16_code
def yX8_flash : MethodName := ⟨RX8, "flash", "(I)I"⟩
abbrev cX8_open : ByteArray := prog_1_method_17_code
def yX8_open : MethodName := ⟨RX8, "open", "(I)I"⟩
abbrev cX8_fire : ByteArray := prog_1_method_18_code
def yX8_fire : MethodName := ⟨RX8, "fire", "(III)I"⟩
abbrev cX8_bad : ByteArray := prog_1_method_19_code
def yX8_bad : MethodName := ⟨RX8, "bad", "(II)I"⟩
abbrev cX8_likely : ByteArray := prog_1_method_20_code
def yX8_likely : MethodName := ⟨RX8, "likely", "(II)J"⟩
abbrev cX8_one : ByteArray := prog_1_method_21_code
def yX8_one : MethodName := ⟨RX8, "one", "(II)J"⟩
abbrev cX8_many : ByteArray := prog_1_method_22_code
def yX8_many : MethodName := ⟨RX8, "many", "(II)I"⟩
abbrev cX8_shoot : ByteArray := prog_1_method_23_code
def yX8_shoot : MethodName := ⟨RX8, "shoot", "(III)I"⟩
abbrev cX8_stair : ByteArray := prog_1_method_24_code
def yX8_stair : MethodName := ⟨RX8, "stair", "(II)I"⟩
abbrev cX8_tall : ByteArray := prog_1_method_25_code
def yX8_tall : MethodName := ⟨RX8, "tall", "(II)I"⟩
abbrev cX8_pair : ByteArray := prog_1_method_26_code
def yX8_pair : MethodName := ⟨RX8, "pair", "(III)I"⟩
abbrev cX8_judge : ByteArray := prog_1_method_27_code
def yX8_judge : MethodName := ⟨RX8, "judge", "(I)I"⟩
abbrev cX8_placed : ByteArray := prog_1_method_28_code
def yX8_placed : MethodName := ⟨RX8, "placed", "(I)I"⟩
abbrev cX8_image : ByteArray := prog_1_method_29_code
def yX8_image : MethodName := ⟨RX8, "image", "(I)I"⟩
abbrev cX8_restore : ByteArray := prog_1_method_30_code
def yX8_restore : MethodName := ⟨RX8, "restore", "(I)I"⟩
abbrev cX8_told : ByteArray := prog_1_method_31_code
def yX8_told : MethodName := ⟨RX8, "told", "(I)I"⟩
abbrev cX8_standingFault : ByteArray := prog_1_method_32_code
def yX8_standingFault : MethodName := ⟨RX8, "standingFault", "()I"⟩
abbrev cX8_within : ByteArray := prog_1_method_33_code
def yX8_within : MethodName := ⟨RX8, "within", "(III)Z"⟩
abbrev cX8_lowest : ByteArray := prog_1_method_34_code
def yX8_lowest : MethodName := ⟨RX8, "lowest", "(JJI)J"⟩
def RX9 : String := "OpenEyesModel"
def TX9 : u_T := fun k => match k with
  | 0 => ("OpenEyesModel", "people", "I", false)
  | 1 => ("OpenEyesModel", "shots", "I", false)
  | 2 => ("OpenEyesModel", "looks", "[I", true)
  | 3 => ("OpenEyesModel", "bride", "I", false)
  | 4 => ("OpenEyesModel", "hands", "I", false)
  | 5 => ("OpenEyesModel", "period", "[I", true)
  | 6 => ("OpenEyesModel", "shut", "[I", true)
  | 7 => ("OpenEyesModel", "phase", "[I", true)
  | 8 => ("OpenEyesModel", "flash", "I", false)
  | 9 => ("OpenEyesModel", "quarters", "[I", true)
  | 10 => ("OpenEyesModel", "tired", "I", false)
  | 11 => ("OpenEyesModel", "rows", "I", false)
  | 12 => ("OpenEyesModel", "columns", "I", false)
  | 13 => ("OpenEyesModel", "rise", "I", false)
  | 14 => ("OpenEyesModel", "tall", "[I", true)
  | 15 => ("OpenEyesModel", "pairs", "[I", true)
  | 16 => ("OpenEyesModel", "pad", "[I", true)
  | 17 => ("OpenEyesModel", "padMany", "I", false)
  | 18 => ("OpenEyesModel", "cuts", "[I", true)
  | 19 => ("OpenEyesModel", "at", "[I", true)
  | 20 => ("OpenEyesModel", "first", "[I", true)
  | 21 => ("OpenEyesModel", "kept", "[I", true)
  | 22 => ("OpenEyesModel", "isKept", "[Z", true)
  | 23 => ("OpenEyesModel", "keptAt", "I", false)
  | _ => ("OpenEyesModel", "isWriting", "Z", false)
def tyX9 : Nat → FieldType := fun k => match k with
  | 0 => .int
  | 1 => .int
  | 2 => .array .int
  | 3 => .int
  | 4 => .int
  | 5 => .array .int
  | 6 => .array .int
  | 7 => .array .int
  | 8 => .int
  | 9 => .array .int
  | 10 => .int
  | 11 => .int
  | 12 => .int
  | 13 => .int
  | 14 => .array .int
  | 15 => .array .int
  | 16 => .array .int
  | 17 => .int
  | 18 => .array .int
  | 19 => .array .int
  | 20 => .array .int
  | 21 => .array .int
  | 22 => .array .boolean
  | 23 => .int
  | _ => .boolean
abbrev wsX90 : List Cond := u_ws RX9 TX9 25
theorem nmX9 : ∀ a, a < 25 → ∀ b, b < 25 → a ≠ b → (TX9 a).2.1 ≠ (TX9 b).2.1 := by decide +kernel
theorem tyX9_ok : ∀ k, k < 25 → parseFieldDescriptor (TX9 k).2.2.1 = some (tyX9 k) := by decide +kernel
abbrev cX9_init : ByteArray := prog_11_method_1_code
def yX9_init : MethodName := ⟨RX9, "<init>", "()V"⟩
abbrev cX9_in : ByteArray := prog_11_method_3_code
def yX9_in : MethodName := ⟨RX9, "in", "(JJJ)Z"⟩
abbrev cX9_ones : ByteArray := prog_11_method_4_code
def yX9_ones : MethodName := ⟨RX9, "ones", "(I)I"⟩
abbrev cX9_begin : ByteArray := prog_11_method_5_code
def yX9_begin : MethodName := ⟨RX9, "begin", "(I)V"⟩
abbrev cX9_isPerson : ByteArray := prog_11_method_6_code
def yX9_isPerson : MethodName := ⟨RX9, "isPerson", "(I)Z"⟩
abbrev cX9_people : ByteArray := prog_11_method_7_code
def yX9_people : MethodName := ⟨RX9, "people", "(I)I"⟩
abbrev cX9_bride : ByteArray := prog_11_method_8_code
def yX9_bride : MethodName := ⟨RX9, "bride", "(I)I"⟩
abbrev cX9_say : ByteArray := prog_11_method_9_code
def yX9_say : MethodName := ⟨RX9, "say", "(I)I"⟩
abbrev cX9_wipe : ByteArray := prog_11_method_10_code
def yX9_wipe : MethodName := ⟨RX9, "wipe", "()I"⟩
abbrev cX9_isLook : ByteArray := prog_11_method_11_code
def yX9_isLook : MethodName := ⟨RX9, "isLook", "(I)Z"⟩
abbrev cX9_places : ByteArray := prog_11_method_12_code
def yX9_places : MethodName := ⟨RX9, "places", "()I"⟩
abbrev cX9_faultOfShot : ByteArray := prog_11_method_13_code
def yX9_faultOfShot : MethodName := ⟨RX9, "faultOfShot", "()I"⟩
abbrev cX9_faultOfStanding : ByteArray := prog_11_method_14_code
def yX9_faultOfStanding : MethodName := ⟨RX9, "faultOfStanding", "()I"⟩
abbrev cX9_fault : ByteArray := prog_11_method_15_code
def yX9_fault : MethodName := ⟨RX9, "fault", "(I)I"⟩
abbrev cX9_shot : ByteArray := prog_11_method_16_code
def yX9_shot : MethodName := ⟨RX9, "shot", "()I"⟩
abbrev cX9_look : ByteArray := prog_11_method_17_code
def yX9_look : MethodName := ⟨RX9, "look", "(II)I"⟩
abbrev cX9_isOpen : ByteArray := prog_11_method_18_code
def yX9_isOpen : MethodName := ⟨RX9, "isOpen", "(II)Z"⟩
abbrev cX9_badIn : ByteArray := prog_11_method_19_code
def yX9_badIn : MethodName := ⟨RX9, "badIn", "(I)I"⟩
abbrev cX9_hiddenIn : ByteArray := prog_11_method_20_code
def yX9_hiddenIn : MethodName := ⟨RX9, "hiddenIn", "(I)I"⟩
abbrev cX9_single : ByteArray := prog_11_method_21_code
def yX9_single : MethodName := ⟨RX9, "single", "(I)I"⟩
abbrev cX9_openIn : ByteArray := prog_11_method_22_code
def yX9_openIn : MethodName := ⟨RX9, "openIn", "(I)I"⟩
abbrev cX9_cover : ByteArray := prog_11_method_23_code
def yX9_cover : MethodName := ⟨RX9, "cover", "()I"⟩
abbrev cX9_spoils : ByteArray := prog_11_method_24_code
def yX9_spoils : MethodName := ⟨RX9, "spoils", "(I)I"⟩
abbrev cX9_hands : ByteArray := prog_11_method_25_code
def yX9_hands : MethodName := ⟨RX9, "hands", "(I)I"⟩
abbrev cX9_cutsFrom : ByteArray := prog_11_method_26_code
def yX9_cutsFrom : MethodName := ⟨RX9, "cutsFrom", "(II)I"⟩
abbrev cX9_findCuts : ByteArray := prog_11_method_27_code
def yX9_findCuts : MethodName := ⟨RX9, "findCuts", "()V"⟩
abbrev cX9_fewestCuts : ByteArray := prog_11_method_28_code
def yX9_fewestCuts : MethodName := ⟨RX9, "fewestCuts", "()I"⟩
abbrev cX9_heads : ByteArray := prog_11_method_29_code
def yX9_heads : MethodName := ⟨RX9, "heads", "(I)I"⟩
abbrev cX9_goesOn : ByteArray := prog_11_method_30_code
def yX9_goesOn : MethodName := ⟨RX9, "goesOn", "(IIII)Z"⟩
abbrev cX9_left : ByteArray := prog_11_method_31_code
def yX9_left : MethodName := ⟨RX9, "left", "()I"⟩
abbrev cX9_fewestBad : ByteArray := prog_11_method_32_code
def yX9_fewestBad : MethodName := ⟨RX9, "fewestBad", "(II)I"⟩
abbrev cX9_blink : ByteArray := prog_11_method_33_code
def yX9_blink : MethodName := ⟨RX9, "blink", "(III)I"⟩
abbrev cX9_flash : ByteArray := prog_11_method_34_code
def yX9_flash : MethodName := ⟨RX9, "flash", "(I)I"⟩
abbrev cX9_openAt : ByteArray := prog_11_method_35_code
def yX9_openAt : MethodName := ⟨RX9, "openAt", "(I)I"⟩
abbrev cX9_open : ByteArray := prog_11_method_36_code
def yX9_open : MethodName := ⟨RX9, "open", "(I)I"⟩
abbrev cX9_fire : ByteArray := prog_11_method_37_code
def yX9_fire : MethodName := ⟨RX9, "fire", "(III)I"⟩
abbrev cX9_bad : ByteArray := prog_11_method_38_code
def yX9_bad : MethodName := ⟨RX9, "bad", "(II)I"⟩
abbrev cX9_quartersOf : ByteArray := prog_11_method_39_code
def yX9_quartersOf : MethodName := ⟨RX9, "quartersOf", "(II)I"⟩
abbrev cX9_allOpen : ByteArray := prog_11_method_40_code
def yX9_allOpen : MethodName := ⟨RX9, "allOpen", "(I)J"⟩
abbrev cX9_lowest : ByteArray := prog_11_method_41_code
def yX9_lowest : MethodName := ⟨RX9, "lowest", "(JJI)J"⟩
abbrev cX9_likely : ByteArray := prog_11_method_42_code
def yX9_likely : MethodName := ⟨RX9, "likely", "(II)J"⟩
abbrev cX9_noneOf : ByteArray := prog_11_method_43_code
def yX9_noneOf : MethodName := ⟨RX9, "noneOf", "(I)J"⟩
abbrev cX9_one : ByteArray := prog_11_method_44_code
def yX9_one : MethodName := ⟨RX9, "one", "(II)J"⟩
abbrev cX9_many : ByteArray := prog_11_method_45_code
def yX9_many : MethodName := ⟨RX9, "many", "(II)I"⟩
abbrev cX9_shoot : ByteArray := prog_11_method_46_code
def yX9_shoot : MethodName := ⟨RX9, "shoot", "(III)I"⟩
abbrev cX9_stair : ByteArray := prog_11_method_47_code
def yX9_stair : MethodName := ⟨RX9, "stair", "(II)I"⟩
abbrev cX9_tall : ByteArray := prog_11_method_48_code
def yX9_tall : MethodName := ⟨RX9, "tall", "(II)I"⟩
abbrev cX9_pair : ByteArray := prog_11_method_49_code
def yX9_pair : MethodName := ⟨RX9, "pair", "(III)I"⟩
abbrev cX9_heightOf : ByteArray := prog_11_method_50_code
def yX9_heightOf : MethodName := ⟨RX9, "heightOf", "(I)I"⟩
abbrev cX9_isHidden : ByteArray := prog_11_method_51_code
def yX9_isHidden : MethodName := ⟨RX9, "isHidden", "(II)Z"⟩
abbrev cX9_areBeside : ByteArray := prog_11_method_52_code
def yX9_areBeside : MethodName := ⟨RX9, "areBeside", "(II)Z"⟩
abbrev cX9_wrongWith : ByteArray := prog_11_method_53_code
def yX9_wrongWith : MethodName := ⟨RX9, "wrongWith", "(I)I"⟩
abbrev cX9_judge : ByteArray := prog_11_method_54_code
def yX9_judge : MethodName := ⟨RX9, "judge", "(I)I"⟩
abbrev cX9_goesWith : ByteArray := prog_11_method_55_code
def yX9_goesWith : MethodName := ⟨RX9, "goesWith", "(I)Z"⟩
abbrev cX9_findStandings : ByteArray := prog_11_method_56_code
def yX9_findStandings : MethodName := ⟨RX9, "findStandings", "()I"⟩
abbrev cX9_placed : ByteArray := prog_11_method_57_code
def yX9_placed : MethodName := ⟨RX9, "placed", "(I)I"⟩
abbrev cX9_pass : ByteArray := prog_11_method_58_code
def yX9_pass : MethodName := ⟨RX9, "pass", "(I)I"⟩
abbrev cX9_passAll : ByteArray := prog_11_method_59_code
def yX9_passAll : MethodName := ⟨RX9, "passAll", "()V"⟩
abbrev cX9_image : ByteArray := prog_11_method_60_code
def yX9_image : MethodName := ⟨RX9, "image", "(I)I"⟩
abbrev cX9_restore : ByteArray := prog_11_method_61_code
def yX9_restore : MethodName := ⟨RX9, "restore", "(I)I"⟩
abbrev cX9_told : ByteArray := prog_11_method_62_code
def yX9_told : MethodName := ⟨RX9, "told", "(I)I"⟩
def RJ6 : String := "java/lang/Integer"
def TJ6 : u_T := fun k => match k with
  | _ => ("", "", "", false)
def tyJ6 : Nat → FieldType := fun k => match k with
  | _ => .int
abbrev wsJ60 : List Cond := u_ws RJ6 TJ6 0
theorem nmJ6 : ∀ a, a < 0 → ∀ b, b < 0 → a ≠ b → (TJ6 a).2.1 ≠ (TJ6 b).2.1 := by decide +kernel
theorem tyJ6_ok : ∀ k, k < 0 → parseFieldDescriptor (TJ6 k).2.2.1 = some (tyJ6 k) := by decide +kernel
abbrev cJ6_numberOfTrailingZeros_0f7a4 : ByteArray := prog_12_method_48_code
def yJ6_numberOfTrailingZeros_0f7a4 : MethodName := ⟨RJ6, "numberOfTrailingZeros", "(I)I"⟩
abbrev cJ6_bitCount_0f7a4 : ByteArray := prog_12_method_49_code
def yJ6_bitCount_0f7a4 : MethodName := ⟨RJ6, "bitCount", "(I)I"⟩
def RJ9 : String := "java/lang/Math"
def TJ9 : u_T := fun k => match k with
  | _ => ("", "", "", false)
def tyJ9 : Nat → FieldType := fun k => match k with
  | _ => .int
abbrev wsJ90 : List Cond := u_ws RJ9 TJ9 0
theorem nmJ9 : ∀ a, a < 0 → ∀ b, b < 0 → a ≠ b → (TJ9 a).2.1 ≠ (TJ9 b).2.1 := by decide +kernel
theorem tyJ9_ok : ∀ k, k < 0 → parseFieldDescriptor (TJ9 k).2.2.1 = some (tyJ9 k) := by decide +kernel
abbrev cJ9_abs_0f7a4 : ByteArray := prog_13_method_59_code
def yJ9_abs_0f7a4 : MethodName := ⟨RJ9, "abs", "(I)I"⟩
abbrev cJ9_max_7cf53 : ByteArray := prog_13_method_65_code
def yJ9_max_7cf53 : MethodName := ⟨RJ9, "max", "(II)I"⟩
abbrev cJ9_min_7cf53 : ByteArray := prog_13_method_69_code
def yJ9_min_7cf53 : MethodName := ⟨RJ9, "min", "(II)I"⟩
def RJ10 : String := "java/lang/System"
def TJ10 : u_T := fun k => match k with
  | _ => ("", "", "", false)
def tyJ10 : Nat → FieldType := fun k => match k with
  | _ => .int
abbrev wsJ100 : List Cond := u_ws RJ10 TJ10 0
theorem nmJ10 : ∀ a, a < 0 → ∀ b, b < 0 → a ≠ b → (TJ10 a).2.1 ≠ (TJ10 b).2.1 := by decide +kernel
theorem tyJ10_ok : ∀ k, k < 0 → parseFieldDescriptor (TJ10 k).2.2.1 = some (tyJ10 k) := by decide +kernel
def RL : String := "OpenEyesLaw"
abbrev cL_law : ByteArray := code
def yL_law : MethodName := ⟨RL, "law", "([I)Z"⟩
abbrev vwCl : List vw_C := [(RX0, TX0, 2), (RX1, TX1, 2), (RX2, TX2, 2), (RX3, TX3, 2), (RX4, TX4, 4), (RX5, TX5, 6), (RX6, TX6, 4), (RX7, TX7, 6), (RX8, TX8, 6), (RX9, TX9, 25)]
