section
-- ===== PART A: goes FIRST, ahead of the names: the tables' words, and 'selects' of the private methods out of them =====
/-- a private method of a class that the tables say can be made, by its rows of tables_1 -/
def lw_okq (q : MethodName × Nat) : Prop := (q.1.cls ≠ "java/lang/invoke/MethodHandle" ∧ q.1.cls ≠ "java/lang/invoke/VarHandle") ∧ Cond.instantiable q.1.cls q.2 ∈ tables_1 ∧ Cond.privateMethod q.1 ∈ tables_1 ∧ Cond.instanceMethod q.1 ∈ tables_1
theorem lw_p0 : lw_okq (⟨"OpenEyes$Pad", "faultOfLength", "(I)I"⟩, 2) := ⟨⟨by decide +kernel, by decide +kernel⟩, List.mem_of_getElem? (i := 23) (by decide +kernel), List.mem_of_getElem? (i := 276) (by decide +kernel), List.mem_of_getElem? (i := 277) (by decide +kernel)⟩
theorem lw_p1 : lw_okq (⟨"OpenEyes", "standingFault", "()I"⟩, 6) := ⟨⟨by decide +kernel, by decide +kernel⟩, List.mem_of_getElem? (i := 15) (by decide +kernel), List.mem_of_getElem? (i := 283) (by decide +kernel), List.mem_of_getElem? (i := 284) (by decide +kernel)⟩
theorem lw_p2 : lw_okq (⟨"OpenEyes$Shots", "openInSome", "(I)I"⟩, 4) := ⟨⟨by decide +kernel, by decide +kernel⟩, List.mem_of_getElem? (i := 44) (by decide +kernel), List.mem_of_getElem? (i := 362) (by decide +kernel), List.mem_of_getElem? (i := 363) (by decide +kernel)⟩
theorem lw_p3 : lw_okq (⟨"OpenEyes$HeadWork", "fillRow", "(LOpenEyes$Shots;IZI)I"⟩, 2) := ⟨⟨by decide +kernel, by decide +kernel⟩, List.mem_of_getElem? (i := 161) (by decide +kernel), List.mem_of_getElem? (i := 391) (by decide +kernel), List.mem_of_getElem? (i := 392) (by decide +kernel)⟩
theorem lw_p4 : lw_okq (⟨"OpenEyes$HeadWork", "cutsBehind", "(LOpenEyes$Shots;III)I"⟩, 2) := ⟨⟨by decide +kernel, by decide +kernel⟩, List.mem_of_getElem? (i := 161) (by decide +kernel), List.mem_of_getElem? (i := 396) (by decide +kernel), List.mem_of_getElem? (i := 397) (by decide +kernel)⟩
theorem lw_p5 : lw_okq (⟨"OpenEyes$HeadWork", "choose", "(LOpenEyes$Shots;I)V"⟩, 2) := ⟨⟨by decide +kernel, by decide +kernel⟩, List.mem_of_getElem? (i := 161) (by decide +kernel), List.mem_of_getElem? (i := 405) (by decide +kernel), List.mem_of_getElem? (i := 406) (by decide +kernel)⟩
theorem lw_p6 : lw_okq (⟨"OpenEyes$HeadWork", "firstLeast", "(I)I"⟩, 2) := ⟨⟨by decide +kernel, by decide +kernel⟩, List.mem_of_getElem? (i := 161) (by decide +kernel), List.mem_of_getElem? (i := 409) (by decide +kernel), List.mem_of_getElem? (i := 410) (by decide +kernel)⟩
theorem lw_p7 : lw_okq (⟨"OpenEyes$HeadWork", "firstBehind", "(LOpenEyes$Shots;II)I"⟩, 2) := ⟨⟨by decide +kernel, by decide +kernel⟩, List.mem_of_getElem? (i := 161) (by decide +kernel), List.mem_of_getElem? (i := 413) (by decide +kernel), List.mem_of_getElem? (i := 414) (by decide +kernel)⟩
theorem lw_p8 : lw_okq (⟨"OpenEyes$Shots", "fewestBad", "(I)I"⟩, 4) := ⟨⟨by decide +kernel, by decide +kernel⟩, List.mem_of_getElem? (i := 44) (by decide +kernel), List.mem_of_getElem? (i := 430) (by decide +kernel), List.mem_of_getElem? (i := 431) (by decide +kernel)⟩
theorem lw_p9 : lw_okq (⟨"OpenEyes$Blinks", "settingOf", "(II)I"⟩, 2) := ⟨⟨by decide +kernel, by decide +kernel⟩, List.mem_of_getElem? (i := 66) (by decide +kernel), List.mem_of_getElem? (i := 443) (by decide +kernel), List.mem_of_getElem? (i := 444) (by decide +kernel)⟩
theorem lw_p10 : lw_okq (⟨"OpenEyes$Blinks", "isFlashed", "(I)Z"⟩, 2) := ⟨⟨by decide +kernel, by decide +kernel⟩, List.mem_of_getElem? (i := 66) (by decide +kernel), List.mem_of_getElem? (i := 467) (by decide +kernel), List.mem_of_getElem? (i := 468) (by decide +kernel)⟩
theorem lw_p11 : lw_okq (⟨"OpenEyes$Blinks", "isShut", "(II)Z"⟩, 2) := ⟨⟨by decide +kernel, by decide +kernel⟩, List.mem_of_getElem? (i := 66) (by decide +kernel), List.mem_of_getElem? (i := 471) (by decide +kernel), List.mem_of_getElem? (i := 472) (by decide +kernel)⟩
theorem lw_p12 : lw_okq (⟨"OpenEyes$Odds", "quartersIn", "(II)I"⟩, 2) := ⟨⟨by decide +kernel, by decide +kernel⟩, List.mem_of_getElem? (i := 84) (by decide +kernel), List.mem_of_getElem? (i := 511) (by decide +kernel), List.mem_of_getElem? (i := 512) (by decide +kernel)⟩
theorem lw_p13 : lw_okq (⟨"OpenEyes$Stair", "wrongBetween", "(IIII)I"⟩, 6) := ⟨⟨by decide +kernel, by decide +kernel⟩, List.mem_of_getElem? (i := 102) (by decide +kernel), List.mem_of_getElem? (i := 595) (by decide +kernel), List.mem_of_getElem? (i := 596) (by decide +kernel)⟩
theorem lw_p14 : lw_okq (⟨"OpenEyes$Stair", "isHidden", "(IIII)Z"⟩, 6) := ⟨⟨by decide +kernel, by decide +kernel⟩, List.mem_of_getElem? (i := 102) (by decide +kernel), List.mem_of_getElem? (i := 599) (by decide +kernel), List.mem_of_getElem? (i := 600) (by decide +kernel)⟩
theorem lw_p15 : lw_okq (⟨"OpenEyes$Stair", "columnOf", "(I)I"⟩, 6) := ⟨⟨by decide +kernel, by decide +kernel⟩, List.mem_of_getElem? (i := 102) (by decide +kernel), List.mem_of_getElem? (i := 603) (by decide +kernel), List.mem_of_getElem? (i := 604) (by decide +kernel)⟩
def lw_privs_1 : List (MethodName × Nat) := [(⟨"OpenEyes$Pad", "faultOfLength", "(I)I"⟩, 2), (⟨"OpenEyes", "standingFault", "()I"⟩, 6), (⟨"OpenEyes$Shots", "openInSome", "(I)I"⟩, 4), (⟨"OpenEyes$HeadWork", "fillRow", "(LOpenEyes$Shots;IZI)I"⟩, 2), (⟨"OpenEyes$HeadWork", "cutsBehind", "(LOpenEyes$Shots;III)I"⟩, 2), (⟨"OpenEyes$HeadWork", "choose", "(LOpenEyes$Shots;I)V"⟩, 2), (⟨"OpenEyes$HeadWork", "firstLeast", "(I)I"⟩, 2), (⟨"OpenEyes$HeadWork", "firstBehind", "(LOpenEyes$Shots;II)I"⟩, 2), (⟨"OpenEyes$Shots", "fewestBad", "(I)I"⟩, 4), (⟨"OpenEyes$Blinks", "settingOf", "(II)I"⟩, 2), (⟨"OpenEyes$Blinks", "isFlashed", "(I)Z"⟩, 2), (⟨"OpenEyes$Blinks", "isShut", "(II)Z"⟩, 2), (⟨"OpenEyes$Odds", "quartersIn", "(II)I"⟩, 2), (⟨"OpenEyes$Stair", "wrongBetween", "(IIII)I"⟩, 6), (⟨"OpenEyes$Stair", "isHidden", "(IIII)Z"⟩, 6), (⟨"OpenEyes$Stair", "columnOf", "(I)I"⟩, 6)]
theorem lw_r1 : ∀ q ∈ lw_privs_1, lw_okq q := List.forall_mem_cons.mpr ⟨lw_p0, List.forall_mem_cons.mpr ⟨lw_p1, List.forall_mem_cons.mpr ⟨lw_p2, List.forall_mem_cons.mpr ⟨lw_p3, List.forall_mem_cons.mpr ⟨lw_p4, List.forall_mem_cons.mpr ⟨lw_p5, List.forall_mem_cons.mpr ⟨lw_p6, List.forall_mem_cons.mpr ⟨lw_p7, List.forall_mem_cons.mpr ⟨lw_p8, List.forall_mem_cons.mpr ⟨lw_p9, List.forall_mem_cons.mpr ⟨lw_p10, List.forall_mem_cons.mpr ⟨lw_p11, List.forall_mem_cons.mpr ⟨lw_p12, List.forall_mem_cons.mpr ⟨lw_p13, List.forall_mem_cons.mpr ⟨lw_p14, List.forall_mem_cons.mpr ⟨lw_p15, fun _ h => absurd h List.not_mem_nil⟩⟩⟩⟩⟩⟩⟩⟩⟩⟩⟩⟩⟩⟩⟩⟩
theorem lw_p16 : lw_okq (⟨"OpenEyes$Stair", "rowOf", "(I)I"⟩, 6) := ⟨⟨by decide +kernel, by decide +kernel⟩, List.mem_of_getElem? (i := 102) (by decide +kernel), List.mem_of_getElem? (i := 607) (by decide +kernel), List.mem_of_getElem? (i := 608) (by decide +kernel)⟩
theorem lw_p17 : lw_okq (⟨"OpenEyes$Stair", "areNeighbours", "(II)Z"⟩, 6) := ⟨⟨by decide +kernel, by decide +kernel⟩, List.mem_of_getElem? (i := 102) (by decide +kernel), List.mem_of_getElem? (i := 611) (by decide +kernel), List.mem_of_getElem? (i := 612) (by decide +kernel)⟩
theorem lw_p18 : lw_okq (⟨"OpenEyes$PlaceWork", "leftBehind", "(LOpenEyes$Stair;II)J"⟩, 4) := ⟨⟨by decide +kernel, by decide +kernel⟩, List.mem_of_getElem? (i := 174) (by decide +kernel), List.mem_of_getElem? (i := 628) (by decide +kernel), List.mem_of_getElem? (i := 629) (by decide +kernel)⟩
theorem lw_p19 : lw_okq (⟨"OpenEyes$PlaceWork", "allPlaces", "(LOpenEyes$Stair;)J"⟩, 4) := ⟨⟨by decide +kernel, by decide +kernel⟩, List.mem_of_getElem? (i := 174) (by decide +kernel), List.mem_of_getElem? (i := 639) (by decide +kernel), List.mem_of_getElem? (i := 640) (by decide +kernel)⟩
theorem lw_p20 : lw_okq (⟨"OpenEyes$PlaceWork", "noteFirst", "(II)V"⟩, 4) := ⟨⟨by decide +kernel, by decide +kernel⟩, List.mem_of_getElem? (i := 174) (by decide +kernel), List.mem_of_getElem? (i := 647) (by decide +kernel), List.mem_of_getElem? (i := 648) (by decide +kernel)⟩
theorem lw_p21 : lw_okq (⟨"OpenEyesModel", "begin", "(I)V"⟩, 25) := ⟨⟨by decide +kernel, by decide +kernel⟩, List.mem_of_getElem? (i := 702) (by decide +kernel), List.mem_of_getElem? (i := 708) (by decide +kernel), List.mem_of_getElem? (i := 709) (by decide +kernel)⟩
theorem lw_p22 : lw_okq (⟨"OpenEyesModel", "isPerson", "(I)Z"⟩, 25) := ⟨⟨by decide +kernel, by decide +kernel⟩, List.mem_of_getElem? (i := 702) (by decide +kernel), List.mem_of_getElem? (i := 801) (by decide +kernel), List.mem_of_getElem? (i := 802) (by decide +kernel)⟩
theorem lw_p23 : lw_okq (⟨"OpenEyesModel", "faultOfShot", "()I"⟩, 25) := ⟨⟨by decide +kernel, by decide +kernel⟩, List.mem_of_getElem? (i := 702) (by decide +kernel), List.mem_of_getElem? (i := 819) (by decide +kernel), List.mem_of_getElem? (i := 820) (by decide +kernel)⟩
theorem lw_p24 : lw_okq (⟨"OpenEyesModel", "faultOfStanding", "()I"⟩, 25) := ⟨⟨by decide +kernel, by decide +kernel⟩, List.mem_of_getElem? (i := 702) (by decide +kernel), List.mem_of_getElem? (i := 826) (by decide +kernel), List.mem_of_getElem? (i := 827) (by decide +kernel)⟩
theorem lw_p25 : lw_okq (⟨"OpenEyesModel", "places", "()I"⟩, 25) := ⟨⟨by decide +kernel, by decide +kernel⟩, List.mem_of_getElem? (i := 702) (by decide +kernel), List.mem_of_getElem? (i := 830) (by decide +kernel), List.mem_of_getElem? (i := 831) (by decide +kernel)⟩
theorem lw_p26 : lw_okq (⟨"OpenEyesModel", "badIn", "(I)I"⟩, 25) := ⟨⟨by decide +kernel, by decide +kernel⟩, List.mem_of_getElem? (i := 702) (by decide +kernel), List.mem_of_getElem? (i := 846) (by decide +kernel), List.mem_of_getElem? (i := 847) (by decide +kernel)⟩
theorem lw_p27 : lw_okq (⟨"OpenEyesModel", "isOpen", "(II)Z"⟩, 25) := ⟨⟨by decide +kernel, by decide +kernel⟩, List.mem_of_getElem? (i := 702) (by decide +kernel), List.mem_of_getElem? (i := 850) (by decide +kernel), List.mem_of_getElem? (i := 851) (by decide +kernel)⟩
theorem lw_p28 : lw_okq (⟨"OpenEyesModel", "hiddenIn", "(I)I"⟩, 25) := ⟨⟨by decide +kernel, by decide +kernel⟩, List.mem_of_getElem? (i := 702) (by decide +kernel), List.mem_of_getElem? (i := 854) (by decide +kernel), List.mem_of_getElem? (i := 855) (by decide +kernel)⟩
theorem lw_p29 : lw_okq (⟨"OpenEyesModel", "openIn", "(I)I"⟩, 25) := ⟨⟨by decide +kernel, by decide +kernel⟩, List.mem_of_getElem? (i := 702) (by decide +kernel), List.mem_of_getElem? (i := 862) (by decide +kernel), List.mem_of_getElem? (i := 863) (by decide +kernel)⟩
theorem lw_p30 : lw_okq (⟨"OpenEyesModel", "findCuts", "()V"⟩, 25) := ⟨⟨by decide +kernel, by decide +kernel⟩, List.mem_of_getElem? (i := 702) (by decide +kernel), List.mem_of_getElem? (i := 881) (by decide +kernel), List.mem_of_getElem? (i := 882) (by decide +kernel)⟩
theorem lw_p31 : lw_okq (⟨"OpenEyesModel", "cutsFrom", "(II)I"⟩, 25) := ⟨⟨by decide +kernel, by decide +kernel⟩, List.mem_of_getElem? (i := 702) (by decide +kernel), List.mem_of_getElem? (i := 885) (by decide +kernel), List.mem_of_getElem? (i := 886) (by decide +kernel)⟩
def lw_privs_2 : List (MethodName × Nat) := [(⟨"OpenEyes$Stair", "rowOf", "(I)I"⟩, 6), (⟨"OpenEyes$Stair", "areNeighbours", "(II)Z"⟩, 6), (⟨"OpenEyes$PlaceWork", "leftBehind", "(LOpenEyes$Stair;II)J"⟩, 4), (⟨"OpenEyes$PlaceWork", "allPlaces", "(LOpenEyes$Stair;)J"⟩, 4), (⟨"OpenEyes$PlaceWork", "noteFirst", "(II)V"⟩, 4), (⟨"OpenEyesModel", "begin", "(I)V"⟩, 25), (⟨"OpenEyesModel", "isPerson", "(I)Z"⟩, 25), (⟨"OpenEyesModel", "faultOfShot", "()I"⟩, 25), (⟨"OpenEyesModel", "faultOfStanding", "()I"⟩, 25), (⟨"OpenEyesModel", "places", "()I"⟩, 25), (⟨"OpenEyesModel", "badIn", "(I)I"⟩, 25), (⟨"OpenEyesModel", "isOpen", "(II)Z"⟩, 25), (⟨"OpenEyesModel", "hiddenIn", "(I)I"⟩, 25), (⟨"OpenEyesModel", "openIn", "(I)I"⟩, 25), (⟨"OpenEyesModel", "findCuts", "()V"⟩, 25), (⟨"OpenEyesModel", "cutsFrom", "(II)I"⟩, 25)]
theorem lw_r2 : ∀ q ∈ lw_privs_2, lw_okq q := List.forall_mem_cons.mpr ⟨lw_p16, List.forall_mem_cons.mpr ⟨lw_p17, List.forall_mem_cons.mpr ⟨lw_p18, List.forall_mem_cons.mpr ⟨lw_p19, List.forall_mem_cons.mpr ⟨lw_p20, List.forall_mem_cons.mpr ⟨lw_p21, List.forall_mem_cons.mpr ⟨lw_p22, List.forall_mem_cons.mpr ⟨lw_p23, List.forall_mem_cons.mpr ⟨lw_p24, List.forall_mem_cons.mpr ⟨lw_p25, List.forall_mem_cons.mpr ⟨lw_p26, List.forall_mem_cons.mpr ⟨lw_p27, List.forall_mem_cons.mpr ⟨lw_p28, List.forall_mem_cons.mpr ⟨lw_p29, List.forall_mem_cons.mpr ⟨lw_p30, List.forall_mem_cons.mpr ⟨lw_p31, fun _ h => absurd h List.not_mem_nil⟩⟩⟩⟩⟩⟩⟩⟩⟩⟩⟩⟩⟩⟩⟩⟩
theorem lw_p32 : lw_okq (⟨"OpenEyesModel", "fewestCuts", "()I"⟩, 25) := ⟨⟨by decide +kernel, by decide +kernel⟩, List.mem_of_getElem? (i := 702) (by decide +kernel), List.mem_of_getElem? (i := 889) (by decide +kernel), List.mem_of_getElem? (i := 890) (by decide +kernel)⟩
theorem lw_p33 : lw_okq (⟨"OpenEyesModel", "goesOn", "(IIII)Z"⟩, 25) := ⟨⟨by decide +kernel, by decide +kernel⟩, List.mem_of_getElem? (i := 702) (by decide +kernel), List.mem_of_getElem? (i := 893) (by decide +kernel), List.mem_of_getElem? (i := 894) (by decide +kernel)⟩
theorem lw_p34 : lw_okq (⟨"OpenEyesModel", "fewestBad", "(II)I"⟩, 25) := ⟨⟨by decide +kernel, by decide +kernel⟩, List.mem_of_getElem? (i := 702) (by decide +kernel), List.mem_of_getElem? (i := 901) (by decide +kernel), List.mem_of_getElem? (i := 902) (by decide +kernel)⟩
theorem lw_p35 : lw_okq (⟨"OpenEyesModel", "openAt", "(I)I"⟩, 25) := ⟨⟨by decide +kernel, by decide +kernel⟩, List.mem_of_getElem? (i := 702) (by decide +kernel), List.mem_of_getElem? (i := 921) (by decide +kernel), List.mem_of_getElem? (i := 922) (by decide +kernel)⟩
theorem lw_p36 : lw_okq (⟨"OpenEyesModel", "allOpen", "(I)J"⟩, 25) := ⟨⟨by decide +kernel, by decide +kernel⟩, List.mem_of_getElem? (i := 702) (by decide +kernel), List.mem_of_getElem? (i := 941) (by decide +kernel), List.mem_of_getElem? (i := 942) (by decide +kernel)⟩
theorem lw_p37 : lw_okq (⟨"OpenEyesModel", "quartersOf", "(II)I"⟩, 25) := ⟨⟨by decide +kernel, by decide +kernel⟩, List.mem_of_getElem? (i := 702) (by decide +kernel), List.mem_of_getElem? (i := 945) (by decide +kernel), List.mem_of_getElem? (i := 946) (by decide +kernel)⟩
theorem lw_p38 : lw_okq (⟨"OpenEyesModel", "noneOf", "(I)J"⟩, 25) := ⟨⟨by decide +kernel, by decide +kernel⟩, List.mem_of_getElem? (i := 702) (by decide +kernel), List.mem_of_getElem? (i := 957) (by decide +kernel), List.mem_of_getElem? (i := 958) (by decide +kernel)⟩
theorem lw_p39 : lw_okq (⟨"OpenEyesModel", "wrongWith", "(I)I"⟩, 25) := ⟨⟨by decide +kernel, by decide +kernel⟩, List.mem_of_getElem? (i := 702) (by decide +kernel), List.mem_of_getElem? (i := 993) (by decide +kernel), List.mem_of_getElem? (i := 994) (by decide +kernel)⟩
theorem lw_p40 : lw_okq (⟨"OpenEyesModel", "isHidden", "(II)Z"⟩, 25) := ⟨⟨by decide +kernel, by decide +kernel⟩, List.mem_of_getElem? (i := 702) (by decide +kernel), List.mem_of_getElem? (i := 997) (by decide +kernel), List.mem_of_getElem? (i := 998) (by decide +kernel)⟩
theorem lw_p41 : lw_okq (⟨"OpenEyesModel", "heightOf", "(I)I"⟩, 25) := ⟨⟨by decide +kernel, by decide +kernel⟩, List.mem_of_getElem? (i := 702) (by decide +kernel), List.mem_of_getElem? (i := 1001) (by decide +kernel), List.mem_of_getElem? (i := 1002) (by decide +kernel)⟩
theorem lw_p42 : lw_okq (⟨"OpenEyesModel", "areBeside", "(II)Z"⟩, 25) := ⟨⟨by decide +kernel, by decide +kernel⟩, List.mem_of_getElem? (i := 702) (by decide +kernel), List.mem_of_getElem? (i := 1005) (by decide +kernel), List.mem_of_getElem? (i := 1006) (by decide +kernel)⟩
theorem lw_p43 : lw_okq (⟨"OpenEyesModel", "findStandings", "()I"⟩, 25) := ⟨⟨by decide +kernel, by decide +kernel⟩, List.mem_of_getElem? (i := 702) (by decide +kernel), List.mem_of_getElem? (i := 1013) (by decide +kernel), List.mem_of_getElem? (i := 1014) (by decide +kernel)⟩
theorem lw_p44 : lw_okq (⟨"OpenEyesModel", "goesWith", "(I)Z"⟩, 25) := ⟨⟨by decide +kernel, by decide +kernel⟩, List.mem_of_getElem? (i := 702) (by decide +kernel), List.mem_of_getElem? (i := 1017) (by decide +kernel), List.mem_of_getElem? (i := 1018) (by decide +kernel)⟩
theorem lw_p45 : lw_okq (⟨"OpenEyesModel", "passAll", "()V"⟩, 25) := ⟨⟨by decide +kernel, by decide +kernel⟩, List.mem_of_getElem? (i := 702) (by decide +kernel), List.mem_of_getElem? (i := 1025) (by decide +kernel), List.mem_of_getElem? (i := 1026) (by decide +kernel)⟩
theorem lw_p46 : lw_okq (⟨"OpenEyesModel", "pass", "(I)I"⟩, 25) := ⟨⟨by decide +kernel, by decide +kernel⟩, List.mem_of_getElem? (i := 702) (by decide +kernel), List.mem_of_getElem? (i := 1029) (by decide +kernel), List.mem_of_getElem? (i := 1030) (by decide +kernel)⟩
def lw_privs_3 : List (MethodName × Nat) := [(⟨"OpenEyesModel", "fewestCuts", "()I"⟩, 25), (⟨"OpenEyesModel", "goesOn", "(IIII)Z"⟩, 25), (⟨"OpenEyesModel", "fewestBad", "(II)I"⟩, 25), (⟨"OpenEyesModel", "openAt", "(I)I"⟩, 25), (⟨"OpenEyesModel", "allOpen", "(I)J"⟩, 25), (⟨"OpenEyesModel", "quartersOf", "(II)I"⟩, 25), (⟨"OpenEyesModel", "noneOf", "(I)J"⟩, 25), (⟨"OpenEyesModel", "wrongWith", "(I)I"⟩, 25), (⟨"OpenEyesModel", "isHidden", "(II)Z"⟩, 25), (⟨"OpenEyesModel", "heightOf", "(I)I"⟩, 25), (⟨"OpenEyesModel", "areBeside", "(II)Z"⟩, 25), (⟨"OpenEyesModel", "findStandings", "()I"⟩, 25), (⟨"OpenEyesModel", "goesWith", "(I)Z"⟩, 25), (⟨"OpenEyesModel", "passAll", "()V"⟩, 25), (⟨"OpenEyesModel", "pass", "(I)I"⟩, 25)]
theorem lw_r3 : ∀ q ∈ lw_privs_3, lw_okq q := List.forall_mem_cons.mpr ⟨lw_p32, List.forall_mem_cons.mpr ⟨lw_p33, List.forall_mem_cons.mpr ⟨lw_p34, List.forall_mem_cons.mpr ⟨lw_p35, List.forall_mem_cons.mpr ⟨lw_p36, List.forall_mem_cons.mpr ⟨lw_p37, List.forall_mem_cons.mpr ⟨lw_p38, List.forall_mem_cons.mpr ⟨lw_p39, List.forall_mem_cons.mpr ⟨lw_p40, List.forall_mem_cons.mpr ⟨lw_p41, List.forall_mem_cons.mpr ⟨lw_p42, List.forall_mem_cons.mpr ⟨lw_p43, List.forall_mem_cons.mpr ⟨lw_p44, List.forall_mem_cons.mpr ⟨lw_p45, List.forall_mem_cons.mpr ⟨lw_p46, fun _ h => absurd h List.not_mem_nil⟩⟩⟩⟩⟩⟩⟩⟩⟩⟩⟩⟩⟩⟩⟩
def lw_privs : List (MethodName × Nat) := lw_privs_1 ++ (lw_privs_2 ++ (lw_privs_3))
def lw_tbl : List Cond := k2_sels lw_privs ++ tables_1
theorem lw_privs_ok : ∀ q ∈ lw_privs, lw_okq q := by
  show ∀ q ∈ lw_privs_1 ++ (lw_privs_2 ++ (lw_privs_3)), lw_okq q
  exact List.forall_mem_append.mpr ⟨lw_r1, List.forall_mem_append.mpr ⟨lw_r2, lw_r3⟩⟩
def RX0 : String := "OpenEyes$Blinks"
def TX0 : u_T := fun k => match k with
  | 0 => ("OpenEyes$Blinks", "flash", "I", false)
  | _ => ("OpenEyes$Blinks", "settings", "[I", true)
def tyX0 : Nat → FieldType := fun k => match k with
  | 0 => .int
  | _ => .array .int
abbrev wsX00 : List Cond := u_ws RX0 TX0 2
theorem nmX0 : ∀ a, a < 2 → ∀ b, b < 2 → a ≠ b → (TX0 a).2.1 ≠ (TX0 b).2.1 := by decide +kernel
theorem tyX0_ok : ∀ k, k < 2 → parseFieldDescriptor (TX0 k).2.2.1 = some (tyX0 k) := by decide +kernel
abbrev cX0_init : ByteArray := prog_2_method_1_code
def yX0_init : MethodName := ⟨RX0, "<init>", "()V"⟩
abbrev cX0_startPeople : ByteArray := prog_2_method_2_code
def yX0_startPeople : MethodName := ⟨RX0, "startPeople", "()V"⟩
abbrev cX0_copyFrom : ByteArray := prog_2_method_3_code
def yX0_copyFrom : MethodName := ⟨RX0, "copyFrom", "(LOpenEyes$Blinks;)V"⟩
abbrev cX0_fits : ByteArray := prog_2_method_4_code
def yX0_fits : MethodName := ⟨RX0, "fits", "(III)Z"⟩
abbrev cX0_change : ByteArray := prog_2_method_5_code
def yX0_change : MethodName := ⟨RX0, "change", "(III)I"⟩
abbrev cX0_settingOf : ByteArray := prog_2_method_6_code
def yX0_settingOf : MethodName := ⟨RX0, "settingOf", "(II)I"⟩
abbrev cX0_openAt : ByteArray := prog_2_method_7_code
def yX0_openAt : MethodName := ⟨RX0, "openAt", "(II)I"⟩
abbrev cX0_isFlashed : ByteArray := prog_2_method_8_code
def yX0_isFlashed : MethodName := ⟨RX0, "isFlashed", "(I)Z"⟩
abbrev cX0_isShut : ByteArray := prog_2_method_9_code
def yX0_isShut : MethodName := ⟨RX0, "isShut", "(II)Z"⟩
abbrev cX0_bestTenth : ByteArray := prog_2_method_10_code
def yX0_bestTenth : MethodName := ⟨RX0, "bestTenth", "(III)I"⟩
abbrev cX0_tenthsOfAll : ByteArray := prog_2_method_11_code
def yX0_tenthsOfAll : MethodName := ⟨RX0, "tenthsOfAll", "(III)I"⟩
def RX1 : String := "OpenEyes$HeadWork"
def TX1 : u_T := fun k => match k with
  | 0 => ("OpenEyes$HeadWork", "cutsFrom", "[I", true)
  | _ => ("OpenEyes$HeadWork", "chosen", "[I", true)
def tyX1 : Nat → FieldType := fun k => match k with
  | 0 => .array .int
  | _ => .array .int
abbrev wsX10 : List Cond := u_ws RX1 TX1 2
theorem nmX1 : ∀ a, a < 2 → ∀ b, b < 2 → a ≠ b → (TX1 a).2.1 ≠ (TX1 b).2.1 := by decide +kernel
theorem tyX1_ok : ∀ k, k < 2 → parseFieldDescriptor (TX1 k).2.2.1 = some (tyX1 k) := by decide +kernel
abbrev cX1_init : ByteArray := prog_3_method_1_code
def yX1_init : MethodName := ⟨RX1, "<init>", "()V"⟩
abbrev cX1_shotOf : ByteArray := prog_3_method_2_code
def yX1_shotOf : MethodName := ⟨RX1, "shotOf", "(I)I"⟩
abbrev cX1_solve : ByteArray := prog_3_method_3_code
def yX1_solve : MethodName := ⟨RX1, "solve", "(LOpenEyes$Shots;I)I"⟩
abbrev cX1_fillRow : ByteArray := prog_3_method_4_code
def yX1_fillRow : MethodName := ⟨RX1, "fillRow", "(LOpenEyes$Shots;IZI)I"⟩
abbrev cX1_cutsBehind : ByteArray := prog_3_method_5_code
def yX1_cutsBehind : MethodName := ⟨RX1, "cutsBehind", "(LOpenEyes$Shots;III)I"⟩
abbrev cX1_choose : ByteArray := prog_3_method_6_code
def yX1_choose : MethodName := ⟨RX1, "choose", "(LOpenEyes$Shots;I)V"⟩
abbrev cX1_firstLeast : ByteArray := prog_3_method_7_code
def yX1_firstLeast : MethodName := ⟨RX1, "firstLeast", "(I)I"⟩
abbrev cX1_firstBehind : ByteArray := prog_3_method_8_code
def yX1_firstBehind : MethodName := ⟨RX1, "firstBehind", "(LOpenEyes$Shots;II)I"⟩
def RX2 : String := "OpenEyes$Odds"
def TX2 : u_T := fun k => match k with
  | 0 => ("OpenEyes$Odds", "tired", "I", false)
  | _ => ("OpenEyes$Odds", "quarters", "[I", true)
def tyX2 : Nat → FieldType := fun k => match k with
  | 0 => .int
  | _ => .array .int
abbrev wsX20 : List Cond := u_ws RX2 TX2 2
theorem nmX2 : ∀ a, a < 2 → ∀ b, b < 2 → a ≠ b → (TX2 a).2.1 ≠ (TX2 b).2.1 := by decide +kernel
theorem tyX2_ok : ∀ k, k < 2 → parseFieldDescriptor (TX2 k).2.2.1 = some (tyX2 k) := by decide +kernel
abbrev cX2_init : ByteArray := prog_4_method_1_code
def yX2_init : MethodName := ⟨RX2, "<init>", "()V"⟩
abbrev cX2_startPeople : ByteArray := prog_4_method_2_code
def yX2_startPeople : MethodName := ⟨RX2, "startPeople", "()V"⟩
abbrev cX2_copyFrom : ByteArray := prog_4_method_3_code
def yX2_copyFrom : MethodName := ⟨RX2, "copyFrom", "(LOpenEyes$Odds;)V"⟩
abbrev cX2_changeTired : ByteArray := prog_4_method_4_code
def yX2_changeTired : MethodName := ⟨RX2, "changeTired", "(I)I"⟩
abbrev cX2_changeQuarters : ByteArray := prog_4_method_5_code
def yX2_changeQuarters : MethodName := ⟨RX2, "changeQuarters", "(II)I"⟩
abbrev cX2_quartersOf : ByteArray := prog_4_method_6_code
def yX2_quartersOf : MethodName := ⟨RX2, "quartersOf", "(I)I"⟩
abbrev cX2_quartersIn : ByteArray := prog_4_method_7_code
def yX2_quartersIn : MethodName := ⟨RX2, "quartersIn", "(II)I"⟩
abbrev cX2_waysOf : ByteArray := prog_4_method_8_code
def yX2_waysOf : MethodName := ⟨RX2, "waysOf", "(II)J"⟩
abbrev cX2_waysAllOpen : ByteArray := prog_4_method_9_code
def yX2_waysAllOpen : MethodName := ⟨RX2, "waysAllOpen", "(II)J"⟩
abbrev cX2_waysOneOf : ByteArray := prog_4_method_10_code
def yX2_waysOneOf : MethodName := ⟨RX2, "waysOneOf", "(II)J"⟩
abbrev cX2_drawShots : ByteArray := prog_4_method_11_code
def yX2_drawShots : MethodName := ⟨RX2, "drawShots", "(III)I"⟩
def RX3 : String := "OpenEyes$Pad"
def TX3 : u_T := fun k => match k with
  | 0 => ("OpenEyes$Pad", "signs", "[I", true)
  | _ => ("OpenEyes$Pad", "count", "I", false)
def tyX3 : Nat → FieldType := fun k => match k with
  | 0 => .array .int
  | _ => .int
abbrev wsX30 : List Cond := u_ws RX3 TX3 2
theorem nmX3 : ∀ a, a < 2 → ∀ b, b < 2 → a ≠ b → (TX3 a).2.1 ≠ (TX3 b).2.1 := by decide +kernel
theorem tyX3_ok : ∀ k, k < 2 → parseFieldDescriptor (TX3 k).2.2.1 = some (tyX3 k) := by decide +kernel
abbrev cX3_init : ByteArray := prog_5_method_1_code
def yX3_init : MethodName := ⟨RX3, "<init>", "()V"⟩
abbrev cX3_isFull : ByteArray := prog_5_method_2_code
def yX3_isFull : MethodName := ⟨RX3, "isFull", "()Z"⟩
abbrev cX3_add : ByteArray := prog_5_method_3_code
def yX3_add : MethodName := ⟨RX3, "add", "(I)I"⟩
abbrev cX3_clear : ByteArray := prog_5_method_4_code
def yX3_clear : MethodName := ⟨RX3, "clear", "()I"⟩
abbrev cX3_signAt : ByteArray := prog_5_method_5_code
def yX3_signAt : MethodName := ⟨RX3, "signAt", "(I)I"⟩
abbrev cX3_faultAsShot : ByteArray := prog_5_method_6_code
def yX3_faultAsShot : MethodName := ⟨RX3, "faultAsShot", "(I)I"⟩
abbrev cX3_faultAsStanding : ByteArray := prog_5_method_7_code
def yX3_faultAsStanding : MethodName := ⟨RX3, "faultAsStanding", "(II)I"⟩
abbrev cX3_readStanding : ByteArray := prog_5_method_8_code
def yX3_readStanding : MethodName := ⟨RX3, "readStanding", "([II)V"⟩
abbrev cX3_faultOfLength : ByteArray := prog_5_method_9_code
def yX3_faultOfLength : MethodName := ⟨RX3, "faultOfLength", "(I)I"⟩
abbrev cX3_isLook : ByteArray := prog_5_method_10_code
def yX3_isLook : MethodName := ⟨RX3, "isLook", "(I)Z"⟩
def RX4 : String := "OpenEyes$PlaceWork"
def TX4 : u_T := fun k => match k with
  | 0 => ("OpenEyes$PlaceWork", "leaves", "[J", true)
  | 1 => ("OpenEyes$PlaceWork", "first", "[I", true)
  | 2 => ("OpenEyes$PlaceWork", "people", "I", false)
  | _ => ("OpenEyes$PlaceWork", "count", "I", false)
def tyX4 : Nat → FieldType := fun k => match k with
  | 0 => .array .long
  | 1 => .array .int
  | 2 => .int
  | _ => .int
abbrev wsX40 : List Cond := u_ws RX4 TX4 4
theorem nmX4 : ∀ a, a < 4 → ∀ b, b < 4 → a ≠ b → (TX4 a).2.1 ≠ (TX4 b).2.1 := by decide +kernel
theorem tyX4_ok : ∀ k, k < 4 → parseFieldDescriptor (TX4 k).2.2.1 = some (tyX4 k) := by decide +kernel
abbrev cX4_init : ByteArray := prog_6_method_1_code
def yX4_init : MethodName := ⟨RX4, "<init>", "()V"⟩
abbrev cX4_firstOf : ByteArray := prog_6_method_2_code
def yX4_firstOf : MethodName := ⟨RX4, "firstOf", "(I)I"⟩
abbrev cX4_solve : ByteArray := prog_6_method_3_code
def yX4_solve : MethodName := ⟨RX4, "solve", "(LOpenEyes$Stair;I)V"⟩
abbrev cX4_leftBehind : ByteArray := prog_6_method_4_code
def yX4_leftBehind : MethodName := ⟨RX4, "leftBehind", "(LOpenEyes$Stair;II)J"⟩
abbrev cX4_allPlaces : ByteArray := prog_6_method_5_code
def yX4_allPlaces : MethodName := ⟨RX4, "allPlaces", "(LOpenEyes$Stair;)J"⟩
abbrev cX4_bitOf : ByteArray := prog_6_method_6_code
def yX4_bitOf : MethodName := ⟨RX4, "bitOf", "(II)J"⟩
abbrev cX4_countFrom : ByteArray := prog_6_method_7_code
def yX4_countFrom : MethodName := ⟨RX4, "countFrom", "(LOpenEyes$PlaceWork;IJ)I"⟩
abbrev cX4_noteFirst : ByteArray := prog_6_method_8_code
def yX4_noteFirst : MethodName := ⟨RX4, "noteFirst", "(II)V"⟩
def RX5 : String := "OpenEyes$Scene"
def TX5 : u_T := fun k => match k with
  | 0 => ("OpenEyes$Scene", "people", "I", false)
  | 1 => ("OpenEyes$Scene", "bride", "I", false)
  | 2 => ("OpenEyes$Scene", "shots", "LOpenEyes$Shots;", true)
  | 3 => ("OpenEyes$Scene", "blinks", "LOpenEyes$Blinks;", true)
  | 4 => ("OpenEyes$Scene", "odds", "LOpenEyes$Odds;", true)
  | _ => ("OpenEyes$Scene", "stair", "LOpenEyes$Stair;", true)
def tyX5 : Nat → FieldType := fun k => match k with
  | 0 => .int
  | 1 => .int
  | 2 => .object "OpenEyes$Shots"
  | 3 => .object "OpenEyes$Blinks"
  | 4 => .object "OpenEyes$Odds"
  | _ => .object "OpenEyes$Stair"
abbrev wsX50 : List Cond := u_ws RX5 TX5 6
theorem nmX5 : ∀ a, a < 6 → ∀ b, b < 6 → a ≠ b → (TX5 a).2.1 ≠ (TX5 b).2.1 := by decide +kernel
theorem tyX5_ok : ∀ k, k < 6 → parseFieldDescriptor (TX5 k).2.2.1 = some (tyX5 k) := by decide +kernel
abbrev cX5_init : ByteArray := prog_7_method_1_code
def yX5_init : MethodName := ⟨RX5, "<init>", "()V"⟩
abbrev cX5_has : ByteArray := prog_7_method_2_code
def yX5_has : MethodName := ⟨RX5, "has", "(I)Z"⟩
abbrev cX5_everybody : ByteArray := prog_7_method_3_code
def yX5_everybody : MethodName := ⟨RX5, "everybody", "()I"⟩
abbrev cX5_gather : ByteArray := prog_7_method_4_code
def yX5_gather : MethodName := ⟨RX5, "gather", "(I)I"⟩
abbrev cX5_copyFrom : ByteArray := prog_7_method_5_code
def yX5_copyFrom : MethodName := ⟨RX5, "copyFrom", "(LOpenEyes$Scene;)V"⟩
def RX6 : String := "OpenEyes$Shots"
def TX6 : u_T := fun k => match k with
  | 0 => ("OpenEyes$Shots", "count", "I", false)
  | 1 => ("OpenEyes$Shots", "hands", "I", false)
  | 2 => ("OpenEyes$Shots", "looks", "[I", true)
  | _ => ("OpenEyes$Shots", "openBits", "[I", true)
def tyX6 : Nat → FieldType := fun k => match k with
  | 0 => .int
  | 1 => .int
  | 2 => .array .int
  | _ => .array .int
abbrev wsX60 : List Cond := u_ws RX6 TX6 4
theorem nmX6 : ∀ a, a < 4 → ∀ b, b < 4 → a ≠ b → (TX6 a).2.1 ≠ (TX6 b).2.1 := by decide +kernel
theorem tyX6_ok : ∀ k, k < 4 → parseFieldDescriptor (TX6 k).2.2.1 = some (tyX6 k) := by decide +kernel
abbrev cX6_init : ByteArray := prog_8_method_1_code
def yX6_init : MethodName := ⟨RX6, "<init>", "()V"⟩
abbrev cX6_startPeople : ByteArray := prog_8_method_2_code
def yX6_startPeople : MethodName := ⟨RX6, "startPeople", "()V"⟩
abbrev cX6_copyFrom : ByteArray := prog_8_method_3_code
def yX6_copyFrom : MethodName := ⟨RX6, "copyFrom", "(LOpenEyes$Shots;)V"⟩
abbrev cX6_isFull : ByteArray := prog_8_method_4_code
def yX6_isFull : MethodName := ⟨RX6, "isFull", "()Z"⟩
abbrev cX6_has : ByteArray := prog_8_method_5_code
def yX6_has : MethodName := ⟨RX6, "has", "(I)Z"⟩
abbrev cX6_take : ByteArray := prog_8_method_6_code
def yX6_take : MethodName := ⟨RX6, "take", "(LOpenEyes$Pad;I)I"⟩
abbrev cX6_lookOf : ByteArray := prog_8_method_7_code
def yX6_lookOf : MethodName := ⟨RX6, "lookOf", "(II)I"⟩
abbrev cX6_isOpen : ByteArray := prog_8_method_8_code
def yX6_isOpen : MethodName := ⟨RX6, "isOpen", "(II)Z"⟩
abbrev cX6_holdHands : ByteArray := prog_8_method_9_code
def yX6_holdHands : MethodName := ⟨RX6, "holdHands", "(I)Z"⟩
abbrev cX6_badIn : ByteArray := prog_8_method_10_code
def yX6_badIn : MethodName := ⟨RX6, "badIn", "(II)I"⟩
abbrev cX6_hiddenIn : ByteArray := prog_8_method_11_code
def yX6_hiddenIn : MethodName := ⟨RX6, "hiddenIn", "(II)I"⟩
abbrev cX6_bestSingle : ByteArray := prog_8_method_12_code
def yX6_bestSingle : MethodName := ⟨RX6, "bestSingle", "(II)I"⟩
abbrev cX6_leastCover : ByteArray := prog_8_method_13_code
def yX6_leastCover : MethodName := ⟨RX6, "leastCover", "(I)I"⟩
abbrev cX6_openInSome : ByteArray := prog_8_method_14_code
def yX6_openInSome : MethodName := ⟨RX6, "openInSome", "(I)I"⟩
abbrev cX6_worstPerson : ByteArray := prog_8_method_15_code
def yX6_worstPerson : MethodName := ⟨RX6, "worstPerson", "(I)I"⟩
abbrev cX6_timesBad : ByteArray := prog_8_method_16_code
def yX6_timesBad : MethodName := ⟨RX6, "timesBad", "(I)I"⟩
abbrev cX6_fewestLeft : ByteArray := prog_8_method_17_code
def yX6_fewestLeft : MethodName := ⟨RX6, "fewestLeft", "(I)I"⟩
abbrev cX6_fewestBad : ByteArray := prog_8_method_18_code
def yX6_fewestBad : MethodName := ⟨RX6, "fewestBad", "(I)I"⟩
def RX7 : String := "OpenEyes$Stair"
def TX7 : u_T := fun k => match k with
  | 0 => ("OpenEyes$Stair", "rows", "I", false)
  | 1 => ("OpenEyes$Stair", "columns", "I", false)
  | 2 => ("OpenEyes$Stair", "rise", "I", false)
  | 3 => ("OpenEyes$Stair", "talls", "[I", true)
  | 4 => ("OpenEyes$Stair", "pairs", "[I", true)
  | _ => ("OpenEyes$Stair", "changed", "Z", false)
def tyX7 : Nat → FieldType := fun k => match k with
  | 0 => .int
  | 1 => .int
  | 2 => .int
  | 3 => .array .int
  | 4 => .array .int
  | _ => .boolean
abbrev wsX70 : List Cond := u_ws RX7 TX7 6
theorem nmX7 : ∀ a, a < 6 → ∀ b, b < 6 → a ≠ b → (TX7 a).2.1 ≠ (TX7 b).2.1 := by decide +kernel
theorem tyX7_ok : ∀ k, k < 6 → parseFieldDescriptor (TX7 k).2.2.1 = some (tyX7 k) := by decide +kernel
abbrev cX7_init : ByteArray := prog_9_method_1_code
def yX7_init : MethodName := ⟨RX7, "<init>", "()V"⟩
abbrev cX7_startPeople : ByteArray := prog_9_method_2_code
def yX7_startPeople : MethodName := ⟨RX7, "startPeople", "()V"⟩
abbrev cX7_copyFrom : ByteArray := prog_9_method_3_code
def yX7_copyFrom : MethodName := ⟨RX7, "copyFrom", "(LOpenEyes$Stair;)V"⟩
abbrev cX7_places : ByteArray := prog_9_method_4_code
def yX7_places : MethodName := ⟨RX7, "places", "()I"⟩
abbrev cX7_tallOf : ByteArray := prog_9_method_5_code
def yX7_tallOf : MethodName := ⟨RX7, "tallOf", "(I)I"⟩
abbrev cX7_build : ByteArray := prog_9_method_6_code
def yX7_build : MethodName := ⟨RX7, "build", "(II)I"⟩
abbrev cX7_changeRise : ByteArray := prog_9_method_7_code
def yX7_changeRise : MethodName := ⟨RX7, "changeRise", "(I)I"⟩
abbrev cX7_changeTall : ByteArray := prog_9_method_8_code
def yX7_changeTall : MethodName := ⟨RX7, "changeTall", "(II)I"⟩
abbrev cX7_changePair : ByteArray := prog_9_method_9_code
def yX7_changePair : MethodName := ⟨RX7, "changePair", "(III)I"⟩
abbrev cX7_firstWrong : ByteArray := prog_9_method_10_code
def yX7_firstWrong : MethodName := ⟨RX7, "firstWrong", "([II)I"⟩
abbrev cX7_wrongFor : ByteArray := prog_9_method_11_code
def yX7_wrongFor : MethodName := ⟨RX7, "wrongFor", "(I[II)I"⟩
abbrev cX7_wrongBetween : ByteArray := prog_9_method_12_code
def yX7_wrongBetween : MethodName := ⟨RX7, "wrongBetween", "(IIII)I"⟩
abbrev cX7_suits : ByteArray := prog_9_method_13_code
def yX7_suits : MethodName := ⟨RX7, "suits", "(IIII)Z"⟩
abbrev cX7_isHidden : ByteArray := prog_9_method_14_code
def yX7_isHidden : MethodName := ⟨RX7, "isHidden", "(IIII)Z"⟩
abbrev cX7_areNeighbours : ByteArray := prog_9_method_15_code
def yX7_areNeighbours : MethodName := ⟨RX7, "areNeighbours", "(II)Z"⟩
abbrev cX7_rowOf : ByteArray := prog_9_method_16_code
def yX7_rowOf : MethodName := ⟨RX7, "rowOf", "(I)I"⟩
abbrev cX7_columnOf : ByteArray := prog_9_method_17_code
def yX7_columnOf : MethodName := ⟨RX7, "columnOf", "(I)I"⟩
def RX8 : String := "OpenEyes"
def TX8 : u_T := fun k => match k with
  | 0 => ("OpenEyes", "pad", "LOpenEyes$Pad;", true)
  | 1 => ("OpenEyes", "now", "LOpenEyes$Scene;", true)
  | 2 => ("OpenEyes", "kept", "[LOpenEyes$Scene;", true)
  | 3 => ("OpenEyes", "headWork", "LOpenEyes$HeadWork;", true)
  | 4 => ("OpenEyes", "placeWork", "LOpenEyes$PlaceWork;", true)
  | _ => ("OpenEyes", "standing", "[I", true)
def tyX8 : Nat → FieldType := fun k => match k with
  | 0 => .object "OpenEyes$Pad"
  | 1 => .object "OpenEyes$Scene"
  | 2 => .array (.object "OpenEyes$Scene")
  | 3 => .object "OpenEyes$HeadWork"
  | 4 => .object "OpenEyes$PlaceWork"
  | _ => .array .int
abbrev wsX80 : List Cond := u_ws RX8 TX8 6
theorem nmX8 : ∀ a, a < 6 → ∀ b, b < 6 → a ≠ b → (TX8 a).2.1 ≠ (TX8 b).2.1 := by decide +kernel
theorem tyX8_ok : ∀ k, k < 6 → parseFieldDescriptor (TX8 k).2.2.1 = some (tyX8 k) := by decide +kernel
abbrev cX8_init : ByteArray := prog_1_method_1_code
def yX8_init : MethodName := ⟨RX8, "<init>", "()V"⟩
abbrev cX8_people : ByteArray := prog_1_method_2_code
def yX8_people : MethodName := ⟨RX8, "people", "(I)I"⟩
abbrev cX8_bride : ByteArray := prog_1_method_3_code
def yX8_bride : MethodName := ⟨RX8, "bride", "(I)I"⟩
abbrev cX8_say : ByteArray := prog_1_method_4_code
def yX8_say : MethodName := ⟨RX8, "say", "(I)I"⟩
abbrev cX8_wipe : ByteArray := prog_1_method_5_code
def yX8_wipe : MethodName := ⟨RX8, "wipe", "()I"⟩
abbrev cX8_fault : ByteArray := prog_1_method_6_code
def yX8_fault : MethodName := ⟨RX8, "fault", "(I)I"⟩
abbrev cX8_shot : ByteArray := prog_1_method_7_code
def yX8_shot : MethodName := ⟨RX8, "shot", "()I"⟩
abbrev cX8_look : ByteArray := prog_1_method_8_code
def yX8_look : MethodName := ⟨RX8, "look", "(II)I"⟩
abbrev cX8_single : ByteArray := prog_1_method_9_code
def yX8_single : MethodName := ⟨RX8, "single", "(I)I"⟩
abbrev cX8_cover : ByteArray := prog_1_method_10_code
def yX8_cover : MethodName := ⟨RX8, "cover", "()I"⟩
abbrev cX8_spoils : ByteArray := prog_1_method_11_code
def yX8_spoils : MethodName := ⟨RX8, "spoils", "(I)I"⟩
abbrev cX8_hands : ByteArray := prog_1_method_12_code
def yX8_hands : MethodName := ⟨RX8, "hands", "(I)I"⟩
abbrev cX8_heads : ByteArray := prog_1_method_13_code
def yX8_heads : MethodName := ⟨RX8, "heads", "(I)I"⟩
abbrev cX8_left : ByteArray := prog_1_method_14_code
def yX8_left : MethodName := ⟨RX8, "left", "()I"⟩
abbrev cX8_blink : ByteArray := prog_1_method_15_code
def yX8_blink : MethodName := ⟨RX8, "blink", "(III)I"⟩
abbrev cX8_flash : ByteArray := prog_1_method_16_code
def yX8_flash : MethodName := ⟨RX8, "flash", "(I)I"⟩
abbrev cX8_open : ByteArray := prog_1_method_17_code
def yX8_open : MethodName := ⟨RX8, "open", "(I)I"⟩
abbrev cX8_fire : ByteArray := prog_1_method_18_code
def yX8_fire : MethodName := ⟨RX8, "fire", "(III)I"⟩
abbrev cX8_bad : ByteArray := prog_1_method_19_code
def yX8_bad : MethodName := ⟨RX8, "bad", "(II)I"⟩
abbrev cX8_likely : ByteArray := prog_1_method_20_code
def yX8_likely : MethodName := ⟨RX8, "likely", "(II)J"⟩
abbrev cX8_one : ByteArray := prog_1_method_21_code
def yX8_one : MethodName := ⟨RX8, "one", "(II)J"⟩
abbrev cX8_many : ByteArray := prog_1_method_22_code
def yX8_many : MethodName := ⟨RX8, "many", "(II)I"⟩
abbrev cX8_shoot : ByteArray := prog_1_method_23_code
def yX8_shoot : MethodName := ⟨RX8, "shoot", "(III)I"⟩
abbrev cX8_stair : ByteArray := prog_1_method_24_code
def yX8_stair : MethodName := ⟨RX8, "stair", "(II)I"⟩
abbrev cX8_tall : ByteArray := prog_1_method_25_code
def yX8_tall : MethodName := ⟨RX8, "tall", "(II)I"⟩
abbrev cX8_pair : ByteArray := prog_1_method_26_code
def yX8_pair : MethodName := ⟨RX8, "pair", "(III)I"⟩
abbrev cX8_judge : ByteArray := prog_1_method_27_code
def yX8_judge : MethodName := ⟨RX8, "judge", "(I)I"⟩
abbrev cX8_placed : ByteArray := prog_1_method_28_code
def yX8_placed : MethodName := ⟨RX8, "placed", "(I)I"⟩
abbrev cX8_image : ByteArray := prog_1_method_29_code
def yX8_image : MethodName := ⟨RX8, "image", "(I)I"⟩
abbrev cX8_restore : ByteArray := prog_1_method_30_code
def yX8_restore : MethodName := ⟨RX8, "restore", "(I)I"⟩
abbrev cX8_told : ByteArray := prog_1_method_31_code
def yX8_told : MethodName := ⟨RX8, "told", "(I)I"⟩
abbrev cX8_standingFault : ByteArray := prog_1_method_32_code
def yX8_standingFault : MethodName := ⟨RX8, "standingFault", "()I"⟩
abbrev cX8_within : ByteArray := prog_1_method_33_code
def yX8_within : MethodName := ⟨RX8, "within", "(III)Z"⟩
abbrev cX8_lowest : ByteArray := prog_1_method_34_code
def yX8_lowest : MethodName := ⟨RX8, "lowest", "(JJI)J"⟩
def RX9 : String := "OpenEyesModel"
def TX9 : u_T := fun k => match k with
  | 0 => ("OpenEyesModel", "people", "I", false)
  | 1 => ("OpenEyesModel", "shots", "I", false)
  | 2 => ("OpenEyesModel", "looks", "[I", true)
  | 3 => ("OpenEyesModel", "bride", "I", false)
  | 4 => ("OpenEyesModel", "hands", "I", false)
  | 5 => ("OpenEyesModel", "period", "[I", true)
  | 6 => ("OpenEyesModel", "shut", "[I", true)
  | 7 => ("OpenEyesModel", "phase", "[I", true)
  | 8 => ("OpenEyesModel", "flash", "I", false)
  | 9 => ("OpenEyesModel", "quarters", "[I", true)
  | 10 => ("OpenEyesModel", "tired", "I", false)
  | 11 => ("OpenEyesModel", "rows", "I", false)
  | 12 => ("OpenEyesModel", "columns", "I", false)
  | 13 => ("OpenEyesModel", "rise", "I", false)
  | 14 => ("OpenEyesModel", "tall", "[I", true)
  | 15 => ("OpenEyesModel", "pairs", "[I", true)
  | 16 => ("OpenEyesModel", "pad", "[I", true)
  | 17 => ("OpenEyesModel", "padMany", "I", false)
  | 18 => ("OpenEyesModel", "cuts", "[I", true)
  | 19 => ("OpenEyesModel", "at", "[I", true)
  | 20 => ("OpenEyesModel", "first", "[I", true)
  | 21 => ("OpenEyesModel", "kept", "[I", true)
  | 22 => ("OpenEyesModel", "isKept", "[Z", true)
  | 23 => ("OpenEyesModel", "keptAt", "I", false)
  | _ => ("OpenEyesModel", "isWriting", "Z", false)
def tyX9 : Nat → FieldType := fun k => match k with
  | 0 => .int
  | 1 => .int
  | 2 => .array .int
  | 3 => .int
  | 4 => .int
  | 5 => .array .int
  | 6 => .array .int
  | 7 => .array .int
  | 8 => .int
  | 9 => .array .int
  | 10 => .int
  | 11 => .int
  | 12 => .int
  | 13 => .int
  | 14 => .array .int
  | 15 => .array .int
  | 16 => .array .int
  | 17 => .int
  | 18 => .array .int
  | 19 => .array .int
  | 20 => .array .int
  | 21 => .array .int
  | 22 => .array .boolean
  | 23 => .int
  | _ => .boolean
abbrev wsX90 : List Cond := u_ws RX9 TX9 25
theorem nmX9 : ∀ a, a < 25 → ∀ b, b < 25 → a ≠ b → (TX9 a).2.1 ≠ (TX9 b).2.1 := by decide +kernel
theorem tyX9_ok : ∀ k, k < 25 → parseFieldDescriptor (TX9 k).2.2.1 = some (tyX9 k) := by decide +kernel
abbrev cX9_init : ByteArray := prog_11_method_1_code
def yX9_init : MethodName := ⟨RX9, "<init>", "()V"⟩
abbrev cX9_in : ByteArray := prog_11_method_3_code
def yX9_in : MethodName := ⟨RX9, "in", "(JJJ)Z"⟩
abbrev cX9_ones : ByteArray := prog_11_method_4_code
def yX9_ones : MethodName := ⟨RX9, "ones", "(I)I"⟩
abbrev cX9_begin : ByteArray := prog_11_method_5_code
def yX9_begin : MethodName := ⟨RX9, "begin", "(I)V"⟩
abbrev cX9_isPerson : ByteArray := prog_11_method_6_code
def yX9_isPerson : MethodName := ⟨RX9, "isPerson", "(I)Z"⟩
abbrev cX9_people : ByteArray := prog_11_method_7_code
def yX9_people : MethodName := ⟨RX9, "people", "(I)I"⟩
abbrev cX9_bride : ByteArray := prog_11_method_8_code
def yX9_bride : MethodName := ⟨RX9, "bride", "(I)I"⟩
abbrev cX9_say : ByteArray := prog_11_method_9_code
def yX9_say : MethodName := ⟨RX9, "say", "(I)I"⟩
abbrev cX9_wipe : ByteArray := prog_11_method_10_code
def yX9_wipe : MethodName := ⟨RX9, "wipe", "()I"⟩
abbrev cX9_isLook : ByteArray := prog_11_method_11_code
def yX9_isLook : MethodName := ⟨RX9, "isLook", "(I)Z"⟩
abbrev cX9_places : ByteArray := prog_11_method_12_code
def yX9_places : MethodName := ⟨RX9, "places", "()I"⟩
abbrev cX9_faultOfShot : ByteArray := prog_11_method_13_code
def yX9_faultOfShot : MethodName := ⟨RX9, "faultOfShot", "()I"⟩
abbrev cX9_faultOfStanding : ByteArray := prog_11_method_14_code
def yX9_faultOfStanding : MethodName := ⟨RX9, "faultOfStanding", "()I"⟩
abbrev cX9_fault : ByteArray := prog_11_method_15_code
def yX9_fault : MethodName := ⟨RX9, "fault", "(I)I"⟩
abbrev cX9_shot : ByteArray := prog_11_method_16_code
def yX9_shot : MethodName := ⟨RX9, "shot", "()I"⟩
abbrev cX9_look : ByteArray := prog_11_method_17_code
def yX9_look : MethodName := ⟨RX9, "look", "(II)I"⟩
abbrev cX9_isOpen : ByteArray := prog_11_method_18_code
def yX9_isOpen : MethodName := ⟨RX9, "isOpen", "(II)Z"⟩
abbrev cX9_badIn : ByteArray := prog_11_method_19_code
def yX9_badIn : MethodName := ⟨RX9, "badIn", "(I)I"⟩
abbrev cX9_hiddenIn : ByteArray := prog_11_method_20_code
def yX9_hiddenIn : MethodName := ⟨RX9, "hiddenIn", "(I)I"⟩
abbrev cX9_single : ByteArray := prog_11_method_21_code
def yX9_single : MethodName := ⟨RX9, "single", "(I)I"⟩
abbrev cX9_openIn : ByteArray := prog_11_method_22_code
def yX9_openIn : MethodName := ⟨RX9, "openIn", "(I)I"⟩
abbrev cX9_cover : ByteArray := prog_11_method_23_code
def yX9_cover : MethodName := ⟨RX9, "cover", "()I"⟩
abbrev cX9_spoils : ByteArray := prog_11_method_24_code
def yX9_spoils : MethodName := ⟨RX9, "spoils", "(I)I"⟩
abbrev cX9_hands : ByteArray := prog_11_method_25_code
def yX9_hands : MethodName := ⟨RX9, "hands", "(I)I"⟩
abbrev cX9_cutsFrom : ByteArray := prog_11_method_26_code
def yX9_cutsFrom : MethodName := ⟨RX9, "cutsFrom", "(II)I"⟩
abbrev cX9_findCuts : ByteArray := prog_11_method_27_code
def yX9_findCuts : MethodName := ⟨RX9, "findCuts", "()V"⟩
abbrev cX9_fewestCuts : ByteArray := prog_11_method_28_code
def yX9_fewestCuts : MethodName := ⟨RX9, "fewestCuts", "()I"⟩
abbrev cX9_heads : ByteArray := prog_11_method_29_code
def yX9_heads : MethodName := ⟨RX9, "heads", "(I)I"⟩
abbrev cX9_goesOn : ByteArray := prog_11_method_30_code
def yX9_goesOn : MethodName := ⟨RX9, "goesOn", "(IIII)Z"⟩
abbrev cX9_left : ByteArray := prog_11_method_31_code
def yX9_left : MethodName := ⟨RX9, "left", "()I"⟩
abbrev cX9_fewestBad : ByteArray := prog_11_method_32_code
def yX9_fewestBad : MethodName := ⟨RX9, "fewestBad", "(II)I"⟩
abbrev cX9_blink : ByteArray := prog_11_method_33_code
def yX9_blink : MethodName := ⟨RX9, "blink", "(III)I"⟩
abbrev cX9_flash : ByteArray := prog_11_method_34_code
def yX9_flash : MethodName := ⟨RX9, "flash", "(I)I"⟩
abbrev cX9_openAt : ByteArray := prog_11_method_35_code
def yX9_openAt : MethodName := ⟨RX9, "openAt", "(I)I"⟩
abbrev cX9_open : ByteArray := prog_11_method_36_code
def yX9_open : MethodName := ⟨RX9, "open", "(I)I"⟩
abbrev cX9_fire : ByteArray := prog_11_method_37_code
def yX9_fire : MethodName := ⟨RX9, "fire", "(III)I"⟩
abbrev cX9_bad : ByteArray := prog_11_method_38_code
def yX9_bad : MethodName := ⟨RX9, "bad", "(II)I"⟩
abbrev cX9_quartersOf : ByteArray := prog_11_method_39_code
def yX9_quartersOf : MethodName := ⟨RX9, "quartersOf", "(II)I"⟩
abbrev cX9_allOpen : ByteArray := prog_11_method_40_code
def yX9_allOpen : MethodName := ⟨RX9, "allOpen", "(I)J"⟩
abbrev cX9_lowest : ByteArray := prog_11_method_41_code
def yX9_lowest : MethodName := ⟨RX9, "lowest", "(JJI)J"⟩
abbrev cX9_likely : ByteArray := prog_11_method_42_code
def yX9_likely : MethodName := ⟨RX9, "likely", "(II)J"⟩
abbrev cX9_noneOf : ByteArray := prog_11_method_43_code
def yX9_noneOf : MethodName := ⟨RX9, "noneOf", "(I)J"⟩
abbrev cX9_one : ByteArray := prog_11_method_44_code
def yX9_one : MethodName := ⟨RX9, "one", "(II)J"⟩
abbrev cX9_many : ByteArray := prog_11_method_45_code
def yX9_many : MethodName := ⟨RX9, "many", "(II)I"⟩
abbrev cX9_shoot : ByteArray := prog_11_method_46_code
def yX9_shoot : MethodName := ⟨RX9, "shoot", "(III)I"⟩
abbrev cX9_stair : ByteArray := prog_11_method_47_code
def yX9_stair : MethodName := ⟨RX9, "stair", "(II)I"⟩
abbrev cX9_tall : ByteArray := prog_11_method_48_code
def yX9_tall : MethodName := ⟨RX9, "tall", "(II)I"⟩
abbrev cX9_pair : ByteArray := prog_11_method_49_code
def yX9_pair : MethodName := ⟨RX9, "pair", "(III)I"⟩
abbrev cX9_heightOf : ByteArray := prog_11_method_50_code
def yX9_heightOf : MethodName := ⟨RX9, "heightOf", "(I)I"⟩
abbrev cX9_isHidden : ByteArray := prog_11_method_51_code
def yX9_isHidden : MethodName := ⟨RX9, "isHidden", "(II)Z"⟩
abbrev cX9_areBeside : ByteArray := prog_11_method_52_code
def yX9_areBeside : MethodName := ⟨RX9, "areBeside", "(II)Z"⟩
abbrev cX9_wrongWith : ByteArray := prog_11_method_53_code
def yX9_wrongWith : MethodName := ⟨RX9, "wrongWith", "(I)I"⟩
abbrev cX9_judge : ByteArray := prog_11_method_54_code
def yX9_judge : MethodName := ⟨RX9, "judge", "(I)I"⟩
abbrev cX9_goesWith : ByteArray := prog_11_method_55_code
def yX9_goesWith : MethodName := ⟨RX9, "goesWith", "(I)Z"⟩
abbrev cX9_findStandings : ByteArray := prog_11_method_56_code
def yX9_findStandings : MethodName := ⟨RX9, "findStandings", "()I"⟩
abbrev cX9_placed : ByteArray := prog_11_method_57_code
def yX9_placed : MethodName := ⟨RX9, "placed", "(I)I"⟩
abbrev cX9_pass : ByteArray := prog_11_method_58_code
def yX9_pass : MethodName := ⟨RX9, "pass", "(I)I"⟩
abbrev cX9_passAll : ByteArray := prog_11_method_59_code
def yX9_passAll : MethodName := ⟨RX9, "passAll", "()V"⟩
abbrev cX9_image : ByteArray := prog_11_method_60_code
def yX9_image : MethodName := ⟨RX9, "image", "(I)I"⟩
abbrev cX9_restore : ByteArray := prog_11_method_61_code
def yX9_restore : MethodName := ⟨RX9, "restore", "(I)I"⟩
abbrev cX9_told : ByteArray := prog_11_method_62_code
def yX9_told : MethodName := ⟨RX9, "told", "(I)I"⟩
def RJ6 : String := "java/lang/Integer"
def TJ6 : u_T := fun k => match k with
  | _ => ("", "", "", false)
def tyJ6 : Nat → FieldType := fun k => match k with
  | _ => .int
abbrev wsJ60 : List Cond := u_ws RJ6 TJ6 0
theorem nmJ6 : ∀ a, a < 0 → ∀ b, b < 0 → a ≠ b → (TJ6 a).2.1 ≠ (TJ6 b).2.1 := by decide +kernel
theorem tyJ6_ok : ∀ k, k < 0 → parseFieldDescriptor (TJ6 k).2.2.1 = some (tyJ6 k) := by decide +kernel
abbrev cJ6_numberOfTrailingZeros_0f7a4 : ByteArray := prog_12_method_48_code
def yJ6_numberOfTrailingZeros_0f7a4 : MethodName := ⟨RJ6, "numberOfTrailingZeros", "(I)I"⟩
abbrev cJ6_bitCount_0f7a4 : ByteArray := prog_12_method_49_code
def yJ6_bitCount_0f7a4 : MethodName := ⟨RJ6, "bitCount", "(I)I"⟩
def RJ9 : String := "java/lang/Math"
def TJ9 : u_T := fun k => match k with
  | _ => ("", "", "", false)
def tyJ9 : Nat → FieldType := fun k => match k with
  | _ => .int
abbrev wsJ90 : List Cond := u_ws RJ9 TJ9 0
theorem nmJ9 : ∀ a, a < 0 → ∀ b, b < 0 → a ≠ b → (TJ9 a).2.1 ≠ (TJ9 b).2.1 := by decide +kernel
theorem tyJ9_ok : ∀ k, k < 0 → parseFieldDescriptor (TJ9 k).2.2.1 = some (tyJ9 k) := by decide +kernel
abbrev cJ9_abs_0f7a4 : ByteArray := prog_13_method_59_code
def yJ9_abs_0f7a4 : MethodName := ⟨RJ9, "abs", "(I)I"⟩
abbrev cJ9_max_7cf53 : ByteArray := prog_13_method_65_code
def yJ9_max_7cf53 : MethodName := ⟨RJ9, "max", "(II)I"⟩
abbrev cJ9_min_7cf53 : ByteArray := prog_13_method_69_code
def yJ9_min_7cf53 : MethodName := ⟨RJ9, "min", "(II)I"⟩
def RJ10 : String := "java/lang/System"
def TJ10 : u_T := fun k => match k with
  | _ => ("", "", "", false)
def tyJ10 : Nat → FieldType := fun k => match k with
  | _ => .int
abbrev wsJ100 : List Cond := u_ws RJ10 TJ10 0
theorem nmJ10 : ∀ a, a < 0 → ∀ b, b < 0 → a ≠ b → (TJ10 a).2.1 ≠ (TJ10 b).2.1 := by decide +kernel
theorem tyJ10_ok : ∀ k, k < 0 → parseFieldDescriptor (TJ10 k).2.2.1 = some (tyJ10 k) := by decide +kernel
def RL : String := "OpenEyesLaw"
abbrev cL_law : ByteArray := code
def yL_law : MethodName := ⟨RL, "law", "([I)Z"⟩
abbrev vwCl : List vw_C := [(RX0, TX0, 2), (RX1, TX1, 2), (RX2, TX2, 2), (RX3, TX3, 2), (RX4, TX4, 4), (RX5, TX5, 6), (RX6, TX6, 4), (RX7, TX7, 6), (RX8, TX8, 6), (RX9, TX9, 25)]
end
section
def gw : List Cond := lw_tbl.filter goodWord
theorem mem_gw {w : Cond} (i : Nat) (h : lw_tbl[i]? = some w) (hg : goodWord w = true) : w ∈ gw := List.mem_filter.mpr ⟨List.mem_of_getElem? h, hg⟩
theorem sub_gw (ws : List Cond) (h : ws.all (fun w => decide (w ∈ lw_tbl) && goodWord w) = true) : ∀ w ∈ ws, w ∈ gw := by
  intro w hw
  have h1 := List.all_eq_true.mp h w hw
  simp only [Bool.and_eq_true, decide_eq_true_eq] at h1
  exact List.mem_filter.mpr ⟨h1.1, h1.2⟩
theorem gw_good {w : Cond} (h : w ∈ gw) : (w.onTables && w.keeps) = true ∨ ∃ ty, w = .arrayClass ty := good_of_word (List.mem_filter.mp h).2
theorem gw_tbl {w : Cond} (h : w ∈ gw) : w ∈ lw_tbl := (List.mem_filter.mp h).1
set_option maxRecDepth 20000 in
theorem inG0 : ∀ w ∈ wsX00, w ∈ gw := sub_gw _ (by decide +kernel)
set_option maxRecDepth 20000 in
theorem inG1 : ∀ w ∈ wsX10, w ∈ gw := sub_gw _ (by decide +kernel)
set_option maxRecDepth 20000 in
theorem inG2 : ∀ w ∈ wsX20, w ∈ gw := sub_gw _ (by decide +kernel)
set_option maxRecDepth 20000 in
theorem inG3 : ∀ w ∈ wsX30, w ∈ gw := sub_gw _ (by decide +kernel)
set_option maxRecDepth 20000 in
theorem inG4 : ∀ w ∈ wsX40, w ∈ gw := sub_gw _ (by decide +kernel)
set_option maxRecDepth 20000 in
theorem inG5 : ∀ w ∈ wsX50, w ∈ gw := sub_gw _ (by decide +kernel)
set_option maxRecDepth 20000 in
theorem inG6 : ∀ w ∈ wsX60, w ∈ gw := sub_gw _ (by decide +kernel)
set_option maxRecDepth 20000 in
theorem inG7 : ∀ w ∈ wsX70, w ∈ gw := sub_gw _ (by decide +kernel)
set_option maxRecDepth 20000 in
theorem inG8 : ∀ w ∈ wsX80, w ∈ gw := sub_gw _ (by decide +kernel)
set_option maxRecDepth 20000 in
theorem inG9 : ∀ w ∈ wsX90, w ∈ gw := sub_gw _ (by decide +kernel)
theorem tp_0 : Cond.selects RX3 yX3_faultOfLength yX3_faultOfLength ∈ gw := mem_gw 0 (by decide +kernel) (by decide +kernel)
theorem tp_1 : Cond.selects RX8 yX8_standingFault yX8_standingFault ∈ gw := mem_gw 1 (by decide +kernel) (by decide +kernel)
theorem tp_2 : Cond.selects RX6 yX6_openInSome yX6_openInSome ∈ gw := mem_gw 2 (by decide +kernel) (by decide +kernel)
theorem tp_3 : Cond.selects RX1 yX1_fillRow yX1_fillRow ∈ gw := mem_gw 3 (by decide +kernel) (by decide +kernel)
theorem tp_4 : Cond.selects RX1 yX1_cutsBehind yX1_cutsBehind ∈ gw := mem_gw 4 (by decide +kernel) (by decide +kernel)
theorem tp_5 : Cond.selects RX1 yX1_choose yX1_choose ∈ gw := mem_gw 5 (by decide +kernel) (by decide +kernel)
theorem tp_6 : Cond.selects RX1 yX1_firstLeast yX1_firstLeast ∈ gw := mem_gw 6 (by decide +kernel) (by decide +kernel)
theorem tp_7 : Cond.selects RX1 yX1_firstBehind yX1_firstBehind ∈ gw := mem_gw 7 (by decide +kernel) (by decide +kernel)
theorem tp_8 : Cond.selects RX6 yX6_fewestBad yX6_fewestBad ∈ gw := mem_gw 8 (by decide +kernel) (by decide +kernel)
theorem tp_9 : Cond.selects RX0 yX0_settingOf yX0_settingOf ∈ gw := mem_gw 9 (by decide +kernel) (by decide +kernel)
theorem tp_10 : Cond.selects RX0 yX0_isFlashed yX0_isFlashed ∈ gw := mem_gw 10 (by decide +kernel) (by decide +kernel)
theorem tp_11 : Cond.selects RX0 yX0_isShut yX0_isShut ∈ gw := mem_gw 11 (by decide +kernel) (by decide +kernel)
theorem tp_12 : Cond.selects RX2 yX2_quartersIn yX2_quartersIn ∈ gw := mem_gw 12 (by decide +kernel) (by decide +kernel)
theorem tp_13 : Cond.selects RX7 yX7_wrongBetween yX7_wrongBetween ∈ gw := mem_gw 13 (by decide +kernel) (by decide +kernel)
theorem tp_14 : Cond.selects RX7 yX7_isHidden yX7_isHidden ∈ gw := mem_gw 14 (by decide +kernel) (by decide +kernel)
theorem tp_15 : Cond.selects RX7 yX7_columnOf yX7_columnOf ∈ gw := mem_gw 15 (by decide +kernel) (by decide +kernel)
theorem tp_16 : Cond.selects RX7 yX7_rowOf yX7_rowOf ∈ gw := mem_gw 16 (by decide +kernel) (by decide +kernel)
theorem tp_17 : Cond.selects RX7 yX7_areNeighbours yX7_areNeighbours ∈ gw := mem_gw 17 (by decide +kernel) (by decide +kernel)
theorem tp_18 : Cond.selects RX4 yX4_leftBehind yX4_leftBehind ∈ gw := mem_gw 18 (by decide +kernel) (by decide +kernel)
theorem tp_19 : Cond.selects RX4 yX4_allPlaces yX4_allPlaces ∈ gw := mem_gw 19 (by decide +kernel) (by decide +kernel)
theorem tp_20 : Cond.selects RX4 yX4_noteFirst yX4_noteFirst ∈ gw := mem_gw 20 (by decide +kernel) (by decide +kernel)
theorem tp_21 : Cond.selects RX9 yX9_begin yX9_begin ∈ gw := mem_gw 21 (by decide +kernel) (by decide +kernel)
theorem tp_22 : Cond.selects RX9 yX9_isPerson yX9_isPerson ∈ gw := mem_gw 22 (by decide +kernel) (by decide +kernel)
theorem tp_23 : Cond.selects RX9 yX9_faultOfShot yX9_faultOfShot ∈ gw := mem_gw 23 (by decide +kernel) (by decide +kernel)
theorem tp_24 : Cond.selects RX9 yX9_faultOfStanding yX9_faultOfStanding ∈ gw := mem_gw 24 (by decide +kernel) (by decide +kernel)
theorem tp_25 : Cond.selects RX9 yX9_places yX9_places ∈ gw := mem_gw 25 (by decide +kernel) (by decide +kernel)
theorem tp_26 : Cond.selects RX9 yX9_badIn yX9_badIn ∈ gw := mem_gw 26 (by decide +kernel) (by decide +kernel)
theorem tp_27 : Cond.selects RX9 yX9_isOpen yX9_isOpen ∈ gw := mem_gw 27 (by decide +kernel) (by decide +kernel)
theorem tp_28 : Cond.selects RX9 yX9_hiddenIn yX9_hiddenIn ∈ gw := mem_gw 28 (by decide +kernel) (by decide +kernel)
theorem tp_29 : Cond.selects RX9 yX9_openIn yX9_openIn ∈ gw := mem_gw 29 (by decide +kernel) (by decide +kernel)
theorem tp_30 : Cond.selects RX9 yX9_findCuts yX9_findCuts ∈ gw := mem_gw 30 (by decide +kernel) (by decide +kernel)
theorem tp_31 : Cond.selects RX9 yX9_cutsFrom yX9_cutsFrom ∈ gw := mem_gw 31 (by decide +kernel) (by decide +kernel)
theorem tp_32 : Cond.selects RX9 yX9_fewestCuts yX9_fewestCuts ∈ gw := mem_gw 32 (by decide +kernel) (by decide +kernel)
theorem tp_33 : Cond.selects RX9 yX9_goesOn yX9_goesOn ∈ gw := mem_gw 33 (by decide +kernel) (by decide +kernel)
theorem tp_34 : Cond.selects RX9 yX9_fewestBad yX9_fewestBad ∈ gw := mem_gw 34 (by decide +kernel) (by decide +kernel)
theorem tp_35 : Cond.selects RX9 yX9_openAt yX9_openAt ∈ gw := mem_gw 35 (by decide +kernel) (by decide +kernel)
theorem tp_36 : Cond.selects RX9 yX9_allOpen yX9_allOpen ∈ gw := mem_gw 36 (by decide +kernel) (by decide +kernel)
theorem tp_37 : Cond.selects RX9 yX9_quartersOf yX9_quartersOf ∈ gw := mem_gw 37 (by decide +kernel) (by decide +kernel)
theorem tp_38 : Cond.selects RX9 yX9_noneOf yX9_noneOf ∈ gw := mem_gw 38 (by decide +kernel) (by decide +kernel)
theorem tp_39 : Cond.selects RX9 yX9_wrongWith yX9_wrongWith ∈ gw := mem_gw 39 (by decide +kernel) (by decide +kernel)
theorem tp_40 : Cond.selects RX9 yX9_isHidden yX9_isHidden ∈ gw := mem_gw 40 (by decide +kernel) (by decide +kernel)
theorem tp_41 : Cond.selects RX9 yX9_heightOf yX9_heightOf ∈ gw := mem_gw 41 (by decide +kernel) (by decide +kernel)
theorem tp_42 : Cond.selects RX9 yX9_areBeside yX9_areBeside ∈ gw := mem_gw 42 (by decide +kernel) (by decide +kernel)
theorem tp_43 : Cond.selects RX9 yX9_findStandings yX9_findStandings ∈ gw := mem_gw 43 (by decide +kernel) (by decide +kernel)
theorem tp_44 : Cond.selects RX9 yX9_goesWith yX9_goesWith ∈ gw := mem_gw 44 (by decide +kernel) (by decide +kernel)
theorem tp_45 : Cond.selects RX9 yX9_passAll yX9_passAll ∈ gw := mem_gw 45 (by decide +kernel) (by decide +kernel)
theorem tp_46 : Cond.selects RX9 yX9_pass yX9_pass ∈ gw := mem_gw 46 (by decide +kernel) (by decide +kernel)
theorem tw_0 : Cond.initialized RL ∈ gw := mem_gw 47 (by decide +kernel) (by decide +kernel)
theorem tw_1 : Cond.initialized RX8 ∈ gw := mem_gw 48 (by decide +kernel) (by decide +kernel)
theorem tw_2 : Cond.initialized RX3 ∈ gw := mem_gw 49 (by decide +kernel) (by decide +kernel)
theorem tw_3 : Cond.initialized RX5 ∈ gw := mem_gw 50 (by decide +kernel) (by decide +kernel)
theorem tw_4 : Cond.initialized RX6 ∈ gw := mem_gw 51 (by decide +kernel) (by decide +kernel)
theorem tw_5 : Cond.initialized RX0 ∈ gw := mem_gw 52 (by decide +kernel) (by decide +kernel)
theorem tw_6 : Cond.initialized RX2 ∈ gw := mem_gw 53 (by decide +kernel) (by decide +kernel)
theorem tw_7 : Cond.initialized RX7 ∈ gw := mem_gw 54 (by decide +kernel) (by decide +kernel)
theorem tw_8 : Cond.initialized RX1 ∈ gw := mem_gw 55 (by decide +kernel) (by decide +kernel)
theorem tw_9 : Cond.initialized RX4 ∈ gw := mem_gw 56 (by decide +kernel) (by decide +kernel)
theorem tw_10 : Cond.initialized RX9 ∈ gw := mem_gw 57 (by decide +kernel) (by decide +kernel)
theorem tw_11 : Cond.initialized RJ9 ∈ gw := mem_gw 58 (by decide +kernel) (by decide +kernel)
theorem tw_12 : Cond.initialized RJ6 ∈ gw := mem_gw 59 (by decide +kernel) (by decide +kernel)
theorem tw_13 : Cond.initialized RJ10 ∈ gw := mem_gw 60 (by decide +kernel) (by decide +kernel)
theorem tw_14 : Cond.classLink RL 7 RX8 ∈ gw := mem_gw 61 (by decide +kernel) (by decide +kernel)
theorem tw_15 : Cond.instantiable RX8 6 ∈ gw := mem_gw 62 (by decide +kernel) (by decide +kernel)
theorem tw_16 : Cond.methodLink RL 9 yX8_init ∈ gw := mem_gw 63 (by decide +kernel) (by decide +kernel)
theorem tw_17 : Cond.instanceMethod yX8_init ∈ gw := mem_gw 64 (by decide +kernel) (by decide +kernel)
theorem tw_18 : Cond.code yX8_init cX8_init 1 none ∈ gw := mem_gw 65 (by decide +kernel) (by decide +kernel)
theorem tw_19 : Cond.methodLink RX8 1 objectInit ∈ gw := mem_gw 66 (by decide +kernel) (by decide +kernel)
theorem tw_20 : Cond.instanceMethod objectInit ∈ gw := mem_gw 67 (by decide +kernel) (by decide +kernel)
theorem tw_21 : Cond.code objectInit ⟨#[0xb1]⟩ 1 none ∈ gw := mem_gw 68 (by decide +kernel) (by decide +kernel)
theorem tw_22 : Cond.classLink RX8 7 RX3 ∈ gw := mem_gw 69 (by decide +kernel) (by decide +kernel)
theorem tw_23 : Cond.instantiable RX3 2 ∈ gw := mem_gw 70 (by decide +kernel) (by decide +kernel)
theorem tw_25 : Cond.instanceMethod yX3_init ∈ gw := mem_gw 72 (by decide +kernel) (by decide +kernel)
theorem tw_26 : Cond.code yX3_init cX3_init 1 none ∈ gw := mem_gw 73 (by decide +kernel) (by decide +kernel)
theorem tw_27 : Cond.methodLink RX3 3 objectInit ∈ gw := mem_gw 74 (by decide +kernel) (by decide +kernel)
theorem tw_28 : Cond.fieldLink RX3 9 RX3 "signs" "[I" ∈ gw := mem_gw 75 (by decide +kernel) (by decide +kernel)
theorem tw_29 : Cond.fieldLink RX3 15 RX3 "count" "I" ∈ gw := mem_gw 76 (by decide +kernel) (by decide +kernel)
theorem tw_36 : Cond.arrayClass .int ∈ gw := mem_gw 83 (by decide +kernel) (by decide +kernel)
theorem tw_37 : Cond.classLink RX8 16 RX5 ∈ gw := mem_gw 84 (by decide +kernel) (by decide +kernel)
theorem tw_38 : Cond.instantiable RX5 6 ∈ gw := mem_gw 85 (by decide +kernel) (by decide +kernel)
theorem tw_40 : Cond.instanceMethod yX5_init ∈ gw := mem_gw 87 (by decide +kernel) (by decide +kernel)
theorem tw_41 : Cond.code yX5_init cX5_init 1 none ∈ gw := mem_gw 88 (by decide +kernel) (by decide +kernel)
theorem tw_42 : Cond.methodLink RX5 3 objectInit ∈ gw := mem_gw 89 (by decide +kernel) (by decide +kernel)
theorem tw_43 : Cond.classLink RX5 18 RX6 ∈ gw := mem_gw 90 (by decide +kernel) (by decide +kernel)
theorem tw_44 : Cond.instantiable RX6 4 ∈ gw := mem_gw 91 (by decide +kernel) (by decide +kernel)
theorem tw_46 : Cond.instanceMethod yX6_init ∈ gw := mem_gw 93 (by decide +kernel) (by decide +kernel)
theorem tw_47 : Cond.code yX6_init cX6_init 1 none ∈ gw := mem_gw 94 (by decide +kernel) (by decide +kernel)
theorem tw_48 : Cond.methodLink RX6 3 objectInit ∈ gw := mem_gw 95 (by decide +kernel) (by decide +kernel)
theorem tw_49 : Cond.fieldLink RX6 18 RX6 "count" "I" ∈ gw := mem_gw 96 (by decide +kernel) (by decide +kernel)
theorem tw_52 : Cond.fieldLink RX6 22 RX6 "hands" "I" ∈ gw := mem_gw 99 (by decide +kernel) (by decide +kernel)
theorem tw_54 : Cond.fieldLink RX6 9 RX6 "looks" "[I" ∈ gw := mem_gw 101 (by decide +kernel) (by decide +kernel)
theorem tw_55 : Cond.fieldLink RX6 15 RX6 "openBits" "[I" ∈ gw := mem_gw 102 (by decide +kernel) (by decide +kernel)
theorem tw_65 : Cond.classLink RX5 25 RX0 ∈ gw := mem_gw 112 (by decide +kernel) (by decide +kernel)
theorem tw_66 : Cond.instantiable RX0 2 ∈ gw := mem_gw 113 (by decide +kernel) (by decide +kernel)
theorem tw_67 : Cond.methodLink RX5 27 yX0_init ∈ gw := mem_gw 114 (by decide +kernel) (by decide +kernel)
theorem tw_68 : Cond.instanceMethod yX0_init ∈ gw := mem_gw 115 (by decide +kernel) (by decide +kernel)
theorem tw_69 : Cond.code yX0_init cX0_init 1 none ∈ gw := mem_gw 116 (by decide +kernel) (by decide +kernel)
theorem tw_70 : Cond.methodLink RX0 3 objectInit ∈ gw := mem_gw 117 (by decide +kernel) (by decide +kernel)
theorem tw_71 : Cond.methodLink RX0 19 yX0_startPeople ∈ gw := mem_gw 118 (by decide +kernel) (by decide +kernel)
theorem tw_72 : Cond.instanceMethod yX0_startPeople ∈ gw := mem_gw 119 (by decide +kernel) (by decide +kernel)
theorem tw_73 : Cond.selects RX0 yX0_startPeople yX0_startPeople ∈ gw := mem_gw 120 (by decide +kernel) (by decide +kernel)
theorem tw_74 : Cond.code yX0_startPeople cX0_startPeople 2 none ∈ gw := mem_gw 121 (by decide +kernel) (by decide +kernel)
theorem tw_75 : Cond.fieldLink RX0 9 RX0 "flash" "I" ∈ gw := mem_gw 122 (by decide +kernel) (by decide +kernel)
theorem tw_77 : Cond.fieldLink RX0 15 RX0 "settings" "[I" ∈ gw := mem_gw 124 (by decide +kernel) (by decide +kernel)
theorem tw_83 : Cond.classLink RX5 32 RX2 ∈ gw := mem_gw 130 (by decide +kernel) (by decide +kernel)
theorem tw_84 : Cond.instantiable RX2 2 ∈ gw := mem_gw 131 (by decide +kernel) (by decide +kernel)
theorem tw_85 : Cond.methodLink RX5 34 yX2_init ∈ gw := mem_gw 132 (by decide +kernel) (by decide +kernel)
theorem tw_86 : Cond.instanceMethod yX2_init ∈ gw := mem_gw 133 (by decide +kernel) (by decide +kernel)
theorem tw_87 : Cond.code yX2_init cX2_init 1 none ∈ gw := mem_gw 134 (by decide +kernel) (by decide +kernel)
theorem tw_88 : Cond.methodLink RX2 3 objectInit ∈ gw := mem_gw 135 (by decide +kernel) (by decide +kernel)
theorem tw_89 : Cond.methodLink RX2 19 yX2_startPeople ∈ gw := mem_gw 136 (by decide +kernel) (by decide +kernel)
theorem tw_90 : Cond.instanceMethod yX2_startPeople ∈ gw := mem_gw 137 (by decide +kernel) (by decide +kernel)
theorem tw_91 : Cond.selects RX2 yX2_startPeople yX2_startPeople ∈ gw := mem_gw 138 (by decide +kernel) (by decide +kernel)
theorem tw_92 : Cond.code yX2_startPeople cX2_startPeople 2 none ∈ gw := mem_gw 139 (by decide +kernel) (by decide +kernel)
theorem tw_93 : Cond.fieldLink RX2 9 RX2 "tired" "I" ∈ gw := mem_gw 140 (by decide +kernel) (by decide +kernel)
theorem tw_95 : Cond.fieldLink RX2 15 RX2 "quarters" "[I" ∈ gw := mem_gw 142 (by decide +kernel) (by decide +kernel)
theorem tw_101 : Cond.classLink RX5 39 RX7 ∈ gw := mem_gw 148 (by decide +kernel) (by decide +kernel)
theorem tw_102 : Cond.instantiable RX7 6 ∈ gw := mem_gw 149 (by decide +kernel) (by decide +kernel)
theorem tw_103 : Cond.methodLink RX5 41 yX7_init ∈ gw := mem_gw 150 (by decide +kernel) (by decide +kernel)
theorem tw_104 : Cond.instanceMethod yX7_init ∈ gw := mem_gw 151 (by decide +kernel) (by decide +kernel)
theorem tw_105 : Cond.code yX7_init cX7_init 1 none ∈ gw := mem_gw 152 (by decide +kernel) (by decide +kernel)
theorem tw_106 : Cond.methodLink RX7 3 objectInit ∈ gw := mem_gw 153 (by decide +kernel) (by decide +kernel)
theorem tw_107 : Cond.methodLink RX7 28 yX7_startPeople ∈ gw := mem_gw 154 (by decide +kernel) (by decide +kernel)
theorem tw_108 : Cond.instanceMethod yX7_startPeople ∈ gw := mem_gw 155 (by decide +kernel) (by decide +kernel)
theorem tw_109 : Cond.selects RX7 yX7_startPeople yX7_startPeople ∈ gw := mem_gw 156 (by decide +kernel) (by decide +kernel)
theorem tw_110 : Cond.code yX7_startPeople cX7_startPeople 2 none ∈ gw := mem_gw 157 (by decide +kernel) (by decide +kernel)
theorem tw_111 : Cond.fieldLink RX7 9 RX7 "rows" "I" ∈ gw := mem_gw 158 (by decide +kernel) (by decide +kernel)
theorem tw_113 : Cond.fieldLink RX7 15 RX7 "columns" "I" ∈ gw := mem_gw 160 (by decide +kernel) (by decide +kernel)
theorem tw_115 : Cond.fieldLink RX7 18 RX7 "rise" "I" ∈ gw := mem_gw 162 (by decide +kernel) (by decide +kernel)
theorem tw_117 : Cond.fieldLink RX7 21 RX7 "talls" "[I" ∈ gw := mem_gw 164 (by decide +kernel) (by decide +kernel)
theorem tw_118 : Cond.fieldLink RX7 25 RX7 "pairs" "[I" ∈ gw := mem_gw 165 (by decide +kernel) (by decide +kernel)
theorem tw_119 : Cond.fieldLink RX7 31 RX7 "changed" "Z" ∈ gw := mem_gw 166 (by decide +kernel) (by decide +kernel)
theorem tw_134 : Cond.fieldLink RX5 9 RX5 "people" "I" ∈ gw := mem_gw 181 (by decide +kernel) (by decide +kernel)
theorem tw_136 : Cond.fieldLink RX5 15 RX5 "bride" "I" ∈ gw := mem_gw 183 (by decide +kernel) (by decide +kernel)
theorem tw_138 : Cond.fieldLink RX5 21 RX5 "shots" "LOpenEyes$Shots;" ∈ gw := mem_gw 185 (by decide +kernel) (by decide +kernel)
theorem tw_140 : Cond.fieldLink RX5 28 RX5 "blinks" "LOpenEyes$Blinks;" ∈ gw := mem_gw 187 (by decide +kernel) (by decide +kernel)
theorem tw_142 : Cond.fieldLink RX5 35 RX5 "odds" "LOpenEyes$Odds;" ∈ gw := mem_gw 189 (by decide +kernel) (by decide +kernel)
theorem tw_144 : Cond.fieldLink RX5 42 RX5 "stair" "LOpenEyes$Stair;" ∈ gw := mem_gw 191 (by decide +kernel) (by decide +kernel)
theorem tq_over : Cond.arrayOver (.object RX5) ∈ lw_tbl := List.mem_of_getElem? (i := 206) (by decide +kernel)
theorem tw_160 : Cond.classLink RX8 27 RX1 ∈ gw := mem_gw 207 (by decide +kernel) (by decide +kernel)
theorem tw_161 : Cond.instantiable RX1 2 ∈ gw := mem_gw 208 (by decide +kernel) (by decide +kernel)
theorem tw_163 : Cond.instanceMethod yX1_init ∈ gw := mem_gw 210 (by decide +kernel) (by decide +kernel)
theorem tw_164 : Cond.code yX1_init cX1_init 1 none ∈ gw := mem_gw 211 (by decide +kernel) (by decide +kernel)
theorem tw_165 : Cond.methodLink RX1 3 objectInit ∈ gw := mem_gw 212 (by decide +kernel) (by decide +kernel)
theorem tw_166 : Cond.fieldLink RX1 9 RX1 "cutsFrom" "[I" ∈ gw := mem_gw 213 (by decide +kernel) (by decide +kernel)
theorem tw_167 : Cond.fieldLink RX1 15 RX1 "chosen" "[I" ∈ gw := mem_gw 214 (by decide +kernel) (by decide +kernel)
theorem tw_173 : Cond.classLink RX8 34 RX4 ∈ gw := mem_gw 220 (by decide +kernel) (by decide +kernel)
theorem tw_174 : Cond.instantiable RX4 4 ∈ gw := mem_gw 221 (by decide +kernel) (by decide +kernel)
theorem tw_176 : Cond.instanceMethod yX4_init ∈ gw := mem_gw 223 (by decide +kernel) (by decide +kernel)
theorem tw_177 : Cond.code yX4_init cX4_init 1 none ∈ gw := mem_gw 224 (by decide +kernel) (by decide +kernel)
theorem tw_178 : Cond.methodLink RX4 3 objectInit ∈ gw := mem_gw 225 (by decide +kernel) (by decide +kernel)
theorem tw_179 : Cond.fieldLink RX4 9 RX4 "leaves" "[J" ∈ gw := mem_gw 226 (by decide +kernel) (by decide +kernel)
theorem tw_180 : Cond.fieldLink RX4 15 RX4 "first" "[I" ∈ gw := mem_gw 227 (by decide +kernel) (by decide +kernel)
theorem tw_181 : Cond.fieldLink RX4 25 RX4 "people" "I" ∈ gw := mem_gw 228 (by decide +kernel) (by decide +kernel)
theorem tw_182 : Cond.fieldLink RX4 45 RX4 "count" "I" ∈ gw := mem_gw 229 (by decide +kernel) (by decide +kernel)
theorem tw_193 : Cond.arrayClass .long ∈ gw := mem_gw 240 (by decide +kernel) (by decide +kernel)
theorem tw_194 : Cond.fieldLink RX8 10 RX8 "pad" "LOpenEyes$Pad;" ∈ gw := mem_gw 241 (by decide +kernel) (by decide +kernel)
theorem tw_195 : Cond.fieldLink RX8 19 RX8 "now" "LOpenEyes$Scene;" ∈ gw := mem_gw 242 (by decide +kernel) (by decide +kernel)
theorem tw_196 : Cond.fieldLink RX8 23 RX8 "kept" "[LOpenEyes$Scene;" ∈ gw := mem_gw 243 (by decide +kernel) (by decide +kernel)
theorem tw_197 : Cond.fieldLink RX8 30 RX8 "headWork" "LOpenEyes$HeadWork;" ∈ gw := mem_gw 244 (by decide +kernel) (by decide +kernel)
theorem tw_198 : Cond.fieldLink RX8 37 RX8 "placeWork" "LOpenEyes$PlaceWork;" ∈ gw := mem_gw 245 (by decide +kernel) (by decide +kernel)
theorem tw_199 : Cond.fieldLink RX8 41 RX8 "standing" "[I" ∈ gw := mem_gw 246 (by decide +kernel) (by decide +kernel)
theorem tw_213 : Cond.methodLink RL 13 yX8_people ∈ gw := mem_gw 260 (by decide +kernel) (by decide +kernel)
theorem tw_214 : Cond.instanceMethod yX8_people ∈ gw := mem_gw 261 (by decide +kernel) (by decide +kernel)
theorem tw_215 : Cond.selects RX8 yX8_people yX8_people ∈ gw := mem_gw 262 (by decide +kernel) (by decide +kernel)
theorem tw_216 : Cond.code yX8_people cX8_people 2 (some .int) ∈ gw := mem_gw 263 (by decide +kernel) (by decide +kernel)
theorem tw_217 : Cond.methodLink RX8 45 yX8_within ∈ gw := mem_gw 264 (by decide +kernel) (by decide +kernel)
theorem tw_218 : Cond.static yX8_within ∈ gw := mem_gw 265 (by decide +kernel) (by decide +kernel)
theorem tw_219 : Cond.code yX8_within cX8_within 3 (some .boolean) ∈ gw := mem_gw 266 (by decide +kernel) (by decide +kernel)
theorem tw_220 : Cond.methodLink RX8 49 yX5_gather ∈ gw := mem_gw 267 (by decide +kernel) (by decide +kernel)
theorem tw_221 : Cond.instanceMethod yX5_gather ∈ gw := mem_gw 268 (by decide +kernel) (by decide +kernel)
theorem tw_222 : Cond.selects RX5 yX5_gather yX5_gather ∈ gw := mem_gw 269 (by decide +kernel) (by decide +kernel)
theorem tw_223 : Cond.code yX5_gather cX5_gather 3 (some .int) ∈ gw := mem_gw 270 (by decide +kernel) (by decide +kernel)
theorem tw_224 : Cond.methodLink RX5 46 yX6_startPeople ∈ gw := mem_gw 271 (by decide +kernel) (by decide +kernel)
theorem tw_225 : Cond.instanceMethod yX6_startPeople ∈ gw := mem_gw 272 (by decide +kernel) (by decide +kernel)
theorem tw_226 : Cond.selects RX6 yX6_startPeople yX6_startPeople ∈ gw := mem_gw 273 (by decide +kernel) (by decide +kernel)
theorem tw_227 : Cond.code yX6_startPeople cX6_startPeople 1 none ∈ gw := mem_gw 274 (by decide +kernel) (by decide +kernel)
theorem tw_228 : Cond.methodLink RX5 49 yX0_startPeople ∈ gw := mem_gw 275 (by decide +kernel) (by decide +kernel)
theorem tw_229 : Cond.methodLink RX5 50 yX2_startPeople ∈ gw := mem_gw 276 (by decide +kernel) (by decide +kernel)
theorem tw_230 : Cond.methodLink RX5 51 yX7_startPeople ∈ gw := mem_gw 277 (by decide +kernel) (by decide +kernel)
theorem tw_231 : Cond.methodLink RL 18 yX8_bride ∈ gw := mem_gw 278 (by decide +kernel) (by decide +kernel)
theorem tw_232 : Cond.instanceMethod yX8_bride ∈ gw := mem_gw 279 (by decide +kernel) (by decide +kernel)
theorem tw_233 : Cond.selects RX8 yX8_bride yX8_bride ∈ gw := mem_gw 280 (by decide +kernel) (by decide +kernel)
theorem tw_234 : Cond.code yX8_bride cX8_bride 3 (some .int) ∈ gw := mem_gw 281 (by decide +kernel) (by decide +kernel)
theorem tw_235 : Cond.methodLink RX8 53 yX5_has ∈ gw := mem_gw 282 (by decide +kernel) (by decide +kernel)
theorem tw_236 : Cond.instanceMethod yX5_has ∈ gw := mem_gw 283 (by decide +kernel) (by decide +kernel)
theorem tw_237 : Cond.selects RX5 yX5_has yX5_has ∈ gw := mem_gw 284 (by decide +kernel) (by decide +kernel)
theorem tw_238 : Cond.code yX5_has cX5_has 2 (some .boolean) ∈ gw := mem_gw 285 (by decide +kernel) (by decide +kernel)
theorem tw_239 : Cond.methodLink RL 22 yX8_say ∈ gw := mem_gw 286 (by decide +kernel) (by decide +kernel)
theorem tw_240 : Cond.instanceMethod yX8_say ∈ gw := mem_gw 287 (by decide +kernel) (by decide +kernel)
theorem tw_241 : Cond.selects RX8 yX8_say yX8_say ∈ gw := mem_gw 288 (by decide +kernel) (by decide +kernel)
theorem tw_242 : Cond.code yX8_say cX8_say 2 (some .int) ∈ gw := mem_gw 289 (by decide +kernel) (by decide +kernel)
theorem tw_243 : Cond.methodLink RX8 61 yX3_isFull ∈ gw := mem_gw 290 (by decide +kernel) (by decide +kernel)
theorem tw_244 : Cond.instanceMethod yX3_isFull ∈ gw := mem_gw 291 (by decide +kernel) (by decide +kernel)
theorem tw_245 : Cond.selects RX3 yX3_isFull yX3_isFull ∈ gw := mem_gw 292 (by decide +kernel) (by decide +kernel)
theorem tw_246 : Cond.code yX3_isFull cX3_isFull 1 (some .boolean) ∈ gw := mem_gw 293 (by decide +kernel) (by decide +kernel)
theorem tw_247 : Cond.methodLink RX8 65 yX3_add ∈ gw := mem_gw 294 (by decide +kernel) (by decide +kernel)
theorem tw_248 : Cond.instanceMethod yX3_add ∈ gw := mem_gw 295 (by decide +kernel) (by decide +kernel)
theorem tw_249 : Cond.selects RX3 yX3_add yX3_add ∈ gw := mem_gw 296 (by decide +kernel) (by decide +kernel)
theorem tw_250 : Cond.code yX3_add cX3_add 2 (some .int) ∈ gw := mem_gw 297 (by decide +kernel) (by decide +kernel)
theorem tw_251 : Cond.methodLink RX3 19 yX3_isFull ∈ gw := mem_gw 298 (by decide +kernel) (by decide +kernel)
theorem tw_252 : Cond.methodLink RL 26 yX8_wipe ∈ gw := mem_gw 299 (by decide +kernel) (by decide +kernel)
theorem tw_253 : Cond.instanceMethod yX8_wipe ∈ gw := mem_gw 300 (by decide +kernel) (by decide +kernel)
theorem tw_254 : Cond.selects RX8 yX8_wipe yX8_wipe ∈ gw := mem_gw 301 (by decide +kernel) (by decide +kernel)
theorem tw_255 : Cond.code yX8_wipe cX8_wipe 1 (some .int) ∈ gw := mem_gw 302 (by decide +kernel) (by decide +kernel)
theorem tw_256 : Cond.methodLink RX8 68 yX3_clear ∈ gw := mem_gw 303 (by decide +kernel) (by decide +kernel)
theorem tw_257 : Cond.instanceMethod yX3_clear ∈ gw := mem_gw 304 (by decide +kernel) (by decide +kernel)
theorem tw_258 : Cond.selects RX3 yX3_clear yX3_clear ∈ gw := mem_gw 305 (by decide +kernel) (by decide +kernel)
theorem tw_259 : Cond.code yX3_clear cX3_clear 2 (some .int) ∈ gw := mem_gw 306 (by decide +kernel) (by decide +kernel)
theorem tw_260 : Cond.methodLink RL 31 yX8_fault ∈ gw := mem_gw 307 (by decide +kernel) (by decide +kernel)
theorem tw_261 : Cond.instanceMethod yX8_fault ∈ gw := mem_gw 308 (by decide +kernel) (by decide +kernel)
theorem tw_262 : Cond.selects RX8 yX8_fault yX8_fault ∈ gw := mem_gw 309 (by decide +kernel) (by decide +kernel)
theorem tw_263 : Cond.code yX8_fault cX8_fault 2 (some .int) ∈ gw := mem_gw 310 (by decide +kernel) (by decide +kernel)
theorem tw_264 : Cond.methodLink RX8 75 yX3_faultAsShot ∈ gw := mem_gw 311 (by decide +kernel) (by decide +kernel)
theorem tw_265 : Cond.instanceMethod yX3_faultAsShot ∈ gw := mem_gw 312 (by decide +kernel) (by decide +kernel)
theorem tw_266 : Cond.selects RX3 yX3_faultAsShot yX3_faultAsShot ∈ gw := mem_gw 313 (by decide +kernel) (by decide +kernel)
theorem tw_267 : Cond.code yX3_faultAsShot cX3_faultAsShot 3 (some .int) ∈ gw := mem_gw 314 (by decide +kernel) (by decide +kernel)
theorem tw_268 : Cond.methodLink RX3 23 yX3_signAt ∈ gw := mem_gw 315 (by decide +kernel) (by decide +kernel)
theorem tw_269 : Cond.instanceMethod yX3_signAt ∈ gw := mem_gw 316 (by decide +kernel) (by decide +kernel)
theorem tw_270 : Cond.selects RX3 yX3_signAt yX3_signAt ∈ gw := mem_gw 317 (by decide +kernel) (by decide +kernel)
theorem tw_271 : Cond.code yX3_signAt cX3_signAt 2 (some .int) ∈ gw := mem_gw 318 (by decide +kernel) (by decide +kernel)
theorem tw_272 : Cond.methodLink RX3 27 yX3_isLook ∈ gw := mem_gw 319 (by decide +kernel) (by decide +kernel)
theorem tw_273 : Cond.static yX3_isLook ∈ gw := mem_gw 320 (by decide +kernel) (by decide +kernel)
theorem tw_274 : Cond.code yX3_isLook cX3_isLook 1 (some .boolean) ∈ gw := mem_gw 321 (by decide +kernel) (by decide +kernel)
theorem tw_275 : Cond.methodLink RX3 31 yX3_faultOfLength ∈ gw := mem_gw 322 (by decide +kernel) (by decide +kernel)
theorem tw_277 : Cond.instanceMethod yX3_faultOfLength ∈ gw := mem_gw 324 (by decide +kernel) (by decide +kernel)
theorem tw_278 : Cond.code yX3_faultOfLength cX3_faultOfLength 2 (some .int) ∈ gw := mem_gw 325 (by decide +kernel) (by decide +kernel)
theorem tw_279 : Cond.methodLink RX3 38 Lib.Math.min.name ∈ gw := mem_gw 326 (by decide +kernel) (by decide +kernel)
theorem tw_280 : Cond.static Lib.Math.min.name ∈ gw := mem_gw 327 (by decide +kernel) (by decide +kernel)
theorem tw_281 : Cond.code Lib.Math.min.name Lib.Math.min.code 2 (some .int) ∈ gw := mem_gw 328 (by decide +kernel) (by decide +kernel)
theorem tw_282 : Cond.methodLink RX8 78 yX8_standingFault ∈ gw := mem_gw 329 (by decide +kernel) (by decide +kernel)
theorem tw_284 : Cond.instanceMethod yX8_standingFault ∈ gw := mem_gw 331 (by decide +kernel) (by decide +kernel)
theorem tw_285 : Cond.code yX8_standingFault cX8_standingFault 1 (some .int) ∈ gw := mem_gw 332 (by decide +kernel) (by decide +kernel)
theorem tw_286 : Cond.methodLink RX8 222 yX7_places ∈ gw := mem_gw 333 (by decide +kernel) (by decide +kernel)
theorem tw_287 : Cond.instanceMethod yX7_places ∈ gw := mem_gw 334 (by decide +kernel) (by decide +kernel)
theorem tw_288 : Cond.selects RX7 yX7_places yX7_places ∈ gw := mem_gw 335 (by decide +kernel) (by decide +kernel)
theorem tw_289 : Cond.code yX7_places cX7_places 1 (some .int) ∈ gw := mem_gw 336 (by decide +kernel) (by decide +kernel)
theorem tw_290 : Cond.methodLink RX8 258 yX3_faultAsStanding ∈ gw := mem_gw 337 (by decide +kernel) (by decide +kernel)
theorem tw_291 : Cond.instanceMethod yX3_faultAsStanding ∈ gw := mem_gw 338 (by decide +kernel) (by decide +kernel)
theorem tw_292 : Cond.selects RX3 yX3_faultAsStanding yX3_faultAsStanding ∈ gw := mem_gw 339 (by decide +kernel) (by decide +kernel)
theorem tw_293 : Cond.code yX3_faultAsStanding cX3_faultAsStanding 6 (some .int) ∈ gw := mem_gw 340 (by decide +kernel) (by decide +kernel)
theorem tw_295 : Cond.methodLink RL 35 yX8_shot ∈ gw := mem_gw 342 (by decide +kernel) (by decide +kernel)
theorem tw_296 : Cond.instanceMethod yX8_shot ∈ gw := mem_gw 343 (by decide +kernel) (by decide +kernel)
theorem tw_297 : Cond.selects RX8 yX8_shot yX8_shot ∈ gw := mem_gw 344 (by decide +kernel) (by decide +kernel)
theorem tw_298 : Cond.code yX8_shot cX8_shot 2 (some .int) ∈ gw := mem_gw 345 (by decide +kernel) (by decide +kernel)
theorem tw_299 : Cond.methodLink RX8 85 yX6_isFull ∈ gw := mem_gw 346 (by decide +kernel) (by decide +kernel)
theorem tw_300 : Cond.instanceMethod yX6_isFull ∈ gw := mem_gw 347 (by decide +kernel) (by decide +kernel)
theorem tw_301 : Cond.selects RX6 yX6_isFull yX6_isFull ∈ gw := mem_gw 348 (by decide +kernel) (by decide +kernel)
theorem tw_302 : Cond.code yX6_isFull cX6_isFull 1 (some .boolean) ∈ gw := mem_gw 349 (by decide +kernel) (by decide +kernel)
theorem tw_303 : Cond.methodLink RX8 88 yX6_take ∈ gw := mem_gw 350 (by decide +kernel) (by decide +kernel)
theorem tw_304 : Cond.instanceMethod yX6_take ∈ gw := mem_gw 351 (by decide +kernel) (by decide +kernel)
theorem tw_305 : Cond.selects RX6 yX6_take yX6_take ∈ gw := mem_gw 352 (by decide +kernel) (by decide +kernel)
theorem tw_306 : Cond.code yX6_take cX6_take 6 (some .int) ∈ gw := mem_gw 353 (by decide +kernel) (by decide +kernel)
theorem tw_307 : Cond.methodLink RX6 31 yX6_isFull ∈ gw := mem_gw 354 (by decide +kernel) (by decide +kernel)
theorem tw_308 : Cond.methodLink RX6 35 yX3_signAt ∈ gw := mem_gw 355 (by decide +kernel) (by decide +kernel)
theorem tw_309 : Cond.methodLink RL 39 yX8_look ∈ gw := mem_gw 356 (by decide +kernel) (by decide +kernel)
theorem tw_310 : Cond.instanceMethod yX8_look ∈ gw := mem_gw 357 (by decide +kernel) (by decide +kernel)
theorem tw_311 : Cond.selects RX8 yX8_look yX8_look ∈ gw := mem_gw 358 (by decide +kernel) (by decide +kernel)
theorem tw_312 : Cond.code yX8_look cX8_look 3 (some .int) ∈ gw := mem_gw 359 (by decide +kernel) (by decide +kernel)
theorem tw_313 : Cond.methodLink RX8 92 yX6_has ∈ gw := mem_gw 360 (by decide +kernel) (by decide +kernel)
theorem tw_314 : Cond.instanceMethod yX6_has ∈ gw := mem_gw 361 (by decide +kernel) (by decide +kernel)
theorem tw_315 : Cond.selects RX6 yX6_has yX6_has ∈ gw := mem_gw 362 (by decide +kernel) (by decide +kernel)
theorem tw_316 : Cond.code yX6_has cX6_has 2 (some .boolean) ∈ gw := mem_gw 363 (by decide +kernel) (by decide +kernel)
theorem tw_317 : Cond.methodLink RX8 93 yX6_lookOf ∈ gw := mem_gw 364 (by decide +kernel) (by decide +kernel)
theorem tw_318 : Cond.instanceMethod yX6_lookOf ∈ gw := mem_gw 365 (by decide +kernel) (by decide +kernel)
theorem tw_319 : Cond.selects RX6 yX6_lookOf yX6_lookOf ∈ gw := mem_gw 366 (by decide +kernel) (by decide +kernel)
theorem tw_320 : Cond.code yX6_lookOf cX6_lookOf 3 (some .int) ∈ gw := mem_gw 367 (by decide +kernel) (by decide +kernel)
theorem tw_321 : Cond.methodLink RL 44 yX8_single ∈ gw := mem_gw 368 (by decide +kernel) (by decide +kernel)
theorem tw_322 : Cond.instanceMethod yX8_single ∈ gw := mem_gw 369 (by decide +kernel) (by decide +kernel)
theorem tw_323 : Cond.selects RX8 yX8_single yX8_single ∈ gw := mem_gw 370 (by decide +kernel) (by decide +kernel)
theorem tw_324 : Cond.code yX8_single cX8_single 3 (some .int) ∈ gw := mem_gw 371 (by decide +kernel) (by decide +kernel)
theorem tw_325 : Cond.methodLink RX8 97 yX6_bestSingle ∈ gw := mem_gw 372 (by decide +kernel) (by decide +kernel)
theorem tw_326 : Cond.instanceMethod yX6_bestSingle ∈ gw := mem_gw 373 (by decide +kernel) (by decide +kernel)
theorem tw_327 : Cond.selects RX6 yX6_bestSingle yX6_bestSingle ∈ gw := mem_gw 374 (by decide +kernel) (by decide +kernel)
theorem tw_328 : Cond.code yX6_bestSingle cX6_bestSingle 7 (some .int) ∈ gw := mem_gw 375 (by decide +kernel) (by decide +kernel)
theorem tw_329 : Cond.methodLink RX6 50 yX6_isOpen ∈ gw := mem_gw 376 (by decide +kernel) (by decide +kernel)
theorem tw_330 : Cond.instanceMethod yX6_isOpen ∈ gw := mem_gw 377 (by decide +kernel) (by decide +kernel)
theorem tw_331 : Cond.selects RX6 yX6_isOpen yX6_isOpen ∈ gw := mem_gw 378 (by decide +kernel) (by decide +kernel)
theorem tw_332 : Cond.code yX6_isOpen cX6_isOpen 3 (some .boolean) ∈ gw := mem_gw 379 (by decide +kernel) (by decide +kernel)
theorem tw_333 : Cond.methodLink RX6 54 yX6_badIn ∈ gw := mem_gw 380 (by decide +kernel) (by decide +kernel)
theorem tw_334 : Cond.instanceMethod yX6_badIn ∈ gw := mem_gw 381 (by decide +kernel) (by decide +kernel)
theorem tw_335 : Cond.selects RX6 yX6_badIn yX6_badIn ∈ gw := mem_gw 382 (by decide +kernel) (by decide +kernel)
theorem tw_336 : Cond.code yX6_badIn cX6_badIn 3 (some .int) ∈ gw := mem_gw 383 (by decide +kernel) (by decide +kernel)
theorem tw_337 : Cond.methodLink RX6 41 yJ6_bitCount_0f7a4 ∈ gw := mem_gw 384 (by decide +kernel) (by decide +kernel)
theorem tw_338 : Cond.static yJ6_bitCount_0f7a4 ∈ gw := mem_gw 385 (by decide +kernel) (by decide +kernel)
theorem tw_339 : Cond.code yJ6_bitCount_0f7a4 cJ6_bitCount_0f7a4 1 (some .int) ∈ gw := mem_gw 386 (by decide +kernel) (by decide +kernel)
theorem tw_340 : Cond.constant RJ6 265 (1431655765) ∈ gw := mem_gw 387 (by decide +kernel) (by decide +kernel)
theorem tw_341 : Cond.constant RJ6 266 (858993459) ∈ gw := mem_gw 388 (by decide +kernel) (by decide +kernel)
theorem tw_342 : Cond.constant RJ6 267 (252645135) ∈ gw := mem_gw 389 (by decide +kernel) (by decide +kernel)
theorem tw_343 : Cond.methodLink RX6 57 yX6_hiddenIn ∈ gw := mem_gw 390 (by decide +kernel) (by decide +kernel)
theorem tw_344 : Cond.instanceMethod yX6_hiddenIn ∈ gw := mem_gw 391 (by decide +kernel) (by decide +kernel)
theorem tw_345 : Cond.selects RX6 yX6_hiddenIn yX6_hiddenIn ∈ gw := mem_gw 392 (by decide +kernel) (by decide +kernel)
theorem tw_346 : Cond.code yX6_hiddenIn cX6_hiddenIn 5 (some .int) ∈ gw := mem_gw 393 (by decide +kernel) (by decide +kernel)
theorem tw_347 : Cond.methodLink RX6 46 yX6_lookOf ∈ gw := mem_gw 394 (by decide +kernel) (by decide +kernel)
theorem tw_348 : Cond.methodLink RX8 100 yX5_everybody ∈ gw := mem_gw 395 (by decide +kernel) (by decide +kernel)
theorem tw_349 : Cond.instanceMethod yX5_everybody ∈ gw := mem_gw 396 (by decide +kernel) (by decide +kernel)
theorem tw_350 : Cond.selects RX5 yX5_everybody yX5_everybody ∈ gw := mem_gw 397 (by decide +kernel) (by decide +kernel)
theorem tw_351 : Cond.code yX5_everybody cX5_everybody 1 (some .int) ∈ gw := mem_gw 398 (by decide +kernel) (by decide +kernel)
theorem tw_352 : Cond.methodLink RX8 103 yX6_badIn ∈ gw := mem_gw 399 (by decide +kernel) (by decide +kernel)
theorem tw_353 : Cond.methodLink RL 48 yX8_cover ∈ gw := mem_gw 400 (by decide +kernel) (by decide +kernel)
theorem tw_354 : Cond.instanceMethod yX8_cover ∈ gw := mem_gw 401 (by decide +kernel) (by decide +kernel)
theorem tw_355 : Cond.selects RX8 yX8_cover yX8_cover ∈ gw := mem_gw 402 (by decide +kernel) (by decide +kernel)
theorem tw_356 : Cond.code yX8_cover cX8_cover 1 (some .int) ∈ gw := mem_gw 403 (by decide +kernel) (by decide +kernel)
theorem tw_357 : Cond.methodLink RX8 106 yX6_leastCover ∈ gw := mem_gw 404 (by decide +kernel) (by decide +kernel)
theorem tw_358 : Cond.instanceMethod yX6_leastCover ∈ gw := mem_gw 405 (by decide +kernel) (by decide +kernel)
theorem tw_359 : Cond.selects RX6 yX6_leastCover yX6_leastCover ∈ gw := mem_gw 406 (by decide +kernel) (by decide +kernel)
theorem tw_360 : Cond.code yX6_leastCover cX6_leastCover 6 (some .int) ∈ gw := mem_gw 407 (by decide +kernel) (by decide +kernel)
theorem tw_361 : Cond.methodLink RX6 60 yX6_openInSome ∈ gw := mem_gw 408 (by decide +kernel) (by decide +kernel)
theorem tw_363 : Cond.instanceMethod yX6_openInSome ∈ gw := mem_gw 410 (by decide +kernel) (by decide +kernel)
theorem tw_364 : Cond.code yX6_openInSome cX6_openInSome 4 (some .int) ∈ gw := mem_gw 411 (by decide +kernel) (by decide +kernel)
theorem tw_365 : Cond.methodLink RL 52 yX8_spoils ∈ gw := mem_gw 412 (by decide +kernel) (by decide +kernel)
theorem tw_366 : Cond.instanceMethod yX8_spoils ∈ gw := mem_gw 413 (by decide +kernel) (by decide +kernel)
theorem tw_367 : Cond.selects RX8 yX8_spoils yX8_spoils ∈ gw := mem_gw 414 (by decide +kernel) (by decide +kernel)
theorem tw_368 : Cond.code yX8_spoils cX8_spoils 3 (some .int) ∈ gw := mem_gw 415 (by decide +kernel) (by decide +kernel)
theorem tw_369 : Cond.methodLink RX8 109 yX6_worstPerson ∈ gw := mem_gw 416 (by decide +kernel) (by decide +kernel)
theorem tw_370 : Cond.instanceMethod yX6_worstPerson ∈ gw := mem_gw 417 (by decide +kernel) (by decide +kernel)
theorem tw_371 : Cond.selects RX6 yX6_worstPerson yX6_worstPerson ∈ gw := mem_gw 418 (by decide +kernel) (by decide +kernel)
theorem tw_372 : Cond.code yX6_worstPerson cX6_worstPerson 6 (some .int) ∈ gw := mem_gw 419 (by decide +kernel) (by decide +kernel)
theorem tw_373 : Cond.methodLink RX6 63 yX6_timesBad ∈ gw := mem_gw 420 (by decide +kernel) (by decide +kernel)
theorem tw_374 : Cond.instanceMethod yX6_timesBad ∈ gw := mem_gw 421 (by decide +kernel) (by decide +kernel)
theorem tw_375 : Cond.selects RX6 yX6_timesBad yX6_timesBad ∈ gw := mem_gw 422 (by decide +kernel) (by decide +kernel)
theorem tw_376 : Cond.code yX6_timesBad cX6_timesBad 4 (some .int) ∈ gw := mem_gw 423 (by decide +kernel) (by decide +kernel)
theorem tw_377 : Cond.methodLink RX8 112 yX6_timesBad ∈ gw := mem_gw 424 (by decide +kernel) (by decide +kernel)
theorem tw_378 : Cond.methodLink RL 56 yX8_hands ∈ gw := mem_gw 425 (by decide +kernel) (by decide +kernel)
theorem tw_379 : Cond.instanceMethod yX8_hands ∈ gw := mem_gw 426 (by decide +kernel) (by decide +kernel)
theorem tw_380 : Cond.selects RX8 yX8_hands yX8_hands ∈ gw := mem_gw 427 (by decide +kernel) (by decide +kernel)
theorem tw_381 : Cond.code yX8_hands cX8_hands 3 (some .int) ∈ gw := mem_gw 428 (by decide +kernel) (by decide +kernel)
theorem tw_382 : Cond.methodLink RL 60 yX8_heads ∈ gw := mem_gw 429 (by decide +kernel) (by decide +kernel)
theorem tw_383 : Cond.instanceMethod yX8_heads ∈ gw := mem_gw 430 (by decide +kernel) (by decide +kernel)
theorem tw_384 : Cond.selects RX8 yX8_heads yX8_heads ∈ gw := mem_gw 431 (by decide +kernel) (by decide +kernel)
theorem tw_385 : Cond.code yX8_heads cX8_heads 3 (some .int) ∈ gw := mem_gw 432 (by decide +kernel) (by decide +kernel)
theorem tw_386 : Cond.methodLink RX8 118 yX1_solve ∈ gw := mem_gw 433 (by decide +kernel) (by decide +kernel)
theorem tw_387 : Cond.instanceMethod yX1_solve ∈ gw := mem_gw 434 (by decide +kernel) (by decide +kernel)
theorem tw_388 : Cond.selects RX1 yX1_solve yX1_solve ∈ gw := mem_gw 435 (by decide +kernel) (by decide +kernel)
theorem tw_389 : Cond.code yX1_solve cX1_solve 5 (some .int) ∈ gw := mem_gw 436 (by decide +kernel) (by decide +kernel)
theorem tw_390 : Cond.methodLink RX1 18 yX1_fillRow ∈ gw := mem_gw 437 (by decide +kernel) (by decide +kernel)
theorem tw_392 : Cond.instanceMethod yX1_fillRow ∈ gw := mem_gw 439 (by decide +kernel) (by decide +kernel)
theorem tw_393 : Cond.code yX1_fillRow cX1_fillRow 8 (some .int) ∈ gw := mem_gw 440 (by decide +kernel) (by decide +kernel)
theorem tw_394 : Cond.methodLink RX1 32 yX6_isOpen ∈ gw := mem_gw 441 (by decide +kernel) (by decide +kernel)
theorem tw_395 : Cond.methodLink RX1 36 yX1_cutsBehind ∈ gw := mem_gw 442 (by decide +kernel) (by decide +kernel)
theorem tw_397 : Cond.instanceMethod yX1_cutsBehind ∈ gw := mem_gw 444 (by decide +kernel) (by decide +kernel)
theorem tw_398 : Cond.code yX1_cutsBehind cX1_cutsBehind 6 (some .int) ∈ gw := mem_gw 445 (by decide +kernel) (by decide +kernel)
theorem tw_399 : Cond.methodLink RX1 46 yX6_holdHands ∈ gw := mem_gw 446 (by decide +kernel) (by decide +kernel)
theorem tw_400 : Cond.instanceMethod yX6_holdHands ∈ gw := mem_gw 447 (by decide +kernel) (by decide +kernel)
theorem tw_401 : Cond.selects RX6 yX6_holdHands yX6_holdHands ∈ gw := mem_gw 448 (by decide +kernel) (by decide +kernel)
theorem tw_402 : Cond.code yX6_holdHands cX6_holdHands 2 (some .boolean) ∈ gw := mem_gw 449 (by decide +kernel) (by decide +kernel)
theorem tw_403 : Cond.methodLink RX1 40 Lib.Math.min.name ∈ gw := mem_gw 450 (by decide +kernel) (by decide +kernel)
theorem tw_404 : Cond.methodLink RX1 22 yX1_choose ∈ gw := mem_gw 451 (by decide +kernel) (by decide +kernel)
theorem tw_406 : Cond.instanceMethod yX1_choose ∈ gw := mem_gw 453 (by decide +kernel) (by decide +kernel)
theorem tw_407 : Cond.code yX1_choose cX1_choose 4 none ∈ gw := mem_gw 454 (by decide +kernel) (by decide +kernel)
theorem tw_408 : Cond.methodLink RX1 50 yX1_firstLeast ∈ gw := mem_gw 455 (by decide +kernel) (by decide +kernel)
theorem tw_410 : Cond.instanceMethod yX1_firstLeast ∈ gw := mem_gw 457 (by decide +kernel) (by decide +kernel)
theorem tw_411 : Cond.code yX1_firstLeast cX1_firstLeast 4 (some .int) ∈ gw := mem_gw 458 (by decide +kernel) (by decide +kernel)
theorem tw_412 : Cond.methodLink RX1 54 yX1_firstBehind ∈ gw := mem_gw 459 (by decide +kernel) (by decide +kernel)
theorem tw_414 : Cond.instanceMethod yX1_firstBehind ∈ gw := mem_gw 461 (by decide +kernel) (by decide +kernel)
theorem tw_415 : Cond.code yX1_firstBehind cX1_firstBehind 7 (some .int) ∈ gw := mem_gw 462 (by decide +kernel) (by decide +kernel)
theorem tw_416 : Cond.methodLink RX8 122 yX1_shotOf ∈ gw := mem_gw 463 (by decide +kernel) (by decide +kernel)
theorem tw_417 : Cond.instanceMethod yX1_shotOf ∈ gw := mem_gw 464 (by decide +kernel) (by decide +kernel)
theorem tw_418 : Cond.selects RX1 yX1_shotOf yX1_shotOf ∈ gw := mem_gw 465 (by decide +kernel) (by decide +kernel)
theorem tw_419 : Cond.code yX1_shotOf cX1_shotOf 2 (some .int) ∈ gw := mem_gw 466 (by decide +kernel) (by decide +kernel)
theorem tw_420 : Cond.methodLink RL 64 yX8_left ∈ gw := mem_gw 467 (by decide +kernel) (by decide +kernel)
theorem tw_421 : Cond.instanceMethod yX8_left ∈ gw := mem_gw 468 (by decide +kernel) (by decide +kernel)
theorem tw_422 : Cond.selects RX8 yX8_left yX8_left ∈ gw := mem_gw 469 (by decide +kernel) (by decide +kernel)
theorem tw_423 : Cond.code yX8_left cX8_left 1 (some .int) ∈ gw := mem_gw 470 (by decide +kernel) (by decide +kernel)
theorem tw_424 : Cond.methodLink RX8 125 yX6_fewestLeft ∈ gw := mem_gw 471 (by decide +kernel) (by decide +kernel)
theorem tw_425 : Cond.instanceMethod yX6_fewestLeft ∈ gw := mem_gw 472 (by decide +kernel) (by decide +kernel)
theorem tw_426 : Cond.selects RX6 yX6_fewestLeft yX6_fewestLeft ∈ gw := mem_gw 473 (by decide +kernel) (by decide +kernel)
theorem tw_427 : Cond.code yX6_fewestLeft cX6_fewestLeft 5 (some .int) ∈ gw := mem_gw 474 (by decide +kernel) (by decide +kernel)
theorem tw_428 : Cond.methodLink RX6 66 yX6_holdHands ∈ gw := mem_gw 475 (by decide +kernel) (by decide +kernel)
theorem tw_429 : Cond.methodLink RX6 70 yX6_fewestBad ∈ gw := mem_gw 476 (by decide +kernel) (by decide +kernel)
theorem tw_431 : Cond.instanceMethod yX6_fewestBad ∈ gw := mem_gw 478 (by decide +kernel) (by decide +kernel)
theorem tw_432 : Cond.code yX6_fewestBad cX6_fewestBad 4 (some .int) ∈ gw := mem_gw 479 (by decide +kernel) (by decide +kernel)
theorem tw_433 : Cond.methodLink RX6 73 Lib.Math.min.name ∈ gw := mem_gw 480 (by decide +kernel) (by decide +kernel)
theorem tw_434 : Cond.methodLink RL 68 yX8_blink ∈ gw := mem_gw 481 (by decide +kernel) (by decide +kernel)
theorem tw_435 : Cond.instanceMethod yX8_blink ∈ gw := mem_gw 482 (by decide +kernel) (by decide +kernel)
theorem tw_436 : Cond.selects RX8 yX8_blink yX8_blink ∈ gw := mem_gw 483 (by decide +kernel) (by decide +kernel)
theorem tw_437 : Cond.code yX8_blink cX8_blink 4 (some .int) ∈ gw := mem_gw 484 (by decide +kernel) (by decide +kernel)
theorem tw_438 : Cond.methodLink RX8 132 yX0_fits ∈ gw := mem_gw 485 (by decide +kernel) (by decide +kernel)
theorem tw_439 : Cond.instanceMethod yX0_fits ∈ gw := mem_gw 486 (by decide +kernel) (by decide +kernel)
theorem tw_440 : Cond.selects RX0 yX0_fits yX0_fits ∈ gw := mem_gw 487 (by decide +kernel) (by decide +kernel)
theorem tw_441 : Cond.code yX0_fits cX0_fits 4 (some .boolean) ∈ gw := mem_gw 488 (by decide +kernel) (by decide +kernel)
theorem tw_442 : Cond.methodLink RX0 28 yX0_settingOf ∈ gw := mem_gw 489 (by decide +kernel) (by decide +kernel)
theorem tw_444 : Cond.instanceMethod yX0_settingOf ∈ gw := mem_gw 491 (by decide +kernel) (by decide +kernel)
theorem tw_445 : Cond.code yX0_settingOf cX0_settingOf 3 (some .int) ∈ gw := mem_gw 492 (by decide +kernel) (by decide +kernel)
theorem tw_446 : Cond.methodLink RX0 32 Lib.Math.max.name ∈ gw := mem_gw 493 (by decide +kernel) (by decide +kernel)
theorem tw_447 : Cond.static Lib.Math.max.name ∈ gw := mem_gw 494 (by decide +kernel) (by decide +kernel)
theorem tw_448 : Cond.code Lib.Math.max.name Lib.Math.max.code 2 (some .int) ∈ gw := mem_gw 495 (by decide +kernel) (by decide +kernel)
theorem tw_450 : Cond.methodLink RX8 137 yX0_change ∈ gw := mem_gw 497 (by decide +kernel) (by decide +kernel)
theorem tw_451 : Cond.instanceMethod yX0_change ∈ gw := mem_gw 498 (by decide +kernel) (by decide +kernel)
theorem tw_452 : Cond.selects RX0 yX0_change yX0_change ∈ gw := mem_gw 499 (by decide +kernel) (by decide +kernel)
theorem tw_453 : Cond.code yX0_change cX0_change 5 (some .int) ∈ gw := mem_gw 500 (by decide +kernel) (by decide +kernel)
theorem tw_454 : Cond.methodLink RL 73 yX8_flash ∈ gw := mem_gw 501 (by decide +kernel) (by decide +kernel)
theorem tw_455 : Cond.instanceMethod yX8_flash ∈ gw := mem_gw 502 (by decide +kernel) (by decide +kernel)
theorem tw_456 : Cond.selects RX8 yX8_flash yX8_flash ∈ gw := mem_gw 503 (by decide +kernel) (by decide +kernel)
theorem tw_457 : Cond.code yX8_flash cX8_flash 3 (some .int) ∈ gw := mem_gw 504 (by decide +kernel) (by decide +kernel)
theorem tw_458 : Cond.methodLink RL 77 yX8_open ∈ gw := mem_gw 505 (by decide +kernel) (by decide +kernel)
theorem tw_459 : Cond.instanceMethod yX8_open ∈ gw := mem_gw 506 (by decide +kernel) (by decide +kernel)
theorem tw_460 : Cond.selects RX8 yX8_open yX8_open ∈ gw := mem_gw 507 (by decide +kernel) (by decide +kernel)
theorem tw_461 : Cond.code yX8_open cX8_open 2 (some .int) ∈ gw := mem_gw 508 (by decide +kernel) (by decide +kernel)
theorem tw_462 : Cond.methodLink RX8 144 yX0_openAt ∈ gw := mem_gw 509 (by decide +kernel) (by decide +kernel)
theorem tw_463 : Cond.instanceMethod yX0_openAt ∈ gw := mem_gw 510 (by decide +kernel) (by decide +kernel)
theorem tw_464 : Cond.selects RX0 yX0_openAt yX0_openAt ∈ gw := mem_gw 511 (by decide +kernel) (by decide +kernel)
theorem tw_465 : Cond.code yX0_openAt cX0_openAt 5 (some .int) ∈ gw := mem_gw 512 (by decide +kernel) (by decide +kernel)
theorem tw_466 : Cond.methodLink RX0 41 yX0_isFlashed ∈ gw := mem_gw 513 (by decide +kernel) (by decide +kernel)
theorem tw_468 : Cond.instanceMethod yX0_isFlashed ∈ gw := mem_gw 515 (by decide +kernel) (by decide +kernel)
theorem tw_469 : Cond.code yX0_isFlashed cX0_isFlashed 2 (some .boolean) ∈ gw := mem_gw 516 (by decide +kernel) (by decide +kernel)
theorem tw_470 : Cond.methodLink RX0 45 yX0_isShut ∈ gw := mem_gw 517 (by decide +kernel) (by decide +kernel)
theorem tw_472 : Cond.instanceMethod yX0_isShut ∈ gw := mem_gw 519 (by decide +kernel) (by decide +kernel)
theorem tw_473 : Cond.code yX0_isShut cX0_isShut 4 (some .boolean) ∈ gw := mem_gw 520 (by decide +kernel) (by decide +kernel)
theorem tw_474 : Cond.methodLink RL 81 yX8_fire ∈ gw := mem_gw 521 (by decide +kernel) (by decide +kernel)
theorem tw_475 : Cond.instanceMethod yX8_fire ∈ gw := mem_gw 522 (by decide +kernel) (by decide +kernel)
theorem tw_476 : Cond.selects RX8 yX8_fire yX8_fire ∈ gw := mem_gw 523 (by decide +kernel) (by decide +kernel)
theorem tw_477 : Cond.code yX8_fire cX8_fire 5 (some .int) ∈ gw := mem_gw 524 (by decide +kernel) (by decide +kernel)
theorem tw_478 : Cond.methodLink RX8 147 yX0_tenthsOfAll ∈ gw := mem_gw 525 (by decide +kernel) (by decide +kernel)
theorem tw_479 : Cond.instanceMethod yX0_tenthsOfAll ∈ gw := mem_gw 526 (by decide +kernel) (by decide +kernel)
theorem tw_480 : Cond.selects RX0 yX0_tenthsOfAll yX0_tenthsOfAll ∈ gw := mem_gw 527 (by decide +kernel) (by decide +kernel)
theorem tw_481 : Cond.code yX0_tenthsOfAll cX0_tenthsOfAll 7 (some .int) ∈ gw := mem_gw 528 (by decide +kernel) (by decide +kernel)
theorem tw_482 : Cond.methodLink RX0 49 yX0_openAt ∈ gw := mem_gw 529 (by decide +kernel) (by decide +kernel)
theorem tw_483 : Cond.methodLink RX8 150 yX0_bestTenth ∈ gw := mem_gw 530 (by decide +kernel) (by decide +kernel)
theorem tw_484 : Cond.instanceMethod yX0_bestTenth ∈ gw := mem_gw 531 (by decide +kernel) (by decide +kernel)
theorem tw_485 : Cond.selects RX0 yX0_bestTenth yX0_bestTenth ∈ gw := mem_gw 532 (by decide +kernel) (by decide +kernel)
theorem tw_486 : Cond.code yX0_bestTenth cX0_bestTenth 8 (some .int) ∈ gw := mem_gw 533 (by decide +kernel) (by decide +kernel)
theorem tw_487 : Cond.methodLink RX0 52 yJ6_bitCount_0f7a4 ∈ gw := mem_gw 534 (by decide +kernel) (by decide +kernel)
theorem tw_488 : Cond.methodLink RX8 153 yJ6_bitCount_0f7a4 ∈ gw := mem_gw 535 (by decide +kernel) (by decide +kernel)
theorem tw_489 : Cond.methodLink RL 85 yX8_bad ∈ gw := mem_gw 536 (by decide +kernel) (by decide +kernel)
theorem tw_490 : Cond.instanceMethod yX8_bad ∈ gw := mem_gw 537 (by decide +kernel) (by decide +kernel)
theorem tw_491 : Cond.selects RX8 yX8_bad yX8_bad ∈ gw := mem_gw 538 (by decide +kernel) (by decide +kernel)
theorem tw_492 : Cond.code yX8_bad cX8_bad 3 (some .int) ∈ gw := mem_gw 539 (by decide +kernel) (by decide +kernel)
theorem tw_493 : Cond.methodLink RX8 162 yX2_changeTired ∈ gw := mem_gw 540 (by decide +kernel) (by decide +kernel)
theorem tw_494 : Cond.instanceMethod yX2_changeTired ∈ gw := mem_gw 541 (by decide +kernel) (by decide +kernel)
theorem tw_495 : Cond.selects RX2 yX2_changeTired yX2_changeTired ∈ gw := mem_gw 542 (by decide +kernel) (by decide +kernel)
theorem tw_496 : Cond.code yX2_changeTired cX2_changeTired 3 (some .int) ∈ gw := mem_gw 543 (by decide +kernel) (by decide +kernel)
theorem tw_497 : Cond.methodLink RX8 167 yX2_changeQuarters ∈ gw := mem_gw 544 (by decide +kernel) (by decide +kernel)
theorem tw_498 : Cond.instanceMethod yX2_changeQuarters ∈ gw := mem_gw 545 (by decide +kernel) (by decide +kernel)
theorem tw_499 : Cond.selects RX2 yX2_changeQuarters yX2_changeQuarters ∈ gw := mem_gw 546 (by decide +kernel) (by decide +kernel)
theorem tw_500 : Cond.code yX2_changeQuarters cX2_changeQuarters 4 (some .int) ∈ gw := mem_gw 547 (by decide +kernel) (by decide +kernel)
theorem tw_501 : Cond.methodLink RL 89 yX8_likely ∈ gw := mem_gw 548 (by decide +kernel) (by decide +kernel)
theorem tw_502 : Cond.instanceMethod yX8_likely ∈ gw := mem_gw 549 (by decide +kernel) (by decide +kernel)
theorem tw_503 : Cond.selects RX8 yX8_likely yX8_likely ∈ gw := mem_gw 550 (by decide +kernel) (by decide +kernel)
theorem tw_504 : Cond.code yX8_likely cX8_likely 3 (some .long) ∈ gw := mem_gw 551 (by decide +kernel) (by decide +kernel)
theorem tw_505 : Cond.constantLong RX8 170 (-1000000000000000002) ∈ gw := mem_gw 552 (by decide +kernel) (by decide +kernel)
theorem tw_506 : Cond.methodLink RX8 172 yX2_waysAllOpen ∈ gw := mem_gw 553 (by decide +kernel) (by decide +kernel)
theorem tw_507 : Cond.instanceMethod yX2_waysAllOpen ∈ gw := mem_gw 554 (by decide +kernel) (by decide +kernel)
theorem tw_508 : Cond.selects RX2 yX2_waysAllOpen yX2_waysAllOpen ∈ gw := mem_gw 555 (by decide +kernel) (by decide +kernel)
theorem tw_509 : Cond.code yX2_waysAllOpen cX2_waysAllOpen 6 (some .long) ∈ gw := mem_gw 556 (by decide +kernel) (by decide +kernel)
theorem tw_510 : Cond.methodLink RX2 34 yX2_quartersIn ∈ gw := mem_gw 557 (by decide +kernel) (by decide +kernel)
theorem tw_512 : Cond.instanceMethod yX2_quartersIn ∈ gw := mem_gw 559 (by decide +kernel) (by decide +kernel)
theorem tw_513 : Cond.code yX2_quartersIn cX2_quartersIn 3 (some .int) ∈ gw := mem_gw 560 (by decide +kernel) (by decide +kernel)
theorem tw_514 : Cond.methodLink RX2 28 Lib.Math.min.name ∈ gw := mem_gw 561 (by decide +kernel) (by decide +kernel)
theorem tw_515 : Cond.methodLink RX8 176 yX2_waysOf ∈ gw := mem_gw 562 (by decide +kernel) (by decide +kernel)
theorem tw_516 : Cond.static yX2_waysOf ∈ gw := mem_gw 563 (by decide +kernel) (by decide +kernel)
theorem tw_517 : Cond.code yX2_waysOf cX2_waysOf 2 (some .long) ∈ gw := mem_gw 564 (by decide +kernel) (by decide +kernel)
theorem tw_518 : Cond.methodLink RX8 179 yX8_lowest ∈ gw := mem_gw 565 (by decide +kernel) (by decide +kernel)
theorem tw_519 : Cond.static yX8_lowest ∈ gw := mem_gw 566 (by decide +kernel) (by decide +kernel)
theorem tw_520 : Cond.code yX8_lowest cX8_lowest 10 (some .long) ∈ gw := mem_gw 567 (by decide +kernel) (by decide +kernel)
theorem tw_521 : Cond.constantLong RX8 261 (2) ∈ gw := mem_gw 568 (by decide +kernel) (by decide +kernel)
theorem tw_522 : Cond.methodLink RL 94 yX8_one ∈ gw := mem_gw 569 (by decide +kernel) (by decide +kernel)
theorem tw_523 : Cond.instanceMethod yX8_one ∈ gw := mem_gw 570 (by decide +kernel) (by decide +kernel)
theorem tw_524 : Cond.selects RX8 yX8_one yX8_one ∈ gw := mem_gw 571 (by decide +kernel) (by decide +kernel)
theorem tw_525 : Cond.code yX8_one cX8_one 3 (some .long) ∈ gw := mem_gw 572 (by decide +kernel) (by decide +kernel)
theorem tw_526 : Cond.methodLink RX8 183 yX2_waysOneOf ∈ gw := mem_gw 573 (by decide +kernel) (by decide +kernel)
theorem tw_527 : Cond.instanceMethod yX2_waysOneOf ∈ gw := mem_gw 574 (by decide +kernel) (by decide +kernel)
theorem tw_528 : Cond.selects RX2 yX2_waysOneOf yX2_waysOneOf ∈ gw := mem_gw 575 (by decide +kernel) (by decide +kernel)
theorem tw_529 : Cond.code yX2_waysOneOf cX2_waysOneOf 6 (some .long) ∈ gw := mem_gw 576 (by decide +kernel) (by decide +kernel)
theorem tw_530 : Cond.methodLink RX2 37 yX2_waysOf ∈ gw := mem_gw 577 (by decide +kernel) (by decide +kernel)
theorem tw_531 : Cond.methodLink RX2 41 yX2_waysAllOpen ∈ gw := mem_gw 578 (by decide +kernel) (by decide +kernel)
theorem tw_532 : Cond.methodLink RL 98 yX8_many ∈ gw := mem_gw 579 (by decide +kernel) (by decide +kernel)
theorem tw_533 : Cond.instanceMethod yX8_many ∈ gw := mem_gw 580 (by decide +kernel) (by decide +kernel)
theorem tw_534 : Cond.selects RX8 yX8_many yX8_many ∈ gw := mem_gw 581 (by decide +kernel) (by decide +kernel)
theorem tw_535 : Cond.code yX8_many cX8_many 4 (some .int) ∈ gw := mem_gw 582 (by decide +kernel) (by decide +kernel)
theorem tw_536 : Cond.methodLink RL 102 yX8_shoot ∈ gw := mem_gw 583 (by decide +kernel) (by decide +kernel)
theorem tw_537 : Cond.instanceMethod yX8_shoot ∈ gw := mem_gw 584 (by decide +kernel) (by decide +kernel)
theorem tw_538 : Cond.selects RX8 yX8_shoot yX8_shoot ∈ gw := mem_gw 585 (by decide +kernel) (by decide +kernel)
theorem tw_539 : Cond.code yX8_shoot cX8_shoot 5 (some .int) ∈ gw := mem_gw 586 (by decide +kernel) (by decide +kernel)
theorem tw_540 : Cond.methodLink RX8 186 yX2_drawShots ∈ gw := mem_gw 587 (by decide +kernel) (by decide +kernel)
theorem tw_541 : Cond.instanceMethod yX2_drawShots ∈ gw := mem_gw 588 (by decide +kernel) (by decide +kernel)
theorem tw_542 : Cond.selects RX2 yX2_drawShots yX2_drawShots ∈ gw := mem_gw 589 (by decide +kernel) (by decide +kernel)
theorem tw_543 : Cond.code yX2_drawShots cX2_drawShots 9 (some .int) ∈ gw := mem_gw 590 (by decide +kernel) (by decide +kernel)
theorem tw_544 : Cond.constant RX2 44 (65537) ∈ gw := mem_gw 591 (by decide +kernel) (by decide +kernel)
theorem tw_545 : Cond.methodLink RX8 189 yJ6_numberOfTrailingZeros_0f7a4 ∈ gw := mem_gw 592 (by decide +kernel) (by decide +kernel)
theorem tw_546 : Cond.static yJ6_numberOfTrailingZeros_0f7a4 ∈ gw := mem_gw 593 (by decide +kernel) (by decide +kernel)
theorem tw_547 : Cond.code yJ6_numberOfTrailingZeros_0f7a4 cJ6_numberOfTrailingZeros_0f7a4 2 (some .int) ∈ gw := mem_gw 594 (by decide +kernel) (by decide +kernel)
theorem tw_548 : Cond.constant RJ6 264 (65536) ∈ gw := mem_gw 595 (by decide +kernel) (by decide +kernel)
theorem tw_549 : Cond.methodLink RL 106 yX8_stair ∈ gw := mem_gw 596 (by decide +kernel) (by decide +kernel)
theorem tw_550 : Cond.instanceMethod yX8_stair ∈ gw := mem_gw 597 (by decide +kernel) (by decide +kernel)
theorem tw_551 : Cond.selects RX8 yX8_stair yX8_stair ∈ gw := mem_gw 598 (by decide +kernel) (by decide +kernel)
theorem tw_552 : Cond.code yX8_stair cX8_stair 3 (some .int) ∈ gw := mem_gw 599 (by decide +kernel) (by decide +kernel)
theorem tw_553 : Cond.methodLink RX8 196 yX7_build ∈ gw := mem_gw 600 (by decide +kernel) (by decide +kernel)
theorem tw_554 : Cond.instanceMethod yX7_build ∈ gw := mem_gw 601 (by decide +kernel) (by decide +kernel)
theorem tw_555 : Cond.selects RX7 yX7_build yX7_build ∈ gw := mem_gw 602 (by decide +kernel) (by decide +kernel)
theorem tw_556 : Cond.code yX7_build cX7_build 3 (some .int) ∈ gw := mem_gw 603 (by decide +kernel) (by decide +kernel)
theorem tw_557 : Cond.methodLink RX7 41 yX7_places ∈ gw := mem_gw 604 (by decide +kernel) (by decide +kernel)
theorem tw_558 : Cond.methodLink RL 110 yX8_tall ∈ gw := mem_gw 605 (by decide +kernel) (by decide +kernel)
theorem tw_559 : Cond.instanceMethod yX8_tall ∈ gw := mem_gw 606 (by decide +kernel) (by decide +kernel)
theorem tw_560 : Cond.selects RX8 yX8_tall yX8_tall ∈ gw := mem_gw 607 (by decide +kernel) (by decide +kernel)
theorem tw_561 : Cond.code yX8_tall cX8_tall 3 (some .int) ∈ gw := mem_gw 608 (by decide +kernel) (by decide +kernel)
theorem tw_562 : Cond.methodLink RX8 201 yX7_changeRise ∈ gw := mem_gw 609 (by decide +kernel) (by decide +kernel)
theorem tw_563 : Cond.instanceMethod yX7_changeRise ∈ gw := mem_gw 610 (by decide +kernel) (by decide +kernel)
theorem tw_564 : Cond.selects RX7 yX7_changeRise yX7_changeRise ∈ gw := mem_gw 611 (by decide +kernel) (by decide +kernel)
theorem tw_565 : Cond.code yX7_changeRise cX7_changeRise 3 (some .int) ∈ gw := mem_gw 612 (by decide +kernel) (by decide +kernel)
theorem tw_566 : Cond.methodLink RX8 204 yX7_changeTall ∈ gw := mem_gw 613 (by decide +kernel) (by decide +kernel)
theorem tw_567 : Cond.instanceMethod yX7_changeTall ∈ gw := mem_gw 614 (by decide +kernel) (by decide +kernel)
theorem tw_568 : Cond.selects RX7 yX7_changeTall yX7_changeTall ∈ gw := mem_gw 615 (by decide +kernel) (by decide +kernel)
theorem tw_569 : Cond.code yX7_changeTall cX7_changeTall 4 (some .int) ∈ gw := mem_gw 616 (by decide +kernel) (by decide +kernel)
theorem tw_570 : Cond.methodLink RL 114 yX8_pair ∈ gw := mem_gw 617 (by decide +kernel) (by decide +kernel)
theorem tw_571 : Cond.instanceMethod yX8_pair ∈ gw := mem_gw 618 (by decide +kernel) (by decide +kernel)
theorem tw_572 : Cond.selects RX8 yX8_pair yX8_pair ∈ gw := mem_gw 619 (by decide +kernel) (by decide +kernel)
theorem tw_573 : Cond.code yX8_pair cX8_pair 4 (some .int) ∈ gw := mem_gw 620 (by decide +kernel) (by decide +kernel)
theorem tw_574 : Cond.methodLink RX8 207 yX7_changePair ∈ gw := mem_gw 621 (by decide +kernel) (by decide +kernel)
theorem tw_575 : Cond.instanceMethod yX7_changePair ∈ gw := mem_gw 622 (by decide +kernel) (by decide +kernel)
theorem tw_576 : Cond.selects RX7 yX7_changePair yX7_changePair ∈ gw := mem_gw 623 (by decide +kernel) (by decide +kernel)
theorem tw_577 : Cond.code yX7_changePair cX7_changePair 5 (some .int) ∈ gw := mem_gw 624 (by decide +kernel) (by decide +kernel)
theorem tw_578 : Cond.methodLink RL 118 yX8_judge ∈ gw := mem_gw 625 (by decide +kernel) (by decide +kernel)
theorem tw_579 : Cond.instanceMethod yX8_judge ∈ gw := mem_gw 626 (by decide +kernel) (by decide +kernel)
theorem tw_580 : Cond.selects RX8 yX8_judge yX8_judge ∈ gw := mem_gw 627 (by decide +kernel) (by decide +kernel)
theorem tw_581 : Cond.code yX8_judge cX8_judge 3 (some .int) ∈ gw := mem_gw 628 (by decide +kernel) (by decide +kernel)
theorem tw_582 : Cond.methodLink RX8 210 yX3_readStanding ∈ gw := mem_gw 629 (by decide +kernel) (by decide +kernel)
theorem tw_583 : Cond.instanceMethod yX3_readStanding ∈ gw := mem_gw 630 (by decide +kernel) (by decide +kernel)
theorem tw_584 : Cond.selects RX3 yX3_readStanding yX3_readStanding ∈ gw := mem_gw 631 (by decide +kernel) (by decide +kernel)
theorem tw_585 : Cond.code yX3_readStanding cX3_readStanding 4 none ∈ gw := mem_gw 632 (by decide +kernel) (by decide +kernel)
theorem tw_586 : Cond.methodLink RX8 214 yX7_firstWrong ∈ gw := mem_gw 633 (by decide +kernel) (by decide +kernel)
theorem tw_587 : Cond.instanceMethod yX7_firstWrong ∈ gw := mem_gw 634 (by decide +kernel) (by decide +kernel)
theorem tw_588 : Cond.selects RX7 yX7_firstWrong yX7_firstWrong ∈ gw := mem_gw 635 (by decide +kernel) (by decide +kernel)
theorem tw_589 : Cond.code yX7_firstWrong cX7_firstWrong 4 (some .int) ∈ gw := mem_gw 636 (by decide +kernel) (by decide +kernel)
theorem tw_590 : Cond.methodLink RX7 45 yX7_wrongFor ∈ gw := mem_gw 637 (by decide +kernel) (by decide +kernel)
theorem tw_591 : Cond.instanceMethod yX7_wrongFor ∈ gw := mem_gw 638 (by decide +kernel) (by decide +kernel)
theorem tw_592 : Cond.selects RX7 yX7_wrongFor yX7_wrongFor ∈ gw := mem_gw 639 (by decide +kernel) (by decide +kernel)
theorem tw_593 : Cond.code yX7_wrongFor cX7_wrongFor 7 (some .int) ∈ gw := mem_gw 640 (by decide +kernel) (by decide +kernel)
theorem tw_594 : Cond.methodLink RX7 49 yX7_wrongBetween ∈ gw := mem_gw 641 (by decide +kernel) (by decide +kernel)
theorem tw_596 : Cond.instanceMethod yX7_wrongBetween ∈ gw := mem_gw 643 (by decide +kernel) (by decide +kernel)
theorem tw_597 : Cond.code yX7_wrongBetween cX7_wrongBetween 7 (some .int) ∈ gw := mem_gw 644 (by decide +kernel) (by decide +kernel)
theorem tw_598 : Cond.methodLink RX7 53 yX7_isHidden ∈ gw := mem_gw 645 (by decide +kernel) (by decide +kernel)
theorem tw_600 : Cond.instanceMethod yX7_isHidden ∈ gw := mem_gw 647 (by decide +kernel) (by decide +kernel)
theorem tw_601 : Cond.code yX7_isHidden cX7_isHidden 7 (some .boolean) ∈ gw := mem_gw 648 (by decide +kernel) (by decide +kernel)
theorem tw_602 : Cond.methodLink RX7 61 yX7_columnOf ∈ gw := mem_gw 649 (by decide +kernel) (by decide +kernel)
theorem tw_604 : Cond.instanceMethod yX7_columnOf ∈ gw := mem_gw 651 (by decide +kernel) (by decide +kernel)
theorem tw_605 : Cond.code yX7_columnOf cX7_columnOf 2 (some .int) ∈ gw := mem_gw 652 (by decide +kernel) (by decide +kernel)
theorem tw_606 : Cond.methodLink RX7 65 yX7_rowOf ∈ gw := mem_gw 653 (by decide +kernel) (by decide +kernel)
theorem tw_608 : Cond.instanceMethod yX7_rowOf ∈ gw := mem_gw 655 (by decide +kernel) (by decide +kernel)
theorem tw_609 : Cond.code yX7_rowOf cX7_rowOf 2 (some .int) ∈ gw := mem_gw 656 (by decide +kernel) (by decide +kernel)
theorem tw_610 : Cond.methodLink RX7 57 yX7_areNeighbours ∈ gw := mem_gw 657 (by decide +kernel) (by decide +kernel)
theorem tw_612 : Cond.instanceMethod yX7_areNeighbours ∈ gw := mem_gw 659 (by decide +kernel) (by decide +kernel)
theorem tw_613 : Cond.code yX7_areNeighbours cX7_areNeighbours 5 (some .boolean) ∈ gw := mem_gw 660 (by decide +kernel) (by decide +kernel)
theorem tw_614 : Cond.methodLink RX7 68 Lib.Math.abs.name ∈ gw := mem_gw 661 (by decide +kernel) (by decide +kernel)
theorem tw_615 : Cond.static Lib.Math.abs.name ∈ gw := mem_gw 662 (by decide +kernel) (by decide +kernel)
theorem tw_616 : Cond.code Lib.Math.abs.name Lib.Math.abs.code 1 (some .int) ∈ gw := mem_gw 663 (by decide +kernel) (by decide +kernel)
theorem tw_617 : Cond.methodLink RX8 218 yX7_wrongFor ∈ gw := mem_gw 664 (by decide +kernel) (by decide +kernel)
theorem tw_618 : Cond.methodLink RL 122 yX8_placed ∈ gw := mem_gw 665 (by decide +kernel) (by decide +kernel)
theorem tw_619 : Cond.instanceMethod yX8_placed ∈ gw := mem_gw 666 (by decide +kernel) (by decide +kernel)
theorem tw_620 : Cond.selects RX8 yX8_placed yX8_placed ∈ gw := mem_gw 667 (by decide +kernel) (by decide +kernel)
theorem tw_621 : Cond.code yX8_placed cX8_placed 2 (some .int) ∈ gw := mem_gw 668 (by decide +kernel) (by decide +kernel)
theorem tw_622 : Cond.methodLink RX8 225 yX4_solve ∈ gw := mem_gw 669 (by decide +kernel) (by decide +kernel)
theorem tw_623 : Cond.instanceMethod yX4_solve ∈ gw := mem_gw 670 (by decide +kernel) (by decide +kernel)
theorem tw_624 : Cond.selects RX4 yX4_solve yX4_solve ∈ gw := mem_gw 671 (by decide +kernel) (by decide +kernel)
theorem tw_625 : Cond.code yX4_solve cX4_solve 5 none ∈ gw := mem_gw 672 (by decide +kernel) (by decide +kernel)
theorem tw_626 : Cond.methodLink RX4 29 yX7_places ∈ gw := mem_gw 673 (by decide +kernel) (by decide +kernel)
theorem tw_627 : Cond.methodLink RX4 33 yX4_leftBehind ∈ gw := mem_gw 674 (by decide +kernel) (by decide +kernel)
theorem tw_629 : Cond.instanceMethod yX4_leftBehind ∈ gw := mem_gw 676 (by decide +kernel) (by decide +kernel)
theorem tw_630 : Cond.code yX4_leftBehind cX4_leftBehind 8 (some .long) ∈ gw := mem_gw 677 (by decide +kernel) (by decide +kernel)
theorem tw_631 : Cond.methodLink RX4 48 yX7_suits ∈ gw := mem_gw 678 (by decide +kernel) (by decide +kernel)
theorem tw_632 : Cond.instanceMethod yX7_suits ∈ gw := mem_gw 679 (by decide +kernel) (by decide +kernel)
theorem tw_633 : Cond.selects RX7 yX7_suits yX7_suits ∈ gw := mem_gw 680 (by decide +kernel) (by decide +kernel)
theorem tw_634 : Cond.code yX7_suits cX7_suits 5 (some .boolean) ∈ gw := mem_gw 681 (by decide +kernel) (by decide +kernel)
theorem tw_635 : Cond.methodLink RX4 52 yX4_bitOf ∈ gw := mem_gw 682 (by decide +kernel) (by decide +kernel)
theorem tw_636 : Cond.static yX4_bitOf ∈ gw := mem_gw 683 (by decide +kernel) (by decide +kernel)
theorem tw_637 : Cond.code yX4_bitOf cX4_bitOf 2 (some .long) ∈ gw := mem_gw 684 (by decide +kernel) (by decide +kernel)
theorem tw_638 : Cond.methodLink RX4 37 yX4_allPlaces ∈ gw := mem_gw 685 (by decide +kernel) (by decide +kernel)
theorem tw_640 : Cond.instanceMethod yX4_allPlaces ∈ gw := mem_gw 687 (by decide +kernel) (by decide +kernel)
theorem tw_641 : Cond.code yX4_allPlaces cX4_allPlaces 6 (some .long) ∈ gw := mem_gw 688 (by decide +kernel) (by decide +kernel)
theorem tw_642 : Cond.methodLink RX4 41 yX4_countFrom ∈ gw := mem_gw 689 (by decide +kernel) (by decide +kernel)
theorem tw_643 : Cond.static yX4_countFrom ∈ gw := mem_gw 690 (by decide +kernel) (by decide +kernel)
theorem tw_644 : Cond.code yX4_countFrom cX4_countFrom 8 (some .int) ∈ gw := mem_gw 691 (by decide +kernel) (by decide +kernel)
theorem tw_645 : Cond.methodLink RX4 56 yJ6_numberOfTrailingZeros_0f7a4 ∈ gw := mem_gw 692 (by decide +kernel) (by decide +kernel)
theorem tw_646 : Cond.methodLink RX4 62 yX4_noteFirst ∈ gw := mem_gw 693 (by decide +kernel) (by decide +kernel)
theorem tw_648 : Cond.instanceMethod yX4_noteFirst ∈ gw := mem_gw 695 (by decide +kernel) (by decide +kernel)
theorem tw_649 : Cond.code yX4_noteFirst cX4_noteFirst 3 none ∈ gw := mem_gw 696 (by decide +kernel) (by decide +kernel)
theorem tw_650 : Cond.methodLink RX4 66 yJ6_bitCount_0f7a4 ∈ gw := mem_gw 697 (by decide +kernel) (by decide +kernel)
theorem tw_651 : Cond.methodLink RX8 231 yX4_firstOf ∈ gw := mem_gw 698 (by decide +kernel) (by decide +kernel)
theorem tw_652 : Cond.instanceMethod yX4_firstOf ∈ gw := mem_gw 699 (by decide +kernel) (by decide +kernel)
theorem tw_653 : Cond.selects RX4 yX4_firstOf yX4_firstOf ∈ gw := mem_gw 700 (by decide +kernel) (by decide +kernel)
theorem tw_654 : Cond.code yX4_firstOf cX4_firstOf 2 (some .int) ∈ gw := mem_gw 701 (by decide +kernel) (by decide +kernel)
theorem tw_655 : Cond.methodLink RL 126 yX8_image ∈ gw := mem_gw 702 (by decide +kernel) (by decide +kernel)
theorem tw_656 : Cond.instanceMethod yX8_image ∈ gw := mem_gw 703 (by decide +kernel) (by decide +kernel)
theorem tw_657 : Cond.selects RX8 yX8_image yX8_image ∈ gw := mem_gw 704 (by decide +kernel) (by decide +kernel)
theorem tw_658 : Cond.code yX8_image cX8_image 2 (some .int) ∈ gw := mem_gw 705 (by decide +kernel) (by decide +kernel)
theorem tw_659 : Cond.methodLink RX8 234 yX5_copyFrom ∈ gw := mem_gw 706 (by decide +kernel) (by decide +kernel)
theorem tw_660 : Cond.instanceMethod yX5_copyFrom ∈ gw := mem_gw 707 (by decide +kernel) (by decide +kernel)
theorem tw_661 : Cond.selects RX5 yX5_copyFrom yX5_copyFrom ∈ gw := mem_gw 708 (by decide +kernel) (by decide +kernel)
theorem tw_662 : Cond.code yX5_copyFrom cX5_copyFrom 2 none ∈ gw := mem_gw 709 (by decide +kernel) (by decide +kernel)
theorem tw_663 : Cond.methodLink RX5 52 yX6_copyFrom ∈ gw := mem_gw 710 (by decide +kernel) (by decide +kernel)
theorem tw_664 : Cond.instanceMethod yX6_copyFrom ∈ gw := mem_gw 711 (by decide +kernel) (by decide +kernel)
theorem tw_665 : Cond.selects RX6 yX6_copyFrom yX6_copyFrom ∈ gw := mem_gw 712 (by decide +kernel) (by decide +kernel)
theorem tw_666 : Cond.code yX6_copyFrom cX6_copyFrom 2 none ∈ gw := mem_gw 713 (by decide +kernel) (by decide +kernel)
theorem tw_667 : Cond.methodLink RX6 25 arraycopyName ∈ gw := mem_gw 714 (by decide +kernel) (by decide +kernel)
theorem tw_668 : Cond.static arraycopyName ∈ gw := mem_gw 715 (by decide +kernel) (by decide +kernel)
theorem tw_669 : Cond.native arraycopyName ∈ gw := mem_gw 716 (by decide +kernel) (by decide +kernel)
theorem tw_670 : Cond.methodLink RX5 56 yX0_copyFrom ∈ gw := mem_gw 717 (by decide +kernel) (by decide +kernel)
theorem tw_671 : Cond.instanceMethod yX0_copyFrom ∈ gw := mem_gw 718 (by decide +kernel) (by decide +kernel)
theorem tw_672 : Cond.selects RX0 yX0_copyFrom yX0_copyFrom ∈ gw := mem_gw 719 (by decide +kernel) (by decide +kernel)
theorem tw_673 : Cond.code yX0_copyFrom cX0_copyFrom 2 none ∈ gw := mem_gw 720 (by decide +kernel) (by decide +kernel)
theorem tw_674 : Cond.methodLink RX0 22 arraycopyName ∈ gw := mem_gw 721 (by decide +kernel) (by decide +kernel)
theorem tw_675 : Cond.methodLink RX5 59 yX2_copyFrom ∈ gw := mem_gw 722 (by decide +kernel) (by decide +kernel)
theorem tw_676 : Cond.instanceMethod yX2_copyFrom ∈ gw := mem_gw 723 (by decide +kernel) (by decide +kernel)
theorem tw_677 : Cond.selects RX2 yX2_copyFrom yX2_copyFrom ∈ gw := mem_gw 724 (by decide +kernel) (by decide +kernel)
theorem tw_678 : Cond.code yX2_copyFrom cX2_copyFrom 2 none ∈ gw := mem_gw 725 (by decide +kernel) (by decide +kernel)
theorem tw_679 : Cond.methodLink RX2 22 arraycopyName ∈ gw := mem_gw 726 (by decide +kernel) (by decide +kernel)
theorem tw_680 : Cond.methodLink RX5 62 yX7_copyFrom ∈ gw := mem_gw 727 (by decide +kernel) (by decide +kernel)
theorem tw_681 : Cond.instanceMethod yX7_copyFrom ∈ gw := mem_gw 728 (by decide +kernel) (by decide +kernel)
theorem tw_682 : Cond.selects RX7 yX7_copyFrom yX7_copyFrom ∈ gw := mem_gw 729 (by decide +kernel) (by decide +kernel)
theorem tw_683 : Cond.code yX7_copyFrom cX7_copyFrom 2 none ∈ gw := mem_gw 730 (by decide +kernel) (by decide +kernel)
theorem tw_684 : Cond.methodLink RX7 35 arraycopyName ∈ gw := mem_gw 731 (by decide +kernel) (by decide +kernel)
theorem tw_685 : Cond.methodLink RL 130 yX8_restore ∈ gw := mem_gw 732 (by decide +kernel) (by decide +kernel)
theorem tw_686 : Cond.instanceMethod yX8_restore ∈ gw := mem_gw 733 (by decide +kernel) (by decide +kernel)
theorem tw_687 : Cond.selects RX8 yX8_restore yX8_restore ∈ gw := mem_gw 734 (by decide +kernel) (by decide +kernel)
theorem tw_688 : Cond.code yX8_restore cX8_restore 2 (some .int) ∈ gw := mem_gw 735 (by decide +kernel) (by decide +kernel)
theorem tw_689 : Cond.methodLink RL 134 yX8_told ∈ gw := mem_gw 736 (by decide +kernel) (by decide +kernel)
theorem tw_690 : Cond.instanceMethod yX8_told ∈ gw := mem_gw 737 (by decide +kernel) (by decide +kernel)
theorem tw_691 : Cond.selects RX8 yX8_told yX8_told ∈ gw := mem_gw 738 (by decide +kernel) (by decide +kernel)
theorem tw_692 : Cond.code yX8_told cX8_told 2 (some .int) ∈ gw := mem_gw 739 (by decide +kernel) (by decide +kernel)
theorem tw_693 : Cond.methodLink RX8 238 yX7_tallOf ∈ gw := mem_gw 740 (by decide +kernel) (by decide +kernel)
theorem tw_694 : Cond.instanceMethod yX7_tallOf ∈ gw := mem_gw 741 (by decide +kernel) (by decide +kernel)
theorem tw_695 : Cond.selects RX7 yX7_tallOf yX7_tallOf ∈ gw := mem_gw 742 (by decide +kernel) (by decide +kernel)
theorem tw_696 : Cond.code yX7_tallOf cX7_tallOf 2 (some .int) ∈ gw := mem_gw 743 (by decide +kernel) (by decide +kernel)
theorem tw_697 : Cond.methodLink RX8 241 yX2_quartersOf ∈ gw := mem_gw 744 (by decide +kernel) (by decide +kernel)
theorem tw_698 : Cond.instanceMethod yX2_quartersOf ∈ gw := mem_gw 745 (by decide +kernel) (by decide +kernel)
theorem tw_699 : Cond.selects RX2 yX2_quartersOf yX2_quartersOf ∈ gw := mem_gw 746 (by decide +kernel) (by decide +kernel)
theorem tw_700 : Cond.code yX2_quartersOf cX2_quartersOf 2 (some .int) ∈ gw := mem_gw 747 (by decide +kernel) (by decide +kernel)
theorem tw_701 : Cond.classLink RL 10 RX9 ∈ gw := mem_gw 748 (by decide +kernel) (by decide +kernel)
theorem tw_702 : Cond.instantiable RX9 25 ∈ gw := mem_gw 749 (by decide +kernel) (by decide +kernel)
theorem tw_703 : Cond.methodLink RL 12 yX9_init ∈ gw := mem_gw 750 (by decide +kernel) (by decide +kernel)
theorem tw_704 : Cond.instanceMethod yX9_init ∈ gw := mem_gw 751 (by decide +kernel) (by decide +kernel)
theorem tw_705 : Cond.code yX9_init cX9_init 1 none ∈ gw := mem_gw 752 (by decide +kernel) (by decide +kernel)
theorem tw_706 : Cond.methodLink RX9 1 objectInit ∈ gw := mem_gw 753 (by decide +kernel) (by decide +kernel)
theorem tw_707 : Cond.methodLink RX9 66 yX9_begin ∈ gw := mem_gw 754 (by decide +kernel) (by decide +kernel)
theorem tw_709 : Cond.instanceMethod yX9_begin ∈ gw := mem_gw 756 (by decide +kernel) (by decide +kernel)
theorem tw_710 : Cond.code yX9_begin cX9_begin 3 none ∈ gw := mem_gw 757 (by decide +kernel) (by decide +kernel)
theorem tw_711 : Cond.fieldLink RX9 70 RX9 "people" "I" ∈ gw := mem_gw 758 (by decide +kernel) (by decide +kernel)
theorem tw_712 : Cond.fieldLink RX9 73 RX9 "shots" "I" ∈ gw := mem_gw 759 (by decide +kernel) (by decide +kernel)
theorem tw_713 : Cond.fieldLink RX9 7 RX9 "looks" "[I" ∈ gw := mem_gw 760 (by decide +kernel) (by decide +kernel)
theorem tw_714 : Cond.fieldLink RX9 76 RX9 "bride" "I" ∈ gw := mem_gw 761 (by decide +kernel) (by decide +kernel)
theorem tw_715 : Cond.fieldLink RX9 79 RX9 "hands" "I" ∈ gw := mem_gw 762 (by decide +kernel) (by decide +kernel)
theorem tw_716 : Cond.fieldLink RX9 13 RX9 "period" "[I" ∈ gw := mem_gw 763 (by decide +kernel) (by decide +kernel)
theorem tw_717 : Cond.fieldLink RX9 16 RX9 "shut" "[I" ∈ gw := mem_gw 764 (by decide +kernel) (by decide +kernel)
theorem tw_718 : Cond.fieldLink RX9 19 RX9 "phase" "[I" ∈ gw := mem_gw 765 (by decide +kernel) (by decide +kernel)
theorem tw_719 : Cond.fieldLink RX9 63 RX9 "flash" "I" ∈ gw := mem_gw 766 (by decide +kernel) (by decide +kernel)
theorem tw_720 : Cond.fieldLink RX9 22 RX9 "quarters" "[I" ∈ gw := mem_gw 767 (by decide +kernel) (by decide +kernel)
theorem tw_721 : Cond.fieldLink RX9 50 RX9 "tired" "I" ∈ gw := mem_gw 768 (by decide +kernel) (by decide +kernel)
theorem tw_722 : Cond.fieldLink RX9 54 RX9 "rows" "I" ∈ gw := mem_gw 769 (by decide +kernel) (by decide +kernel)
theorem tw_723 : Cond.fieldLink RX9 57 RX9 "columns" "I" ∈ gw := mem_gw 770 (by decide +kernel) (by decide +kernel)
theorem tw_724 : Cond.fieldLink RX9 60 RX9 "rise" "I" ∈ gw := mem_gw 771 (by decide +kernel) (by decide +kernel)
theorem tw_725 : Cond.fieldLink RX9 25 RX9 "tall" "[I" ∈ gw := mem_gw 772 (by decide +kernel) (by decide +kernel)
theorem tw_726 : Cond.fieldLink RX9 28 RX9 "pairs" "[I" ∈ gw := mem_gw 773 (by decide +kernel) (by decide +kernel)
theorem tw_727 : Cond.fieldLink RX9 31 RX9 "pad" "[I" ∈ gw := mem_gw 774 (by decide +kernel) (by decide +kernel)
theorem tw_728 : Cond.fieldLink RX9 96 RX9 "padMany" "I" ∈ gw := mem_gw 775 (by decide +kernel) (by decide +kernel)
theorem tw_729 : Cond.fieldLink RX9 34 RX9 "cuts" "[I" ∈ gw := mem_gw 776 (by decide +kernel) (by decide +kernel)
theorem tw_730 : Cond.fieldLink RX9 37 RX9 "at" "[I" ∈ gw := mem_gw 777 (by decide +kernel) (by decide +kernel)
theorem tw_731 : Cond.fieldLink RX9 40 RX9 "first" "[I" ∈ gw := mem_gw 778 (by decide +kernel) (by decide +kernel)
theorem tw_732 : Cond.fieldLink RX9 43 RX9 "kept" "[I" ∈ gw := mem_gw 779 (by decide +kernel) (by decide +kernel)
theorem tw_733 : Cond.fieldLink RX9 46 RX9 "isKept" "[Z" ∈ gw := mem_gw 780 (by decide +kernel) (by decide +kernel)
theorem tw_734 : Cond.fieldLink RX9 219 RX9 "keptAt" "I" ∈ gw := mem_gw 781 (by decide +kernel) (by decide +kernel)
theorem tw_735 : Cond.fieldLink RX9 215 RX9 "isWriting" "Z" ∈ gw := mem_gw 782 (by decide +kernel) (by decide +kernel)
theorem tw_787 : Cond.arrayClass .boolean ∈ gw := mem_gw 834 (by decide +kernel) (by decide +kernel)
theorem tw_788 : Cond.methodLink RL 17 yX9_people ∈ gw := mem_gw 835 (by decide +kernel) (by decide +kernel)
theorem tw_789 : Cond.instanceMethod yX9_people ∈ gw := mem_gw 836 (by decide +kernel) (by decide +kernel)
theorem tw_790 : Cond.selects RX9 yX9_people yX9_people ∈ gw := mem_gw 837 (by decide +kernel) (by decide +kernel)
theorem tw_791 : Cond.code yX9_people cX9_people 3 (some .int) ∈ gw := mem_gw 838 (by decide +kernel) (by decide +kernel)
theorem tw_792 : Cond.constantLong RX9 86 (8) ∈ gw := mem_gw 839 (by decide +kernel) (by decide +kernel)
theorem tw_793 : Cond.methodLink RX9 82 yX9_in ∈ gw := mem_gw 840 (by decide +kernel) (by decide +kernel)
theorem tw_794 : Cond.static yX9_in ∈ gw := mem_gw 841 (by decide +kernel) (by decide +kernel)
theorem tw_795 : Cond.code yX9_in cX9_in 6 (some .boolean) ∈ gw := mem_gw 842 (by decide +kernel) (by decide +kernel)
theorem tw_796 : Cond.methodLink RL 21 yX9_bride ∈ gw := mem_gw 843 (by decide +kernel) (by decide +kernel)
theorem tw_797 : Cond.instanceMethod yX9_bride ∈ gw := mem_gw 844 (by decide +kernel) (by decide +kernel)
theorem tw_798 : Cond.selects RX9 yX9_bride yX9_bride ∈ gw := mem_gw 845 (by decide +kernel) (by decide +kernel)
theorem tw_799 : Cond.code yX9_bride cX9_bride 3 (some .int) ∈ gw := mem_gw 846 (by decide +kernel) (by decide +kernel)
theorem tw_800 : Cond.methodLink RX9 88 yX9_isPerson ∈ gw := mem_gw 847 (by decide +kernel) (by decide +kernel)
theorem tw_802 : Cond.instanceMethod yX9_isPerson ∈ gw := mem_gw 849 (by decide +kernel) (by decide +kernel)
theorem tw_803 : Cond.code yX9_isPerson cX9_isPerson 2 (some .boolean) ∈ gw := mem_gw 850 (by decide +kernel) (by decide +kernel)
theorem tw_804 : Cond.methodLink RL 25 yX9_say ∈ gw := mem_gw 851 (by decide +kernel) (by decide +kernel)
theorem tw_805 : Cond.instanceMethod yX9_say ∈ gw := mem_gw 852 (by decide +kernel) (by decide +kernel)
theorem tw_806 : Cond.selects RX9 yX9_say yX9_say ∈ gw := mem_gw 853 (by decide +kernel) (by decide +kernel)
theorem tw_807 : Cond.code yX9_say cX9_say 2 (some .int) ∈ gw := mem_gw 854 (by decide +kernel) (by decide +kernel)
theorem tw_808 : Cond.constantLong RX9 92 (33) ∈ gw := mem_gw 855 (by decide +kernel) (by decide +kernel)
theorem tw_809 : Cond.constantLong RX9 94 (126) ∈ gw := mem_gw 856 (by decide +kernel) (by decide +kernel)
theorem tw_810 : Cond.methodLink RL 30 yX9_wipe ∈ gw := mem_gw 857 (by decide +kernel) (by decide +kernel)
theorem tw_811 : Cond.instanceMethod yX9_wipe ∈ gw := mem_gw 858 (by decide +kernel) (by decide +kernel)
theorem tw_812 : Cond.selects RX9 yX9_wipe yX9_wipe ∈ gw := mem_gw 859 (by decide +kernel) (by decide +kernel)
theorem tw_813 : Cond.code yX9_wipe cX9_wipe 2 (some .int) ∈ gw := mem_gw 860 (by decide +kernel) (by decide +kernel)
theorem tw_814 : Cond.methodLink RL 34 yX9_fault ∈ gw := mem_gw 861 (by decide +kernel) (by decide +kernel)
theorem tw_815 : Cond.instanceMethod yX9_fault ∈ gw := mem_gw 862 (by decide +kernel) (by decide +kernel)
theorem tw_816 : Cond.selects RX9 yX9_fault yX9_fault ∈ gw := mem_gw 863 (by decide +kernel) (by decide +kernel)
theorem tw_817 : Cond.code yX9_fault cX9_fault 2 (some .int) ∈ gw := mem_gw 864 (by decide +kernel) (by decide +kernel)
theorem tw_818 : Cond.methodLink RX9 106 yX9_faultOfShot ∈ gw := mem_gw 865 (by decide +kernel) (by decide +kernel)
theorem tw_820 : Cond.instanceMethod yX9_faultOfShot ∈ gw := mem_gw 867 (by decide +kernel) (by decide +kernel)
theorem tw_821 : Cond.code yX9_faultOfShot cX9_faultOfShot 2 (some .int) ∈ gw := mem_gw 868 (by decide +kernel) (by decide +kernel)
theorem tw_822 : Cond.methodLink RX9 99 yX9_isLook ∈ gw := mem_gw 869 (by decide +kernel) (by decide +kernel)
theorem tw_823 : Cond.static yX9_isLook ∈ gw := mem_gw 870 (by decide +kernel) (by decide +kernel)
theorem tw_824 : Cond.code yX9_isLook cX9_isLook 1 (some .boolean) ∈ gw := mem_gw 871 (by decide +kernel) (by decide +kernel)
theorem tw_825 : Cond.methodLink RX9 109 yX9_faultOfStanding ∈ gw := mem_gw 872 (by decide +kernel) (by decide +kernel)
theorem tw_827 : Cond.instanceMethod yX9_faultOfStanding ∈ gw := mem_gw 874 (by decide +kernel) (by decide +kernel)
theorem tw_828 : Cond.code yX9_faultOfStanding cX9_faultOfStanding 4 (some .int) ∈ gw := mem_gw 875 (by decide +kernel) (by decide +kernel)
theorem tw_829 : Cond.methodLink RX9 102 yX9_places ∈ gw := mem_gw 876 (by decide +kernel) (by decide +kernel)
theorem tw_831 : Cond.instanceMethod yX9_places ∈ gw := mem_gw 878 (by decide +kernel) (by decide +kernel)
theorem tw_832 : Cond.code yX9_places cX9_places 1 (some .int) ∈ gw := mem_gw 879 (by decide +kernel) (by decide +kernel)
theorem tw_833 : Cond.methodLink RL 38 yX9_shot ∈ gw := mem_gw 880 (by decide +kernel) (by decide +kernel)
theorem tw_834 : Cond.instanceMethod yX9_shot ∈ gw := mem_gw 881 (by decide +kernel) (by decide +kernel)
theorem tw_835 : Cond.selects RX9 yX9_shot yX9_shot ∈ gw := mem_gw 882 (by decide +kernel) (by decide +kernel)
theorem tw_836 : Cond.code yX9_shot cX9_shot 2 (some .int) ∈ gw := mem_gw 883 (by decide +kernel) (by decide +kernel)
theorem tw_837 : Cond.methodLink RL 43 yX9_look ∈ gw := mem_gw 884 (by decide +kernel) (by decide +kernel)
theorem tw_838 : Cond.instanceMethod yX9_look ∈ gw := mem_gw 885 (by decide +kernel) (by decide +kernel)
theorem tw_839 : Cond.selects RX9 yX9_look yX9_look ∈ gw := mem_gw 886 (by decide +kernel) (by decide +kernel)
theorem tw_840 : Cond.code yX9_look cX9_look 3 (some .int) ∈ gw := mem_gw 887 (by decide +kernel) (by decide +kernel)
theorem tw_841 : Cond.methodLink RL 47 yX9_single ∈ gw := mem_gw 888 (by decide +kernel) (by decide +kernel)
theorem tw_842 : Cond.instanceMethod yX9_single ∈ gw := mem_gw 889 (by decide +kernel) (by decide +kernel)
theorem tw_843 : Cond.selects RX9 yX9_single yX9_single ∈ gw := mem_gw 890 (by decide +kernel) (by decide +kernel)
theorem tw_844 : Cond.code yX9_single cX9_single 6 (some .int) ∈ gw := mem_gw 891 (by decide +kernel) (by decide +kernel)
theorem tw_845 : Cond.methodLink RX9 116 yX9_badIn ∈ gw := mem_gw 892 (by decide +kernel) (by decide +kernel)
theorem tw_847 : Cond.instanceMethod yX9_badIn ∈ gw := mem_gw 894 (by decide +kernel) (by decide +kernel)
theorem tw_848 : Cond.code yX9_badIn cX9_badIn 4 (some .int) ∈ gw := mem_gw 895 (by decide +kernel) (by decide +kernel)
theorem tw_849 : Cond.methodLink RX9 112 yX9_isOpen ∈ gw := mem_gw 896 (by decide +kernel) (by decide +kernel)
theorem tw_851 : Cond.instanceMethod yX9_isOpen ∈ gw := mem_gw 898 (by decide +kernel) (by decide +kernel)
theorem tw_852 : Cond.code yX9_isOpen cX9_isOpen 3 (some .boolean) ∈ gw := mem_gw 899 (by decide +kernel) (by decide +kernel)
theorem tw_853 : Cond.methodLink RX9 120 yX9_hiddenIn ∈ gw := mem_gw 900 (by decide +kernel) (by decide +kernel)
theorem tw_855 : Cond.instanceMethod yX9_hiddenIn ∈ gw := mem_gw 902 (by decide +kernel) (by decide +kernel)
theorem tw_856 : Cond.code yX9_hiddenIn cX9_hiddenIn 4 (some .int) ∈ gw := mem_gw 903 (by decide +kernel) (by decide +kernel)
theorem tw_857 : Cond.methodLink RL 51 yX9_cover ∈ gw := mem_gw 904 (by decide +kernel) (by decide +kernel)
theorem tw_858 : Cond.instanceMethod yX9_cover ∈ gw := mem_gw 905 (by decide +kernel) (by decide +kernel)
theorem tw_859 : Cond.selects RX9 yX9_cover yX9_cover ∈ gw := mem_gw 906 (by decide +kernel) (by decide +kernel)
theorem tw_860 : Cond.code yX9_cover cX9_cover 5 (some .int) ∈ gw := mem_gw 907 (by decide +kernel) (by decide +kernel)
theorem tw_861 : Cond.methodLink RX9 123 yX9_openIn ∈ gw := mem_gw 908 (by decide +kernel) (by decide +kernel)
theorem tw_863 : Cond.instanceMethod yX9_openIn ∈ gw := mem_gw 910 (by decide +kernel) (by decide +kernel)
theorem tw_864 : Cond.code yX9_openIn cX9_openIn 4 (some .int) ∈ gw := mem_gw 911 (by decide +kernel) (by decide +kernel)
theorem tw_865 : Cond.methodLink RX9 126 yX9_ones ∈ gw := mem_gw 912 (by decide +kernel) (by decide +kernel)
theorem tw_866 : Cond.static yX9_ones ∈ gw := mem_gw 913 (by decide +kernel) (by decide +kernel)
theorem tw_867 : Cond.code yX9_ones cX9_ones 3 (some .int) ∈ gw := mem_gw 914 (by decide +kernel) (by decide +kernel)
theorem tw_868 : Cond.methodLink RL 55 yX9_spoils ∈ gw := mem_gw 915 (by decide +kernel) (by decide +kernel)
theorem tw_869 : Cond.instanceMethod yX9_spoils ∈ gw := mem_gw 916 (by decide +kernel) (by decide +kernel)
theorem tw_870 : Cond.selects RX9 yX9_spoils yX9_spoils ∈ gw := mem_gw 917 (by decide +kernel) (by decide +kernel)
theorem tw_871 : Cond.code yX9_spoils cX9_spoils 7 (some .int) ∈ gw := mem_gw 918 (by decide +kernel) (by decide +kernel)
theorem tw_872 : Cond.methodLink RL 59 yX9_hands ∈ gw := mem_gw 919 (by decide +kernel) (by decide +kernel)
theorem tw_873 : Cond.instanceMethod yX9_hands ∈ gw := mem_gw 920 (by decide +kernel) (by decide +kernel)
theorem tw_874 : Cond.selects RX9 yX9_hands yX9_hands ∈ gw := mem_gw 921 (by decide +kernel) (by decide +kernel)
theorem tw_875 : Cond.code yX9_hands cX9_hands 3 (some .int) ∈ gw := mem_gw 922 (by decide +kernel) (by decide +kernel)
theorem tw_876 : Cond.methodLink RL 63 yX9_heads ∈ gw := mem_gw 923 (by decide +kernel) (by decide +kernel)
theorem tw_877 : Cond.instanceMethod yX9_heads ∈ gw := mem_gw 924 (by decide +kernel) (by decide +kernel)
theorem tw_878 : Cond.selects RX9 yX9_heads yX9_heads ∈ gw := mem_gw 925 (by decide +kernel) (by decide +kernel)
theorem tw_879 : Cond.code yX9_heads cX9_heads 6 (some .int) ∈ gw := mem_gw 926 (by decide +kernel) (by decide +kernel)
theorem tw_880 : Cond.methodLink RX9 133 yX9_findCuts ∈ gw := mem_gw 927 (by decide +kernel) (by decide +kernel)
theorem tw_882 : Cond.instanceMethod yX9_findCuts ∈ gw := mem_gw 929 (by decide +kernel) (by decide +kernel)
theorem tw_883 : Cond.code yX9_findCuts cX9_findCuts 3 none ∈ gw := mem_gw 930 (by decide +kernel) (by decide +kernel)
theorem tw_884 : Cond.methodLink RX9 129 yX9_cutsFrom ∈ gw := mem_gw 931 (by decide +kernel) (by decide +kernel)
theorem tw_886 : Cond.instanceMethod yX9_cutsFrom ∈ gw := mem_gw 933 (by decide +kernel) (by decide +kernel)
theorem tw_887 : Cond.code yX9_cutsFrom cX9_cutsFrom 7 (some .int) ∈ gw := mem_gw 934 (by decide +kernel) (by decide +kernel)
theorem tw_888 : Cond.methodLink RX9 136 yX9_fewestCuts ∈ gw := mem_gw 935 (by decide +kernel) (by decide +kernel)
theorem tw_890 : Cond.instanceMethod yX9_fewestCuts ∈ gw := mem_gw 937 (by decide +kernel) (by decide +kernel)
theorem tw_891 : Cond.code yX9_fewestCuts cX9_fewestCuts 3 (some .int) ∈ gw := mem_gw 938 (by decide +kernel) (by decide +kernel)
theorem tw_892 : Cond.methodLink RX9 139 yX9_goesOn ∈ gw := mem_gw 939 (by decide +kernel) (by decide +kernel)
theorem tw_894 : Cond.instanceMethod yX9_goesOn ∈ gw := mem_gw 941 (by decide +kernel) (by decide +kernel)
theorem tw_895 : Cond.code yX9_goesOn cX9_goesOn 7 (some .boolean) ∈ gw := mem_gw 942 (by decide +kernel) (by decide +kernel)
theorem tw_896 : Cond.methodLink RL 67 yX9_left ∈ gw := mem_gw 943 (by decide +kernel) (by decide +kernel)
theorem tw_897 : Cond.instanceMethod yX9_left ∈ gw := mem_gw 944 (by decide +kernel) (by decide +kernel)
theorem tw_898 : Cond.selects RX9 yX9_left yX9_left ∈ gw := mem_gw 945 (by decide +kernel) (by decide +kernel)
theorem tw_899 : Cond.code yX9_left cX9_left 5 (some .int) ∈ gw := mem_gw 946 (by decide +kernel) (by decide +kernel)
theorem tw_900 : Cond.methodLink RX9 143 yX9_fewestBad ∈ gw := mem_gw 947 (by decide +kernel) (by decide +kernel)
theorem tw_902 : Cond.instanceMethod yX9_fewestBad ∈ gw := mem_gw 949 (by decide +kernel) (by decide +kernel)
theorem tw_903 : Cond.code yX9_fewestBad cX9_fewestBad 7 (some .int) ∈ gw := mem_gw 950 (by decide +kernel) (by decide +kernel)
theorem tw_904 : Cond.methodLink RL 72 yX9_blink ∈ gw := mem_gw 951 (by decide +kernel) (by decide +kernel)
theorem tw_905 : Cond.instanceMethod yX9_blink ∈ gw := mem_gw 952 (by decide +kernel) (by decide +kernel)
theorem tw_906 : Cond.selects RX9 yX9_blink yX9_blink ∈ gw := mem_gw 953 (by decide +kernel) (by decide +kernel)
theorem tw_907 : Cond.code yX9_blink cX9_blink 6 (some .int) ∈ gw := mem_gw 954 (by decide +kernel) (by decide +kernel)
theorem tw_908 : Cond.constantLong RX9 146 (60) ∈ gw := mem_gw 955 (by decide +kernel) (by decide +kernel)
theorem tw_909 : Cond.constantLong RX9 148 (59) ∈ gw := mem_gw 956 (by decide +kernel) (by decide +kernel)
theorem tw_910 : Cond.methodLink RL 76 yX9_flash ∈ gw := mem_gw 957 (by decide +kernel) (by decide +kernel)
theorem tw_911 : Cond.instanceMethod yX9_flash ∈ gw := mem_gw 958 (by decide +kernel) (by decide +kernel)
theorem tw_912 : Cond.selects RX9 yX9_flash yX9_flash ∈ gw := mem_gw 959 (by decide +kernel) (by decide +kernel)
theorem tw_913 : Cond.code yX9_flash cX9_flash 3 (some .int) ∈ gw := mem_gw 960 (by decide +kernel) (by decide +kernel)
theorem tw_914 : Cond.constantLong RX9 150 (-1) ∈ gw := mem_gw 961 (by decide +kernel) (by decide +kernel)
theorem tw_915 : Cond.constantLong RX9 152 (999) ∈ gw := mem_gw 962 (by decide +kernel) (by decide +kernel)
theorem tw_916 : Cond.methodLink RL 80 yX9_open ∈ gw := mem_gw 963 (by decide +kernel) (by decide +kernel)
theorem tw_917 : Cond.instanceMethod yX9_open ∈ gw := mem_gw 964 (by decide +kernel) (by decide +kernel)
theorem tw_918 : Cond.selects RX9 yX9_open yX9_open ∈ gw := mem_gw 965 (by decide +kernel) (by decide +kernel)
theorem tw_919 : Cond.code yX9_open cX9_open 2 (some .int) ∈ gw := mem_gw 966 (by decide +kernel) (by decide +kernel)
theorem tw_920 : Cond.methodLink RX9 154 yX9_openAt ∈ gw := mem_gw 967 (by decide +kernel) (by decide +kernel)
theorem tw_922 : Cond.instanceMethod yX9_openAt ∈ gw := mem_gw 969 (by decide +kernel) (by decide +kernel)
theorem tw_923 : Cond.code yX9_openAt cX9_openAt 6 (some .int) ∈ gw := mem_gw 970 (by decide +kernel) (by decide +kernel)
theorem tw_924 : Cond.methodLink RL 84 yX9_fire ∈ gw := mem_gw 971 (by decide +kernel) (by decide +kernel)
theorem tw_925 : Cond.instanceMethod yX9_fire ∈ gw := mem_gw 972 (by decide +kernel) (by decide +kernel)
theorem tw_926 : Cond.selects RX9 yX9_fire yX9_fire ∈ gw := mem_gw 973 (by decide +kernel) (by decide +kernel)
theorem tw_927 : Cond.code yX9_fire cX9_fire 9 (some .int) ∈ gw := mem_gw 974 (by decide +kernel) (by decide +kernel)
theorem tw_928 : Cond.constantLong RX9 157 (2) ∈ gw := mem_gw 975 (by decide +kernel) (by decide +kernel)
theorem tw_929 : Cond.methodLink RL 88 yX9_bad ∈ gw := mem_gw 976 (by decide +kernel) (by decide +kernel)
theorem tw_930 : Cond.instanceMethod yX9_bad ∈ gw := mem_gw 977 (by decide +kernel) (by decide +kernel)
theorem tw_931 : Cond.selects RX9 yX9_bad yX9_bad ∈ gw := mem_gw 978 (by decide +kernel) (by decide +kernel)
theorem tw_932 : Cond.code yX9_bad cX9_bad 4 (some .int) ∈ gw := mem_gw 979 (by decide +kernel) (by decide +kernel)
theorem tw_933 : Cond.constantLong RX9 159 (20) ∈ gw := mem_gw 980 (by decide +kernel) (by decide +kernel)
theorem tw_934 : Cond.constantLong RX9 161 (4) ∈ gw := mem_gw 981 (by decide +kernel) (by decide +kernel)
theorem tw_935 : Cond.methodLink RL 93 yX9_likely ∈ gw := mem_gw 982 (by decide +kernel) (by decide +kernel)
theorem tw_936 : Cond.instanceMethod yX9_likely ∈ gw := mem_gw 983 (by decide +kernel) (by decide +kernel)
theorem tw_937 : Cond.selects RX9 yX9_likely yX9_likely ∈ gw := mem_gw 984 (by decide +kernel) (by decide +kernel)
theorem tw_938 : Cond.code yX9_likely cX9_likely 3 (some .long) ∈ gw := mem_gw 985 (by decide +kernel) (by decide +kernel)
theorem tw_939 : Cond.constantLong RX9 166 (-1000000000000000002) ∈ gw := mem_gw 986 (by decide +kernel) (by decide +kernel)
theorem tw_940 : Cond.methodLink RX9 168 yX9_allOpen ∈ gw := mem_gw 987 (by decide +kernel) (by decide +kernel)
theorem tw_942 : Cond.instanceMethod yX9_allOpen ∈ gw := mem_gw 989 (by decide +kernel) (by decide +kernel)
theorem tw_943 : Cond.code yX9_allOpen cX9_allOpen 5 (some .long) ∈ gw := mem_gw 990 (by decide +kernel) (by decide +kernel)
theorem tw_944 : Cond.methodLink RX9 163 yX9_quartersOf ∈ gw := mem_gw 991 (by decide +kernel) (by decide +kernel)
theorem tw_946 : Cond.instanceMethod yX9_quartersOf ∈ gw := mem_gw 993 (by decide +kernel) (by decide +kernel)
theorem tw_947 : Cond.code yX9_quartersOf cX9_quartersOf 4 (some .int) ∈ gw := mem_gw 994 (by decide +kernel) (by decide +kernel)
theorem tw_948 : Cond.methodLink RX9 172 yX9_lowest ∈ gw := mem_gw 995 (by decide +kernel) (by decide +kernel)
theorem tw_949 : Cond.static yX9_lowest ∈ gw := mem_gw 996 (by decide +kernel) (by decide +kernel)
theorem tw_950 : Cond.code yX9_lowest cX9_lowest 11 (some .long) ∈ gw := mem_gw 997 (by decide +kernel) (by decide +kernel)
theorem tw_951 : Cond.methodLink RL 97 yX9_one ∈ gw := mem_gw 998 (by decide +kernel) (by decide +kernel)
theorem tw_952 : Cond.instanceMethod yX9_one ∈ gw := mem_gw 999 (by decide +kernel) (by decide +kernel)
theorem tw_953 : Cond.selects RX9 yX9_one yX9_one ∈ gw := mem_gw 1000 (by decide +kernel) (by decide +kernel)
theorem tw_954 : Cond.code yX9_one cX9_one 5 (some .long) ∈ gw := mem_gw 1001 (by decide +kernel) (by decide +kernel)
theorem tw_955 : Cond.constantLong RX9 176 (3) ∈ gw := mem_gw 1002 (by decide +kernel) (by decide +kernel)
theorem tw_956 : Cond.methodLink RX9 178 yX9_noneOf ∈ gw := mem_gw 1003 (by decide +kernel) (by decide +kernel)
theorem tw_958 : Cond.instanceMethod yX9_noneOf ∈ gw := mem_gw 1005 (by decide +kernel) (by decide +kernel)
theorem tw_959 : Cond.code yX9_noneOf cX9_noneOf 5 (some .long) ∈ gw := mem_gw 1006 (by decide +kernel) (by decide +kernel)
theorem tw_960 : Cond.methodLink RL 101 yX9_many ∈ gw := mem_gw 1007 (by decide +kernel) (by decide +kernel)
theorem tw_961 : Cond.instanceMethod yX9_many ∈ gw := mem_gw 1008 (by decide +kernel) (by decide +kernel)
theorem tw_962 : Cond.selects RX9 yX9_many yX9_many ∈ gw := mem_gw 1009 (by decide +kernel) (by decide +kernel)
theorem tw_963 : Cond.code yX9_many cX9_many 6 (some .int) ∈ gw := mem_gw 1010 (by decide +kernel) (by decide +kernel)
theorem tw_964 : Cond.constantLong RX9 181 (100) ∈ gw := mem_gw 1011 (by decide +kernel) (by decide +kernel)
theorem tw_965 : Cond.methodLink RL 105 yX9_shoot ∈ gw := mem_gw 1012 (by decide +kernel) (by decide +kernel)
theorem tw_966 : Cond.instanceMethod yX9_shoot ∈ gw := mem_gw 1013 (by decide +kernel) (by decide +kernel)
theorem tw_967 : Cond.selects RX9 yX9_shoot yX9_shoot ∈ gw := mem_gw 1014 (by decide +kernel) (by decide +kernel)
theorem tw_968 : Cond.code yX9_shoot cX9_shoot 10 (some .int) ∈ gw := mem_gw 1015 (by decide +kernel) (by decide +kernel)
theorem tw_969 : Cond.constantLong RX9 183 (9999) ∈ gw := mem_gw 1016 (by decide +kernel) (by decide +kernel)
theorem tw_970 : Cond.constantLong RX9 185 (30) ∈ gw := mem_gw 1017 (by decide +kernel) (by decide +kernel)
theorem tw_971 : Cond.constantLong RX9 187 (75) ∈ gw := mem_gw 1018 (by decide +kernel) (by decide +kernel)
theorem tw_972 : Cond.constantLong RX9 189 (74) ∈ gw := mem_gw 1019 (by decide +kernel) (by decide +kernel)
theorem tw_973 : Cond.constantLong RX9 191 (65537) ∈ gw := mem_gw 1020 (by decide +kernel) (by decide +kernel)
theorem tw_974 : Cond.methodLink RL 109 yX9_stair ∈ gw := mem_gw 1021 (by decide +kernel) (by decide +kernel)
theorem tw_975 : Cond.instanceMethod yX9_stair ∈ gw := mem_gw 1022 (by decide +kernel) (by decide +kernel)
theorem tw_976 : Cond.selects RX9 yX9_stair yX9_stair ∈ gw := mem_gw 1023 (by decide +kernel) (by decide +kernel)
theorem tw_977 : Cond.code yX9_stair cX9_stair 3 (some .int) ∈ gw := mem_gw 1024 (by decide +kernel) (by decide +kernel)
theorem tw_978 : Cond.methodLink RL 113 yX9_tall ∈ gw := mem_gw 1025 (by decide +kernel) (by decide +kernel)
theorem tw_979 : Cond.instanceMethod yX9_tall ∈ gw := mem_gw 1026 (by decide +kernel) (by decide +kernel)
theorem tw_980 : Cond.selects RX9 yX9_tall yX9_tall ∈ gw := mem_gw 1027 (by decide +kernel) (by decide +kernel)
theorem tw_981 : Cond.code yX9_tall cX9_tall 4 (some .int) ∈ gw := mem_gw 1028 (by decide +kernel) (by decide +kernel)
theorem tw_982 : Cond.constantLong RX9 193 (50) ∈ gw := mem_gw 1029 (by decide +kernel) (by decide +kernel)
theorem tw_983 : Cond.constantLong RX9 195 (250) ∈ gw := mem_gw 1030 (by decide +kernel) (by decide +kernel)
theorem tw_984 : Cond.methodLink RL 117 yX9_pair ∈ gw := mem_gw 1031 (by decide +kernel) (by decide +kernel)
theorem tw_985 : Cond.instanceMethod yX9_pair ∈ gw := mem_gw 1032 (by decide +kernel) (by decide +kernel)
theorem tw_986 : Cond.selects RX9 yX9_pair yX9_pair ∈ gw := mem_gw 1033 (by decide +kernel) (by decide +kernel)
theorem tw_987 : Cond.code yX9_pair cX9_pair 5 (some .int) ∈ gw := mem_gw 1034 (by decide +kernel) (by decide +kernel)
theorem tw_988 : Cond.methodLink RL 121 yX9_judge ∈ gw := mem_gw 1035 (by decide +kernel) (by decide +kernel)
theorem tw_989 : Cond.instanceMethod yX9_judge ∈ gw := mem_gw 1036 (by decide +kernel) (by decide +kernel)
theorem tw_990 : Cond.selects RX9 yX9_judge yX9_judge ∈ gw := mem_gw 1037 (by decide +kernel) (by decide +kernel)
theorem tw_991 : Cond.code yX9_judge cX9_judge 4 (some .int) ∈ gw := mem_gw 1038 (by decide +kernel) (by decide +kernel)
theorem tw_992 : Cond.methodLink RX9 206 yX9_wrongWith ∈ gw := mem_gw 1039 (by decide +kernel) (by decide +kernel)
theorem tw_994 : Cond.instanceMethod yX9_wrongWith ∈ gw := mem_gw 1041 (by decide +kernel) (by decide +kernel)
theorem tw_995 : Cond.code yX9_wrongWith cX9_wrongWith 6 (some .int) ∈ gw := mem_gw 1042 (by decide +kernel) (by decide +kernel)
theorem tw_996 : Cond.methodLink RX9 200 yX9_isHidden ∈ gw := mem_gw 1043 (by decide +kernel) (by decide +kernel)
theorem tw_998 : Cond.instanceMethod yX9_isHidden ∈ gw := mem_gw 1045 (by decide +kernel) (by decide +kernel)
theorem tw_999 : Cond.code yX9_isHidden cX9_isHidden 3 (some .boolean) ∈ gw := mem_gw 1046 (by decide +kernel) (by decide +kernel)
theorem tw_1000 : Cond.methodLink RX9 197 yX9_heightOf ∈ gw := mem_gw 1047 (by decide +kernel) (by decide +kernel)
theorem tw_1002 : Cond.instanceMethod yX9_heightOf ∈ gw := mem_gw 1049 (by decide +kernel) (by decide +kernel)
theorem tw_1003 : Cond.code yX9_heightOf cX9_heightOf 2 (some .int) ∈ gw := mem_gw 1050 (by decide +kernel) (by decide +kernel)
theorem tw_1004 : Cond.methodLink RX9 203 yX9_areBeside ∈ gw := mem_gw 1051 (by decide +kernel) (by decide +kernel)
theorem tw_1006 : Cond.instanceMethod yX9_areBeside ∈ gw := mem_gw 1053 (by decide +kernel) (by decide +kernel)
theorem tw_1007 : Cond.code yX9_areBeside cX9_areBeside 5 (some .boolean) ∈ gw := mem_gw 1054 (by decide +kernel) (by decide +kernel)
theorem tw_1008 : Cond.methodLink RL 125 yX9_placed ∈ gw := mem_gw 1055 (by decide +kernel) (by decide +kernel)
theorem tw_1009 : Cond.instanceMethod yX9_placed ∈ gw := mem_gw 1056 (by decide +kernel) (by decide +kernel)
theorem tw_1010 : Cond.selects RX9 yX9_placed yX9_placed ∈ gw := mem_gw 1057 (by decide +kernel) (by decide +kernel)
theorem tw_1011 : Cond.code yX9_placed cX9_placed 3 (some .int) ∈ gw := mem_gw 1058 (by decide +kernel) (by decide +kernel)
theorem tw_1012 : Cond.methodLink RX9 212 yX9_findStandings ∈ gw := mem_gw 1059 (by decide +kernel) (by decide +kernel)
theorem tw_1014 : Cond.instanceMethod yX9_findStandings ∈ gw := mem_gw 1061 (by decide +kernel) (by decide +kernel)
theorem tw_1015 : Cond.code yX9_findStandings cX9_findStandings 4 (some .int) ∈ gw := mem_gw 1062 (by decide +kernel) (by decide +kernel)
theorem tw_1016 : Cond.methodLink RX9 209 yX9_goesWith ∈ gw := mem_gw 1063 (by decide +kernel) (by decide +kernel)
theorem tw_1018 : Cond.instanceMethod yX9_goesWith ∈ gw := mem_gw 1065 (by decide +kernel) (by decide +kernel)
theorem tw_1019 : Cond.code yX9_goesWith cX9_goesWith 5 (some .boolean) ∈ gw := mem_gw 1066 (by decide +kernel) (by decide +kernel)
theorem tw_1020 : Cond.methodLink RL 129 yX9_image ∈ gw := mem_gw 1067 (by decide +kernel) (by decide +kernel)
theorem tw_1021 : Cond.instanceMethod yX9_image ∈ gw := mem_gw 1068 (by decide +kernel) (by decide +kernel)
theorem tw_1022 : Cond.selects RX9 yX9_image yX9_image ∈ gw := mem_gw 1069 (by decide +kernel) (by decide +kernel)
theorem tw_1023 : Cond.code yX9_image cX9_image 2 (some .int) ∈ gw := mem_gw 1070 (by decide +kernel) (by decide +kernel)
theorem tw_1024 : Cond.methodLink RX9 225 yX9_passAll ∈ gw := mem_gw 1071 (by decide +kernel) (by decide +kernel)
theorem tw_1026 : Cond.instanceMethod yX9_passAll ∈ gw := mem_gw 1073 (by decide +kernel) (by decide +kernel)
theorem tw_1027 : Cond.code yX9_passAll cX9_passAll 2 none ∈ gw := mem_gw 1074 (by decide +kernel) (by decide +kernel)
theorem tw_1028 : Cond.methodLink RX9 222 yX9_pass ∈ gw := mem_gw 1075 (by decide +kernel) (by decide +kernel)
theorem tw_1030 : Cond.instanceMethod yX9_pass ∈ gw := mem_gw 1077 (by decide +kernel) (by decide +kernel)
theorem tw_1031 : Cond.code yX9_pass cX9_pass 3 (some .int) ∈ gw := mem_gw 1078 (by decide +kernel) (by decide +kernel)
theorem tw_1032 : Cond.methodLink RL 133 yX9_restore ∈ gw := mem_gw 1079 (by decide +kernel) (by decide +kernel)
theorem tw_1033 : Cond.instanceMethod yX9_restore ∈ gw := mem_gw 1080 (by decide +kernel) (by decide +kernel)
theorem tw_1034 : Cond.selects RX9 yX9_restore yX9_restore ∈ gw := mem_gw 1081 (by decide +kernel) (by decide +kernel)
theorem tw_1035 : Cond.code yX9_restore cX9_restore 2 (some .int) ∈ gw := mem_gw 1082 (by decide +kernel) (by decide +kernel)
theorem tw_1036 : Cond.methodLink RL 137 yX9_told ∈ gw := mem_gw 1083 (by decide +kernel) (by decide +kernel)
theorem tw_1037 : Cond.instanceMethod yX9_told ∈ gw := mem_gw 1084 (by decide +kernel) (by decide +kernel)
theorem tw_1038 : Cond.selects RX9 yX9_told yX9_told ∈ gw := mem_gw 1085 (by decide +kernel) (by decide +kernel)
theorem tw_1039 : Cond.code yX9_told cX9_told 2 (some .int) ∈ gw := mem_gw 1086 (by decide +kernel) (by decide +kernel)
theorem tw_1040 : Cond.constantLong RX9 228 (10) ∈ gw := mem_gw 1087 (by decide +kernel) (by decide +kernel)
def nestW : List Cond := [Cond.methodLinkNest RX8 9 yX3_init RX8, Cond.fieldLinkNest RX8 244 RX3 "count" "I" RX8, Cond.methodLinkNest RX8 18 yX5_init RX8, Cond.methodLinkNest RX5 20 yX6_init RX8, Cond.fieldLinkNest RX1 26 RX6 "count" "I" RX8, Cond.fieldLinkNest RX8 245 RX6 "count" "I" RX8, Cond.fieldLinkNest RX8 115 RX6 "hands" "I" RX8, Cond.fieldLinkNest RX8 141 RX0 "flash" "I" RX8, Cond.fieldLinkNest RX8 246 RX2 "tired" "I" RX8, Cond.fieldLinkNest RX8 249 RX7 "rows" "I" RX8, Cond.fieldLinkNest RX8 252 RX7 "columns" "I" RX8, Cond.fieldLinkNest RX8 255 RX7 "rise" "I" RX8, Cond.fieldLinkNest RX4 19 RX7 "changed" "Z" RX8, Cond.fieldLinkNest RX8 72 RX5 "people" "I" RX8, Cond.fieldLinkNest RX8 57 RX5 "bride" "I" RX8, Cond.fieldLinkNest RX8 81 RX5 "shots" "LOpenEyes$Shots;" RX8, Cond.fieldLinkNest RX8 128 RX5 "blinks" "LOpenEyes$Blinks;" RX8, Cond.fieldLinkNest RX8 158 RX5 "odds" "LOpenEyes$Odds;" RX8, Cond.fieldLinkNest RX8 192 RX5 "stair" "LOpenEyes$Stair;" RX8, Cond.methodLinkNest RX8 29 yX1_init RX8, Cond.methodLinkNest RX8 36 yX4_init RX8, Cond.fieldLinkNest RX8 228 RX4 "count" "I" RX8, Cond.methodLinkNest RX3 34 yX8_within RX8, Cond.methodLinkNest RX0 37 yX8_within RX8]
theorem tn_0 : Cond.methodLinkNest RX8 9 yX3_init RX8 ∈ nestW := List.mem_of_getElem? (i := 0) (by decide +kernel)
theorem tn_1 : Cond.fieldLinkNest RX8 244 RX3 "count" "I" RX8 ∈ nestW := List.mem_of_getElem? (i := 1) (by decide +kernel)
theorem tn_2 : Cond.methodLinkNest RX8 18 yX5_init RX8 ∈ nestW := List.mem_of_getElem? (i := 2) (by decide +kernel)
theorem tn_3 : Cond.methodLinkNest RX5 20 yX6_init RX8 ∈ nestW := List.mem_of_getElem? (i := 3) (by decide +kernel)
theorem tn_4 : Cond.fieldLinkNest RX1 26 RX6 "count" "I" RX8 ∈ nestW := List.mem_of_getElem? (i := 4) (by decide +kernel)
theorem tn_5 : Cond.fieldLinkNest RX8 245 RX6 "count" "I" RX8 ∈ nestW := List.mem_of_getElem? (i := 5) (by decide +kernel)
theorem tn_6 : Cond.fieldLinkNest RX8 115 RX6 "hands" "I" RX8 ∈ nestW := List.mem_of_getElem? (i := 6) (by decide +kernel)
theorem tn_7 : Cond.fieldLinkNest RX8 141 RX0 "flash" "I" RX8 ∈ nestW := List.mem_of_getElem? (i := 7) (by decide +kernel)
theorem tn_8 : Cond.fieldLinkNest RX8 246 RX2 "tired" "I" RX8 ∈ nestW := List.mem_of_getElem? (i := 8) (by decide +kernel)
theorem tn_9 : Cond.fieldLinkNest RX8 249 RX7 "rows" "I" RX8 ∈ nestW := List.mem_of_getElem? (i := 9) (by decide +kernel)
theorem tn_10 : Cond.fieldLinkNest RX8 252 RX7 "columns" "I" RX8 ∈ nestW := List.mem_of_getElem? (i := 10) (by decide +kernel)
theorem tn_11 : Cond.fieldLinkNest RX8 255 RX7 "rise" "I" RX8 ∈ nestW := List.mem_of_getElem? (i := 11) (by decide +kernel)
theorem tn_12 : Cond.fieldLinkNest RX4 19 RX7 "changed" "Z" RX8 ∈ nestW := List.mem_of_getElem? (i := 12) (by decide +kernel)
theorem tn_13 : Cond.fieldLinkNest RX8 72 RX5 "people" "I" RX8 ∈ nestW := List.mem_of_getElem? (i := 13) (by decide +kernel)
theorem tn_14 : Cond.fieldLinkNest RX8 57 RX5 "bride" "I" RX8 ∈ nestW := List.mem_of_getElem? (i := 14) (by decide +kernel)
theorem tn_15 : Cond.fieldLinkNest RX8 81 RX5 "shots" "LOpenEyes$Shots;" RX8 ∈ nestW := List.mem_of_getElem? (i := 15) (by decide +kernel)
theorem tn_16 : Cond.fieldLinkNest RX8 128 RX5 "blinks" "LOpenEyes$Blinks;" RX8 ∈ nestW := List.mem_of_getElem? (i := 16) (by decide +kernel)
theorem tn_17 : Cond.fieldLinkNest RX8 158 RX5 "odds" "LOpenEyes$Odds;" RX8 ∈ nestW := List.mem_of_getElem? (i := 17) (by decide +kernel)
theorem tn_18 : Cond.fieldLinkNest RX8 192 RX5 "stair" "LOpenEyes$Stair;" RX8 ∈ nestW := List.mem_of_getElem? (i := 18) (by decide +kernel)
theorem tn_19 : Cond.methodLinkNest RX8 29 yX1_init RX8 ∈ nestW := List.mem_of_getElem? (i := 19) (by decide +kernel)
theorem tn_20 : Cond.methodLinkNest RX8 36 yX4_init RX8 ∈ nestW := List.mem_of_getElem? (i := 20) (by decide +kernel)
theorem tn_21 : Cond.fieldLinkNest RX8 228 RX4 "count" "I" RX8 ∈ nestW := List.mem_of_getElem? (i := 21) (by decide +kernel)
theorem tn_22 : Cond.methodLinkNest RX3 34 yX8_within RX8 ∈ nestW := List.mem_of_getElem? (i := 22) (by decide +kernel)
theorem tn_23 : Cond.methodLinkNest RX0 37 yX8_within RX8 ∈ nestW := List.mem_of_getElem? (i := 23) (by decide +kernel)
theorem nest_tbl : ∀ w ∈ nestW, w ∈ lw_tbl := by decide +kernel
end
section
theorem dX0_init_0 : decode cX0_init 0 = .ok (.aload_n 0, 1) := by decide +kernel
theorem dX0_init_1 : decode cX0_init 1 = .ok (.invokespecial 3, 3) := by decide +kernel
theorem dX0_init_4 : decode cX0_init 4 = .ok (.aload_n 0, 1) := by decide +kernel
theorem dX0_init_5 : decode cX0_init 5 = .ok (.iconst (-1), 1) := by decide +kernel
theorem dX0_init_6 : decode cX0_init 6 = .ok (.putfield 9, 3) := by decide +kernel
theorem dX0_init_9 : decode cX0_init 9 = .ok (.aload_n 0, 1) := by decide +kernel
theorem dX0_init_10 : decode cX0_init 10 = .ok (.bipush 24, 2) := by decide +kernel
theorem dX0_init_12 : decode cX0_init 12 = .ok (.newarray .int, 2) := by decide +kernel
theorem dX0_init_14 : decode cX0_init 14 = .ok (.putfield 15, 3) := by decide +kernel
theorem dX0_init_17 : decode cX0_init 17 = .ok (.aload_n 0, 1) := by decide +kernel
theorem dX0_init_18 : decode cX0_init 18 = .ok (.invokevirtual 19, 3) := by decide +kernel
theorem dX0_init_21 : decode cX0_init 21 = .ok (.return_, 1) := by decide +kernel
theorem dX0_startPeople_0 : decode cX0_startPeople 0 = .ok (.iconst 0, 1) := by decide +kernel
theorem dX0_startPeople_1 : decode cX0_startPeople 1 = .ok (.istore_n 1, 1) := by decide +kernel
theorem dX0_startPeople_2 : decode cX0_startPeople 2 = .ok (.iload_n 1, 1) := by decide +kernel
theorem dX0_startPeople_3 : decode cX0_startPeople 3 = .ok (.bipush 8, 2) := by decide +kernel
theorem dX0_startPeople_5 : decode cX0_startPeople 5 = .ok (.if_icmp .ge 43, 3) := by decide +kernel
theorem dX0_startPeople_8 : decode cX0_startPeople 8 = .ok (.aload_n 0, 1) := by decide +kernel
theorem dX0_startPeople_9 : decode cX0_startPeople 9 = .ok (.getfield 15, 3) := by decide +kernel
theorem dX0_startPeople_12 : decode cX0_startPeople 12 = .ok (.iload_n 1, 1) := by decide +kernel
theorem dX0_startPeople_13 : decode cX0_startPeople 13 = .ok (.iconst 3, 1) := by decide +kernel
theorem dX0_startPeople_14 : decode cX0_startPeople 14 = .ok (.imul, 1) := by decide +kernel
theorem dX0_startPeople_15 : decode cX0_startPeople 15 = .ok (.iconst 0, 1) := by decide +kernel
theorem dX0_startPeople_16 : decode cX0_startPeople 16 = .ok (.iadd, 1) := by decide +kernel
theorem dX0_startPeople_17 : decode cX0_startPeople 17 = .ok (.bipush 30, 2) := by decide +kernel
theorem dX0_startPeople_19 : decode cX0_startPeople 19 = .ok (.iastore, 1) := by decide +kernel
theorem dX0_startPeople_20 : decode cX0_startPeople 20 = .ok (.aload_n 0, 1) := by decide +kernel
theorem dX0_startPeople_21 : decode cX0_startPeople 21 = .ok (.getfield 15, 3) := by decide +kernel
theorem dX0_startPeople_24 : decode cX0_startPeople 24 = .ok (.iload_n 1, 1) := by decide +kernel
theorem dX0_startPeople_25 : decode cX0_startPeople 25 = .ok (.iconst 3, 1) := by decide +kernel
theorem dX0_startPeople_26 : decode cX0_startPeople 26 = .ok (.imul, 1) := by decide +kernel
theorem dX0_startPeople_27 : decode cX0_startPeople 27 = .ok (.iconst 1, 1) := by decide +kernel
theorem dX0_startPeople_28 : decode cX0_startPeople 28 = .ok (.iadd, 1) := by decide +kernel
theorem dX0_startPeople_29 : decode cX0_startPeople 29 = .ok (.iconst 2, 1) := by decide +kernel
theorem dX0_startPeople_30 : decode cX0_startPeople 30 = .ok (.iastore, 1) := by decide +kernel
theorem dX0_startPeople_31 : decode cX0_startPeople 31 = .ok (.aload_n 0, 1) := by decide +kernel
theorem dX0_startPeople_32 : decode cX0_startPeople 32 = .ok (.getfield 15, 3) := by decide +kernel
theorem dX0_startPeople_35 : decode cX0_startPeople 35 = .ok (.iload_n 1, 1) := by decide +kernel
theorem dX0_startPeople_36 : decode cX0_startPeople 36 = .ok (.iconst 3, 1) := by decide +kernel
theorem dX0_startPeople_37 : decode cX0_startPeople 37 = .ok (.imul, 1) := by decide +kernel
theorem dX0_startPeople_38 : decode cX0_startPeople 38 = .ok (.iconst 2, 1) := by decide +kernel
theorem dX0_startPeople_39 : decode cX0_startPeople 39 = .ok (.iadd, 1) := by decide +kernel
theorem dX0_startPeople_40 : decode cX0_startPeople 40 = .ok (.iconst 0, 1) := by decide +kernel
theorem dX0_startPeople_41 : decode cX0_startPeople 41 = .ok (.iastore, 1) := by decide +kernel
theorem dX0_startPeople_42 : decode cX0_startPeople 42 = .ok (.iinc 1 1, 3) := by decide +kernel
theorem dX0_startPeople_45 : decode cX0_startPeople 45 = .ok (.goto (-43), 3) := by decide +kernel
theorem dX0_startPeople_48 : decode cX0_startPeople 48 = .ok (.return_, 1) := by decide +kernel
theorem dX0_copyFrom_0 : decode cX0_copyFrom 0 = .ok (.aload_n 0, 1) := by decide +kernel
theorem dX0_copyFrom_1 : decode cX0_copyFrom 1 = .ok (.aload_n 1, 1) := by decide +kernel
theorem dX0_copyFrom_2 : decode cX0_copyFrom 2 = .ok (.getfield 9, 3) := by decide +kernel
theorem dX0_copyFrom_5 : decode cX0_copyFrom 5 = .ok (.putfield 9, 3) := by decide +kernel
theorem dX0_copyFrom_8 : decode cX0_copyFrom 8 = .ok (.aload_n 1, 1) := by decide +kernel
theorem dX0_copyFrom_9 : decode cX0_copyFrom 9 = .ok (.getfield 15, 3) := by decide +kernel
theorem dX0_copyFrom_12 : decode cX0_copyFrom 12 = .ok (.iconst 0, 1) := by decide +kernel
theorem dX0_copyFrom_13 : decode cX0_copyFrom 13 = .ok (.aload_n 0, 1) := by decide +kernel
theorem dX0_copyFrom_14 : decode cX0_copyFrom 14 = .ok (.getfield 15, 3) := by decide +kernel
theorem dX0_copyFrom_17 : decode cX0_copyFrom 17 = .ok (.iconst 0, 1) := by decide +kernel
theorem dX0_copyFrom_18 : decode cX0_copyFrom 18 = .ok (.bipush 24, 2) := by decide +kernel
theorem dX0_copyFrom_20 : decode cX0_copyFrom 20 = .ok (.invokestatic 22, 3) := by decide +kernel
theorem dX0_copyFrom_23 : decode cX0_copyFrom 23 = .ok (.return_, 1) := by decide +kernel
theorem dX0_fits_0 : decode cX0_fits 0 = .ok (.iload_n 2, 1) := by decide +kernel
theorem dX0_fits_1 : decode cX0_fits 1 = .ok (.tableswitch 64 0 2 #[27, 44, 56], 27) := by decide +kernel
theorem dX0_fits_28 : decode cX0_fits 28 = .ok (.iload_n 3, 1) := by decide +kernel
theorem dX0_fits_29 : decode cX0_fits 29 = .ok (.iconst 1, 1) := by decide +kernel
theorem dX0_fits_30 : decode cX0_fits 30 = .ok (.aload_n 0, 1) := by decide +kernel
theorem dX0_fits_31 : decode cX0_fits 31 = .ok (.iload_n 1, 1) := by decide +kernel
theorem dX0_fits_32 : decode cX0_fits 32 = .ok (.iconst 1, 1) := by decide +kernel
theorem dX0_fits_33 : decode cX0_fits 33 = .ok (.invokevirtual 28, 3) := by decide +kernel
theorem dX0_fits_36 : decode cX0_fits 36 = .ok (.invokestatic 32, 3) := by decide +kernel
theorem dX0_fits_39 : decode cX0_fits 39 = .ok (.bipush 60, 2) := by decide +kernel
theorem dX0_fits_41 : decode cX0_fits 41 = .ok (.invokestatic 37, 3) := by decide +kernel
theorem dX0_fits_44 : decode cX0_fits 44 = .ok (.ireturn, 1) := by decide +kernel
theorem dX0_fits_45 : decode cX0_fits 45 = .ok (.iload_n 3, 1) := by decide +kernel
theorem dX0_fits_46 : decode cX0_fits 46 = .ok (.iconst 0, 1) := by decide +kernel
theorem dX0_fits_47 : decode cX0_fits 47 = .ok (.aload_n 0, 1) := by decide +kernel
theorem dX0_fits_48 : decode cX0_fits 48 = .ok (.iload_n 1, 1) := by decide +kernel
theorem dX0_fits_49 : decode cX0_fits 49 = .ok (.iconst 0, 1) := by decide +kernel
theorem dX0_fits_50 : decode cX0_fits 50 = .ok (.invokevirtual 28, 3) := by decide +kernel
theorem dX0_fits_53 : decode cX0_fits 53 = .ok (.invokestatic 37, 3) := by decide +kernel
theorem dX0_fits_56 : decode cX0_fits 56 = .ok (.ireturn, 1) := by decide +kernel
theorem dX0_fits_57 : decode cX0_fits 57 = .ok (.iload_n 3, 1) := by decide +kernel
theorem dX0_fits_58 : decode cX0_fits 58 = .ok (.iconst 0, 1) := by decide +kernel
theorem dX0_fits_59 : decode cX0_fits 59 = .ok (.bipush 59, 2) := by decide +kernel
theorem dX0_fits_61 : decode cX0_fits 61 = .ok (.invokestatic 37, 3) := by decide +kernel
theorem dX0_fits_64 : decode cX0_fits 64 = .ok (.ireturn, 1) := by decide +kernel
theorem dX0_fits_65 : decode cX0_fits 65 = .ok (.iconst 0, 1) := by decide +kernel
theorem dX0_fits_66 : decode cX0_fits 66 = .ok (.ireturn, 1) := by decide +kernel
theorem dX0_change_0 : decode cX0_change 0 = .ok (.aload_n 0, 1) := by decide +kernel
theorem dX0_change_1 : decode cX0_change 1 = .ok (.iload_n 1, 1) := by decide +kernel
theorem dX0_change_2 : decode cX0_change 2 = .ok (.iload_n 2, 1) := by decide +kernel
theorem dX0_change_3 : decode cX0_change 3 = .ok (.invokevirtual 28, 3) := by decide +kernel
theorem dX0_change_6 : decode cX0_change 6 = .ok (.istore 4, 2) := by decide +kernel
theorem dX0_change_8 : decode cX0_change 8 = .ok (.aload_n 0, 1) := by decide +kernel
theorem dX0_change_9 : decode cX0_change 9 = .ok (.getfield 15, 3) := by decide +kernel
theorem dX0_change_12 : decode cX0_change 12 = .ok (.iload_n 1, 1) := by decide +kernel
theorem dX0_change_13 : decode cX0_change 13 = .ok (.iconst 3, 1) := by decide +kernel
theorem dX0_change_14 : decode cX0_change 14 = .ok (.imul, 1) := by decide +kernel
theorem dX0_change_15 : decode cX0_change 15 = .ok (.iload_n 2, 1) := by decide +kernel
theorem dX0_change_16 : decode cX0_change 16 = .ok (.iadd, 1) := by decide +kernel
theorem dX0_change_17 : decode cX0_change 17 = .ok (.iload_n 3, 1) := by decide +kernel
theorem dX0_change_18 : decode cX0_change 18 = .ok (.iastore, 1) := by decide +kernel
theorem dX0_change_19 : decode cX0_change 19 = .ok (.iload 4, 2) := by decide +kernel
theorem dX0_change_21 : decode cX0_change 21 = .ok (.ireturn, 1) := by decide +kernel
theorem dX0_settingOf_0 : decode cX0_settingOf 0 = .ok (.aload_n 0, 1) := by decide +kernel
theorem dX0_settingOf_1 : decode cX0_settingOf 1 = .ok (.getfield 15, 3) := by decide +kernel
theorem dX0_settingOf_4 : decode cX0_settingOf 4 = .ok (.iload_n 1, 1) := by decide +kernel
theorem dX0_settingOf_5 : decode cX0_settingOf 5 = .ok (.iconst 3, 1) := by decide +kernel
theorem dX0_settingOf_6 : decode cX0_settingOf 6 = .ok (.imul, 1) := by decide +kernel
theorem dX0_settingOf_7 : decode cX0_settingOf 7 = .ok (.iload_n 2, 1) := by decide +kernel
theorem dX0_settingOf_8 : decode cX0_settingOf 8 = .ok (.iadd, 1) := by decide +kernel
theorem dX0_settingOf_9 : decode cX0_settingOf 9 = .ok (.iaload, 1) := by decide +kernel
theorem dX0_settingOf_10 : decode cX0_settingOf 10 = .ok (.ireturn, 1) := by decide +kernel
theorem dX0_openAt_0 : decode cX0_openAt 0 = .ok (.aload_n 0, 1) := by decide +kernel
theorem dX0_openAt_1 : decode cX0_openAt 1 = .ok (.iload_n 1, 1) := by decide +kernel
theorem dX0_openAt_2 : decode cX0_openAt 2 = .ok (.invokevirtual 41, 3) := by decide +kernel
theorem dX0_openAt_5 : decode cX0_openAt 5 = .ok (.ifCond .eq 5, 3) := by decide +kernel
theorem dX0_openAt_8 : decode cX0_openAt 8 = .ok (.iconst 0, 1) := by decide +kernel
theorem dX0_openAt_9 : decode cX0_openAt 9 = .ok (.ireturn, 1) := by decide +kernel
theorem dX0_openAt_10 : decode cX0_openAt 10 = .ok (.iconst 0, 1) := by decide +kernel
theorem dX0_openAt_11 : decode cX0_openAt 11 = .ok (.istore_n 3, 1) := by decide +kernel
theorem dX0_openAt_12 : decode cX0_openAt 12 = .ok (.iconst 0, 1) := by decide +kernel
theorem dX0_openAt_13 : decode cX0_openAt 13 = .ok (.istore 4, 2) := by decide +kernel
theorem dX0_openAt_15 : decode cX0_openAt 15 = .ok (.iload 4, 2) := by decide +kernel
theorem dX0_openAt_17 : decode cX0_openAt 17 = .ok (.iload_n 2, 1) := by decide +kernel
theorem dX0_openAt_18 : decode cX0_openAt 18 = .ok (.if_icmp .ge 26, 3) := by decide +kernel
theorem dX0_openAt_21 : decode cX0_openAt 21 = .ok (.aload_n 0, 1) := by decide +kernel
theorem dX0_openAt_22 : decode cX0_openAt 22 = .ok (.iload 4, 2) := by decide +kernel
theorem dX0_openAt_24 : decode cX0_openAt 24 = .ok (.iload_n 1, 1) := by decide +kernel
theorem dX0_openAt_25 : decode cX0_openAt 25 = .ok (.invokevirtual 45, 3) := by decide +kernel
theorem dX0_openAt_28 : decode cX0_openAt 28 = .ok (.ifCond .ne 10, 3) := by decide +kernel
theorem dX0_openAt_31 : decode cX0_openAt 31 = .ok (.iload_n 3, 1) := by decide +kernel
theorem dX0_openAt_32 : decode cX0_openAt 32 = .ok (.iconst 1, 1) := by decide +kernel
theorem dX0_openAt_33 : decode cX0_openAt 33 = .ok (.iload 4, 2) := by decide +kernel
theorem dX0_openAt_35 : decode cX0_openAt 35 = .ok (.ishl, 1) := by decide +kernel
theorem dX0_openAt_36 : decode cX0_openAt 36 = .ok (.ior, 1) := by decide +kernel
theorem dX0_openAt_37 : decode cX0_openAt 37 = .ok (.istore_n 3, 1) := by decide +kernel
theorem dX0_openAt_38 : decode cX0_openAt 38 = .ok (.iinc 4 1, 3) := by decide +kernel
theorem dX0_openAt_41 : decode cX0_openAt 41 = .ok (.goto (-26), 3) := by decide +kernel
theorem dX0_openAt_44 : decode cX0_openAt 44 = .ok (.iload_n 3, 1) := by decide +kernel
theorem dX0_openAt_45 : decode cX0_openAt 45 = .ok (.ireturn, 1) := by decide +kernel
theorem dX0_isFlashed_0 : decode cX0_isFlashed 0 = .ok (.aload_n 0, 1) := by decide +kernel
theorem dX0_isFlashed_1 : decode cX0_isFlashed 1 = .ok (.getfield 9, 3) := by decide +kernel
theorem dX0_isFlashed_4 : decode cX0_isFlashed 4 = .ok (.ifCond .lt 27, 3) := by decide +kernel
theorem dX0_isFlashed_7 : decode cX0_isFlashed 7 = .ok (.iload_n 1, 1) := by decide +kernel
theorem dX0_isFlashed_8 : decode cX0_isFlashed 8 = .ok (.aload_n 0, 1) := by decide +kernel
theorem dX0_isFlashed_9 : decode cX0_isFlashed 9 = .ok (.getfield 9, 3) := by decide +kernel
theorem dX0_isFlashed_12 : decode cX0_isFlashed 12 = .ok (.iconst 1, 1) := by decide +kernel
theorem dX0_isFlashed_13 : decode cX0_isFlashed 13 = .ok (.iadd, 1) := by decide +kernel
theorem dX0_isFlashed_14 : decode cX0_isFlashed 14 = .ok (.if_icmp .eq 13, 3) := by decide +kernel
theorem dX0_isFlashed_17 : decode cX0_isFlashed 17 = .ok (.iload_n 1, 1) := by decide +kernel
theorem dX0_isFlashed_18 : decode cX0_isFlashed 18 = .ok (.aload_n 0, 1) := by decide +kernel
theorem dX0_isFlashed_19 : decode cX0_isFlashed 19 = .ok (.getfield 9, 3) := by decide +kernel
theorem dX0_isFlashed_22 : decode cX0_isFlashed 22 = .ok (.iconst 2, 1) := by decide +kernel
theorem dX0_isFlashed_23 : decode cX0_isFlashed 23 = .ok (.iadd, 1) := by decide +kernel
theorem dX0_isFlashed_24 : decode cX0_isFlashed 24 = .ok (.if_icmp .ne 7, 3) := by decide +kernel
theorem dX0_isFlashed_27 : decode cX0_isFlashed 27 = .ok (.iconst 1, 1) := by decide +kernel
theorem dX0_isFlashed_28 : decode cX0_isFlashed 28 = .ok (.goto 4, 3) := by decide +kernel
theorem dX0_isFlashed_31 : decode cX0_isFlashed 31 = .ok (.iconst 0, 1) := by decide +kernel
theorem dX0_isFlashed_32 : decode cX0_isFlashed 32 = .ok (.ireturn, 1) := by decide +kernel
theorem dX0_isShut_0 : decode cX0_isShut 0 = .ok (.aload_n 0, 1) := by decide +kernel
theorem dX0_isShut_1 : decode cX0_isShut 1 = .ok (.iload_n 1, 1) := by decide +kernel
theorem dX0_isShut_2 : decode cX0_isShut 2 = .ok (.iconst 0, 1) := by decide +kernel
theorem dX0_isShut_3 : decode cX0_isShut 3 = .ok (.invokevirtual 28, 3) := by decide +kernel
theorem dX0_isShut_6 : decode cX0_isShut 6 = .ok (.istore_n 3, 1) := by decide +kernel
theorem dX0_isShut_7 : decode cX0_isShut 7 = .ok (.iload_n 3, 1) := by decide +kernel
theorem dX0_isShut_8 : decode cX0_isShut 8 = .ok (.iconst 1, 1) := by decide +kernel
theorem dX0_isShut_9 : decode cX0_isShut 9 = .ok (.if_icmp .ge 5, 3) := by decide +kernel
theorem dX0_isShut_12 : decode cX0_isShut 12 = .ok (.iconst 0, 1) := by decide +kernel
theorem dX0_isShut_13 : decode cX0_isShut 13 = .ok (.ireturn, 1) := by decide +kernel
theorem dX0_isShut_14 : decode cX0_isShut 14 = .ok (.iload_n 2, 1) := by decide +kernel
theorem dX0_isShut_15 : decode cX0_isShut 15 = .ok (.aload_n 0, 1) := by decide +kernel
theorem dX0_isShut_16 : decode cX0_isShut 16 = .ok (.iload_n 1, 1) := by decide +kernel
theorem dX0_isShut_17 : decode cX0_isShut 17 = .ok (.iconst 2, 1) := by decide +kernel
theorem dX0_isShut_18 : decode cX0_isShut 18 = .ok (.invokevirtual 28, 3) := by decide +kernel
theorem dX0_isShut_21 : decode cX0_isShut 21 = .ok (.iadd, 1) := by decide +kernel
theorem dX0_isShut_22 : decode cX0_isShut 22 = .ok (.iload_n 3, 1) := by decide +kernel
theorem dX0_isShut_23 : decode cX0_isShut 23 = .ok (.irem, 1) := by decide +kernel
theorem dX0_isShut_24 : decode cX0_isShut 24 = .ok (.aload_n 0, 1) := by decide +kernel
theorem dX0_isShut_25 : decode cX0_isShut 25 = .ok (.iload_n 1, 1) := by decide +kernel
theorem dX0_isShut_26 : decode cX0_isShut 26 = .ok (.iconst 1, 1) := by decide +kernel
theorem dX0_isShut_27 : decode cX0_isShut 27 = .ok (.invokevirtual 28, 3) := by decide +kernel
theorem dX0_isShut_30 : decode cX0_isShut 30 = .ok (.if_icmp .ge 7, 3) := by decide +kernel
theorem dX0_isShut_33 : decode cX0_isShut 33 = .ok (.iconst 1, 1) := by decide +kernel
theorem dX0_isShut_34 : decode cX0_isShut 34 = .ok (.goto 4, 3) := by decide +kernel
theorem dX0_isShut_37 : decode cX0_isShut 37 = .ok (.iconst 0, 1) := by decide +kernel
theorem dX0_isShut_38 : decode cX0_isShut 38 = .ok (.ireturn, 1) := by decide +kernel
theorem dX0_bestTenth_0 : decode cX0_bestTenth 0 = .ok (.iload_n 1, 1) := by decide +kernel
theorem dX0_bestTenth_1 : decode cX0_bestTenth 1 = .ok (.istore 4, 2) := by decide +kernel
theorem dX0_bestTenth_3 : decode cX0_bestTenth 3 = .ok (.iconst (-1), 1) := by decide +kernel
theorem dX0_bestTenth_4 : decode cX0_bestTenth 4 = .ok (.istore 5, 2) := by decide +kernel
theorem dX0_bestTenth_6 : decode cX0_bestTenth 6 = .ok (.iload_n 1, 1) := by decide +kernel
theorem dX0_bestTenth_7 : decode cX0_bestTenth 7 = .ok (.istore 6, 2) := by decide +kernel
theorem dX0_bestTenth_9 : decode cX0_bestTenth 9 = .ok (.iload 6, 2) := by decide +kernel
theorem dX0_bestTenth_11 : decode cX0_bestTenth 11 = .ok (.iload_n 2, 1) := by decide +kernel
theorem dX0_bestTenth_12 : decode cX0_bestTenth 12 = .ok (.if_icmp .gt 42, 3) := by decide +kernel
theorem dX0_bestTenth_15 : decode cX0_bestTenth 15 = .ok (.iload 5, 2) := by decide +kernel
theorem dX0_bestTenth_17 : decode cX0_bestTenth 17 = .ok (.iload_n 3, 1) := by decide +kernel
theorem dX0_bestTenth_18 : decode cX0_bestTenth 18 = .ok (.if_icmp .ge 36, 3) := by decide +kernel
theorem dX0_bestTenth_21 : decode cX0_bestTenth 21 = .ok (.aload_n 0, 1) := by decide +kernel
theorem dX0_bestTenth_22 : decode cX0_bestTenth 22 = .ok (.iload 6, 2) := by decide +kernel
theorem dX0_bestTenth_24 : decode cX0_bestTenth 24 = .ok (.iload_n 3, 1) := by decide +kernel
theorem dX0_bestTenth_25 : decode cX0_bestTenth 25 = .ok (.invokevirtual 49, 3) := by decide +kernel
theorem dX0_bestTenth_28 : decode cX0_bestTenth 28 = .ok (.invokestatic 52, 3) := by decide +kernel
theorem dX0_bestTenth_31 : decode cX0_bestTenth 31 = .ok (.istore 7, 2) := by decide +kernel
theorem dX0_bestTenth_33 : decode cX0_bestTenth 33 = .ok (.iload 7, 2) := by decide +kernel
theorem dX0_bestTenth_35 : decode cX0_bestTenth 35 = .ok (.iload 5, 2) := by decide +kernel
theorem dX0_bestTenth_37 : decode cX0_bestTenth 37 = .ok (.if_icmp .le 11, 3) := by decide +kernel
theorem dX0_bestTenth_40 : decode cX0_bestTenth 40 = .ok (.iload 6, 2) := by decide +kernel
theorem dX0_bestTenth_42 : decode cX0_bestTenth 42 = .ok (.istore 4, 2) := by decide +kernel
theorem dX0_bestTenth_44 : decode cX0_bestTenth 44 = .ok (.iload 7, 2) := by decide +kernel
theorem dX0_bestTenth_46 : decode cX0_bestTenth 46 = .ok (.istore 5, 2) := by decide +kernel
theorem dX0_bestTenth_48 : decode cX0_bestTenth 48 = .ok (.iinc 6 1, 3) := by decide +kernel
theorem dX0_bestTenth_51 : decode cX0_bestTenth 51 = .ok (.goto (-42), 3) := by decide +kernel
theorem dX0_bestTenth_54 : decode cX0_bestTenth 54 = .ok (.iload 4, 2) := by decide +kernel
theorem dX0_bestTenth_56 : decode cX0_bestTenth 56 = .ok (.ireturn, 1) := by decide +kernel
theorem dX0_tenthsOfAll_0 : decode cX0_tenthsOfAll 0 = .ok (.iconst 1, 1) := by decide +kernel
theorem dX0_tenthsOfAll_1 : decode cX0_tenthsOfAll 1 = .ok (.iload_n 3, 1) := by decide +kernel
theorem dX0_tenthsOfAll_2 : decode cX0_tenthsOfAll 2 = .ok (.ishl, 1) := by decide +kernel
theorem dX0_tenthsOfAll_3 : decode cX0_tenthsOfAll 3 = .ok (.iconst 1, 1) := by decide +kernel
theorem dX0_tenthsOfAll_4 : decode cX0_tenthsOfAll 4 = .ok (.isub, 1) := by decide +kernel
theorem dX0_tenthsOfAll_5 : decode cX0_tenthsOfAll 5 = .ok (.istore 4, 2) := by decide +kernel
theorem dX0_tenthsOfAll_7 : decode cX0_tenthsOfAll 7 = .ok (.iconst 0, 1) := by decide +kernel
theorem dX0_tenthsOfAll_8 : decode cX0_tenthsOfAll 8 = .ok (.istore 5, 2) := by decide +kernel
theorem dX0_tenthsOfAll_10 : decode cX0_tenthsOfAll 10 = .ok (.iload_n 1, 1) := by decide +kernel
theorem dX0_tenthsOfAll_11 : decode cX0_tenthsOfAll 11 = .ok (.istore 6, 2) := by decide +kernel
theorem dX0_tenthsOfAll_13 : decode cX0_tenthsOfAll 13 = .ok (.iload 6, 2) := by decide +kernel
theorem dX0_tenthsOfAll_15 : decode cX0_tenthsOfAll 15 = .ok (.iload_n 2, 1) := by decide +kernel
theorem dX0_tenthsOfAll_16 : decode cX0_tenthsOfAll 16 = .ok (.if_icmp .gt 24, 3) := by decide +kernel
theorem dX0_tenthsOfAll_19 : decode cX0_tenthsOfAll 19 = .ok (.aload_n 0, 1) := by decide +kernel
theorem dX0_tenthsOfAll_20 : decode cX0_tenthsOfAll 20 = .ok (.iload 6, 2) := by decide +kernel
theorem dX0_tenthsOfAll_22 : decode cX0_tenthsOfAll 22 = .ok (.iload_n 3, 1) := by decide +kernel
theorem dX0_tenthsOfAll_23 : decode cX0_tenthsOfAll 23 = .ok (.invokevirtual 49, 3) := by decide +kernel
theorem dX0_tenthsOfAll_26 : decode cX0_tenthsOfAll 26 = .ok (.iload 4, 2) := by decide +kernel
theorem dX0_tenthsOfAll_28 : decode cX0_tenthsOfAll 28 = .ok (.if_icmp .ne 6, 3) := by decide +kernel
theorem dX0_tenthsOfAll_31 : decode cX0_tenthsOfAll 31 = .ok (.iinc 5 1, 3) := by decide +kernel
theorem dX0_tenthsOfAll_34 : decode cX0_tenthsOfAll 34 = .ok (.iinc 6 1, 3) := by decide +kernel
theorem dX0_tenthsOfAll_37 : decode cX0_tenthsOfAll 37 = .ok (.goto (-24), 3) := by decide +kernel
theorem dX0_tenthsOfAll_40 : decode cX0_tenthsOfAll 40 = .ok (.iload 5, 2) := by decide +kernel
theorem dX0_tenthsOfAll_42 : decode cX0_tenthsOfAll 42 = .ok (.ireturn, 1) := by decide +kernel
theorem dX1_init_0 : decode cX1_init 0 = .ok (.aload_n 0, 1) := by decide +kernel
theorem dX1_init_1 : decode cX1_init 1 = .ok (.invokespecial 3, 3) := by decide +kernel
theorem dX1_init_4 : decode cX1_init 4 = .ok (.aload_n 0, 1) := by decide +kernel
theorem dX1_init_5 : decode cX1_init 5 = .ok (.bipush 80, 2) := by decide +kernel
theorem dX1_init_7 : decode cX1_init 7 = .ok (.newarray .int, 2) := by decide +kernel
theorem dX1_init_9 : decode cX1_init 9 = .ok (.putfield 9, 3) := by decide +kernel
theorem dX1_init_12 : decode cX1_init 12 = .ok (.aload_n 0, 1) := by decide +kernel
theorem dX1_init_13 : decode cX1_init 13 = .ok (.bipush 8, 2) := by decide +kernel
theorem dX1_init_15 : decode cX1_init 15 = .ok (.newarray .int, 2) := by decide +kernel
theorem dX1_init_17 : decode cX1_init 17 = .ok (.putfield 15, 3) := by decide +kernel
theorem dX1_init_20 : decode cX1_init 20 = .ok (.return_, 1) := by decide +kernel
theorem dX1_shotOf_0 : decode cX1_shotOf 0 = .ok (.aload_n 0, 1) := by decide +kernel
theorem dX1_shotOf_1 : decode cX1_shotOf 1 = .ok (.getfield 15, 3) := by decide +kernel
theorem dX1_shotOf_4 : decode cX1_shotOf 4 = .ok (.iload_n 1, 1) := by decide +kernel
theorem dX1_shotOf_5 : decode cX1_shotOf 5 = .ok (.iaload, 1) := by decide +kernel
theorem dX1_shotOf_6 : decode cX1_shotOf 6 = .ok (.ireturn, 1) := by decide +kernel
theorem dX1_solve_0 : decode cX1_solve 0 = .ok (.iconst 0, 1) := by decide +kernel
theorem dX1_solve_1 : decode cX1_solve 1 = .ok (.istore_n 3, 1) := by decide +kernel
theorem dX1_solve_2 : decode cX1_solve 2 = .ok (.iload_n 2, 1) := by decide +kernel
theorem dX1_solve_3 : decode cX1_solve 3 = .ok (.iconst 1, 1) := by decide +kernel
theorem dX1_solve_4 : decode cX1_solve 4 = .ok (.isub, 1) := by decide +kernel
theorem dX1_solve_5 : decode cX1_solve 5 = .ok (.istore 4, 2) := by decide +kernel
theorem dX1_solve_7 : decode cX1_solve 7 = .ok (.iload 4, 2) := by decide +kernel
theorem dX1_solve_9 : decode cX1_solve 9 = .ok (.ifCond .lt 31, 3) := by decide +kernel
theorem dX1_solve_12 : decode cX1_solve 12 = .ok (.aload_n 0, 1) := by decide +kernel
theorem dX1_solve_13 : decode cX1_solve 13 = .ok (.aload_n 1, 1) := by decide +kernel
theorem dX1_solve_14 : decode cX1_solve 14 = .ok (.iload 4, 2) := by decide +kernel
theorem dX1_solve_16 : decode cX1_solve 16 = .ok (.iload 4, 2) := by decide +kernel
theorem dX1_solve_18 : decode cX1_solve 18 = .ok (.iload_n 2, 1) := by decide +kernel
theorem dX1_solve_19 : decode cX1_solve 19 = .ok (.iconst 1, 1) := by decide +kernel
theorem dX1_solve_20 : decode cX1_solve 20 = .ok (.isub, 1) := by decide +kernel
theorem dX1_solve_21 : decode cX1_solve 21 = .ok (.if_icmp .ne 7, 3) := by decide +kernel
theorem dX1_solve_24 : decode cX1_solve 24 = .ok (.iconst 1, 1) := by decide +kernel
theorem dX1_solve_25 : decode cX1_solve 25 = .ok (.goto 4, 3) := by decide +kernel
theorem dX1_solve_28 : decode cX1_solve 28 = .ok (.iconst 0, 1) := by decide +kernel
theorem dX1_solve_29 : decode cX1_solve 29 = .ok (.iload_n 3, 1) := by decide +kernel
theorem dX1_solve_30 : decode cX1_solve 30 = .ok (.invokevirtual 18, 3) := by decide +kernel
theorem dX1_solve_33 : decode cX1_solve 33 = .ok (.istore_n 3, 1) := by decide +kernel
theorem dX1_solve_34 : decode cX1_solve 34 = .ok (.iinc 4 (-1), 3) := by decide +kernel
theorem dX1_solve_37 : decode cX1_solve 37 = .ok (.goto (-30), 3) := by decide +kernel
theorem dX1_solve_40 : decode cX1_solve 40 = .ok (.iload_n 3, 1) := by decide +kernel
theorem dX1_solve_41 : decode cX1_solve 41 = .ok (.sipush 1000, 3) := by decide +kernel
theorem dX1_solve_44 : decode cX1_solve 44 = .ok (.if_icmp .lt 6, 3) := by decide +kernel
theorem dX1_solve_47 : decode cX1_solve 47 = .ok (.bipush (-6), 2) := by decide +kernel
theorem dX1_solve_49 : decode cX1_solve 49 = .ok (.ireturn, 1) := by decide +kernel
theorem dX1_solve_50 : decode cX1_solve 50 = .ok (.aload_n 0, 1) := by decide +kernel
theorem dX1_solve_51 : decode cX1_solve 51 = .ok (.aload_n 1, 1) := by decide +kernel
theorem dX1_solve_52 : decode cX1_solve 52 = .ok (.iload_n 2, 1) := by decide +kernel
theorem dX1_solve_53 : decode cX1_solve 53 = .ok (.invokevirtual 22, 3) := by decide +kernel
theorem dX1_solve_56 : decode cX1_solve 56 = .ok (.iload_n 3, 1) := by decide +kernel
theorem dX1_solve_57 : decode cX1_solve 57 = .ok (.ireturn, 1) := by decide +kernel
theorem dX1_fillRow_0 : decode cX1_fillRow 0 = .ok (.sipush 1000, 3) := by decide +kernel
theorem dX1_fillRow_3 : decode cX1_fillRow 3 = .ok (.istore 5, 2) := by decide +kernel
theorem dX1_fillRow_5 : decode cX1_fillRow 5 = .ok (.iconst 0, 1) := by decide +kernel
theorem dX1_fillRow_6 : decode cX1_fillRow 6 = .ok (.istore 6, 2) := by decide +kernel
theorem dX1_fillRow_8 : decode cX1_fillRow 8 = .ok (.iload 6, 2) := by decide +kernel
theorem dX1_fillRow_10 : decode cX1_fillRow 10 = .ok (.aload_n 1, 1) := by decide +kernel
theorem dX1_fillRow_11 : decode cX1_fillRow 11 = .ok (.getfield 26, 3) := by decide +kernel
theorem dX1_fillRow_14 : decode cX1_fillRow 14 = .ok (.if_icmp .ge 67, 3) := by decide +kernel
theorem dX1_fillRow_17 : decode cX1_fillRow 17 = .ok (.sipush 1000, 3) := by decide +kernel
theorem dX1_fillRow_20 : decode cX1_fillRow 20 = .ok (.istore 7, 2) := by decide +kernel
theorem dX1_fillRow_22 : decode cX1_fillRow 22 = .ok (.aload_n 1, 1) := by decide +kernel
theorem dX1_fillRow_23 : decode cX1_fillRow 23 = .ok (.iload 6, 2) := by decide +kernel
theorem dX1_fillRow_25 : decode cX1_fillRow 25 = .ok (.iload_n 2, 1) := by decide +kernel
theorem dX1_fillRow_26 : decode cX1_fillRow 26 = .ok (.invokevirtual 32, 3) := by decide +kernel
theorem dX1_fillRow_29 : decode cX1_fillRow 29 = .ok (.ifCond .eq 23, 3) := by decide +kernel
theorem dX1_fillRow_32 : decode cX1_fillRow 32 = .ok (.iload_n 3, 1) := by decide +kernel
theorem dX1_fillRow_33 : decode cX1_fillRow 33 = .ok (.ifCond .eq 7, 3) := by decide +kernel
theorem dX1_fillRow_36 : decode cX1_fillRow 36 = .ok (.iconst 0, 1) := by decide +kernel
theorem dX1_fillRow_37 : decode cX1_fillRow 37 = .ok (.goto 13, 3) := by decide +kernel
theorem dX1_fillRow_40 : decode cX1_fillRow 40 = .ok (.aload_n 0, 1) := by decide +kernel
theorem dX1_fillRow_41 : decode cX1_fillRow 41 = .ok (.aload_n 1, 1) := by decide +kernel
theorem dX1_fillRow_42 : decode cX1_fillRow 42 = .ok (.iload_n 2, 1) := by decide +kernel
theorem dX1_fillRow_43 : decode cX1_fillRow 43 = .ok (.iload 6, 2) := by decide +kernel
theorem dX1_fillRow_45 : decode cX1_fillRow 45 = .ok (.iload 4, 2) := by decide +kernel
theorem dX1_fillRow_47 : decode cX1_fillRow 47 = .ok (.invokevirtual 36, 3) := by decide +kernel
theorem dX1_fillRow_50 : decode cX1_fillRow 50 = .ok (.istore 7, 2) := by decide +kernel
theorem dX1_fillRow_52 : decode cX1_fillRow 52 = .ok (.aload_n 0, 1) := by decide +kernel
theorem dX1_fillRow_53 : decode cX1_fillRow 53 = .ok (.getfield 9, 3) := by decide +kernel
theorem dX1_fillRow_56 : decode cX1_fillRow 56 = .ok (.iload_n 2, 1) := by decide +kernel
theorem dX1_fillRow_57 : decode cX1_fillRow 57 = .ok (.bipush 10, 2) := by decide +kernel
theorem dX1_fillRow_59 : decode cX1_fillRow 59 = .ok (.imul, 1) := by decide +kernel
theorem dX1_fillRow_60 : decode cX1_fillRow 60 = .ok (.iload 6, 2) := by decide +kernel
theorem dX1_fillRow_62 : decode cX1_fillRow 62 = .ok (.iadd, 1) := by decide +kernel
theorem dX1_fillRow_63 : decode cX1_fillRow 63 = .ok (.iload 7, 2) := by decide +kernel
theorem dX1_fillRow_65 : decode cX1_fillRow 65 = .ok (.iastore, 1) := by decide +kernel
theorem dX1_fillRow_66 : decode cX1_fillRow 66 = .ok (.iload 5, 2) := by decide +kernel
theorem dX1_fillRow_68 : decode cX1_fillRow 68 = .ok (.iload 7, 2) := by decide +kernel
theorem dX1_fillRow_70 : decode cX1_fillRow 70 = .ok (.invokestatic 40, 3) := by decide +kernel
theorem dX1_fillRow_73 : decode cX1_fillRow 73 = .ok (.istore 5, 2) := by decide +kernel
theorem dX1_fillRow_75 : decode cX1_fillRow 75 = .ok (.iinc 6 1, 3) := by decide +kernel
theorem dX1_fillRow_78 : decode cX1_fillRow 78 = .ok (.goto (-70), 3) := by decide +kernel
theorem dX1_fillRow_81 : decode cX1_fillRow 81 = .ok (.iload 5, 2) := by decide +kernel
theorem dX1_fillRow_83 : decode cX1_fillRow 83 = .ok (.ireturn, 1) := by decide +kernel
theorem dX1_cutsBehind_0 : decode cX1_cutsBehind 0 = .ok (.aload_n 0, 1) := by decide +kernel
theorem dX1_cutsBehind_1 : decode cX1_cutsBehind 1 = .ok (.getfield 9, 3) := by decide +kernel
theorem dX1_cutsBehind_4 : decode cX1_cutsBehind 4 = .ok (.iload_n 2, 1) := by decide +kernel
theorem dX1_cutsBehind_5 : decode cX1_cutsBehind 5 = .ok (.iconst 1, 1) := by decide +kernel
theorem dX1_cutsBehind_6 : decode cX1_cutsBehind 6 = .ok (.iadd, 1) := by decide +kernel
theorem dX1_cutsBehind_7 : decode cX1_cutsBehind 7 = .ok (.bipush 10, 2) := by decide +kernel
theorem dX1_cutsBehind_9 : decode cX1_cutsBehind 9 = .ok (.imul, 1) := by decide +kernel
theorem dX1_cutsBehind_10 : decode cX1_cutsBehind 10 = .ok (.iload_n 3, 1) := by decide +kernel
theorem dX1_cutsBehind_11 : decode cX1_cutsBehind 11 = .ok (.iadd, 1) := by decide +kernel
theorem dX1_cutsBehind_12 : decode cX1_cutsBehind 12 = .ok (.iaload, 1) := by decide +kernel
theorem dX1_cutsBehind_13 : decode cX1_cutsBehind 13 = .ok (.istore 5, 2) := by decide +kernel
theorem dX1_cutsBehind_15 : decode cX1_cutsBehind 15 = .ok (.aload_n 1, 1) := by decide +kernel
theorem dX1_cutsBehind_16 : decode cX1_cutsBehind 16 = .ok (.iload_n 2, 1) := by decide +kernel
theorem dX1_cutsBehind_17 : decode cX1_cutsBehind 17 = .ok (.invokevirtual 46, 3) := by decide +kernel
theorem dX1_cutsBehind_20 : decode cX1_cutsBehind 20 = .ok (.ifCond .eq 6, 3) := by decide +kernel
theorem dX1_cutsBehind_23 : decode cX1_cutsBehind 23 = .ok (.iload 5, 2) := by decide +kernel
theorem dX1_cutsBehind_25 : decode cX1_cutsBehind 25 = .ok (.ireturn, 1) := by decide +kernel
theorem dX1_cutsBehind_26 : decode cX1_cutsBehind 26 = .ok (.sipush 1000, 3) := by decide +kernel
theorem dX1_cutsBehind_29 : decode cX1_cutsBehind 29 = .ok (.iload 5, 2) := by decide +kernel
theorem dX1_cutsBehind_31 : decode cX1_cutsBehind 31 = .ok (.iload 4, 2) := by decide +kernel
theorem dX1_cutsBehind_33 : decode cX1_cutsBehind 33 = .ok (.iconst 1, 1) := by decide +kernel
theorem dX1_cutsBehind_34 : decode cX1_cutsBehind 34 = .ok (.iadd, 1) := by decide +kernel
theorem dX1_cutsBehind_35 : decode cX1_cutsBehind 35 = .ok (.invokestatic 40, 3) := by decide +kernel
theorem dX1_cutsBehind_38 : decode cX1_cutsBehind 38 = .ok (.invokestatic 40, 3) := by decide +kernel
theorem dX1_cutsBehind_41 : decode cX1_cutsBehind 41 = .ok (.ireturn, 1) := by decide +kernel
theorem dX1_choose_0 : decode cX1_choose 0 = .ok (.aload_n 0, 1) := by decide +kernel
theorem dX1_choose_1 : decode cX1_choose 1 = .ok (.getfield 15, 3) := by decide +kernel
theorem dX1_choose_4 : decode cX1_choose 4 = .ok (.iconst 0, 1) := by decide +kernel
theorem dX1_choose_5 : decode cX1_choose 5 = .ok (.aload_n 0, 1) := by decide +kernel
theorem dX1_choose_6 : decode cX1_choose 6 = .ok (.aload_n 1, 1) := by decide +kernel
theorem dX1_choose_7 : decode cX1_choose 7 = .ok (.getfield 26, 3) := by decide +kernel
theorem dX1_choose_10 : decode cX1_choose 10 = .ok (.invokevirtual 50, 3) := by decide +kernel
theorem dX1_choose_13 : decode cX1_choose 13 = .ok (.iastore, 1) := by decide +kernel
theorem dX1_choose_14 : decode cX1_choose 14 = .ok (.iconst 1, 1) := by decide +kernel
theorem dX1_choose_15 : decode cX1_choose 15 = .ok (.istore_n 3, 1) := by decide +kernel
theorem dX1_choose_16 : decode cX1_choose 16 = .ok (.iload_n 3, 1) := by decide +kernel
theorem dX1_choose_17 : decode cX1_choose 17 = .ok (.iload_n 2, 1) := by decide +kernel
theorem dX1_choose_18 : decode cX1_choose 18 = .ok (.if_icmp .ge 29, 3) := by decide +kernel
theorem dX1_choose_21 : decode cX1_choose 21 = .ok (.aload_n 0, 1) := by decide +kernel
theorem dX1_choose_22 : decode cX1_choose 22 = .ok (.getfield 15, 3) := by decide +kernel
theorem dX1_choose_25 : decode cX1_choose 25 = .ok (.iload_n 3, 1) := by decide +kernel
theorem dX1_choose_26 : decode cX1_choose 26 = .ok (.aload_n 0, 1) := by decide +kernel
theorem dX1_choose_27 : decode cX1_choose 27 = .ok (.aload_n 1, 1) := by decide +kernel
theorem dX1_choose_28 : decode cX1_choose 28 = .ok (.iload_n 3, 1) := by decide +kernel
theorem dX1_choose_29 : decode cX1_choose 29 = .ok (.aload_n 0, 1) := by decide +kernel
theorem dX1_choose_30 : decode cX1_choose 30 = .ok (.getfield 15, 3) := by decide +kernel
theorem dX1_choose_33 : decode cX1_choose 33 = .ok (.iload_n 3, 1) := by decide +kernel
theorem dX1_choose_34 : decode cX1_choose 34 = .ok (.iconst 1, 1) := by decide +kernel
theorem dX1_choose_35 : decode cX1_choose 35 = .ok (.isub, 1) := by decide +kernel
theorem dX1_choose_36 : decode cX1_choose 36 = .ok (.iaload, 1) := by decide +kernel
theorem dX1_choose_37 : decode cX1_choose 37 = .ok (.invokevirtual 54, 3) := by decide +kernel
theorem dX1_choose_40 : decode cX1_choose 40 = .ok (.iastore, 1) := by decide +kernel
theorem dX1_choose_41 : decode cX1_choose 41 = .ok (.iinc 3 1, 3) := by decide +kernel
theorem dX1_choose_44 : decode cX1_choose 44 = .ok (.goto (-28), 3) := by decide +kernel
theorem dX1_choose_47 : decode cX1_choose 47 = .ok (.return_, 1) := by decide +kernel
theorem dX1_firstLeast_0 : decode cX1_firstLeast 0 = .ok (.iconst 0, 1) := by decide +kernel
theorem dX1_firstLeast_1 : decode cX1_firstLeast 1 = .ok (.istore_n 2, 1) := by decide +kernel
theorem dX1_firstLeast_2 : decode cX1_firstLeast 2 = .ok (.iconst 1, 1) := by decide +kernel
theorem dX1_firstLeast_3 : decode cX1_firstLeast 3 = .ok (.istore_n 3, 1) := by decide +kernel
theorem dX1_firstLeast_4 : decode cX1_firstLeast 4 = .ok (.iload_n 3, 1) := by decide +kernel
theorem dX1_firstLeast_5 : decode cX1_firstLeast 5 = .ok (.iload_n 1, 1) := by decide +kernel
theorem dX1_firstLeast_6 : decode cX1_firstLeast 6 = .ok (.if_icmp .ge 26, 3) := by decide +kernel
theorem dX1_firstLeast_9 : decode cX1_firstLeast 9 = .ok (.aload_n 0, 1) := by decide +kernel
theorem dX1_firstLeast_10 : decode cX1_firstLeast 10 = .ok (.getfield 9, 3) := by decide +kernel
theorem dX1_firstLeast_13 : decode cX1_firstLeast 13 = .ok (.iload_n 3, 1) := by decide +kernel
theorem dX1_firstLeast_14 : decode cX1_firstLeast 14 = .ok (.iaload, 1) := by decide +kernel
theorem dX1_firstLeast_15 : decode cX1_firstLeast 15 = .ok (.aload_n 0, 1) := by decide +kernel
theorem dX1_firstLeast_16 : decode cX1_firstLeast 16 = .ok (.getfield 9, 3) := by decide +kernel
theorem dX1_firstLeast_19 : decode cX1_firstLeast 19 = .ok (.iload_n 2, 1) := by decide +kernel
theorem dX1_firstLeast_20 : decode cX1_firstLeast 20 = .ok (.iaload, 1) := by decide +kernel
theorem dX1_firstLeast_21 : decode cX1_firstLeast 21 = .ok (.if_icmp .ge 5, 3) := by decide +kernel
theorem dX1_firstLeast_24 : decode cX1_firstLeast 24 = .ok (.iload_n 3, 1) := by decide +kernel
theorem dX1_firstLeast_25 : decode cX1_firstLeast 25 = .ok (.istore_n 2, 1) := by decide +kernel
theorem dX1_firstLeast_26 : decode cX1_firstLeast 26 = .ok (.iinc 3 1, 3) := by decide +kernel
theorem dX1_firstLeast_29 : decode cX1_firstLeast 29 = .ok (.goto (-25), 3) := by decide +kernel
theorem dX1_firstLeast_32 : decode cX1_firstLeast 32 = .ok (.iload_n 2, 1) := by decide +kernel
theorem dX1_firstLeast_33 : decode cX1_firstLeast 33 = .ok (.ireturn, 1) := by decide +kernel
theorem dX1_firstBehind_0 : decode cX1_firstBehind 0 = .ok (.aload_n 1, 1) := by decide +kernel
theorem dX1_firstBehind_1 : decode cX1_firstBehind 1 = .ok (.iload_n 2, 1) := by decide +kernel
theorem dX1_firstBehind_2 : decode cX1_firstBehind 2 = .ok (.iconst 1, 1) := by decide +kernel
theorem dX1_firstBehind_3 : decode cX1_firstBehind 3 = .ok (.isub, 1) := by decide +kernel
theorem dX1_firstBehind_4 : decode cX1_firstBehind 4 = .ok (.invokevirtual 46, 3) := by decide +kernel
theorem dX1_firstBehind_7 : decode cX1_firstBehind 7 = .ok (.ifCond .eq 5, 3) := by decide +kernel
theorem dX1_firstBehind_10 : decode cX1_firstBehind 10 = .ok (.iload_n 3, 1) := by decide +kernel
theorem dX1_firstBehind_11 : decode cX1_firstBehind 11 = .ok (.ireturn, 1) := by decide +kernel
theorem dX1_firstBehind_12 : decode cX1_firstBehind 12 = .ok (.aload_n 0, 1) := by decide +kernel
theorem dX1_firstBehind_13 : decode cX1_firstBehind 13 = .ok (.getfield 9, 3) := by decide +kernel
theorem dX1_firstBehind_16 : decode cX1_firstBehind 16 = .ok (.iload_n 2, 1) := by decide +kernel
theorem dX1_firstBehind_17 : decode cX1_firstBehind 17 = .ok (.iconst 1, 1) := by decide +kernel
theorem dX1_firstBehind_18 : decode cX1_firstBehind 18 = .ok (.isub, 1) := by decide +kernel
theorem dX1_firstBehind_19 : decode cX1_firstBehind 19 = .ok (.bipush 10, 2) := by decide +kernel
theorem dX1_firstBehind_21 : decode cX1_firstBehind 21 = .ok (.imul, 1) := by decide +kernel
theorem dX1_firstBehind_22 : decode cX1_firstBehind 22 = .ok (.iload_n 3, 1) := by decide +kernel
theorem dX1_firstBehind_23 : decode cX1_firstBehind 23 = .ok (.iadd, 1) := by decide +kernel
theorem dX1_firstBehind_24 : decode cX1_firstBehind 24 = .ok (.iaload, 1) := by decide +kernel
theorem dX1_firstBehind_25 : decode cX1_firstBehind 25 = .ok (.istore 4, 2) := by decide +kernel
theorem dX1_firstBehind_27 : decode cX1_firstBehind 27 = .ok (.iconst 0, 1) := by decide +kernel
theorem dX1_firstBehind_28 : decode cX1_firstBehind 28 = .ok (.istore 5, 2) := by decide +kernel
theorem dX1_firstBehind_30 : decode cX1_firstBehind 30 = .ok (.iload 5, 2) := by decide +kernel
theorem dX1_firstBehind_32 : decode cX1_firstBehind 32 = .ok (.aload_n 1, 1) := by decide +kernel
theorem dX1_firstBehind_33 : decode cX1_firstBehind 33 = .ok (.getfield 26, 3) := by decide +kernel
theorem dX1_firstBehind_36 : decode cX1_firstBehind 36 = .ok (.if_icmp .ge 45, 3) := by decide +kernel
theorem dX1_firstBehind_39 : decode cX1_firstBehind 39 = .ok (.iload 5, 2) := by decide +kernel
theorem dX1_firstBehind_41 : decode cX1_firstBehind 41 = .ok (.iload_n 3, 1) := by decide +kernel
theorem dX1_firstBehind_42 : decode cX1_firstBehind 42 = .ok (.if_icmp .ne 7, 3) := by decide +kernel
theorem dX1_firstBehind_45 : decode cX1_firstBehind 45 = .ok (.iconst 0, 1) := by decide +kernel
theorem dX1_firstBehind_46 : decode cX1_firstBehind 46 = .ok (.goto 4, 3) := by decide +kernel
theorem dX1_firstBehind_49 : decode cX1_firstBehind 49 = .ok (.iconst 1, 1) := by decide +kernel
theorem dX1_firstBehind_50 : decode cX1_firstBehind 50 = .ok (.istore 6, 2) := by decide +kernel
theorem dX1_firstBehind_52 : decode cX1_firstBehind 52 = .ok (.aload_n 0, 1) := by decide +kernel
theorem dX1_firstBehind_53 : decode cX1_firstBehind 53 = .ok (.getfield 9, 3) := by decide +kernel
theorem dX1_firstBehind_56 : decode cX1_firstBehind 56 = .ok (.iload_n 2, 1) := by decide +kernel
theorem dX1_firstBehind_57 : decode cX1_firstBehind 57 = .ok (.bipush 10, 2) := by decide +kernel
theorem dX1_firstBehind_59 : decode cX1_firstBehind 59 = .ok (.imul, 1) := by decide +kernel
theorem dX1_firstBehind_60 : decode cX1_firstBehind 60 = .ok (.iload 5, 2) := by decide +kernel
theorem dX1_firstBehind_62 : decode cX1_firstBehind 62 = .ok (.iadd, 1) := by decide +kernel
theorem dX1_firstBehind_63 : decode cX1_firstBehind 63 = .ok (.iaload, 1) := by decide +kernel
theorem dX1_firstBehind_64 : decode cX1_firstBehind 64 = .ok (.iload 6, 2) := by decide +kernel
theorem dX1_firstBehind_66 : decode cX1_firstBehind 66 = .ok (.iadd, 1) := by decide +kernel
theorem dX1_firstBehind_67 : decode cX1_firstBehind 67 = .ok (.iload 4, 2) := by decide +kernel
theorem dX1_firstBehind_69 : decode cX1_firstBehind 69 = .ok (.if_icmp .ne 6, 3) := by decide +kernel
theorem dX1_firstBehind_72 : decode cX1_firstBehind 72 = .ok (.iload 5, 2) := by decide +kernel
theorem dX1_firstBehind_74 : decode cX1_firstBehind 74 = .ok (.ireturn, 1) := by decide +kernel
theorem dX1_firstBehind_75 : decode cX1_firstBehind 75 = .ok (.iinc 5 1, 3) := by decide +kernel
theorem dX1_firstBehind_78 : decode cX1_firstBehind 78 = .ok (.goto (-48), 3) := by decide +kernel
theorem dX1_firstBehind_81 : decode cX1_firstBehind 81 = .ok (.iload_n 3, 1) := by decide +kernel
theorem dX1_firstBehind_82 : decode cX1_firstBehind 82 = .ok (.ireturn, 1) := by decide +kernel
theorem dX2_init_0 : decode cX2_init 0 = .ok (.aload_n 0, 1) := by decide +kernel
theorem dX2_init_1 : decode cX2_init 1 = .ok (.invokespecial 3, 3) := by decide +kernel
theorem dX2_init_4 : decode cX2_init 4 = .ok (.aload_n 0, 1) := by decide +kernel
theorem dX2_init_5 : decode cX2_init 5 = .ok (.bipush 20, 2) := by decide +kernel
theorem dX2_init_7 : decode cX2_init 7 = .ok (.putfield 9, 3) := by decide +kernel
theorem dX2_init_10 : decode cX2_init 10 = .ok (.aload_n 0, 1) := by decide +kernel
theorem dX2_init_11 : decode cX2_init 11 = .ok (.bipush 8, 2) := by decide +kernel
theorem dX2_init_13 : decode cX2_init 13 = .ok (.newarray .int, 2) := by decide +kernel
theorem dX2_init_15 : decode cX2_init 15 = .ok (.putfield 15, 3) := by decide +kernel
theorem dX2_init_18 : decode cX2_init 18 = .ok (.aload_n 0, 1) := by decide +kernel
theorem dX2_init_19 : decode cX2_init 19 = .ok (.invokevirtual 19, 3) := by decide +kernel
theorem dX2_init_22 : decode cX2_init 22 = .ok (.return_, 1) := by decide +kernel
theorem dX2_startPeople_0 : decode cX2_startPeople 0 = .ok (.iconst 0, 1) := by decide +kernel
theorem dX2_startPeople_1 : decode cX2_startPeople 1 = .ok (.istore_n 1, 1) := by decide +kernel
theorem dX2_startPeople_2 : decode cX2_startPeople 2 = .ok (.iload_n 1, 1) := by decide +kernel
theorem dX2_startPeople_3 : decode cX2_startPeople 3 = .ok (.bipush 8, 2) := by decide +kernel
theorem dX2_startPeople_5 : decode cX2_startPeople 5 = .ok (.if_icmp .ge 16, 3) := by decide +kernel
theorem dX2_startPeople_8 : decode cX2_startPeople 8 = .ok (.aload_n 0, 1) := by decide +kernel
theorem dX2_startPeople_9 : decode cX2_startPeople 9 = .ok (.getfield 15, 3) := by decide +kernel
theorem dX2_startPeople_12 : decode cX2_startPeople 12 = .ok (.iload_n 1, 1) := by decide +kernel
theorem dX2_startPeople_13 : decode cX2_startPeople 13 = .ok (.iconst 1, 1) := by decide +kernel
theorem dX2_startPeople_14 : decode cX2_startPeople 14 = .ok (.iastore, 1) := by decide +kernel
theorem dX2_startPeople_15 : decode cX2_startPeople 15 = .ok (.iinc 1 1, 3) := by decide +kernel
theorem dX2_startPeople_18 : decode cX2_startPeople 18 = .ok (.goto (-16), 3) := by decide +kernel
theorem dX2_startPeople_21 : decode cX2_startPeople 21 = .ok (.return_, 1) := by decide +kernel
theorem dX2_copyFrom_0 : decode cX2_copyFrom 0 = .ok (.aload_n 0, 1) := by decide +kernel
theorem dX2_copyFrom_1 : decode cX2_copyFrom 1 = .ok (.aload_n 1, 1) := by decide +kernel
theorem dX2_copyFrom_2 : decode cX2_copyFrom 2 = .ok (.getfield 9, 3) := by decide +kernel
theorem dX2_copyFrom_5 : decode cX2_copyFrom 5 = .ok (.putfield 9, 3) := by decide +kernel
theorem dX2_copyFrom_8 : decode cX2_copyFrom 8 = .ok (.aload_n 1, 1) := by decide +kernel
theorem dX2_copyFrom_9 : decode cX2_copyFrom 9 = .ok (.getfield 15, 3) := by decide +kernel
theorem dX2_copyFrom_12 : decode cX2_copyFrom 12 = .ok (.iconst 0, 1) := by decide +kernel
theorem dX2_copyFrom_13 : decode cX2_copyFrom 13 = .ok (.aload_n 0, 1) := by decide +kernel
theorem dX2_copyFrom_14 : decode cX2_copyFrom 14 = .ok (.getfield 15, 3) := by decide +kernel
theorem dX2_copyFrom_17 : decode cX2_copyFrom 17 = .ok (.iconst 0, 1) := by decide +kernel
theorem dX2_copyFrom_18 : decode cX2_copyFrom 18 = .ok (.bipush 8, 2) := by decide +kernel
theorem dX2_copyFrom_20 : decode cX2_copyFrom 20 = .ok (.invokestatic 22, 3) := by decide +kernel
theorem dX2_copyFrom_23 : decode cX2_copyFrom 23 = .ok (.return_, 1) := by decide +kernel
theorem dX2_changeTired_0 : decode cX2_changeTired 0 = .ok (.aload_n 0, 1) := by decide +kernel
theorem dX2_changeTired_1 : decode cX2_changeTired 1 = .ok (.getfield 9, 3) := by decide +kernel
theorem dX2_changeTired_4 : decode cX2_changeTired 4 = .ok (.istore_n 2, 1) := by decide +kernel
theorem dX2_changeTired_5 : decode cX2_changeTired 5 = .ok (.aload_n 0, 1) := by decide +kernel
theorem dX2_changeTired_6 : decode cX2_changeTired 6 = .ok (.iload_n 1, 1) := by decide +kernel
theorem dX2_changeTired_7 : decode cX2_changeTired 7 = .ok (.putfield 9, 3) := by decide +kernel
theorem dX2_changeTired_10 : decode cX2_changeTired 10 = .ok (.iload_n 2, 1) := by decide +kernel
theorem dX2_changeTired_11 : decode cX2_changeTired 11 = .ok (.ireturn, 1) := by decide +kernel
theorem dX2_changeQuarters_0 : decode cX2_changeQuarters 0 = .ok (.aload_n 0, 1) := by decide +kernel
theorem dX2_changeQuarters_1 : decode cX2_changeQuarters 1 = .ok (.getfield 15, 3) := by decide +kernel
theorem dX2_changeQuarters_4 : decode cX2_changeQuarters 4 = .ok (.iload_n 1, 1) := by decide +kernel
theorem dX2_changeQuarters_5 : decode cX2_changeQuarters 5 = .ok (.iaload, 1) := by decide +kernel
theorem dX2_changeQuarters_6 : decode cX2_changeQuarters 6 = .ok (.istore_n 3, 1) := by decide +kernel
theorem dX2_changeQuarters_7 : decode cX2_changeQuarters 7 = .ok (.aload_n 0, 1) := by decide +kernel
theorem dX2_changeQuarters_8 : decode cX2_changeQuarters 8 = .ok (.getfield 15, 3) := by decide +kernel
theorem dX2_changeQuarters_11 : decode cX2_changeQuarters 11 = .ok (.iload_n 1, 1) := by decide +kernel
theorem dX2_changeQuarters_12 : decode cX2_changeQuarters 12 = .ok (.iload_n 2, 1) := by decide +kernel
theorem dX2_changeQuarters_13 : decode cX2_changeQuarters 13 = .ok (.iastore, 1) := by decide +kernel
theorem dX2_changeQuarters_14 : decode cX2_changeQuarters 14 = .ok (.iload_n 3, 1) := by decide +kernel
theorem dX2_changeQuarters_15 : decode cX2_changeQuarters 15 = .ok (.ireturn, 1) := by decide +kernel
theorem dX2_quartersOf_0 : decode cX2_quartersOf 0 = .ok (.aload_n 0, 1) := by decide +kernel
theorem dX2_quartersOf_1 : decode cX2_quartersOf 1 = .ok (.getfield 15, 3) := by decide +kernel
theorem dX2_quartersOf_4 : decode cX2_quartersOf 4 = .ok (.iload_n 1, 1) := by decide +kernel
theorem dX2_quartersOf_5 : decode cX2_quartersOf 5 = .ok (.iaload, 1) := by decide +kernel
theorem dX2_quartersOf_6 : decode cX2_quartersOf 6 = .ok (.ireturn, 1) := by decide +kernel
theorem dX2_quartersIn_0 : decode cX2_quartersIn 0 = .ok (.iload_n 1, 1) := by decide +kernel
theorem dX2_quartersIn_1 : decode cX2_quartersIn 1 = .ok (.aload_n 0, 1) := by decide +kernel
theorem dX2_quartersIn_2 : decode cX2_quartersIn 2 = .ok (.getfield 9, 3) := by decide +kernel
theorem dX2_quartersIn_5 : decode cX2_quartersIn 5 = .ok (.if_icmp .ge 12, 3) := by decide +kernel
theorem dX2_quartersIn_8 : decode cX2_quartersIn 8 = .ok (.aload_n 0, 1) := by decide +kernel
theorem dX2_quartersIn_9 : decode cX2_quartersIn 9 = .ok (.getfield 15, 3) := by decide +kernel
theorem dX2_quartersIn_12 : decode cX2_quartersIn 12 = .ok (.iload_n 2, 1) := by decide +kernel
theorem dX2_quartersIn_13 : decode cX2_quartersIn 13 = .ok (.iaload, 1) := by decide +kernel
theorem dX2_quartersIn_14 : decode cX2_quartersIn 14 = .ok (.goto 15, 3) := by decide +kernel
theorem dX2_quartersIn_17 : decode cX2_quartersIn 17 = .ok (.iconst 4, 1) := by decide +kernel
theorem dX2_quartersIn_18 : decode cX2_quartersIn 18 = .ok (.aload_n 0, 1) := by decide +kernel
theorem dX2_quartersIn_19 : decode cX2_quartersIn 19 = .ok (.getfield 15, 3) := by decide +kernel
theorem dX2_quartersIn_22 : decode cX2_quartersIn 22 = .ok (.iload_n 2, 1) := by decide +kernel
theorem dX2_quartersIn_23 : decode cX2_quartersIn 23 = .ok (.iaload, 1) := by decide +kernel
theorem dX2_quartersIn_24 : decode cX2_quartersIn 24 = .ok (.iconst 1, 1) := by decide +kernel
theorem dX2_quartersIn_25 : decode cX2_quartersIn 25 = .ok (.iadd, 1) := by decide +kernel
theorem dX2_quartersIn_26 : decode cX2_quartersIn 26 = .ok (.invokestatic 28, 3) := by decide +kernel
theorem dX2_quartersIn_29 : decode cX2_quartersIn 29 = .ok (.ireturn, 1) := by decide +kernel
theorem dX2_waysOf_0 : decode cX2_waysOf 0 = .ok (.lconst 1, 1) := by decide +kernel
theorem dX2_waysOf_1 : decode cX2_waysOf 1 = .ok (.iconst 2, 1) := by decide +kernel
theorem dX2_waysOf_2 : decode cX2_waysOf 2 = .ok (.iload_n 0, 1) := by decide +kernel
theorem dX2_waysOf_3 : decode cX2_waysOf 3 = .ok (.imul, 1) := by decide +kernel
theorem dX2_waysOf_4 : decode cX2_waysOf 4 = .ok (.iload_n 1, 1) := by decide +kernel
theorem dX2_waysOf_5 : decode cX2_waysOf 5 = .ok (.imul, 1) := by decide +kernel
theorem dX2_waysOf_6 : decode cX2_waysOf 6 = .ok (.lshl, 1) := by decide +kernel
theorem dX2_waysOf_7 : decode cX2_waysOf 7 = .ok (.lreturn, 1) := by decide +kernel
theorem dX2_waysAllOpen_0 : decode cX2_waysAllOpen 0 = .ok (.lconst 1, 1) := by decide +kernel
theorem dX2_waysAllOpen_1 : decode cX2_waysAllOpen 1 = .ok (.lstore_n 3, 1) := by decide +kernel
theorem dX2_waysAllOpen_2 : decode cX2_waysAllOpen 2 = .ok (.iconst 0, 1) := by decide +kernel
theorem dX2_waysAllOpen_3 : decode cX2_waysAllOpen 3 = .ok (.istore 5, 2) := by decide +kernel
theorem dX2_waysAllOpen_5 : decode cX2_waysAllOpen 5 = .ok (.iload 5, 2) := by decide +kernel
theorem dX2_waysAllOpen_7 : decode cX2_waysAllOpen 7 = .ok (.iload_n 2, 1) := by decide +kernel
theorem dX2_waysAllOpen_8 : decode cX2_waysAllOpen 8 = .ok (.if_icmp .ge 22, 3) := by decide +kernel
theorem dX2_waysAllOpen_11 : decode cX2_waysAllOpen 11 = .ok (.lload_n 3, 1) := by decide +kernel
theorem dX2_waysAllOpen_12 : decode cX2_waysAllOpen 12 = .ok (.iconst 4, 1) := by decide +kernel
theorem dX2_waysAllOpen_13 : decode cX2_waysAllOpen 13 = .ok (.aload_n 0, 1) := by decide +kernel
theorem dX2_waysAllOpen_14 : decode cX2_waysAllOpen 14 = .ok (.iload_n 1, 1) := by decide +kernel
theorem dX2_waysAllOpen_15 : decode cX2_waysAllOpen 15 = .ok (.iload 5, 2) := by decide +kernel
theorem dX2_waysAllOpen_17 : decode cX2_waysAllOpen 17 = .ok (.invokevirtual 34, 3) := by decide +kernel
theorem dX2_waysAllOpen_20 : decode cX2_waysAllOpen 20 = .ok (.isub, 1) := by decide +kernel
theorem dX2_waysAllOpen_21 : decode cX2_waysAllOpen 21 = .ok (.i2l, 1) := by decide +kernel
theorem dX2_waysAllOpen_22 : decode cX2_waysAllOpen 22 = .ok (.lmul, 1) := by decide +kernel
theorem dX2_waysAllOpen_23 : decode cX2_waysAllOpen 23 = .ok (.lstore_n 3, 1) := by decide +kernel
theorem dX2_waysAllOpen_24 : decode cX2_waysAllOpen 24 = .ok (.iinc 5 1, 3) := by decide +kernel
theorem dX2_waysAllOpen_27 : decode cX2_waysAllOpen 27 = .ok (.goto (-22), 3) := by decide +kernel
theorem dX2_waysAllOpen_30 : decode cX2_waysAllOpen 30 = .ok (.lload_n 3, 1) := by decide +kernel
theorem dX2_waysAllOpen_31 : decode cX2_waysAllOpen 31 = .ok (.lreturn, 1) := by decide +kernel
theorem dX2_waysOneOf_0 : decode cX2_waysOneOf 0 = .ok (.lconst 1, 1) := by decide +kernel
theorem dX2_waysOneOf_1 : decode cX2_waysOneOf 1 = .ok (.lstore_n 3, 1) := by decide +kernel
theorem dX2_waysOneOf_2 : decode cX2_waysOneOf 2 = .ok (.iconst 0, 1) := by decide +kernel
theorem dX2_waysOneOf_3 : decode cX2_waysOneOf 3 = .ok (.istore 5, 2) := by decide +kernel
theorem dX2_waysOneOf_5 : decode cX2_waysOneOf 5 = .ok (.iload 5, 2) := by decide +kernel
theorem dX2_waysOneOf_7 : decode cX2_waysOneOf 7 = .ok (.iload_n 1, 1) := by decide +kernel
theorem dX2_waysOneOf_8 : decode cX2_waysOneOf 8 = .ok (.if_icmp .ge 25, 3) := by decide +kernel
theorem dX2_waysOneOf_11 : decode cX2_waysOneOf 11 = .ok (.lload_n 3, 1) := by decide +kernel
theorem dX2_waysOneOf_12 : decode cX2_waysOneOf 12 = .ok (.iconst 1, 1) := by decide +kernel
theorem dX2_waysOneOf_13 : decode cX2_waysOneOf 13 = .ok (.iload_n 2, 1) := by decide +kernel
theorem dX2_waysOneOf_14 : decode cX2_waysOneOf 14 = .ok (.invokestatic 37, 3) := by decide +kernel
theorem dX2_waysOneOf_17 : decode cX2_waysOneOf 17 = .ok (.aload_n 0, 1) := by decide +kernel
theorem dX2_waysOneOf_18 : decode cX2_waysOneOf 18 = .ok (.iload 5, 2) := by decide +kernel
theorem dX2_waysOneOf_20 : decode cX2_waysOneOf 20 = .ok (.iload_n 2, 1) := by decide +kernel
theorem dX2_waysOneOf_21 : decode cX2_waysOneOf 21 = .ok (.invokevirtual 41, 3) := by decide +kernel
theorem dX2_waysOneOf_24 : decode cX2_waysOneOf 24 = .ok (.lsub, 1) := by decide +kernel
theorem dX2_waysOneOf_25 : decode cX2_waysOneOf 25 = .ok (.lmul, 1) := by decide +kernel
theorem dX2_waysOneOf_26 : decode cX2_waysOneOf 26 = .ok (.lstore_n 3, 1) := by decide +kernel
theorem dX2_waysOneOf_27 : decode cX2_waysOneOf 27 = .ok (.iinc 5 1, 3) := by decide +kernel
theorem dX2_waysOneOf_30 : decode cX2_waysOneOf 30 = .ok (.goto (-25), 3) := by decide +kernel
theorem dX2_waysOneOf_33 : decode cX2_waysOneOf 33 = .ok (.iload_n 1, 1) := by decide +kernel
theorem dX2_waysOneOf_34 : decode cX2_waysOneOf 34 = .ok (.iload_n 2, 1) := by decide +kernel
theorem dX2_waysOneOf_35 : decode cX2_waysOneOf 35 = .ok (.invokestatic 37, 3) := by decide +kernel
theorem dX2_waysOneOf_38 : decode cX2_waysOneOf 38 = .ok (.lload_n 3, 1) := by decide +kernel
theorem dX2_waysOneOf_39 : decode cX2_waysOneOf 39 = .ok (.lsub, 1) := by decide +kernel
theorem dX2_waysOneOf_40 : decode cX2_waysOneOf 40 = .ok (.lreturn, 1) := by decide +kernel
theorem dX2_drawShots_0 : decode cX2_drawShots 0 = .ok (.iconst 0, 1) := by decide +kernel
theorem dX2_drawShots_1 : decode cX2_drawShots 1 = .ok (.istore 4, 2) := by decide +kernel
theorem dX2_drawShots_3 : decode cX2_drawShots 3 = .ok (.iload_n 1, 1) := by decide +kernel
theorem dX2_drawShots_4 : decode cX2_drawShots 4 = .ok (.istore 5, 2) := by decide +kernel
theorem dX2_drawShots_6 : decode cX2_drawShots 6 = .ok (.iconst 0, 1) := by decide +kernel
theorem dX2_drawShots_7 : decode cX2_drawShots 7 = .ok (.istore 6, 2) := by decide +kernel
theorem dX2_drawShots_9 : decode cX2_drawShots 9 = .ok (.iload 6, 2) := by decide +kernel
theorem dX2_drawShots_11 : decode cX2_drawShots 11 = .ok (.iload_n 2, 1) := by decide +kernel
theorem dX2_drawShots_12 : decode cX2_drawShots 12 = .ok (.if_icmp .ge 72, 3) := by decide +kernel
theorem dX2_drawShots_15 : decode cX2_drawShots 15 = .ok (.iconst 1, 1) := by decide +kernel
theorem dX2_drawShots_16 : decode cX2_drawShots 16 = .ok (.istore 7, 2) := by decide +kernel
theorem dX2_drawShots_18 : decode cX2_drawShots 18 = .ok (.iconst 0, 1) := by decide +kernel
theorem dX2_drawShots_19 : decode cX2_drawShots 19 = .ok (.istore 8, 2) := by decide +kernel
theorem dX2_drawShots_21 : decode cX2_drawShots 21 = .ok (.iload 8, 2) := by decide +kernel
theorem dX2_drawShots_23 : decode cX2_drawShots 23 = .ok (.iload_n 3, 1) := by decide +kernel
theorem dX2_drawShots_24 : decode cX2_drawShots 24 = .ok (.if_icmp .ge 40, 3) := by decide +kernel
theorem dX2_drawShots_27 : decode cX2_drawShots 27 = .ok (.bipush 75, 2) := by decide +kernel
theorem dX2_drawShots_29 : decode cX2_drawShots 29 = .ok (.iload 5, 2) := by decide +kernel
theorem dX2_drawShots_31 : decode cX2_drawShots 31 = .ok (.imul, 1) := by decide +kernel
theorem dX2_drawShots_32 : decode cX2_drawShots 32 = .ok (.bipush 74, 2) := by decide +kernel
theorem dX2_drawShots_34 : decode cX2_drawShots 34 = .ok (.iadd, 1) := by decide +kernel
theorem dX2_drawShots_35 : decode cX2_drawShots 35 = .ok (.ldc 44, 2) := by decide +kernel
theorem dX2_drawShots_37 : decode cX2_drawShots 37 = .ok (.irem, 1) := by decide +kernel
theorem dX2_drawShots_38 : decode cX2_drawShots 38 = .ok (.istore 5, 2) := by decide +kernel
end
section
theorem dX2_drawShots_40 : decode cX2_drawShots 40 = .ok (.iload 5, 2) := by decide +kernel
theorem dX2_drawShots_42 : decode cX2_drawShots 42 = .ok (.iconst 4, 1) := by decide +kernel
theorem dX2_drawShots_43 : decode cX2_drawShots 43 = .ok (.irem, 1) := by decide +kernel
theorem dX2_drawShots_44 : decode cX2_drawShots 44 = .ok (.aload_n 0, 1) := by decide +kernel
theorem dX2_drawShots_45 : decode cX2_drawShots 45 = .ok (.iload 6, 2) := by decide +kernel
theorem dX2_drawShots_47 : decode cX2_drawShots 47 = .ok (.iload 8, 2) := by decide +kernel
theorem dX2_drawShots_49 : decode cX2_drawShots 49 = .ok (.invokevirtual 34, 3) := by decide +kernel
theorem dX2_drawShots_52 : decode cX2_drawShots 52 = .ok (.if_icmp .ge 6, 3) := by decide +kernel
theorem dX2_drawShots_55 : decode cX2_drawShots 55 = .ok (.iconst 0, 1) := by decide +kernel
theorem dX2_drawShots_56 : decode cX2_drawShots 56 = .ok (.istore 7, 2) := by decide +kernel
theorem dX2_drawShots_58 : decode cX2_drawShots 58 = .ok (.iinc 8 1, 3) := by decide +kernel
theorem dX2_drawShots_61 : decode cX2_drawShots 61 = .ok (.goto (-40), 3) := by decide +kernel
theorem dX2_drawShots_64 : decode cX2_drawShots 64 = .ok (.iload 7, 2) := by decide +kernel
theorem dX2_drawShots_66 : decode cX2_drawShots 66 = .ok (.ifCond .eq 12, 3) := by decide +kernel
theorem dX2_drawShots_69 : decode cX2_drawShots 69 = .ok (.iload 4, 2) := by decide +kernel
theorem dX2_drawShots_71 : decode cX2_drawShots 71 = .ok (.iconst 1, 1) := by decide +kernel
theorem dX2_drawShots_72 : decode cX2_drawShots 72 = .ok (.iload 6, 2) := by decide +kernel
theorem dX2_drawShots_74 : decode cX2_drawShots 74 = .ok (.ishl, 1) := by decide +kernel
theorem dX2_drawShots_75 : decode cX2_drawShots 75 = .ok (.ior, 1) := by decide +kernel
theorem dX2_drawShots_76 : decode cX2_drawShots 76 = .ok (.istore 4, 2) := by decide +kernel
theorem dX2_drawShots_78 : decode cX2_drawShots 78 = .ok (.iinc 6 1, 3) := by decide +kernel
theorem dX2_drawShots_81 : decode cX2_drawShots 81 = .ok (.goto (-72), 3) := by decide +kernel
theorem dX2_drawShots_84 : decode cX2_drawShots 84 = .ok (.iload 4, 2) := by decide +kernel
theorem dX2_drawShots_86 : decode cX2_drawShots 86 = .ok (.ireturn, 1) := by decide +kernel
theorem dX3_init_0 : decode cX3_init 0 = .ok (.aload_n 0, 1) := by decide +kernel
theorem dX3_init_1 : decode cX3_init 1 = .ok (.invokespecial 3, 3) := by decide +kernel
theorem dX3_init_4 : decode cX3_init 4 = .ok (.aload_n 0, 1) := by decide +kernel
theorem dX3_init_5 : decode cX3_init 5 = .ok (.bipush 40, 2) := by decide +kernel
theorem dX3_init_7 : decode cX3_init 7 = .ok (.newarray .int, 2) := by decide +kernel
theorem dX3_init_9 : decode cX3_init 9 = .ok (.putfield 9, 3) := by decide +kernel
theorem dX3_init_12 : decode cX3_init 12 = .ok (.return_, 1) := by decide +kernel
theorem dX3_isFull_0 : decode cX3_isFull 0 = .ok (.aload_n 0, 1) := by decide +kernel
theorem dX3_isFull_1 : decode cX3_isFull 1 = .ok (.getfield 15, 3) := by decide +kernel
theorem dX3_isFull_4 : decode cX3_isFull 4 = .ok (.bipush 40, 2) := by decide +kernel
theorem dX3_isFull_6 : decode cX3_isFull 6 = .ok (.if_icmp .lt 7, 3) := by decide +kernel
theorem dX3_isFull_9 : decode cX3_isFull 9 = .ok (.iconst 1, 1) := by decide +kernel
theorem dX3_isFull_10 : decode cX3_isFull 10 = .ok (.goto 4, 3) := by decide +kernel
theorem dX3_isFull_13 : decode cX3_isFull 13 = .ok (.iconst 0, 1) := by decide +kernel
theorem dX3_isFull_14 : decode cX3_isFull 14 = .ok (.ireturn, 1) := by decide +kernel
theorem dX3_add_0 : decode cX3_add 0 = .ok (.aload_n 0, 1) := by decide +kernel
theorem dX3_add_1 : decode cX3_add 1 = .ok (.invokevirtual 19, 3) := by decide +kernel
theorem dX3_add_4 : decode cX3_add 4 = .ok (.ifCond .eq 8, 3) := by decide +kernel
theorem dX3_add_7 : decode cX3_add 7 = .ok (.aload_n 0, 1) := by decide +kernel
theorem dX3_add_8 : decode cX3_add 8 = .ok (.getfield 15, 3) := by decide +kernel
theorem dX3_add_11 : decode cX3_add 11 = .ok (.ireturn, 1) := by decide +kernel
theorem dX3_add_12 : decode cX3_add 12 = .ok (.aload_n 0, 1) := by decide +kernel
theorem dX3_add_13 : decode cX3_add 13 = .ok (.getfield 9, 3) := by decide +kernel
theorem dX3_add_16 : decode cX3_add 16 = .ok (.aload_n 0, 1) := by decide +kernel
theorem dX3_add_17 : decode cX3_add 17 = .ok (.getfield 15, 3) := by decide +kernel
theorem dX3_add_20 : decode cX3_add 20 = .ok (.iload_n 1, 1) := by decide +kernel
theorem dX3_add_21 : decode cX3_add 21 = .ok (.iastore, 1) := by decide +kernel
theorem dX3_add_22 : decode cX3_add 22 = .ok (.aload_n 0, 1) := by decide +kernel
theorem dX3_add_23 : decode cX3_add 23 = .ok (.dup, 1) := by decide +kernel
theorem dX3_add_24 : decode cX3_add 24 = .ok (.getfield 15, 3) := by decide +kernel
theorem dX3_add_27 : decode cX3_add 27 = .ok (.iconst 1, 1) := by decide +kernel
theorem dX3_add_28 : decode cX3_add 28 = .ok (.iadd, 1) := by decide +kernel
theorem dX3_add_29 : decode cX3_add 29 = .ok (.putfield 15, 3) := by decide +kernel
theorem dX3_add_32 : decode cX3_add 32 = .ok (.aload_n 0, 1) := by decide +kernel
theorem dX3_add_33 : decode cX3_add 33 = .ok (.getfield 15, 3) := by decide +kernel
theorem dX3_add_36 : decode cX3_add 36 = .ok (.ireturn, 1) := by decide +kernel
theorem dX3_clear_0 : decode cX3_clear 0 = .ok (.aload_n 0, 1) := by decide +kernel
theorem dX3_clear_1 : decode cX3_clear 1 = .ok (.getfield 15, 3) := by decide +kernel
theorem dX3_clear_4 : decode cX3_clear 4 = .ok (.istore_n 1, 1) := by decide +kernel
theorem dX3_clear_5 : decode cX3_clear 5 = .ok (.aload_n 0, 1) := by decide +kernel
theorem dX3_clear_6 : decode cX3_clear 6 = .ok (.iconst 0, 1) := by decide +kernel
theorem dX3_clear_7 : decode cX3_clear 7 = .ok (.putfield 15, 3) := by decide +kernel
theorem dX3_clear_10 : decode cX3_clear 10 = .ok (.iload_n 1, 1) := by decide +kernel
theorem dX3_clear_11 : decode cX3_clear 11 = .ok (.ireturn, 1) := by decide +kernel
theorem dX3_signAt_0 : decode cX3_signAt 0 = .ok (.iload_n 1, 1) := by decide +kernel
theorem dX3_signAt_1 : decode cX3_signAt 1 = .ok (.ifCond .lt 11, 3) := by decide +kernel
theorem dX3_signAt_4 : decode cX3_signAt 4 = .ok (.iload_n 1, 1) := by decide +kernel
theorem dX3_signAt_5 : decode cX3_signAt 5 = .ok (.aload_n 0, 1) := by decide +kernel
theorem dX3_signAt_6 : decode cX3_signAt 6 = .ok (.getfield 15, 3) := by decide +kernel
theorem dX3_signAt_9 : decode cX3_signAt 9 = .ok (.if_icmp .lt 7, 3) := by decide +kernel
theorem dX3_signAt_12 : decode cX3_signAt 12 = .ok (.iconst 0, 1) := by decide +kernel
theorem dX3_signAt_13 : decode cX3_signAt 13 = .ok (.goto 9, 3) := by decide +kernel
theorem dX3_signAt_16 : decode cX3_signAt 16 = .ok (.aload_n 0, 1) := by decide +kernel
theorem dX3_signAt_17 : decode cX3_signAt 17 = .ok (.getfield 9, 3) := by decide +kernel
theorem dX3_signAt_20 : decode cX3_signAt 20 = .ok (.iload_n 1, 1) := by decide +kernel
theorem dX3_signAt_21 : decode cX3_signAt 21 = .ok (.iaload, 1) := by decide +kernel
theorem dX3_signAt_22 : decode cX3_signAt 22 = .ok (.ireturn, 1) := by decide +kernel
theorem dX3_faultAsShot_0 : decode cX3_faultAsShot 0 = .ok (.iconst 0, 1) := by decide +kernel
theorem dX3_faultAsShot_1 : decode cX3_faultAsShot 1 = .ok (.istore_n 2, 1) := by decide +kernel
theorem dX3_faultAsShot_2 : decode cX3_faultAsShot 2 = .ok (.iload_n 2, 1) := by decide +kernel
theorem dX3_faultAsShot_3 : decode cX3_faultAsShot 3 = .ok (.aload_n 0, 1) := by decide +kernel
theorem dX3_faultAsShot_4 : decode cX3_faultAsShot 4 = .ok (.getfield 15, 3) := by decide +kernel
theorem dX3_faultAsShot_7 : decode cX3_faultAsShot 7 = .ok (.if_icmp .ge 27, 3) := by decide +kernel
theorem dX3_faultAsShot_10 : decode cX3_faultAsShot 10 = .ok (.iload_n 2, 1) := by decide +kernel
theorem dX3_faultAsShot_11 : decode cX3_faultAsShot 11 = .ok (.iload_n 1, 1) := by decide +kernel
theorem dX3_faultAsShot_12 : decode cX3_faultAsShot 12 = .ok (.if_icmp .ge 22, 3) := by decide +kernel
theorem dX3_faultAsShot_15 : decode cX3_faultAsShot 15 = .ok (.aload_n 0, 1) := by decide +kernel
theorem dX3_faultAsShot_16 : decode cX3_faultAsShot 16 = .ok (.iload_n 2, 1) := by decide +kernel
theorem dX3_faultAsShot_17 : decode cX3_faultAsShot 17 = .ok (.invokevirtual 23, 3) := by decide +kernel
theorem dX3_faultAsShot_20 : decode cX3_faultAsShot 20 = .ok (.invokestatic 27, 3) := by decide +kernel
theorem dX3_faultAsShot_23 : decode cX3_faultAsShot 23 = .ok (.ifCond .ne 5, 3) := by decide +kernel
theorem dX3_faultAsShot_26 : decode cX3_faultAsShot 26 = .ok (.iload_n 2, 1) := by decide +kernel
theorem dX3_faultAsShot_27 : decode cX3_faultAsShot 27 = .ok (.ireturn, 1) := by decide +kernel
theorem dX3_faultAsShot_28 : decode cX3_faultAsShot 28 = .ok (.iinc 2 1, 3) := by decide +kernel
theorem dX3_faultAsShot_31 : decode cX3_faultAsShot 31 = .ok (.goto (-29), 3) := by decide +kernel
theorem dX3_faultAsShot_34 : decode cX3_faultAsShot 34 = .ok (.aload_n 0, 1) := by decide +kernel
theorem dX3_faultAsShot_35 : decode cX3_faultAsShot 35 = .ok (.iload_n 1, 1) := by decide +kernel
theorem dX3_faultAsShot_36 : decode cX3_faultAsShot 36 = .ok (.invokevirtual 31, 3) := by decide +kernel
theorem dX3_faultAsShot_39 : decode cX3_faultAsShot 39 = .ok (.ireturn, 1) := by decide +kernel
theorem dX3_faultAsStanding_0 : decode cX3_faultAsStanding 0 = .ok (.iconst 0, 1) := by decide +kernel
theorem dX3_faultAsStanding_1 : decode cX3_faultAsStanding 1 = .ok (.istore_n 3, 1) := by decide +kernel
theorem dX3_faultAsStanding_2 : decode cX3_faultAsStanding 2 = .ok (.iconst 0, 1) := by decide +kernel
theorem dX3_faultAsStanding_3 : decode cX3_faultAsStanding 3 = .ok (.istore 4, 2) := by decide +kernel
theorem dX3_faultAsStanding_5 : decode cX3_faultAsStanding 5 = .ok (.iload 4, 2) := by decide +kernel
theorem dX3_faultAsStanding_7 : decode cX3_faultAsStanding 7 = .ok (.aload_n 0, 1) := by decide +kernel
theorem dX3_faultAsStanding_8 : decode cX3_faultAsStanding 8 = .ok (.getfield 15, 3) := by decide +kernel
theorem dX3_faultAsStanding_11 : decode cX3_faultAsStanding 11 = .ok (.if_icmp .ge 58, 3) := by decide +kernel
theorem dX3_faultAsStanding_14 : decode cX3_faultAsStanding 14 = .ok (.iload 4, 2) := by decide +kernel
theorem dX3_faultAsStanding_16 : decode cX3_faultAsStanding 16 = .ok (.iload_n 1, 1) := by decide +kernel
theorem dX3_faultAsStanding_17 : decode cX3_faultAsStanding 17 = .ok (.if_icmp .ge 52, 3) := by decide +kernel
theorem dX3_faultAsStanding_20 : decode cX3_faultAsStanding 20 = .ok (.aload_n 0, 1) := by decide +kernel
theorem dX3_faultAsStanding_21 : decode cX3_faultAsStanding 21 = .ok (.iload 4, 2) := by decide +kernel
theorem dX3_faultAsStanding_23 : decode cX3_faultAsStanding 23 = .ok (.invokevirtual 23, 3) := by decide +kernel
theorem dX3_faultAsStanding_26 : decode cX3_faultAsStanding 26 = .ok (.bipush 48, 2) := by decide +kernel
theorem dX3_faultAsStanding_28 : decode cX3_faultAsStanding 28 = .ok (.isub, 1) := by decide +kernel
theorem dX3_faultAsStanding_29 : decode cX3_faultAsStanding 29 = .ok (.istore 5, 2) := by decide +kernel
theorem dX3_faultAsStanding_31 : decode cX3_faultAsStanding 31 = .ok (.iload 5, 2) := by decide +kernel
theorem dX3_faultAsStanding_33 : decode cX3_faultAsStanding 33 = .ok (.iconst 0, 1) := by decide +kernel
theorem dX3_faultAsStanding_34 : decode cX3_faultAsStanding 34 = .ok (.iload_n 2, 1) := by decide +kernel
theorem dX3_faultAsStanding_35 : decode cX3_faultAsStanding 35 = .ok (.iconst 1, 1) := by decide +kernel
theorem dX3_faultAsStanding_36 : decode cX3_faultAsStanding 36 = .ok (.isub, 1) := by decide +kernel
theorem dX3_faultAsStanding_37 : decode cX3_faultAsStanding 37 = .ok (.invokestatic 34, 3) := by decide +kernel
theorem dX3_faultAsStanding_40 : decode cX3_faultAsStanding 40 = .ok (.ifCond .eq 13, 3) := by decide +kernel
theorem dX3_faultAsStanding_43 : decode cX3_faultAsStanding 43 = .ok (.iload_n 3, 1) := by decide +kernel
theorem dX3_faultAsStanding_44 : decode cX3_faultAsStanding 44 = .ok (.iload 5, 2) := by decide +kernel
theorem dX3_faultAsStanding_46 : decode cX3_faultAsStanding 46 = .ok (.ishr, 1) := by decide +kernel
theorem dX3_faultAsStanding_47 : decode cX3_faultAsStanding 47 = .ok (.iconst 1, 1) := by decide +kernel
theorem dX3_faultAsStanding_48 : decode cX3_faultAsStanding 48 = .ok (.iand, 1) := by decide +kernel
theorem dX3_faultAsStanding_49 : decode cX3_faultAsStanding 49 = .ok (.iconst 1, 1) := by decide +kernel
theorem dX3_faultAsStanding_50 : decode cX3_faultAsStanding 50 = .ok (.if_icmp .ne 6, 3) := by decide +kernel
theorem dX3_faultAsStanding_53 : decode cX3_faultAsStanding 53 = .ok (.iload 4, 2) := by decide +kernel
theorem dX3_faultAsStanding_55 : decode cX3_faultAsStanding 55 = .ok (.ireturn, 1) := by decide +kernel
theorem dX3_faultAsStanding_56 : decode cX3_faultAsStanding 56 = .ok (.iload_n 3, 1) := by decide +kernel
theorem dX3_faultAsStanding_57 : decode cX3_faultAsStanding 57 = .ok (.iconst 1, 1) := by decide +kernel
theorem dX3_faultAsStanding_58 : decode cX3_faultAsStanding 58 = .ok (.iload 5, 2) := by decide +kernel
theorem dX3_faultAsStanding_60 : decode cX3_faultAsStanding 60 = .ok (.ishl, 1) := by decide +kernel
theorem dX3_faultAsStanding_61 : decode cX3_faultAsStanding 61 = .ok (.ior, 1) := by decide +kernel
theorem dX3_faultAsStanding_62 : decode cX3_faultAsStanding 62 = .ok (.istore_n 3, 1) := by decide +kernel
theorem dX3_faultAsStanding_63 : decode cX3_faultAsStanding 63 = .ok (.iinc 4 1, 3) := by decide +kernel
theorem dX3_faultAsStanding_66 : decode cX3_faultAsStanding 66 = .ok (.goto (-61), 3) := by decide +kernel
theorem dX3_faultAsStanding_69 : decode cX3_faultAsStanding 69 = .ok (.aload_n 0, 1) := by decide +kernel
theorem dX3_faultAsStanding_70 : decode cX3_faultAsStanding 70 = .ok (.iload_n 1, 1) := by decide +kernel
theorem dX3_faultAsStanding_71 : decode cX3_faultAsStanding 71 = .ok (.invokevirtual 31, 3) := by decide +kernel
theorem dX3_faultAsStanding_74 : decode cX3_faultAsStanding 74 = .ok (.ireturn, 1) := by decide +kernel
theorem dX3_readStanding_0 : decode cX3_readStanding 0 = .ok (.iconst 0, 1) := by decide +kernel
theorem dX3_readStanding_1 : decode cX3_readStanding 1 = .ok (.istore_n 3, 1) := by decide +kernel
theorem dX3_readStanding_2 : decode cX3_readStanding 2 = .ok (.iload_n 3, 1) := by decide +kernel
theorem dX3_readStanding_3 : decode cX3_readStanding 3 = .ok (.iload_n 2, 1) := by decide +kernel
theorem dX3_readStanding_4 : decode cX3_readStanding 4 = .ok (.if_icmp .ge 26, 3) := by decide +kernel
theorem dX3_readStanding_7 : decode cX3_readStanding 7 = .ok (.iload_n 3, 1) := by decide +kernel
theorem dX3_readStanding_8 : decode cX3_readStanding 8 = .ok (.aload_n 1, 1) := by decide +kernel
theorem dX3_readStanding_9 : decode cX3_readStanding 9 = .ok (.arraylength, 1) := by decide +kernel
theorem dX3_readStanding_10 : decode cX3_readStanding 10 = .ok (.if_icmp .ge 20, 3) := by decide +kernel
theorem dX3_readStanding_13 : decode cX3_readStanding 13 = .ok (.aload_n 1, 1) := by decide +kernel
theorem dX3_readStanding_14 : decode cX3_readStanding 14 = .ok (.iload_n 3, 1) := by decide +kernel
theorem dX3_readStanding_15 : decode cX3_readStanding 15 = .ok (.aload_n 0, 1) := by decide +kernel
theorem dX3_readStanding_16 : decode cX3_readStanding 16 = .ok (.iload_n 3, 1) := by decide +kernel
theorem dX3_readStanding_17 : decode cX3_readStanding 17 = .ok (.invokevirtual 23, 3) := by decide +kernel
theorem dX3_readStanding_20 : decode cX3_readStanding 20 = .ok (.bipush 48, 2) := by decide +kernel
theorem dX3_readStanding_22 : decode cX3_readStanding 22 = .ok (.isub, 1) := by decide +kernel
theorem dX3_readStanding_23 : decode cX3_readStanding 23 = .ok (.iastore, 1) := by decide +kernel
theorem dX3_readStanding_24 : decode cX3_readStanding 24 = .ok (.iinc 3 1, 3) := by decide +kernel
theorem dX3_readStanding_27 : decode cX3_readStanding 27 = .ok (.goto (-25), 3) := by decide +kernel
theorem dX3_readStanding_30 : decode cX3_readStanding 30 = .ok (.return_, 1) := by decide +kernel
theorem dX3_faultOfLength_0 : decode cX3_faultOfLength 0 = .ok (.aload_n 0, 1) := by decide +kernel
theorem dX3_faultOfLength_1 : decode cX3_faultOfLength 1 = .ok (.getfield 15, 3) := by decide +kernel
theorem dX3_faultOfLength_4 : decode cX3_faultOfLength 4 = .ok (.iload_n 1, 1) := by decide +kernel
theorem dX3_faultOfLength_5 : decode cX3_faultOfLength 5 = .ok (.if_icmp .ne 8, 3) := by decide +kernel
theorem dX3_faultOfLength_8 : decode cX3_faultOfLength 8 = .ok (.bipush (-6), 2) := by decide +kernel
theorem dX3_faultOfLength_10 : decode cX3_faultOfLength 10 = .ok (.goto 11, 3) := by decide +kernel
theorem dX3_faultOfLength_13 : decode cX3_faultOfLength 13 = .ok (.aload_n 0, 1) := by decide +kernel
theorem dX3_faultOfLength_14 : decode cX3_faultOfLength 14 = .ok (.getfield 15, 3) := by decide +kernel
theorem dX3_faultOfLength_17 : decode cX3_faultOfLength 17 = .ok (.iload_n 1, 1) := by decide +kernel
theorem dX3_faultOfLength_18 : decode cX3_faultOfLength 18 = .ok (.invokestatic 38, 3) := by decide +kernel
theorem dX3_faultOfLength_21 : decode cX3_faultOfLength 21 = .ok (.ireturn, 1) := by decide +kernel
theorem dX3_isLook_0 : decode cX3_isLook 0 = .ok (.iload_n 0, 1) := by decide +kernel
theorem dX3_isLook_1 : decode cX3_isLook 1 = .ok (.bipush 111, 2) := by decide +kernel
theorem dX3_isLook_3 : decode cX3_isLook 3 = .ok (.if_icmp .eq 21, 3) := by decide +kernel
theorem dX3_isLook_6 : decode cX3_isLook 6 = .ok (.iload_n 0, 1) := by decide +kernel
theorem dX3_isLook_7 : decode cX3_isLook 7 = .ok (.bipush 115, 2) := by decide +kernel
theorem dX3_isLook_9 : decode cX3_isLook 9 = .ok (.if_icmp .eq 15, 3) := by decide +kernel
theorem dX3_isLook_12 : decode cX3_isLook 12 = .ok (.iload_n 0, 1) := by decide +kernel
theorem dX3_isLook_13 : decode cX3_isLook 13 = .ok (.bipush 116, 2) := by decide +kernel
theorem dX3_isLook_15 : decode cX3_isLook 15 = .ok (.if_icmp .eq 9, 3) := by decide +kernel
theorem dX3_isLook_18 : decode cX3_isLook 18 = .ok (.iload_n 0, 1) := by decide +kernel
theorem dX3_isLook_19 : decode cX3_isLook 19 = .ok (.bipush 104, 2) := by decide +kernel
theorem dX3_isLook_21 : decode cX3_isLook 21 = .ok (.if_icmp .ne 7, 3) := by decide +kernel
theorem dX3_isLook_24 : decode cX3_isLook 24 = .ok (.iconst 1, 1) := by decide +kernel
theorem dX3_isLook_25 : decode cX3_isLook 25 = .ok (.goto 4, 3) := by decide +kernel
theorem dX3_isLook_28 : decode cX3_isLook 28 = .ok (.iconst 0, 1) := by decide +kernel
theorem dX3_isLook_29 : decode cX3_isLook 29 = .ok (.ireturn, 1) := by decide +kernel
theorem dX4_init_0 : decode cX4_init 0 = .ok (.aload_n 0, 1) := by decide +kernel
theorem dX4_init_1 : decode cX4_init 1 = .ok (.invokespecial 3, 3) := by decide +kernel
theorem dX4_init_4 : decode cX4_init 4 = .ok (.aload_n 0, 1) := by decide +kernel
theorem dX4_init_5 : decode cX4_init 5 = .ok (.bipush 64, 2) := by decide +kernel
theorem dX4_init_7 : decode cX4_init 7 = .ok (.newarray .long, 2) := by decide +kernel
theorem dX4_init_9 : decode cX4_init 9 = .ok (.putfield 9, 3) := by decide +kernel
theorem dX4_init_12 : decode cX4_init 12 = .ok (.aload_n 0, 1) := by decide +kernel
theorem dX4_init_13 : decode cX4_init 13 = .ok (.bipush 8, 2) := by decide +kernel
theorem dX4_init_15 : decode cX4_init 15 = .ok (.newarray .int, 2) := by decide +kernel
theorem dX4_init_17 : decode cX4_init 17 = .ok (.putfield 15, 3) := by decide +kernel
theorem dX4_init_20 : decode cX4_init 20 = .ok (.return_, 1) := by decide +kernel
theorem dX4_firstOf_0 : decode cX4_firstOf 0 = .ok (.aload_n 0, 1) := by decide +kernel
theorem dX4_firstOf_1 : decode cX4_firstOf 1 = .ok (.getfield 15, 3) := by decide +kernel
theorem dX4_firstOf_4 : decode cX4_firstOf 4 = .ok (.iload_n 1, 1) := by decide +kernel
theorem dX4_firstOf_5 : decode cX4_firstOf 5 = .ok (.iaload, 1) := by decide +kernel
theorem dX4_firstOf_6 : decode cX4_firstOf 6 = .ok (.ireturn, 1) := by decide +kernel
theorem dX4_solve_0 : decode cX4_solve 0 = .ok (.aload_n 1, 1) := by decide +kernel
theorem dX4_solve_1 : decode cX4_solve 1 = .ok (.getfield 19, 3) := by decide +kernel
theorem dX4_solve_4 : decode cX4_solve 4 = .ok (.ifCond .ne 4, 3) := by decide +kernel
theorem dX4_solve_7 : decode cX4_solve 7 = .ok (.return_, 1) := by decide +kernel
theorem dX4_solve_8 : decode cX4_solve 8 = .ok (.aload_n 1, 1) := by decide +kernel
theorem dX4_solve_9 : decode cX4_solve 9 = .ok (.iconst 0, 1) := by decide +kernel
theorem dX4_solve_10 : decode cX4_solve 10 = .ok (.putfield 19, 3) := by decide +kernel
theorem dX4_solve_13 : decode cX4_solve 13 = .ok (.aload_n 0, 1) := by decide +kernel
theorem dX4_solve_14 : decode cX4_solve 14 = .ok (.iload_n 2, 1) := by decide +kernel
theorem dX4_solve_15 : decode cX4_solve 15 = .ok (.putfield 25, 3) := by decide +kernel
theorem dX4_solve_18 : decode cX4_solve 18 = .ok (.iconst 0, 1) := by decide +kernel
theorem dX4_solve_19 : decode cX4_solve 19 = .ok (.istore_n 3, 1) := by decide +kernel
theorem dX4_solve_20 : decode cX4_solve 20 = .ok (.iload_n 3, 1) := by decide +kernel
theorem dX4_solve_21 : decode cX4_solve 21 = .ok (.bipush 8, 2) := by decide +kernel
theorem dX4_solve_23 : decode cX4_solve 23 = .ok (.if_icmp .ge 17, 3) := by decide +kernel
theorem dX4_solve_26 : decode cX4_solve 26 = .ok (.aload_n 0, 1) := by decide +kernel
theorem dX4_solve_27 : decode cX4_solve 27 = .ok (.getfield 15, 3) := by decide +kernel
theorem dX4_solve_30 : decode cX4_solve 30 = .ok (.iload_n 3, 1) := by decide +kernel
theorem dX4_solve_31 : decode cX4_solve 31 = .ok (.bipush (-6), 2) := by decide +kernel
theorem dX4_solve_33 : decode cX4_solve 33 = .ok (.iastore, 1) := by decide +kernel
theorem dX4_solve_34 : decode cX4_solve 34 = .ok (.iinc 3 1, 3) := by decide +kernel
theorem dX4_solve_37 : decode cX4_solve 37 = .ok (.goto (-17), 3) := by decide +kernel
theorem dX4_solve_40 : decode cX4_solve 40 = .ok (.iconst 0, 1) := by decide +kernel
theorem dX4_solve_41 : decode cX4_solve 41 = .ok (.istore_n 3, 1) := by decide +kernel
theorem dX4_solve_42 : decode cX4_solve 42 = .ok (.iload_n 3, 1) := by decide +kernel
theorem dX4_solve_43 : decode cX4_solve 43 = .ok (.aload_n 0, 1) := by decide +kernel
theorem dX4_solve_44 : decode cX4_solve 44 = .ok (.getfield 25, 3) := by decide +kernel
theorem dX4_solve_47 : decode cX4_solve 47 = .ok (.if_icmp .ge 47, 3) := by decide +kernel
theorem dX4_solve_50 : decode cX4_solve 50 = .ok (.iconst 0, 1) := by decide +kernel
theorem dX4_solve_51 : decode cX4_solve 51 = .ok (.istore 4, 2) := by decide +kernel
theorem dX4_solve_53 : decode cX4_solve 53 = .ok (.iload 4, 2) := by decide +kernel
theorem dX4_solve_55 : decode cX4_solve 55 = .ok (.aload_n 1, 1) := by decide +kernel
theorem dX4_solve_56 : decode cX4_solve 56 = .ok (.invokevirtual 29, 3) := by decide +kernel
theorem dX4_solve_59 : decode cX4_solve 59 = .ok (.if_icmp .ge 29, 3) := by decide +kernel
theorem dX4_solve_62 : decode cX4_solve 62 = .ok (.aload_n 0, 1) := by decide +kernel
theorem dX4_solve_63 : decode cX4_solve 63 = .ok (.getfield 9, 3) := by decide +kernel
theorem dX4_solve_66 : decode cX4_solve 66 = .ok (.iload_n 3, 1) := by decide +kernel
theorem dX4_solve_67 : decode cX4_solve 67 = .ok (.bipush 8, 2) := by decide +kernel
theorem dX4_solve_69 : decode cX4_solve 69 = .ok (.imul, 1) := by decide +kernel
theorem dX4_solve_70 : decode cX4_solve 70 = .ok (.iload 4, 2) := by decide +kernel
theorem dX4_solve_72 : decode cX4_solve 72 = .ok (.iadd, 1) := by decide +kernel
theorem dX4_solve_73 : decode cX4_solve 73 = .ok (.aload_n 0, 1) := by decide +kernel
theorem dX4_solve_74 : decode cX4_solve 74 = .ok (.aload_n 1, 1) := by decide +kernel
theorem dX4_solve_75 : decode cX4_solve 75 = .ok (.iload_n 3, 1) := by decide +kernel
theorem dX4_solve_76 : decode cX4_solve 76 = .ok (.iload 4, 2) := by decide +kernel
theorem dX4_solve_78 : decode cX4_solve 78 = .ok (.invokevirtual 33, 3) := by decide +kernel
theorem dX4_solve_81 : decode cX4_solve 81 = .ok (.lastore, 1) := by decide +kernel
theorem dX4_solve_82 : decode cX4_solve 82 = .ok (.iinc 4 1, 3) := by decide +kernel
theorem dX4_solve_85 : decode cX4_solve 85 = .ok (.goto (-32), 3) := by decide +kernel
theorem dX4_solve_88 : decode cX4_solve 88 = .ok (.iinc 3 1, 3) := by decide +kernel
theorem dX4_solve_91 : decode cX4_solve 91 = .ok (.goto (-49), 3) := by decide +kernel
theorem dX4_solve_94 : decode cX4_solve 94 = .ok (.aload_n 0, 1) := by decide +kernel
theorem dX4_solve_95 : decode cX4_solve 95 = .ok (.aload_n 0, 1) := by decide +kernel
theorem dX4_solve_96 : decode cX4_solve 96 = .ok (.iconst 0, 1) := by decide +kernel
theorem dX4_solve_97 : decode cX4_solve 97 = .ok (.aload_n 0, 1) := by decide +kernel
theorem dX4_solve_98 : decode cX4_solve 98 = .ok (.aload_n 1, 1) := by decide +kernel
theorem dX4_solve_99 : decode cX4_solve 99 = .ok (.invokevirtual 37, 3) := by decide +kernel
theorem dX4_solve_102 : decode cX4_solve 102 = .ok (.invokestatic 41, 3) := by decide +kernel
theorem dX4_solve_105 : decode cX4_solve 105 = .ok (.putfield 45, 3) := by decide +kernel
theorem dX4_solve_108 : decode cX4_solve 108 = .ok (.return_, 1) := by decide +kernel
theorem dX4_leftBehind_0 : decode cX4_leftBehind 0 = .ok (.lconst 0, 1) := by decide +kernel
theorem dX4_leftBehind_1 : decode cX4_leftBehind 1 = .ok (.lstore 4, 2) := by decide +kernel
theorem dX4_leftBehind_3 : decode cX4_leftBehind 3 = .ok (.iload_n 2, 1) := by decide +kernel
theorem dX4_leftBehind_4 : decode cX4_leftBehind 4 = .ok (.iconst 1, 1) := by decide +kernel
theorem dX4_leftBehind_5 : decode cX4_leftBehind 5 = .ok (.iadd, 1) := by decide +kernel
theorem dX4_leftBehind_6 : decode cX4_leftBehind 6 = .ok (.istore 6, 2) := by decide +kernel
theorem dX4_leftBehind_8 : decode cX4_leftBehind 8 = .ok (.iload 6, 2) := by decide +kernel
theorem dX4_leftBehind_10 : decode cX4_leftBehind 10 = .ok (.aload_n 0, 1) := by decide +kernel
theorem dX4_leftBehind_11 : decode cX4_leftBehind 11 = .ok (.getfield 25, 3) := by decide +kernel
theorem dX4_leftBehind_14 : decode cX4_leftBehind 14 = .ok (.if_icmp .ge 52, 3) := by decide +kernel
theorem dX4_leftBehind_17 : decode cX4_leftBehind 17 = .ok (.iconst 0, 1) := by decide +kernel
theorem dX4_leftBehind_18 : decode cX4_leftBehind 18 = .ok (.istore 7, 2) := by decide +kernel
theorem dX4_leftBehind_20 : decode cX4_leftBehind 20 = .ok (.iload 7, 2) := by decide +kernel
theorem dX4_leftBehind_22 : decode cX4_leftBehind 22 = .ok (.aload_n 1, 1) := by decide +kernel
theorem dX4_leftBehind_23 : decode cX4_leftBehind 23 = .ok (.invokevirtual 29, 3) := by decide +kernel
theorem dX4_leftBehind_26 : decode cX4_leftBehind 26 = .ok (.if_icmp .ge 34, 3) := by decide +kernel
theorem dX4_leftBehind_29 : decode cX4_leftBehind 29 = .ok (.aload_n 1, 1) := by decide +kernel
theorem dX4_leftBehind_30 : decode cX4_leftBehind 30 = .ok (.iload_n 2, 1) := by decide +kernel
theorem dX4_leftBehind_31 : decode cX4_leftBehind 31 = .ok (.iload_n 3, 1) := by decide +kernel
theorem dX4_leftBehind_32 : decode cX4_leftBehind 32 = .ok (.iload 6, 2) := by decide +kernel
theorem dX4_leftBehind_34 : decode cX4_leftBehind 34 = .ok (.iload 7, 2) := by decide +kernel
theorem dX4_leftBehind_36 : decode cX4_leftBehind 36 = .ok (.invokevirtual 48, 3) := by decide +kernel
theorem dX4_leftBehind_39 : decode cX4_leftBehind 39 = .ok (.ifCond .eq 15, 3) := by decide +kernel
theorem dX4_leftBehind_42 : decode cX4_leftBehind 42 = .ok (.lload 4, 2) := by decide +kernel
theorem dX4_leftBehind_44 : decode cX4_leftBehind 44 = .ok (.iload 6, 2) := by decide +kernel
theorem dX4_leftBehind_46 : decode cX4_leftBehind 46 = .ok (.iload 7, 2) := by decide +kernel
theorem dX4_leftBehind_48 : decode cX4_leftBehind 48 = .ok (.invokestatic 52, 3) := by decide +kernel
theorem dX4_leftBehind_51 : decode cX4_leftBehind 51 = .ok (.lor, 1) := by decide +kernel
theorem dX4_leftBehind_52 : decode cX4_leftBehind 52 = .ok (.lstore 4, 2) := by decide +kernel
theorem dX4_leftBehind_54 : decode cX4_leftBehind 54 = .ok (.iinc 7 1, 3) := by decide +kernel
theorem dX4_leftBehind_57 : decode cX4_leftBehind 57 = .ok (.goto (-37), 3) := by decide +kernel
theorem dX4_leftBehind_60 : decode cX4_leftBehind 60 = .ok (.iinc 6 1, 3) := by decide +kernel
theorem dX4_leftBehind_63 : decode cX4_leftBehind 63 = .ok (.goto (-55), 3) := by decide +kernel
theorem dX4_leftBehind_66 : decode cX4_leftBehind 66 = .ok (.lload 4, 2) := by decide +kernel
theorem dX4_leftBehind_68 : decode cX4_leftBehind 68 = .ok (.lreturn, 1) := by decide +kernel
theorem dX4_allPlaces_0 : decode cX4_allPlaces 0 = .ok (.lconst 0, 1) := by decide +kernel
theorem dX4_allPlaces_1 : decode cX4_allPlaces 1 = .ok (.lstore_n 2, 1) := by decide +kernel
theorem dX4_allPlaces_2 : decode cX4_allPlaces 2 = .ok (.iconst 0, 1) := by decide +kernel
theorem dX4_allPlaces_3 : decode cX4_allPlaces 3 = .ok (.istore 4, 2) := by decide +kernel
theorem dX4_allPlaces_5 : decode cX4_allPlaces 5 = .ok (.iload 4, 2) := by decide +kernel
theorem dX4_allPlaces_7 : decode cX4_allPlaces 7 = .ok (.aload_n 0, 1) := by decide +kernel
theorem dX4_allPlaces_8 : decode cX4_allPlaces 8 = .ok (.getfield 25, 3) := by decide +kernel
theorem dX4_allPlaces_11 : decode cX4_allPlaces 11 = .ok (.if_icmp .ge 37, 3) := by decide +kernel
theorem dX4_allPlaces_14 : decode cX4_allPlaces 14 = .ok (.iconst 0, 1) := by decide +kernel
theorem dX4_allPlaces_15 : decode cX4_allPlaces 15 = .ok (.istore 5, 2) := by decide +kernel
theorem dX4_allPlaces_17 : decode cX4_allPlaces 17 = .ok (.iload 5, 2) := by decide +kernel
theorem dX4_allPlaces_19 : decode cX4_allPlaces 19 = .ok (.aload_n 1, 1) := by decide +kernel
theorem dX4_allPlaces_20 : decode cX4_allPlaces 20 = .ok (.invokevirtual 29, 3) := by decide +kernel
theorem dX4_allPlaces_23 : decode cX4_allPlaces 23 = .ok (.if_icmp .ge 19, 3) := by decide +kernel
theorem dX4_allPlaces_26 : decode cX4_allPlaces 26 = .ok (.lload_n 2, 1) := by decide +kernel
theorem dX4_allPlaces_27 : decode cX4_allPlaces 27 = .ok (.iload 4, 2) := by decide +kernel
theorem dX4_allPlaces_29 : decode cX4_allPlaces 29 = .ok (.iload 5, 2) := by decide +kernel
theorem dX4_allPlaces_31 : decode cX4_allPlaces 31 = .ok (.invokestatic 52, 3) := by decide +kernel
theorem dX4_allPlaces_34 : decode cX4_allPlaces 34 = .ok (.lor, 1) := by decide +kernel
theorem dX4_allPlaces_35 : decode cX4_allPlaces 35 = .ok (.lstore_n 2, 1) := by decide +kernel
theorem dX4_allPlaces_36 : decode cX4_allPlaces 36 = .ok (.iinc 5 1, 3) := by decide +kernel
theorem dX4_allPlaces_39 : decode cX4_allPlaces 39 = .ok (.goto (-22), 3) := by decide +kernel
theorem dX4_allPlaces_42 : decode cX4_allPlaces 42 = .ok (.iinc 4 1, 3) := by decide +kernel
theorem dX4_allPlaces_45 : decode cX4_allPlaces 45 = .ok (.goto (-40), 3) := by decide +kernel
theorem dX4_allPlaces_48 : decode cX4_allPlaces 48 = .ok (.lload_n 2, 1) := by decide +kernel
theorem dX4_allPlaces_49 : decode cX4_allPlaces 49 = .ok (.lreturn, 1) := by decide +kernel
theorem dX4_bitOf_0 : decode cX4_bitOf 0 = .ok (.lconst 1, 1) := by decide +kernel
theorem dX4_bitOf_1 : decode cX4_bitOf 1 = .ok (.iload_n 0, 1) := by decide +kernel
theorem dX4_bitOf_2 : decode cX4_bitOf 2 = .ok (.bipush 8, 2) := by decide +kernel
theorem dX4_bitOf_4 : decode cX4_bitOf 4 = .ok (.imul, 1) := by decide +kernel
theorem dX4_bitOf_5 : decode cX4_bitOf 5 = .ok (.iload_n 1, 1) := by decide +kernel
theorem dX4_bitOf_6 : decode cX4_bitOf 6 = .ok (.iadd, 1) := by decide +kernel
theorem dX4_bitOf_7 : decode cX4_bitOf 7 = .ok (.lshl, 1) := by decide +kernel
theorem dX4_bitOf_8 : decode cX4_bitOf 8 = .ok (.lreturn, 1) := by decide +kernel
theorem dX4_countFrom_0 : decode cX4_countFrom 0 = .ok (.iload_n 1, 1) := by decide +kernel
theorem dX4_countFrom_1 : decode cX4_countFrom 1 = .ok (.ifCond .lt 11, 3) := by decide +kernel
theorem dX4_countFrom_4 : decode cX4_countFrom 4 = .ok (.iload_n 1, 1) := by decide +kernel
theorem dX4_countFrom_5 : decode cX4_countFrom 5 = .ok (.aload_n 0, 1) := by decide +kernel
theorem dX4_countFrom_6 : decode cX4_countFrom 6 = .ok (.getfield 25, 3) := by decide +kernel
theorem dX4_countFrom_9 : decode cX4_countFrom 9 = .ok (.if_icmp .lt 5, 3) := by decide +kernel
theorem dX4_countFrom_12 : decode cX4_countFrom 12 = .ok (.iconst 1, 1) := by decide +kernel
theorem dX4_countFrom_13 : decode cX4_countFrom 13 = .ok (.ireturn, 1) := by decide +kernel
theorem dX4_countFrom_14 : decode cX4_countFrom 14 = .ok (.lload_n 2, 1) := by decide +kernel
theorem dX4_countFrom_15 : decode cX4_countFrom 15 = .ok (.iload_n 1, 1) := by decide +kernel
theorem dX4_countFrom_16 : decode cX4_countFrom 16 = .ok (.bipush 8, 2) := by decide +kernel
theorem dX4_countFrom_18 : decode cX4_countFrom 18 = .ok (.imul, 1) := by decide +kernel
theorem dX4_countFrom_19 : decode cX4_countFrom 19 = .ok (.lushr, 1) := by decide +kernel
theorem dX4_countFrom_20 : decode cX4_countFrom 20 = .ok (.l2i, 1) := by decide +kernel
theorem dX4_countFrom_21 : decode cX4_countFrom 21 = .ok (.sipush 255, 3) := by decide +kernel
theorem dX4_countFrom_24 : decode cX4_countFrom 24 = .ok (.iand, 1) := by decide +kernel
theorem dX4_countFrom_25 : decode cX4_countFrom 25 = .ok (.istore 4, 2) := by decide +kernel
theorem dX4_countFrom_27 : decode cX4_countFrom 27 = .ok (.iload_n 1, 1) := by decide +kernel
theorem dX4_countFrom_28 : decode cX4_countFrom 28 = .ok (.aload_n 0, 1) := by decide +kernel
theorem dX4_countFrom_29 : decode cX4_countFrom 29 = .ok (.getfield 25, 3) := by decide +kernel
theorem dX4_countFrom_32 : decode cX4_countFrom 32 = .ok (.iconst 1, 1) := by decide +kernel
theorem dX4_countFrom_33 : decode cX4_countFrom 33 = .ok (.isub, 1) := by decide +kernel
theorem dX4_countFrom_34 : decode cX4_countFrom 34 = .ok (.if_icmp .ne 24, 3) := by decide +kernel
theorem dX4_countFrom_37 : decode cX4_countFrom 37 = .ok (.iload 4, 2) := by decide +kernel
theorem dX4_countFrom_39 : decode cX4_countFrom 39 = .ok (.ifCond .eq 13, 3) := by decide +kernel
theorem dX4_countFrom_42 : decode cX4_countFrom 42 = .ok (.aload_n 0, 1) := by decide +kernel
theorem dX4_countFrom_43 : decode cX4_countFrom 43 = .ok (.iload_n 1, 1) := by decide +kernel
theorem dX4_countFrom_44 : decode cX4_countFrom 44 = .ok (.iload 4, 2) := by decide +kernel
theorem dX4_countFrom_46 : decode cX4_countFrom 46 = .ok (.invokestatic 56, 3) := by decide +kernel
theorem dX4_countFrom_49 : decode cX4_countFrom 49 = .ok (.invokevirtual 62, 3) := by decide +kernel
theorem dX4_countFrom_52 : decode cX4_countFrom 52 = .ok (.iload 4, 2) := by decide +kernel
theorem dX4_countFrom_54 : decode cX4_countFrom 54 = .ok (.invokestatic 66, 3) := by decide +kernel
theorem dX4_countFrom_57 : decode cX4_countFrom 57 = .ok (.ireturn, 1) := by decide +kernel
theorem dX4_countFrom_58 : decode cX4_countFrom 58 = .ok (.iconst 0, 1) := by decide +kernel
theorem dX4_countFrom_59 : decode cX4_countFrom 59 = .ok (.istore 5, 2) := by decide +kernel
theorem dX4_countFrom_61 : decode cX4_countFrom 61 = .ok (.iconst 0, 1) := by decide +kernel
theorem dX4_countFrom_62 : decode cX4_countFrom 62 = .ok (.istore 6, 2) := by decide +kernel
theorem dX4_countFrom_64 : decode cX4_countFrom 64 = .ok (.iload 6, 2) := by decide +kernel
theorem dX4_countFrom_66 : decode cX4_countFrom 66 = .ok (.bipush 8, 2) := by decide +kernel
theorem dX4_countFrom_68 : decode cX4_countFrom 68 = .ok (.if_icmp .ge 64, 3) := by decide +kernel
theorem dX4_countFrom_71 : decode cX4_countFrom 71 = .ok (.iload 4, 2) := by decide +kernel
theorem dX4_countFrom_73 : decode cX4_countFrom 73 = .ok (.iload 6, 2) := by decide +kernel
theorem dX4_countFrom_75 : decode cX4_countFrom 75 = .ok (.ishr, 1) := by decide +kernel
theorem dX4_countFrom_76 : decode cX4_countFrom 76 = .ok (.iconst 1, 1) := by decide +kernel
theorem dX4_countFrom_77 : decode cX4_countFrom 77 = .ok (.iand, 1) := by decide +kernel
theorem dX4_countFrom_78 : decode cX4_countFrom 78 = .ok (.ifCond .ne 6, 3) := by decide +kernel
theorem dX4_countFrom_81 : decode cX4_countFrom 81 = .ok (.goto 45, 3) := by decide +kernel
theorem dX4_countFrom_84 : decode cX4_countFrom 84 = .ok (.aload_n 0, 1) := by decide +kernel
theorem dX4_countFrom_85 : decode cX4_countFrom 85 = .ok (.iload_n 1, 1) := by decide +kernel
theorem dX4_countFrom_86 : decode cX4_countFrom 86 = .ok (.iconst 1, 1) := by decide +kernel
theorem dX4_countFrom_87 : decode cX4_countFrom 87 = .ok (.iadd, 1) := by decide +kernel
theorem dX4_countFrom_88 : decode cX4_countFrom 88 = .ok (.lload_n 2, 1) := by decide +kernel
theorem dX4_countFrom_89 : decode cX4_countFrom 89 = .ok (.aload_n 0, 1) := by decide +kernel
theorem dX4_countFrom_90 : decode cX4_countFrom 90 = .ok (.getfield 9, 3) := by decide +kernel
theorem dX4_countFrom_93 : decode cX4_countFrom 93 = .ok (.iload_n 1, 1) := by decide +kernel
theorem dX4_countFrom_94 : decode cX4_countFrom 94 = .ok (.bipush 8, 2) := by decide +kernel
theorem dX4_countFrom_96 : decode cX4_countFrom 96 = .ok (.imul, 1) := by decide +kernel
theorem dX4_countFrom_97 : decode cX4_countFrom 97 = .ok (.iload 6, 2) := by decide +kernel
theorem dX4_countFrom_99 : decode cX4_countFrom 99 = .ok (.iadd, 1) := by decide +kernel
theorem dX4_countFrom_100 : decode cX4_countFrom 100 = .ok (.laload, 1) := by decide +kernel
theorem dX4_countFrom_101 : decode cX4_countFrom 101 = .ok (.land, 1) := by decide +kernel
theorem dX4_countFrom_102 : decode cX4_countFrom 102 = .ok (.invokestatic 41, 3) := by decide +kernel
theorem dX4_countFrom_105 : decode cX4_countFrom 105 = .ok (.istore 7, 2) := by decide +kernel
theorem dX4_countFrom_107 : decode cX4_countFrom 107 = .ok (.iload 7, 2) := by decide +kernel
theorem dX4_countFrom_109 : decode cX4_countFrom 109 = .ok (.ifCond .le 10, 3) := by decide +kernel
theorem dX4_countFrom_112 : decode cX4_countFrom 112 = .ok (.aload_n 0, 1) := by decide +kernel
theorem dX4_countFrom_113 : decode cX4_countFrom 113 = .ok (.iload_n 1, 1) := by decide +kernel
theorem dX4_countFrom_114 : decode cX4_countFrom 114 = .ok (.iload 6, 2) := by decide +kernel
theorem dX4_countFrom_116 : decode cX4_countFrom 116 = .ok (.invokevirtual 62, 3) := by decide +kernel
theorem dX4_countFrom_119 : decode cX4_countFrom 119 = .ok (.iload 5, 2) := by decide +kernel
theorem dX4_countFrom_121 : decode cX4_countFrom 121 = .ok (.iload 7, 2) := by decide +kernel
theorem dX4_countFrom_123 : decode cX4_countFrom 123 = .ok (.iadd, 1) := by decide +kernel
theorem dX4_countFrom_124 : decode cX4_countFrom 124 = .ok (.istore 5, 2) := by decide +kernel
theorem dX4_countFrom_126 : decode cX4_countFrom 126 = .ok (.iinc 6 1, 3) := by decide +kernel
theorem dX4_countFrom_129 : decode cX4_countFrom 129 = .ok (.goto (-65), 3) := by decide +kernel
theorem dX4_countFrom_132 : decode cX4_countFrom 132 = .ok (.iload 5, 2) := by decide +kernel
theorem dX4_countFrom_134 : decode cX4_countFrom 134 = .ok (.ireturn, 1) := by decide +kernel
theorem dX4_noteFirst_0 : decode cX4_noteFirst 0 = .ok (.aload_n 0, 1) := by decide +kernel
theorem dX4_noteFirst_1 : decode cX4_noteFirst 1 = .ok (.getfield 15, 3) := by decide +kernel
theorem dX4_noteFirst_4 : decode cX4_noteFirst 4 = .ok (.iload_n 1, 1) := by decide +kernel
theorem dX4_noteFirst_5 : decode cX4_noteFirst 5 = .ok (.iaload, 1) := by decide +kernel
theorem dX4_noteFirst_6 : decode cX4_noteFirst 6 = .ok (.bipush (-6), 2) := by decide +kernel
theorem dX4_noteFirst_8 : decode cX4_noteFirst 8 = .ok (.if_icmp .ne 10, 3) := by decide +kernel
theorem dX4_noteFirst_11 : decode cX4_noteFirst 11 = .ok (.aload_n 0, 1) := by decide +kernel
theorem dX4_noteFirst_12 : decode cX4_noteFirst 12 = .ok (.getfield 15, 3) := by decide +kernel
theorem dX4_noteFirst_15 : decode cX4_noteFirst 15 = .ok (.iload_n 1, 1) := by decide +kernel
theorem dX4_noteFirst_16 : decode cX4_noteFirst 16 = .ok (.iload_n 2, 1) := by decide +kernel
theorem dX4_noteFirst_17 : decode cX4_noteFirst 17 = .ok (.iastore, 1) := by decide +kernel
theorem dX4_noteFirst_18 : decode cX4_noteFirst 18 = .ok (.return_, 1) := by decide +kernel
theorem dX5_init_0 : decode cX5_init 0 = .ok (.aload_n 0, 1) := by decide +kernel
theorem dX5_init_1 : decode cX5_init 1 = .ok (.invokespecial 3, 3) := by decide +kernel
theorem dX5_init_4 : decode cX5_init 4 = .ok (.aload_n 0, 1) := by decide +kernel
theorem dX5_init_5 : decode cX5_init 5 = .ok (.iconst 4, 1) := by decide +kernel
theorem dX5_init_6 : decode cX5_init 6 = .ok (.putfield 9, 3) := by decide +kernel
theorem dX5_init_9 : decode cX5_init 9 = .ok (.aload_n 0, 1) := by decide +kernel
theorem dX5_init_10 : decode cX5_init 10 = .ok (.bipush (-6), 2) := by decide +kernel
theorem dX5_init_12 : decode cX5_init 12 = .ok (.putfield 15, 3) := by decide +kernel
theorem dX5_init_15 : decode cX5_init 15 = .ok (.aload_n 0, 1) := by decide +kernel
theorem dX5_init_16 : decode cX5_init 16 = .ok (.new 18, 3) := by decide +kernel
theorem dX5_init_19 : decode cX5_init 19 = .ok (.dup, 1) := by decide +kernel
theorem dX5_init_20 : decode cX5_init 20 = .ok (.invokespecial 20, 3) := by decide +kernel
theorem dX5_init_23 : decode cX5_init 23 = .ok (.putfield 21, 3) := by decide +kernel
theorem dX5_init_26 : decode cX5_init 26 = .ok (.aload_n 0, 1) := by decide +kernel
theorem dX5_init_27 : decode cX5_init 27 = .ok (.new 25, 3) := by decide +kernel
theorem dX5_init_30 : decode cX5_init 30 = .ok (.dup, 1) := by decide +kernel
theorem dX5_init_31 : decode cX5_init 31 = .ok (.invokespecial 27, 3) := by decide +kernel
theorem dX5_init_34 : decode cX5_init 34 = .ok (.putfield 28, 3) := by decide +kernel
theorem dX5_init_37 : decode cX5_init 37 = .ok (.aload_n 0, 1) := by decide +kernel
theorem dX5_init_38 : decode cX5_init 38 = .ok (.new 32, 3) := by decide +kernel
theorem dX5_init_41 : decode cX5_init 41 = .ok (.dup, 1) := by decide +kernel
theorem dX5_init_42 : decode cX5_init 42 = .ok (.invokespecial 34, 3) := by decide +kernel
theorem dX5_init_45 : decode cX5_init 45 = .ok (.putfield 35, 3) := by decide +kernel
theorem dX5_init_48 : decode cX5_init 48 = .ok (.aload_n 0, 1) := by decide +kernel
theorem dX5_init_49 : decode cX5_init 49 = .ok (.new 39, 3) := by decide +kernel
theorem dX5_init_52 : decode cX5_init 52 = .ok (.dup, 1) := by decide +kernel
theorem dX5_init_53 : decode cX5_init 53 = .ok (.invokespecial 41, 3) := by decide +kernel
theorem dX5_init_56 : decode cX5_init 56 = .ok (.putfield 42, 3) := by decide +kernel
theorem dX5_init_59 : decode cX5_init 59 = .ok (.return_, 1) := by decide +kernel
theorem dX5_has_0 : decode cX5_has 0 = .ok (.iload_n 1, 1) := by decide +kernel
theorem dX5_has_1 : decode cX5_has 1 = .ok (.ifCond .lt 15, 3) := by decide +kernel
theorem dX5_has_4 : decode cX5_has 4 = .ok (.iload_n 1, 1) := by decide +kernel
theorem dX5_has_5 : decode cX5_has 5 = .ok (.aload_n 0, 1) := by decide +kernel
theorem dX5_has_6 : decode cX5_has 6 = .ok (.getfield 9, 3) := by decide +kernel
theorem dX5_has_9 : decode cX5_has 9 = .ok (.if_icmp .ge 7, 3) := by decide +kernel
theorem dX5_has_12 : decode cX5_has 12 = .ok (.iconst 1, 1) := by decide +kernel
theorem dX5_has_13 : decode cX5_has 13 = .ok (.goto 4, 3) := by decide +kernel
theorem dX5_has_16 : decode cX5_has 16 = .ok (.iconst 0, 1) := by decide +kernel
theorem dX5_has_17 : decode cX5_has 17 = .ok (.ireturn, 1) := by decide +kernel
theorem dX5_everybody_0 : decode cX5_everybody 0 = .ok (.iconst 1, 1) := by decide +kernel
theorem dX5_everybody_1 : decode cX5_everybody 1 = .ok (.aload_n 0, 1) := by decide +kernel
theorem dX5_everybody_2 : decode cX5_everybody 2 = .ok (.getfield 9, 3) := by decide +kernel
theorem dX5_everybody_5 : decode cX5_everybody 5 = .ok (.ishl, 1) := by decide +kernel
theorem dX5_everybody_6 : decode cX5_everybody 6 = .ok (.iconst 1, 1) := by decide +kernel
theorem dX5_everybody_7 : decode cX5_everybody 7 = .ok (.isub, 1) := by decide +kernel
theorem dX5_everybody_8 : decode cX5_everybody 8 = .ok (.ireturn, 1) := by decide +kernel
theorem dX5_gather_0 : decode cX5_gather 0 = .ok (.aload_n 0, 1) := by decide +kernel
theorem dX5_gather_1 : decode cX5_gather 1 = .ok (.getfield 9, 3) := by decide +kernel
theorem dX5_gather_4 : decode cX5_gather 4 = .ok (.istore_n 2, 1) := by decide +kernel
theorem dX5_gather_5 : decode cX5_gather 5 = .ok (.aload_n 0, 1) := by decide +kernel
theorem dX5_gather_6 : decode cX5_gather 6 = .ok (.iload_n 1, 1) := by decide +kernel
theorem dX5_gather_7 : decode cX5_gather 7 = .ok (.putfield 9, 3) := by decide +kernel
theorem dX5_gather_10 : decode cX5_gather 10 = .ok (.aload_n 0, 1) := by decide +kernel
theorem dX5_gather_11 : decode cX5_gather 11 = .ok (.bipush (-6), 2) := by decide +kernel
theorem dX5_gather_13 : decode cX5_gather 13 = .ok (.putfield 15, 3) := by decide +kernel
theorem dX5_gather_16 : decode cX5_gather 16 = .ok (.aload_n 0, 1) := by decide +kernel
theorem dX5_gather_17 : decode cX5_gather 17 = .ok (.getfield 21, 3) := by decide +kernel
theorem dX5_gather_20 : decode cX5_gather 20 = .ok (.invokevirtual 46, 3) := by decide +kernel
theorem dX5_gather_23 : decode cX5_gather 23 = .ok (.aload_n 0, 1) := by decide +kernel
theorem dX5_gather_24 : decode cX5_gather 24 = .ok (.getfield 28, 3) := by decide +kernel
theorem dX5_gather_27 : decode cX5_gather 27 = .ok (.invokevirtual 49, 3) := by decide +kernel
theorem dX5_gather_30 : decode cX5_gather 30 = .ok (.aload_n 0, 1) := by decide +kernel
theorem dX5_gather_31 : decode cX5_gather 31 = .ok (.getfield 35, 3) := by decide +kernel
theorem dX5_gather_34 : decode cX5_gather 34 = .ok (.invokevirtual 50, 3) := by decide +kernel
theorem dX5_gather_37 : decode cX5_gather 37 = .ok (.aload_n 0, 1) := by decide +kernel
theorem dX5_gather_38 : decode cX5_gather 38 = .ok (.getfield 42, 3) := by decide +kernel
theorem dX5_gather_41 : decode cX5_gather 41 = .ok (.invokevirtual 51, 3) := by decide +kernel
theorem dX5_gather_44 : decode cX5_gather 44 = .ok (.iload_n 2, 1) := by decide +kernel
theorem dX5_gather_45 : decode cX5_gather 45 = .ok (.ireturn, 1) := by decide +kernel
theorem dX5_copyFrom_0 : decode cX5_copyFrom 0 = .ok (.aload_n 0, 1) := by decide +kernel
theorem dX5_copyFrom_1 : decode cX5_copyFrom 1 = .ok (.aload_n 1, 1) := by decide +kernel
theorem dX5_copyFrom_2 : decode cX5_copyFrom 2 = .ok (.getfield 9, 3) := by decide +kernel
theorem dX5_copyFrom_5 : decode cX5_copyFrom 5 = .ok (.putfield 9, 3) := by decide +kernel
theorem dX5_copyFrom_8 : decode cX5_copyFrom 8 = .ok (.aload_n 0, 1) := by decide +kernel
theorem dX5_copyFrom_9 : decode cX5_copyFrom 9 = .ok (.aload_n 1, 1) := by decide +kernel
theorem dX5_copyFrom_10 : decode cX5_copyFrom 10 = .ok (.getfield 15, 3) := by decide +kernel
theorem dX5_copyFrom_13 : decode cX5_copyFrom 13 = .ok (.putfield 15, 3) := by decide +kernel
theorem dX5_copyFrom_16 : decode cX5_copyFrom 16 = .ok (.aload_n 0, 1) := by decide +kernel
theorem dX5_copyFrom_17 : decode cX5_copyFrom 17 = .ok (.getfield 21, 3) := by decide +kernel
theorem dX5_copyFrom_20 : decode cX5_copyFrom 20 = .ok (.aload_n 1, 1) := by decide +kernel
theorem dX5_copyFrom_21 : decode cX5_copyFrom 21 = .ok (.getfield 21, 3) := by decide +kernel
theorem dX5_copyFrom_24 : decode cX5_copyFrom 24 = .ok (.invokevirtual 52, 3) := by decide +kernel
theorem dX5_copyFrom_27 : decode cX5_copyFrom 27 = .ok (.aload_n 0, 1) := by decide +kernel
theorem dX5_copyFrom_28 : decode cX5_copyFrom 28 = .ok (.getfield 28, 3) := by decide +kernel
theorem dX5_copyFrom_31 : decode cX5_copyFrom 31 = .ok (.aload_n 1, 1) := by decide +kernel
theorem dX5_copyFrom_32 : decode cX5_copyFrom 32 = .ok (.getfield 28, 3) := by decide +kernel
theorem dX5_copyFrom_35 : decode cX5_copyFrom 35 = .ok (.invokevirtual 56, 3) := by decide +kernel
theorem dX5_copyFrom_38 : decode cX5_copyFrom 38 = .ok (.aload_n 0, 1) := by decide +kernel
theorem dX5_copyFrom_39 : decode cX5_copyFrom 39 = .ok (.getfield 35, 3) := by decide +kernel
theorem dX5_copyFrom_42 : decode cX5_copyFrom 42 = .ok (.aload_n 1, 1) := by decide +kernel
theorem dX5_copyFrom_43 : decode cX5_copyFrom 43 = .ok (.getfield 35, 3) := by decide +kernel
theorem dX5_copyFrom_46 : decode cX5_copyFrom 46 = .ok (.invokevirtual 59, 3) := by decide +kernel
theorem dX5_copyFrom_49 : decode cX5_copyFrom 49 = .ok (.aload_n 0, 1) := by decide +kernel
theorem dX5_copyFrom_50 : decode cX5_copyFrom 50 = .ok (.getfield 42, 3) := by decide +kernel
theorem dX5_copyFrom_53 : decode cX5_copyFrom 53 = .ok (.aload_n 1, 1) := by decide +kernel
theorem dX5_copyFrom_54 : decode cX5_copyFrom 54 = .ok (.getfield 42, 3) := by decide +kernel
theorem dX5_copyFrom_57 : decode cX5_copyFrom 57 = .ok (.invokevirtual 62, 3) := by decide +kernel
theorem dX5_copyFrom_60 : decode cX5_copyFrom 60 = .ok (.return_, 1) := by decide +kernel
theorem dX6_init_0 : decode cX6_init 0 = .ok (.aload_n 0, 1) := by decide +kernel
theorem dX6_init_1 : decode cX6_init 1 = .ok (.invokespecial 3, 3) := by decide +kernel
theorem dX6_init_4 : decode cX6_init 4 = .ok (.aload_n 0, 1) := by decide +kernel
theorem dX6_init_5 : decode cX6_init 5 = .ok (.bipush 80, 2) := by decide +kernel
theorem dX6_init_7 : decode cX6_init 7 = .ok (.newarray .int, 2) := by decide +kernel
theorem dX6_init_9 : decode cX6_init 9 = .ok (.putfield 9, 3) := by decide +kernel
theorem dX6_init_12 : decode cX6_init 12 = .ok (.aload_n 0, 1) := by decide +kernel
theorem dX6_init_13 : decode cX6_init 13 = .ok (.bipush 10, 2) := by decide +kernel
theorem dX6_init_15 : decode cX6_init 15 = .ok (.newarray .int, 2) := by decide +kernel
theorem dX6_init_17 : decode cX6_init 17 = .ok (.putfield 15, 3) := by decide +kernel
theorem dX6_init_20 : decode cX6_init 20 = .ok (.return_, 1) := by decide +kernel
theorem dX6_startPeople_0 : decode cX6_startPeople 0 = .ok (.aload_n 0, 1) := by decide +kernel
theorem dX6_startPeople_1 : decode cX6_startPeople 1 = .ok (.iconst 0, 1) := by decide +kernel
theorem dX6_startPeople_2 : decode cX6_startPeople 2 = .ok (.putfield 18, 3) := by decide +kernel
theorem dX6_startPeople_5 : decode cX6_startPeople 5 = .ok (.aload_n 0, 1) := by decide +kernel
theorem dX6_startPeople_6 : decode cX6_startPeople 6 = .ok (.iconst 0, 1) := by decide +kernel
theorem dX6_startPeople_7 : decode cX6_startPeople 7 = .ok (.putfield 22, 3) := by decide +kernel
theorem dX6_startPeople_10 : decode cX6_startPeople 10 = .ok (.return_, 1) := by decide +kernel
theorem dX6_copyFrom_0 : decode cX6_copyFrom 0 = .ok (.aload_n 0, 1) := by decide +kernel
theorem dX6_copyFrom_1 : decode cX6_copyFrom 1 = .ok (.aload_n 1, 1) := by decide +kernel
theorem dX6_copyFrom_2 : decode cX6_copyFrom 2 = .ok (.getfield 18, 3) := by decide +kernel
theorem dX6_copyFrom_5 : decode cX6_copyFrom 5 = .ok (.putfield 18, 3) := by decide +kernel
theorem dX6_copyFrom_8 : decode cX6_copyFrom 8 = .ok (.aload_n 0, 1) := by decide +kernel
theorem dX6_copyFrom_9 : decode cX6_copyFrom 9 = .ok (.aload_n 1, 1) := by decide +kernel
theorem dX6_copyFrom_10 : decode cX6_copyFrom 10 = .ok (.getfield 22, 3) := by decide +kernel
theorem dX6_copyFrom_13 : decode cX6_copyFrom 13 = .ok (.putfield 22, 3) := by decide +kernel
theorem dX6_copyFrom_16 : decode cX6_copyFrom 16 = .ok (.aload_n 1, 1) := by decide +kernel
theorem dX6_copyFrom_17 : decode cX6_copyFrom 17 = .ok (.getfield 9, 3) := by decide +kernel
theorem dX6_copyFrom_20 : decode cX6_copyFrom 20 = .ok (.iconst 0, 1) := by decide +kernel
theorem dX6_copyFrom_21 : decode cX6_copyFrom 21 = .ok (.aload_n 0, 1) := by decide +kernel
theorem dX6_copyFrom_22 : decode cX6_copyFrom 22 = .ok (.getfield 9, 3) := by decide +kernel
theorem dX6_copyFrom_25 : decode cX6_copyFrom 25 = .ok (.iconst 0, 1) := by decide +kernel
theorem dX6_copyFrom_26 : decode cX6_copyFrom 26 = .ok (.bipush 80, 2) := by decide +kernel
theorem dX6_copyFrom_28 : decode cX6_copyFrom 28 = .ok (.invokestatic 25, 3) := by decide +kernel
theorem dX6_copyFrom_31 : decode cX6_copyFrom 31 = .ok (.aload_n 1, 1) := by decide +kernel
theorem dX6_copyFrom_32 : decode cX6_copyFrom 32 = .ok (.getfield 15, 3) := by decide +kernel
theorem dX6_copyFrom_35 : decode cX6_copyFrom 35 = .ok (.iconst 0, 1) := by decide +kernel
theorem dX6_copyFrom_36 : decode cX6_copyFrom 36 = .ok (.aload_n 0, 1) := by decide +kernel
theorem dX6_copyFrom_37 : decode cX6_copyFrom 37 = .ok (.getfield 15, 3) := by decide +kernel
theorem dX6_copyFrom_40 : decode cX6_copyFrom 40 = .ok (.iconst 0, 1) := by decide +kernel
theorem dX6_copyFrom_41 : decode cX6_copyFrom 41 = .ok (.bipush 10, 2) := by decide +kernel
theorem dX6_copyFrom_43 : decode cX6_copyFrom 43 = .ok (.invokestatic 25, 3) := by decide +kernel
theorem dX6_copyFrom_46 : decode cX6_copyFrom 46 = .ok (.return_, 1) := by decide +kernel
theorem dX6_isFull_0 : decode cX6_isFull 0 = .ok (.aload_n 0, 1) := by decide +kernel
theorem dX6_isFull_1 : decode cX6_isFull 1 = .ok (.getfield 18, 3) := by decide +kernel
theorem dX6_isFull_4 : decode cX6_isFull 4 = .ok (.bipush 10, 2) := by decide +kernel
theorem dX6_isFull_6 : decode cX6_isFull 6 = .ok (.if_icmp .lt 7, 3) := by decide +kernel
theorem dX6_isFull_9 : decode cX6_isFull 9 = .ok (.iconst 1, 1) := by decide +kernel
theorem dX6_isFull_10 : decode cX6_isFull 10 = .ok (.goto 4, 3) := by decide +kernel
theorem dX6_isFull_13 : decode cX6_isFull 13 = .ok (.iconst 0, 1) := by decide +kernel
theorem dX6_isFull_14 : decode cX6_isFull 14 = .ok (.ireturn, 1) := by decide +kernel
theorem dX6_has_0 : decode cX6_has 0 = .ok (.iload_n 1, 1) := by decide +kernel
theorem dX6_has_1 : decode cX6_has 1 = .ok (.ifCond .lt 15, 3) := by decide +kernel
theorem dX6_has_4 : decode cX6_has 4 = .ok (.iload_n 1, 1) := by decide +kernel
theorem dX6_has_5 : decode cX6_has 5 = .ok (.aload_n 0, 1) := by decide +kernel
theorem dX6_has_6 : decode cX6_has 6 = .ok (.getfield 18, 3) := by decide +kernel
theorem dX6_has_9 : decode cX6_has 9 = .ok (.if_icmp .ge 7, 3) := by decide +kernel
theorem dX6_has_12 : decode cX6_has 12 = .ok (.iconst 1, 1) := by decide +kernel
theorem dX6_has_13 : decode cX6_has 13 = .ok (.goto 4, 3) := by decide +kernel
theorem dX6_has_16 : decode cX6_has 16 = .ok (.iconst 0, 1) := by decide +kernel
theorem dX6_has_17 : decode cX6_has 17 = .ok (.ireturn, 1) := by decide +kernel
theorem dX6_take_0 : decode cX6_take 0 = .ok (.aload_n 0, 1) := by decide +kernel
theorem dX6_take_1 : decode cX6_take 1 = .ok (.invokevirtual 31, 3) := by decide +kernel
theorem dX6_take_4 : decode cX6_take 4 = .ok (.ifCond .eq 6, 3) := by decide +kernel
theorem dX6_take_7 : decode cX6_take 7 = .ok (.bipush (-6), 2) := by decide +kernel
theorem dX6_take_9 : decode cX6_take 9 = .ok (.ireturn, 1) := by decide +kernel
theorem dX6_take_10 : decode cX6_take 10 = .ok (.aload_n 0, 1) := by decide +kernel
theorem dX6_take_11 : decode cX6_take 11 = .ok (.getfield 18, 3) := by decide +kernel
theorem dX6_take_14 : decode cX6_take 14 = .ok (.istore_n 3, 1) := by decide +kernel
theorem dX6_take_15 : decode cX6_take 15 = .ok (.aload_n 0, 1) := by decide +kernel
theorem dX6_take_16 : decode cX6_take 16 = .ok (.getfield 15, 3) := by decide +kernel
theorem dX6_take_19 : decode cX6_take 19 = .ok (.iload_n 3, 1) := by decide +kernel
theorem dX6_take_20 : decode cX6_take 20 = .ok (.iconst 0, 1) := by decide +kernel
theorem dX6_take_21 : decode cX6_take 21 = .ok (.iastore, 1) := by decide +kernel
theorem dX6_take_22 : decode cX6_take 22 = .ok (.iconst 0, 1) := by decide +kernel
theorem dX6_take_23 : decode cX6_take 23 = .ok (.istore 4, 2) := by decide +kernel
theorem dX6_take_25 : decode cX6_take 25 = .ok (.iload 4, 2) := by decide +kernel
theorem dX6_take_27 : decode cX6_take 27 = .ok (.iload_n 2, 1) := by decide +kernel
theorem dX6_take_28 : decode cX6_take 28 = .ok (.if_icmp .ge 51, 3) := by decide +kernel
theorem dX6_take_31 : decode cX6_take 31 = .ok (.aload_n 1, 1) := by decide +kernel
theorem dX6_take_32 : decode cX6_take 32 = .ok (.iload 4, 2) := by decide +kernel
theorem dX6_take_34 : decode cX6_take 34 = .ok (.invokevirtual 35, 3) := by decide +kernel
theorem dX6_take_37 : decode cX6_take 37 = .ok (.istore 5, 2) := by decide +kernel
theorem dX6_take_39 : decode cX6_take 39 = .ok (.aload_n 0, 1) := by decide +kernel
theorem dX6_take_40 : decode cX6_take 40 = .ok (.getfield 9, 3) := by decide +kernel
theorem dX6_take_43 : decode cX6_take 43 = .ok (.iload_n 3, 1) := by decide +kernel
theorem dX6_take_44 : decode cX6_take 44 = .ok (.bipush 8, 2) := by decide +kernel
theorem dX6_take_46 : decode cX6_take 46 = .ok (.imul, 1) := by decide +kernel
theorem dX6_take_47 : decode cX6_take 47 = .ok (.iload 4, 2) := by decide +kernel
theorem dX6_take_49 : decode cX6_take 49 = .ok (.iadd, 1) := by decide +kernel
theorem dX6_take_50 : decode cX6_take 50 = .ok (.iload 5, 2) := by decide +kernel
theorem dX6_take_52 : decode cX6_take 52 = .ok (.iastore, 1) := by decide +kernel
theorem dX6_take_53 : decode cX6_take 53 = .ok (.iload 5, 2) := by decide +kernel
end
section
theorem dX6_take_55 : decode cX6_take 55 = .ok (.bipush 111, 2) := by decide +kernel
theorem dX6_take_57 : decode cX6_take 57 = .ok (.if_icmp .ne 16, 3) := by decide +kernel
theorem dX6_take_60 : decode cX6_take 60 = .ok (.aload_n 0, 1) := by decide +kernel
theorem dX6_take_61 : decode cX6_take 61 = .ok (.getfield 15, 3) := by decide +kernel
theorem dX6_take_64 : decode cX6_take 64 = .ok (.iload_n 3, 1) := by decide +kernel
theorem dX6_take_65 : decode cX6_take 65 = .ok (.dup2, 1) := by decide +kernel
theorem dX6_take_66 : decode cX6_take 66 = .ok (.iaload, 1) := by decide +kernel
theorem dX6_take_67 : decode cX6_take 67 = .ok (.iconst 1, 1) := by decide +kernel
theorem dX6_take_68 : decode cX6_take 68 = .ok (.iload 4, 2) := by decide +kernel
theorem dX6_take_70 : decode cX6_take 70 = .ok (.ishl, 1) := by decide +kernel
theorem dX6_take_71 : decode cX6_take 71 = .ok (.ior, 1) := by decide +kernel
theorem dX6_take_72 : decode cX6_take 72 = .ok (.iastore, 1) := by decide +kernel
theorem dX6_take_73 : decode cX6_take 73 = .ok (.iinc 4 1, 3) := by decide +kernel
theorem dX6_take_76 : decode cX6_take 76 = .ok (.goto (-51), 3) := by decide +kernel
theorem dX6_take_79 : decode cX6_take 79 = .ok (.aload_n 0, 1) := by decide +kernel
theorem dX6_take_80 : decode cX6_take 80 = .ok (.dup, 1) := by decide +kernel
theorem dX6_take_81 : decode cX6_take 81 = .ok (.getfield 18, 3) := by decide +kernel
theorem dX6_take_84 : decode cX6_take 84 = .ok (.iconst 1, 1) := by decide +kernel
theorem dX6_take_85 : decode cX6_take 85 = .ok (.iadd, 1) := by decide +kernel
theorem dX6_take_86 : decode cX6_take 86 = .ok (.putfield 18, 3) := by decide +kernel
theorem dX6_take_89 : decode cX6_take 89 = .ok (.iload_n 3, 1) := by decide +kernel
theorem dX6_take_90 : decode cX6_take 90 = .ok (.ireturn, 1) := by decide +kernel
theorem dX6_lookOf_0 : decode cX6_lookOf 0 = .ok (.aload_n 0, 1) := by decide +kernel
theorem dX6_lookOf_1 : decode cX6_lookOf 1 = .ok (.getfield 9, 3) := by decide +kernel
theorem dX6_lookOf_4 : decode cX6_lookOf 4 = .ok (.iload_n 1, 1) := by decide +kernel
theorem dX6_lookOf_5 : decode cX6_lookOf 5 = .ok (.bipush 8, 2) := by decide +kernel
theorem dX6_lookOf_7 : decode cX6_lookOf 7 = .ok (.imul, 1) := by decide +kernel
theorem dX6_lookOf_8 : decode cX6_lookOf 8 = .ok (.iload_n 2, 1) := by decide +kernel
theorem dX6_lookOf_9 : decode cX6_lookOf 9 = .ok (.iadd, 1) := by decide +kernel
theorem dX6_lookOf_10 : decode cX6_lookOf 10 = .ok (.iaload, 1) := by decide +kernel
theorem dX6_lookOf_11 : decode cX6_lookOf 11 = .ok (.ireturn, 1) := by decide +kernel
theorem dX6_isOpen_0 : decode cX6_isOpen 0 = .ok (.aload_n 0, 1) := by decide +kernel
theorem dX6_isOpen_1 : decode cX6_isOpen 1 = .ok (.getfield 15, 3) := by decide +kernel
theorem dX6_isOpen_4 : decode cX6_isOpen 4 = .ok (.iload_n 1, 1) := by decide +kernel
theorem dX6_isOpen_5 : decode cX6_isOpen 5 = .ok (.iaload, 1) := by decide +kernel
theorem dX6_isOpen_6 : decode cX6_isOpen 6 = .ok (.iload_n 2, 1) := by decide +kernel
theorem dX6_isOpen_7 : decode cX6_isOpen 7 = .ok (.ishr, 1) := by decide +kernel
theorem dX6_isOpen_8 : decode cX6_isOpen 8 = .ok (.iconst 1, 1) := by decide +kernel
theorem dX6_isOpen_9 : decode cX6_isOpen 9 = .ok (.iand, 1) := by decide +kernel
theorem dX6_isOpen_10 : decode cX6_isOpen 10 = .ok (.iconst 1, 1) := by decide +kernel
theorem dX6_isOpen_11 : decode cX6_isOpen 11 = .ok (.if_icmp .ne 7, 3) := by decide +kernel
theorem dX6_isOpen_14 : decode cX6_isOpen 14 = .ok (.iconst 1, 1) := by decide +kernel
theorem dX6_isOpen_15 : decode cX6_isOpen 15 = .ok (.goto 4, 3) := by decide +kernel
theorem dX6_isOpen_18 : decode cX6_isOpen 18 = .ok (.iconst 0, 1) := by decide +kernel
theorem dX6_isOpen_19 : decode cX6_isOpen 19 = .ok (.ireturn, 1) := by decide +kernel
theorem dX6_holdHands_0 : decode cX6_holdHands 0 = .ok (.aload_n 0, 1) := by decide +kernel
theorem dX6_holdHands_1 : decode cX6_holdHands 1 = .ok (.getfield 22, 3) := by decide +kernel
theorem dX6_holdHands_4 : decode cX6_holdHands 4 = .ok (.iload_n 1, 1) := by decide +kernel
theorem dX6_holdHands_5 : decode cX6_holdHands 5 = .ok (.ishr, 1) := by decide +kernel
theorem dX6_holdHands_6 : decode cX6_holdHands 6 = .ok (.iconst 1, 1) := by decide +kernel
theorem dX6_holdHands_7 : decode cX6_holdHands 7 = .ok (.iand, 1) := by decide +kernel
theorem dX6_holdHands_8 : decode cX6_holdHands 8 = .ok (.iconst 1, 1) := by decide +kernel
theorem dX6_holdHands_9 : decode cX6_holdHands 9 = .ok (.if_icmp .ne 7, 3) := by decide +kernel
theorem dX6_holdHands_12 : decode cX6_holdHands 12 = .ok (.iconst 1, 1) := by decide +kernel
theorem dX6_holdHands_13 : decode cX6_holdHands 13 = .ok (.goto 4, 3) := by decide +kernel
theorem dX6_holdHands_16 : decode cX6_holdHands 16 = .ok (.iconst 0, 1) := by decide +kernel
theorem dX6_holdHands_17 : decode cX6_holdHands 17 = .ok (.ireturn, 1) := by decide +kernel
theorem dX6_badIn_0 : decode cX6_badIn 0 = .ok (.iload_n 2, 1) := by decide +kernel
theorem dX6_badIn_1 : decode cX6_badIn 1 = .ok (.aload_n 0, 1) := by decide +kernel
theorem dX6_badIn_2 : decode cX6_badIn 2 = .ok (.getfield 15, 3) := by decide +kernel
theorem dX6_badIn_5 : decode cX6_badIn 5 = .ok (.iload_n 1, 1) := by decide +kernel
theorem dX6_badIn_6 : decode cX6_badIn 6 = .ok (.iaload, 1) := by decide +kernel
theorem dX6_badIn_7 : decode cX6_badIn 7 = .ok (.iconst (-1), 1) := by decide +kernel
theorem dX6_badIn_8 : decode cX6_badIn 8 = .ok (.ixor, 1) := by decide +kernel
theorem dX6_badIn_9 : decode cX6_badIn 9 = .ok (.iand, 1) := by decide +kernel
theorem dX6_badIn_10 : decode cX6_badIn 10 = .ok (.invokestatic 41, 3) := by decide +kernel
theorem dX6_badIn_13 : decode cX6_badIn 13 = .ok (.ireturn, 1) := by decide +kernel
theorem dX6_hiddenIn_0 : decode cX6_hiddenIn 0 = .ok (.iconst 0, 1) := by decide +kernel
theorem dX6_hiddenIn_1 : decode cX6_hiddenIn 1 = .ok (.istore_n 3, 1) := by decide +kernel
theorem dX6_hiddenIn_2 : decode cX6_hiddenIn 2 = .ok (.iconst 0, 1) := by decide +kernel
theorem dX6_hiddenIn_3 : decode cX6_hiddenIn 3 = .ok (.istore 4, 2) := by decide +kernel
theorem dX6_hiddenIn_5 : decode cX6_hiddenIn 5 = .ok (.iload 4, 2) := by decide +kernel
theorem dX6_hiddenIn_7 : decode cX6_hiddenIn 7 = .ok (.iload_n 2, 1) := by decide +kernel
theorem dX6_hiddenIn_8 : decode cX6_hiddenIn 8 = .ok (.if_icmp .ge 24, 3) := by decide +kernel
theorem dX6_hiddenIn_11 : decode cX6_hiddenIn 11 = .ok (.aload_n 0, 1) := by decide +kernel
theorem dX6_hiddenIn_12 : decode cX6_hiddenIn 12 = .ok (.iload_n 1, 1) := by decide +kernel
theorem dX6_hiddenIn_13 : decode cX6_hiddenIn 13 = .ok (.iload 4, 2) := by decide +kernel
theorem dX6_hiddenIn_15 : decode cX6_hiddenIn 15 = .ok (.invokevirtual 46, 3) := by decide +kernel
theorem dX6_hiddenIn_18 : decode cX6_hiddenIn 18 = .ok (.bipush 104, 2) := by decide +kernel
theorem dX6_hiddenIn_20 : decode cX6_hiddenIn 20 = .ok (.if_icmp .ne 6, 3) := by decide +kernel
theorem dX6_hiddenIn_23 : decode cX6_hiddenIn 23 = .ok (.iinc 3 1, 3) := by decide +kernel
theorem dX6_hiddenIn_26 : decode cX6_hiddenIn 26 = .ok (.iinc 4 1, 3) := by decide +kernel
theorem dX6_hiddenIn_29 : decode cX6_hiddenIn 29 = .ok (.goto (-24), 3) := by decide +kernel
theorem dX6_hiddenIn_32 : decode cX6_hiddenIn 32 = .ok (.iload_n 3, 1) := by decide +kernel
theorem dX6_hiddenIn_33 : decode cX6_hiddenIn 33 = .ok (.ireturn, 1) := by decide +kernel
theorem dX6_bestSingle_0 : decode cX6_bestSingle 0 = .ok (.bipush (-6), 2) := by decide +kernel
theorem dX6_bestSingle_2 : decode cX6_bestSingle 2 = .ok (.istore_n 3, 1) := by decide +kernel
theorem dX6_bestSingle_3 : decode cX6_bestSingle 3 = .ok (.iconst 0, 1) := by decide +kernel
theorem dX6_bestSingle_4 : decode cX6_bestSingle 4 = .ok (.istore 4, 2) := by decide +kernel
theorem dX6_bestSingle_6 : decode cX6_bestSingle 6 = .ok (.iconst 0, 1) := by decide +kernel
theorem dX6_bestSingle_7 : decode cX6_bestSingle 7 = .ok (.istore 5, 2) := by decide +kernel
theorem dX6_bestSingle_9 : decode cX6_bestSingle 9 = .ok (.iload 5, 2) := by decide +kernel
theorem dX6_bestSingle_11 : decode cX6_bestSingle 11 = .ok (.aload_n 0, 1) := by decide +kernel
theorem dX6_bestSingle_12 : decode cX6_bestSingle 12 = .ok (.getfield 18, 3) := by decide +kernel
theorem dX6_bestSingle_15 : decode cX6_bestSingle 15 = .ok (.if_icmp .ge 72, 3) := by decide +kernel
theorem dX6_bestSingle_18 : decode cX6_bestSingle 18 = .ok (.iload_n 2, 1) := by decide +kernel
theorem dX6_bestSingle_19 : decode cX6_bestSingle 19 = .ok (.bipush (-6), 2) := by decide +kernel
theorem dX6_bestSingle_21 : decode cX6_bestSingle 21 = .ok (.if_icmp .eq 16, 3) := by decide +kernel
theorem dX6_bestSingle_24 : decode cX6_bestSingle 24 = .ok (.aload_n 0, 1) := by decide +kernel
theorem dX6_bestSingle_25 : decode cX6_bestSingle 25 = .ok (.iload 5, 2) := by decide +kernel
theorem dX6_bestSingle_27 : decode cX6_bestSingle 27 = .ok (.iload_n 2, 1) := by decide +kernel
theorem dX6_bestSingle_28 : decode cX6_bestSingle 28 = .ok (.invokevirtual 50, 3) := by decide +kernel
theorem dX6_bestSingle_31 : decode cX6_bestSingle 31 = .ok (.ifCond .ne 6, 3) := by decide +kernel
theorem dX6_bestSingle_34 : decode cX6_bestSingle 34 = .ok (.goto 47, 3) := by decide +kernel
theorem dX6_bestSingle_37 : decode cX6_bestSingle 37 = .ok (.aload_n 0, 1) := by decide +kernel
theorem dX6_bestSingle_38 : decode cX6_bestSingle 38 = .ok (.iload 5, 2) := by decide +kernel
theorem dX6_bestSingle_40 : decode cX6_bestSingle 40 = .ok (.iconst 1, 1) := by decide +kernel
theorem dX6_bestSingle_41 : decode cX6_bestSingle 41 = .ok (.iload_n 1, 1) := by decide +kernel
theorem dX6_bestSingle_42 : decode cX6_bestSingle 42 = .ok (.ishl, 1) := by decide +kernel
theorem dX6_bestSingle_43 : decode cX6_bestSingle 43 = .ok (.iconst 1, 1) := by decide +kernel
theorem dX6_bestSingle_44 : decode cX6_bestSingle 44 = .ok (.isub, 1) := by decide +kernel
theorem dX6_bestSingle_45 : decode cX6_bestSingle 45 = .ok (.invokevirtual 54, 3) := by decide +kernel
theorem dX6_bestSingle_48 : decode cX6_bestSingle 48 = .ok (.bipush 9, 2) := by decide +kernel
theorem dX6_bestSingle_50 : decode cX6_bestSingle 50 = .ok (.imul, 1) := by decide +kernel
theorem dX6_bestSingle_51 : decode cX6_bestSingle 51 = .ok (.aload_n 0, 1) := by decide +kernel
theorem dX6_bestSingle_52 : decode cX6_bestSingle 52 = .ok (.iload 5, 2) := by decide +kernel
theorem dX6_bestSingle_54 : decode cX6_bestSingle 54 = .ok (.iload_n 1, 1) := by decide +kernel
theorem dX6_bestSingle_55 : decode cX6_bestSingle 55 = .ok (.invokevirtual 57, 3) := by decide +kernel
theorem dX6_bestSingle_58 : decode cX6_bestSingle 58 = .ok (.iadd, 1) := by decide +kernel
theorem dX6_bestSingle_59 : decode cX6_bestSingle 59 = .ok (.istore 6, 2) := by decide +kernel
theorem dX6_bestSingle_61 : decode cX6_bestSingle 61 = .ok (.iload_n 3, 1) := by decide +kernel
theorem dX6_bestSingle_62 : decode cX6_bestSingle 62 = .ok (.bipush (-6), 2) := by decide +kernel
theorem dX6_bestSingle_64 : decode cX6_bestSingle 64 = .ok (.if_icmp .eq 10, 3) := by decide +kernel
theorem dX6_bestSingle_67 : decode cX6_bestSingle 67 = .ok (.iload 6, 2) := by decide +kernel
theorem dX6_bestSingle_69 : decode cX6_bestSingle 69 = .ok (.iload 4, 2) := by decide +kernel
theorem dX6_bestSingle_71 : decode cX6_bestSingle 71 = .ok (.if_icmp .ge 10, 3) := by decide +kernel
theorem dX6_bestSingle_74 : decode cX6_bestSingle 74 = .ok (.iload 5, 2) := by decide +kernel
theorem dX6_bestSingle_76 : decode cX6_bestSingle 76 = .ok (.istore_n 3, 1) := by decide +kernel
theorem dX6_bestSingle_77 : decode cX6_bestSingle 77 = .ok (.iload 6, 2) := by decide +kernel
theorem dX6_bestSingle_79 : decode cX6_bestSingle 79 = .ok (.istore 4, 2) := by decide +kernel
theorem dX6_bestSingle_81 : decode cX6_bestSingle 81 = .ok (.iinc 5 1, 3) := by decide +kernel
theorem dX6_bestSingle_84 : decode cX6_bestSingle 84 = .ok (.goto (-75), 3) := by decide +kernel
theorem dX6_bestSingle_87 : decode cX6_bestSingle 87 = .ok (.iload_n 3, 1) := by decide +kernel
theorem dX6_bestSingle_88 : decode cX6_bestSingle 88 = .ok (.ireturn, 1) := by decide +kernel
theorem dX6_leastCover_0 : decode cX6_leastCover 0 = .ok (.bipush (-6), 2) := by decide +kernel
theorem dX6_leastCover_2 : decode cX6_leastCover 2 = .ok (.istore_n 2, 1) := by decide +kernel
theorem dX6_leastCover_3 : decode cX6_leastCover 3 = .ok (.bipush 11, 2) := by decide +kernel
theorem dX6_leastCover_5 : decode cX6_leastCover 5 = .ok (.istore_n 3, 1) := by decide +kernel
theorem dX6_leastCover_6 : decode cX6_leastCover 6 = .ok (.iconst 1, 1) := by decide +kernel
theorem dX6_leastCover_7 : decode cX6_leastCover 7 = .ok (.istore 4, 2) := by decide +kernel
theorem dX6_leastCover_9 : decode cX6_leastCover 9 = .ok (.iload 4, 2) := by decide +kernel
theorem dX6_leastCover_11 : decode cX6_leastCover 11 = .ok (.iconst 1, 1) := by decide +kernel
theorem dX6_leastCover_12 : decode cX6_leastCover 12 = .ok (.aload_n 0, 1) := by decide +kernel
theorem dX6_leastCover_13 : decode cX6_leastCover 13 = .ok (.getfield 18, 3) := by decide +kernel
theorem dX6_leastCover_16 : decode cX6_leastCover 16 = .ok (.ishl, 1) := by decide +kernel
theorem dX6_leastCover_17 : decode cX6_leastCover 17 = .ok (.if_icmp .ge 38, 3) := by decide +kernel
theorem dX6_leastCover_20 : decode cX6_leastCover 20 = .ok (.iload 4, 2) := by decide +kernel
theorem dX6_leastCover_22 : decode cX6_leastCover 22 = .ok (.invokestatic 41, 3) := by decide +kernel
theorem dX6_leastCover_25 : decode cX6_leastCover 25 = .ok (.istore 5, 2) := by decide +kernel
theorem dX6_leastCover_27 : decode cX6_leastCover 27 = .ok (.iload 5, 2) := by decide +kernel
theorem dX6_leastCover_29 : decode cX6_leastCover 29 = .ok (.iload_n 3, 1) := by decide +kernel
theorem dX6_leastCover_30 : decode cX6_leastCover 30 = .ok (.if_icmp .ge 19, 3) := by decide +kernel
theorem dX6_leastCover_33 : decode cX6_leastCover 33 = .ok (.aload_n 0, 1) := by decide +kernel
theorem dX6_leastCover_34 : decode cX6_leastCover 34 = .ok (.iload 4, 2) := by decide +kernel
theorem dX6_leastCover_36 : decode cX6_leastCover 36 = .ok (.invokevirtual 60, 3) := by decide +kernel
theorem dX6_leastCover_39 : decode cX6_leastCover 39 = .ok (.iload_n 1, 1) := by decide +kernel
theorem dX6_leastCover_40 : decode cX6_leastCover 40 = .ok (.if_icmp .ne 9, 3) := by decide +kernel
theorem dX6_leastCover_43 : decode cX6_leastCover 43 = .ok (.iload 4, 2) := by decide +kernel
theorem dX6_leastCover_45 : decode cX6_leastCover 45 = .ok (.istore_n 2, 1) := by decide +kernel
theorem dX6_leastCover_46 : decode cX6_leastCover 46 = .ok (.iload 5, 2) := by decide +kernel
theorem dX6_leastCover_48 : decode cX6_leastCover 48 = .ok (.istore_n 3, 1) := by decide +kernel
theorem dX6_leastCover_49 : decode cX6_leastCover 49 = .ok (.iinc 4 1, 3) := by decide +kernel
theorem dX6_leastCover_52 : decode cX6_leastCover 52 = .ok (.goto (-43), 3) := by decide +kernel
theorem dX6_leastCover_55 : decode cX6_leastCover 55 = .ok (.iload_n 2, 1) := by decide +kernel
theorem dX6_leastCover_56 : decode cX6_leastCover 56 = .ok (.ireturn, 1) := by decide +kernel
theorem dX6_openInSome_0 : decode cX6_openInSome 0 = .ok (.iconst 0, 1) := by decide +kernel
theorem dX6_openInSome_1 : decode cX6_openInSome 1 = .ok (.istore_n 2, 1) := by decide +kernel
theorem dX6_openInSome_2 : decode cX6_openInSome 2 = .ok (.iconst 0, 1) := by decide +kernel
theorem dX6_openInSome_3 : decode cX6_openInSome 3 = .ok (.istore_n 3, 1) := by decide +kernel
theorem dX6_openInSome_4 : decode cX6_openInSome 4 = .ok (.iload_n 3, 1) := by decide +kernel
theorem dX6_openInSome_5 : decode cX6_openInSome 5 = .ok (.aload_n 0, 1) := by decide +kernel
theorem dX6_openInSome_6 : decode cX6_openInSome 6 = .ok (.getfield 18, 3) := by decide +kernel
theorem dX6_openInSome_9 : decode cX6_openInSome 9 = .ok (.if_icmp .ge 27, 3) := by decide +kernel
theorem dX6_openInSome_12 : decode cX6_openInSome 12 = .ok (.iload_n 1, 1) := by decide +kernel
theorem dX6_openInSome_13 : decode cX6_openInSome 13 = .ok (.iload_n 3, 1) := by decide +kernel
theorem dX6_openInSome_14 : decode cX6_openInSome 14 = .ok (.ishr, 1) := by decide +kernel
theorem dX6_openInSome_15 : decode cX6_openInSome 15 = .ok (.iconst 1, 1) := by decide +kernel
theorem dX6_openInSome_16 : decode cX6_openInSome 16 = .ok (.iand, 1) := by decide +kernel
theorem dX6_openInSome_17 : decode cX6_openInSome 17 = .ok (.iconst 1, 1) := by decide +kernel
theorem dX6_openInSome_18 : decode cX6_openInSome 18 = .ok (.if_icmp .ne 12, 3) := by decide +kernel
theorem dX6_openInSome_21 : decode cX6_openInSome 21 = .ok (.iload_n 2, 1) := by decide +kernel
theorem dX6_openInSome_22 : decode cX6_openInSome 22 = .ok (.aload_n 0, 1) := by decide +kernel
theorem dX6_openInSome_23 : decode cX6_openInSome 23 = .ok (.getfield 15, 3) := by decide +kernel
theorem dX6_openInSome_26 : decode cX6_openInSome 26 = .ok (.iload_n 3, 1) := by decide +kernel
theorem dX6_openInSome_27 : decode cX6_openInSome 27 = .ok (.iaload, 1) := by decide +kernel
theorem dX6_openInSome_28 : decode cX6_openInSome 28 = .ok (.ior, 1) := by decide +kernel
theorem dX6_openInSome_29 : decode cX6_openInSome 29 = .ok (.istore_n 2, 1) := by decide +kernel
theorem dX6_openInSome_30 : decode cX6_openInSome 30 = .ok (.iinc 3 1, 3) := by decide +kernel
theorem dX6_openInSome_33 : decode cX6_openInSome 33 = .ok (.goto (-29), 3) := by decide +kernel
theorem dX6_openInSome_36 : decode cX6_openInSome 36 = .ok (.iload_n 2, 1) := by decide +kernel
theorem dX6_openInSome_37 : decode cX6_openInSome 37 = .ok (.ireturn, 1) := by decide +kernel
theorem dX6_worstPerson_0 : decode cX6_worstPerson 0 = .ok (.bipush (-6), 2) := by decide +kernel
theorem dX6_worstPerson_2 : decode cX6_worstPerson 2 = .ok (.istore_n 2, 1) := by decide +kernel
theorem dX6_worstPerson_3 : decode cX6_worstPerson 3 = .ok (.iconst 0, 1) := by decide +kernel
theorem dX6_worstPerson_4 : decode cX6_worstPerson 4 = .ok (.istore_n 3, 1) := by decide +kernel
theorem dX6_worstPerson_5 : decode cX6_worstPerson 5 = .ok (.iconst 0, 1) := by decide +kernel
theorem dX6_worstPerson_6 : decode cX6_worstPerson 6 = .ok (.istore 4, 2) := by decide +kernel
theorem dX6_worstPerson_8 : decode cX6_worstPerson 8 = .ok (.iload 4, 2) := by decide +kernel
theorem dX6_worstPerson_10 : decode cX6_worstPerson 10 = .ok (.iload_n 1, 1) := by decide +kernel
theorem dX6_worstPerson_11 : decode cX6_worstPerson 11 = .ok (.if_icmp .ge 29, 3) := by decide +kernel
theorem dX6_worstPerson_14 : decode cX6_worstPerson 14 = .ok (.aload_n 0, 1) := by decide +kernel
theorem dX6_worstPerson_15 : decode cX6_worstPerson 15 = .ok (.iload 4, 2) := by decide +kernel
theorem dX6_worstPerson_17 : decode cX6_worstPerson 17 = .ok (.invokevirtual 63, 3) := by decide +kernel
theorem dX6_worstPerson_20 : decode cX6_worstPerson 20 = .ok (.istore 5, 2) := by decide +kernel
theorem dX6_worstPerson_22 : decode cX6_worstPerson 22 = .ok (.iload 5, 2) := by decide +kernel
theorem dX6_worstPerson_24 : decode cX6_worstPerson 24 = .ok (.iload_n 3, 1) := by decide +kernel
theorem dX6_worstPerson_25 : decode cX6_worstPerson 25 = .ok (.if_icmp .le 9, 3) := by decide +kernel
theorem dX6_worstPerson_28 : decode cX6_worstPerson 28 = .ok (.iload 4, 2) := by decide +kernel
theorem dX6_worstPerson_30 : decode cX6_worstPerson 30 = .ok (.istore_n 2, 1) := by decide +kernel
theorem dX6_worstPerson_31 : decode cX6_worstPerson 31 = .ok (.iload 5, 2) := by decide +kernel
theorem dX6_worstPerson_33 : decode cX6_worstPerson 33 = .ok (.istore_n 3, 1) := by decide +kernel
theorem dX6_worstPerson_34 : decode cX6_worstPerson 34 = .ok (.iinc 4 1, 3) := by decide +kernel
theorem dX6_worstPerson_37 : decode cX6_worstPerson 37 = .ok (.goto (-29), 3) := by decide +kernel
theorem dX6_worstPerson_40 : decode cX6_worstPerson 40 = .ok (.iload_n 2, 1) := by decide +kernel
theorem dX6_worstPerson_41 : decode cX6_worstPerson 41 = .ok (.ireturn, 1) := by decide +kernel
theorem dX6_timesBad_0 : decode cX6_timesBad 0 = .ok (.iconst 0, 1) := by decide +kernel
theorem dX6_timesBad_1 : decode cX6_timesBad 1 = .ok (.istore_n 2, 1) := by decide +kernel
theorem dX6_timesBad_2 : decode cX6_timesBad 2 = .ok (.iconst 0, 1) := by decide +kernel
theorem dX6_timesBad_3 : decode cX6_timesBad 3 = .ok (.istore_n 3, 1) := by decide +kernel
theorem dX6_timesBad_4 : decode cX6_timesBad 4 = .ok (.iload_n 3, 1) := by decide +kernel
theorem dX6_timesBad_5 : decode cX6_timesBad 5 = .ok (.aload_n 0, 1) := by decide +kernel
theorem dX6_timesBad_6 : decode cX6_timesBad 6 = .ok (.getfield 18, 3) := by decide +kernel
theorem dX6_timesBad_9 : decode cX6_timesBad 9 = .ok (.if_icmp .ge 21, 3) := by decide +kernel
theorem dX6_timesBad_12 : decode cX6_timesBad 12 = .ok (.aload_n 0, 1) := by decide +kernel
theorem dX6_timesBad_13 : decode cX6_timesBad 13 = .ok (.iload_n 3, 1) := by decide +kernel
theorem dX6_timesBad_14 : decode cX6_timesBad 14 = .ok (.iload_n 1, 1) := by decide +kernel
theorem dX6_timesBad_15 : decode cX6_timesBad 15 = .ok (.invokevirtual 50, 3) := by decide +kernel
theorem dX6_timesBad_18 : decode cX6_timesBad 18 = .ok (.ifCond .ne 6, 3) := by decide +kernel
theorem dX6_timesBad_21 : decode cX6_timesBad 21 = .ok (.iinc 2 1, 3) := by decide +kernel
theorem dX6_timesBad_24 : decode cX6_timesBad 24 = .ok (.iinc 3 1, 3) := by decide +kernel
theorem dX6_timesBad_27 : decode cX6_timesBad 27 = .ok (.goto (-23), 3) := by decide +kernel
theorem dX6_timesBad_30 : decode cX6_timesBad 30 = .ok (.iload_n 2, 1) := by decide +kernel
theorem dX6_timesBad_31 : decode cX6_timesBad 31 = .ok (.ireturn, 1) := by decide +kernel
theorem dX6_fewestLeft_0 : decode cX6_fewestLeft 0 = .ok (.aload_n 0, 1) := by decide +kernel
theorem dX6_fewestLeft_1 : decode cX6_fewestLeft 1 = .ok (.getfield 18, 3) := by decide +kernel
theorem dX6_fewestLeft_4 : decode cX6_fewestLeft 4 = .ok (.ifCond .ne 6, 3) := by decide +kernel
theorem dX6_fewestLeft_7 : decode cX6_fewestLeft 7 = .ok (.bipush (-6), 2) := by decide +kernel
theorem dX6_fewestLeft_9 : decode cX6_fewestLeft 9 = .ok (.ireturn, 1) := by decide +kernel
theorem dX6_fewestLeft_10 : decode cX6_fewestLeft 10 = .ok (.iconst 0, 1) := by decide +kernel
theorem dX6_fewestLeft_11 : decode cX6_fewestLeft 11 = .ok (.istore_n 2, 1) := by decide +kernel
theorem dX6_fewestLeft_12 : decode cX6_fewestLeft 12 = .ok (.iconst 0, 1) := by decide +kernel
theorem dX6_fewestLeft_13 : decode cX6_fewestLeft 13 = .ok (.istore_n 3, 1) := by decide +kernel
theorem dX6_fewestLeft_14 : decode cX6_fewestLeft 14 = .ok (.iconst 0, 1) := by decide +kernel
theorem dX6_fewestLeft_15 : decode cX6_fewestLeft 15 = .ok (.istore 4, 2) := by decide +kernel
theorem dX6_fewestLeft_17 : decode cX6_fewestLeft 17 = .ok (.iload 4, 2) := by decide +kernel
theorem dX6_fewestLeft_19 : decode cX6_fewestLeft 19 = .ok (.iload_n 1, 1) := by decide +kernel
theorem dX6_fewestLeft_20 : decode cX6_fewestLeft 20 = .ok (.if_icmp .ge 35, 3) := by decide +kernel
theorem dX6_fewestLeft_23 : decode cX6_fewestLeft 23 = .ok (.iload_n 3, 1) := by decide +kernel
theorem dX6_fewestLeft_24 : decode cX6_fewestLeft 24 = .ok (.iconst 1, 1) := by decide +kernel
theorem dX6_fewestLeft_25 : decode cX6_fewestLeft 25 = .ok (.iload 4, 2) := by decide +kernel
theorem dX6_fewestLeft_27 : decode cX6_fewestLeft 27 = .ok (.ishl, 1) := by decide +kernel
theorem dX6_fewestLeft_28 : decode cX6_fewestLeft 28 = .ok (.ior, 1) := by decide +kernel
theorem dX6_fewestLeft_29 : decode cX6_fewestLeft 29 = .ok (.istore_n 3, 1) := by decide +kernel
theorem dX6_fewestLeft_30 : decode cX6_fewestLeft 30 = .ok (.aload_n 0, 1) := by decide +kernel
theorem dX6_fewestLeft_31 : decode cX6_fewestLeft 31 = .ok (.iload 4, 2) := by decide +kernel
theorem dX6_fewestLeft_33 : decode cX6_fewestLeft 33 = .ok (.invokevirtual 66, 3) := by decide +kernel
theorem dX6_fewestLeft_36 : decode cX6_fewestLeft 36 = .ok (.ifCond .ne 13, 3) := by decide +kernel
theorem dX6_fewestLeft_39 : decode cX6_fewestLeft 39 = .ok (.iload_n 2, 1) := by decide +kernel
theorem dX6_fewestLeft_40 : decode cX6_fewestLeft 40 = .ok (.aload_n 0, 1) := by decide +kernel
theorem dX6_fewestLeft_41 : decode cX6_fewestLeft 41 = .ok (.iload_n 3, 1) := by decide +kernel
theorem dX6_fewestLeft_42 : decode cX6_fewestLeft 42 = .ok (.invokevirtual 70, 3) := by decide +kernel
theorem dX6_fewestLeft_45 : decode cX6_fewestLeft 45 = .ok (.iadd, 1) := by decide +kernel
theorem dX6_fewestLeft_46 : decode cX6_fewestLeft 46 = .ok (.istore_n 2, 1) := by decide +kernel
theorem dX6_fewestLeft_47 : decode cX6_fewestLeft 47 = .ok (.iconst 0, 1) := by decide +kernel
theorem dX6_fewestLeft_48 : decode cX6_fewestLeft 48 = .ok (.istore_n 3, 1) := by decide +kernel
theorem dX6_fewestLeft_49 : decode cX6_fewestLeft 49 = .ok (.iinc 4 1, 3) := by decide +kernel
theorem dX6_fewestLeft_52 : decode cX6_fewestLeft 52 = .ok (.goto (-35), 3) := by decide +kernel
theorem dX6_fewestLeft_55 : decode cX6_fewestLeft 55 = .ok (.iload_n 2, 1) := by decide +kernel
theorem dX6_fewestLeft_56 : decode cX6_fewestLeft 56 = .ok (.ireturn, 1) := by decide +kernel
theorem dX6_fewestBad_0 : decode cX6_fewestBad 0 = .ok (.bipush 8, 2) := by decide +kernel
theorem dX6_fewestBad_2 : decode cX6_fewestBad 2 = .ok (.istore_n 2, 1) := by decide +kernel
theorem dX6_fewestBad_3 : decode cX6_fewestBad 3 = .ok (.iconst 0, 1) := by decide +kernel
theorem dX6_fewestBad_4 : decode cX6_fewestBad 4 = .ok (.istore_n 3, 1) := by decide +kernel
theorem dX6_fewestBad_5 : decode cX6_fewestBad 5 = .ok (.iload_n 3, 1) := by decide +kernel
theorem dX6_fewestBad_6 : decode cX6_fewestBad 6 = .ok (.aload_n 0, 1) := by decide +kernel
theorem dX6_fewestBad_7 : decode cX6_fewestBad 7 = .ok (.getfield 18, 3) := by decide +kernel
theorem dX6_fewestBad_10 : decode cX6_fewestBad 10 = .ok (.if_icmp .ge 20, 3) := by decide +kernel
theorem dX6_fewestBad_13 : decode cX6_fewestBad 13 = .ok (.iload_n 2, 1) := by decide +kernel
theorem dX6_fewestBad_14 : decode cX6_fewestBad 14 = .ok (.aload_n 0, 1) := by decide +kernel
theorem dX6_fewestBad_15 : decode cX6_fewestBad 15 = .ok (.iload_n 3, 1) := by decide +kernel
theorem dX6_fewestBad_16 : decode cX6_fewestBad 16 = .ok (.iload_n 1, 1) := by decide +kernel
theorem dX6_fewestBad_17 : decode cX6_fewestBad 17 = .ok (.invokevirtual 54, 3) := by decide +kernel
theorem dX6_fewestBad_20 : decode cX6_fewestBad 20 = .ok (.invokestatic 73, 3) := by decide +kernel
theorem dX6_fewestBad_23 : decode cX6_fewestBad 23 = .ok (.istore_n 2, 1) := by decide +kernel
theorem dX6_fewestBad_24 : decode cX6_fewestBad 24 = .ok (.iinc 3 1, 3) := by decide +kernel
theorem dX6_fewestBad_27 : decode cX6_fewestBad 27 = .ok (.goto (-22), 3) := by decide +kernel
theorem dX6_fewestBad_30 : decode cX6_fewestBad 30 = .ok (.iload_n 2, 1) := by decide +kernel
theorem dX6_fewestBad_31 : decode cX6_fewestBad 31 = .ok (.ireturn, 1) := by decide +kernel
theorem dX7_init_0 : decode cX7_init 0 = .ok (.aload_n 0, 1) := by decide +kernel
theorem dX7_init_1 : decode cX7_init 1 = .ok (.invokespecial 3, 3) := by decide +kernel
theorem dX7_init_4 : decode cX7_init 4 = .ok (.aload_n 0, 1) := by decide +kernel
theorem dX7_init_5 : decode cX7_init 5 = .ok (.iconst 2, 1) := by decide +kernel
theorem dX7_init_6 : decode cX7_init 6 = .ok (.putfield 9, 3) := by decide +kernel
theorem dX7_init_9 : decode cX7_init 9 = .ok (.aload_n 0, 1) := by decide +kernel
theorem dX7_init_10 : decode cX7_init 10 = .ok (.iconst 3, 1) := by decide +kernel
theorem dX7_init_11 : decode cX7_init 11 = .ok (.putfield 15, 3) := by decide +kernel
theorem dX7_init_14 : decode cX7_init 14 = .ok (.aload_n 0, 1) := by decide +kernel
theorem dX7_init_15 : decode cX7_init 15 = .ok (.bipush 10, 2) := by decide +kernel
theorem dX7_init_17 : decode cX7_init 17 = .ok (.putfield 18, 3) := by decide +kernel
theorem dX7_init_20 : decode cX7_init 20 = .ok (.aload_n 0, 1) := by decide +kernel
theorem dX7_init_21 : decode cX7_init 21 = .ok (.bipush 8, 2) := by decide +kernel
theorem dX7_init_23 : decode cX7_init 23 = .ok (.newarray .int, 2) := by decide +kernel
theorem dX7_init_25 : decode cX7_init 25 = .ok (.putfield 21, 3) := by decide +kernel
theorem dX7_init_28 : decode cX7_init 28 = .ok (.aload_n 0, 1) := by decide +kernel
theorem dX7_init_29 : decode cX7_init 29 = .ok (.bipush 64, 2) := by decide +kernel
theorem dX7_init_31 : decode cX7_init 31 = .ok (.newarray .int, 2) := by decide +kernel
theorem dX7_init_33 : decode cX7_init 33 = .ok (.putfield 25, 3) := by decide +kernel
theorem dX7_init_36 : decode cX7_init 36 = .ok (.aload_n 0, 1) := by decide +kernel
theorem dX7_init_37 : decode cX7_init 37 = .ok (.invokevirtual 28, 3) := by decide +kernel
theorem dX7_init_40 : decode cX7_init 40 = .ok (.return_, 1) := by decide +kernel
theorem dX7_startPeople_0 : decode cX7_startPeople 0 = .ok (.iconst 0, 1) := by decide +kernel
theorem dX7_startPeople_1 : decode cX7_startPeople 1 = .ok (.istore_n 1, 1) := by decide +kernel
theorem dX7_startPeople_2 : decode cX7_startPeople 2 = .ok (.iload_n 1, 1) := by decide +kernel
theorem dX7_startPeople_3 : decode cX7_startPeople 3 = .ok (.bipush 8, 2) := by decide +kernel
theorem dX7_startPeople_5 : decode cX7_startPeople 5 = .ok (.if_icmp .ge 18, 3) := by decide +kernel
theorem dX7_startPeople_8 : decode cX7_startPeople 8 = .ok (.aload_n 0, 1) := by decide +kernel
theorem dX7_startPeople_9 : decode cX7_startPeople 9 = .ok (.getfield 21, 3) := by decide +kernel
theorem dX7_startPeople_12 : decode cX7_startPeople 12 = .ok (.iload_n 1, 1) := by decide +kernel
theorem dX7_startPeople_13 : decode cX7_startPeople 13 = .ok (.sipush 170, 3) := by decide +kernel
theorem dX7_startPeople_16 : decode cX7_startPeople 16 = .ok (.iastore, 1) := by decide +kernel
theorem dX7_startPeople_17 : decode cX7_startPeople 17 = .ok (.iinc 1 1, 3) := by decide +kernel
theorem dX7_startPeople_20 : decode cX7_startPeople 20 = .ok (.goto (-18), 3) := by decide +kernel
theorem dX7_startPeople_23 : decode cX7_startPeople 23 = .ok (.iconst 0, 1) := by decide +kernel
theorem dX7_startPeople_24 : decode cX7_startPeople 24 = .ok (.istore_n 1, 1) := by decide +kernel
theorem dX7_startPeople_25 : decode cX7_startPeople 25 = .ok (.iload_n 1, 1) := by decide +kernel
theorem dX7_startPeople_26 : decode cX7_startPeople 26 = .ok (.bipush 64, 2) := by decide +kernel
theorem dX7_startPeople_28 : decode cX7_startPeople 28 = .ok (.if_icmp .ge 16, 3) := by decide +kernel
theorem dX7_startPeople_31 : decode cX7_startPeople 31 = .ok (.aload_n 0, 1) := by decide +kernel
theorem dX7_startPeople_32 : decode cX7_startPeople 32 = .ok (.getfield 25, 3) := by decide +kernel
theorem dX7_startPeople_35 : decode cX7_startPeople 35 = .ok (.iload_n 1, 1) := by decide +kernel
theorem dX7_startPeople_36 : decode cX7_startPeople 36 = .ok (.iconst 0, 1) := by decide +kernel
theorem dX7_startPeople_37 : decode cX7_startPeople 37 = .ok (.iastore, 1) := by decide +kernel
theorem dX7_startPeople_38 : decode cX7_startPeople 38 = .ok (.iinc 1 1, 3) := by decide +kernel
theorem dX7_startPeople_41 : decode cX7_startPeople 41 = .ok (.goto (-16), 3) := by decide +kernel
theorem dX7_startPeople_44 : decode cX7_startPeople 44 = .ok (.aload_n 0, 1) := by decide +kernel
theorem dX7_startPeople_45 : decode cX7_startPeople 45 = .ok (.iconst 1, 1) := by decide +kernel
theorem dX7_startPeople_46 : decode cX7_startPeople 46 = .ok (.putfield 31, 3) := by decide +kernel
theorem dX7_startPeople_49 : decode cX7_startPeople 49 = .ok (.return_, 1) := by decide +kernel
theorem dX7_copyFrom_0 : decode cX7_copyFrom 0 = .ok (.aload_n 0, 1) := by decide +kernel
theorem dX7_copyFrom_1 : decode cX7_copyFrom 1 = .ok (.aload_n 1, 1) := by decide +kernel
theorem dX7_copyFrom_2 : decode cX7_copyFrom 2 = .ok (.getfield 9, 3) := by decide +kernel
theorem dX7_copyFrom_5 : decode cX7_copyFrom 5 = .ok (.putfield 9, 3) := by decide +kernel
theorem dX7_copyFrom_8 : decode cX7_copyFrom 8 = .ok (.aload_n 0, 1) := by decide +kernel
theorem dX7_copyFrom_9 : decode cX7_copyFrom 9 = .ok (.aload_n 1, 1) := by decide +kernel
theorem dX7_copyFrom_10 : decode cX7_copyFrom 10 = .ok (.getfield 15, 3) := by decide +kernel
theorem dX7_copyFrom_13 : decode cX7_copyFrom 13 = .ok (.putfield 15, 3) := by decide +kernel
theorem dX7_copyFrom_16 : decode cX7_copyFrom 16 = .ok (.aload_n 0, 1) := by decide +kernel
theorem dX7_copyFrom_17 : decode cX7_copyFrom 17 = .ok (.aload_n 1, 1) := by decide +kernel
theorem dX7_copyFrom_18 : decode cX7_copyFrom 18 = .ok (.getfield 18, 3) := by decide +kernel
theorem dX7_copyFrom_21 : decode cX7_copyFrom 21 = .ok (.putfield 18, 3) := by decide +kernel
theorem dX7_copyFrom_24 : decode cX7_copyFrom 24 = .ok (.aload_n 1, 1) := by decide +kernel
theorem dX7_copyFrom_25 : decode cX7_copyFrom 25 = .ok (.getfield 21, 3) := by decide +kernel
theorem dX7_copyFrom_28 : decode cX7_copyFrom 28 = .ok (.iconst 0, 1) := by decide +kernel
theorem dX7_copyFrom_29 : decode cX7_copyFrom 29 = .ok (.aload_n 0, 1) := by decide +kernel
theorem dX7_copyFrom_30 : decode cX7_copyFrom 30 = .ok (.getfield 21, 3) := by decide +kernel
theorem dX7_copyFrom_33 : decode cX7_copyFrom 33 = .ok (.iconst 0, 1) := by decide +kernel
theorem dX7_copyFrom_34 : decode cX7_copyFrom 34 = .ok (.bipush 8, 2) := by decide +kernel
theorem dX7_copyFrom_36 : decode cX7_copyFrom 36 = .ok (.invokestatic 35, 3) := by decide +kernel
theorem dX7_copyFrom_39 : decode cX7_copyFrom 39 = .ok (.aload_n 1, 1) := by decide +kernel
theorem dX7_copyFrom_40 : decode cX7_copyFrom 40 = .ok (.getfield 25, 3) := by decide +kernel
theorem dX7_copyFrom_43 : decode cX7_copyFrom 43 = .ok (.iconst 0, 1) := by decide +kernel
theorem dX7_copyFrom_44 : decode cX7_copyFrom 44 = .ok (.aload_n 0, 1) := by decide +kernel
theorem dX7_copyFrom_45 : decode cX7_copyFrom 45 = .ok (.getfield 25, 3) := by decide +kernel
theorem dX7_copyFrom_48 : decode cX7_copyFrom 48 = .ok (.iconst 0, 1) := by decide +kernel
theorem dX7_copyFrom_49 : decode cX7_copyFrom 49 = .ok (.bipush 64, 2) := by decide +kernel
theorem dX7_copyFrom_51 : decode cX7_copyFrom 51 = .ok (.invokestatic 35, 3) := by decide +kernel
theorem dX7_copyFrom_54 : decode cX7_copyFrom 54 = .ok (.aload_n 0, 1) := by decide +kernel
theorem dX7_copyFrom_55 : decode cX7_copyFrom 55 = .ok (.iconst 1, 1) := by decide +kernel
theorem dX7_copyFrom_56 : decode cX7_copyFrom 56 = .ok (.putfield 31, 3) := by decide +kernel
theorem dX7_copyFrom_59 : decode cX7_copyFrom 59 = .ok (.return_, 1) := by decide +kernel
theorem dX7_places_0 : decode cX7_places 0 = .ok (.aload_n 0, 1) := by decide +kernel
theorem dX7_places_1 : decode cX7_places 1 = .ok (.getfield 9, 3) := by decide +kernel
theorem dX7_places_4 : decode cX7_places 4 = .ok (.aload_n 0, 1) := by decide +kernel
theorem dX7_places_5 : decode cX7_places 5 = .ok (.getfield 15, 3) := by decide +kernel
theorem dX7_places_8 : decode cX7_places 8 = .ok (.imul, 1) := by decide +kernel
theorem dX7_places_9 : decode cX7_places 9 = .ok (.ireturn, 1) := by decide +kernel
theorem dX7_tallOf_0 : decode cX7_tallOf 0 = .ok (.aload_n 0, 1) := by decide +kernel
theorem dX7_tallOf_1 : decode cX7_tallOf 1 = .ok (.getfield 21, 3) := by decide +kernel
theorem dX7_tallOf_4 : decode cX7_tallOf 4 = .ok (.iload_n 1, 1) := by decide +kernel
theorem dX7_tallOf_5 : decode cX7_tallOf 5 = .ok (.iaload, 1) := by decide +kernel
theorem dX7_tallOf_6 : decode cX7_tallOf 6 = .ok (.ireturn, 1) := by decide +kernel
theorem dX7_build_0 : decode cX7_build 0 = .ok (.aload_n 0, 1) := by decide +kernel
theorem dX7_build_1 : decode cX7_build 1 = .ok (.iload_n 1, 1) := by decide +kernel
theorem dX7_build_2 : decode cX7_build 2 = .ok (.putfield 9, 3) := by decide +kernel
theorem dX7_build_5 : decode cX7_build 5 = .ok (.aload_n 0, 1) := by decide +kernel
theorem dX7_build_6 : decode cX7_build 6 = .ok (.iload_n 2, 1) := by decide +kernel
theorem dX7_build_7 : decode cX7_build 7 = .ok (.putfield 15, 3) := by decide +kernel
theorem dX7_build_10 : decode cX7_build 10 = .ok (.aload_n 0, 1) := by decide +kernel
theorem dX7_build_11 : decode cX7_build 11 = .ok (.iconst 1, 1) := by decide +kernel
theorem dX7_build_12 : decode cX7_build 12 = .ok (.putfield 31, 3) := by decide +kernel
theorem dX7_build_15 : decode cX7_build 15 = .ok (.aload_n 0, 1) := by decide +kernel
theorem dX7_build_16 : decode cX7_build 16 = .ok (.invokevirtual 41, 3) := by decide +kernel
theorem dX7_build_19 : decode cX7_build 19 = .ok (.ireturn, 1) := by decide +kernel
theorem dX7_changeRise_0 : decode cX7_changeRise 0 = .ok (.aload_n 0, 1) := by decide +kernel
theorem dX7_changeRise_1 : decode cX7_changeRise 1 = .ok (.getfield 18, 3) := by decide +kernel
theorem dX7_changeRise_4 : decode cX7_changeRise 4 = .ok (.istore_n 2, 1) := by decide +kernel
theorem dX7_changeRise_5 : decode cX7_changeRise 5 = .ok (.aload_n 0, 1) := by decide +kernel
theorem dX7_changeRise_6 : decode cX7_changeRise 6 = .ok (.iload_n 1, 1) := by decide +kernel
theorem dX7_changeRise_7 : decode cX7_changeRise 7 = .ok (.putfield 18, 3) := by decide +kernel
theorem dX7_changeRise_10 : decode cX7_changeRise 10 = .ok (.aload_n 0, 1) := by decide +kernel
theorem dX7_changeRise_11 : decode cX7_changeRise 11 = .ok (.iconst 1, 1) := by decide +kernel
theorem dX7_changeRise_12 : decode cX7_changeRise 12 = .ok (.putfield 31, 3) := by decide +kernel
theorem dX7_changeRise_15 : decode cX7_changeRise 15 = .ok (.iload_n 2, 1) := by decide +kernel
theorem dX7_changeRise_16 : decode cX7_changeRise 16 = .ok (.ireturn, 1) := by decide +kernel
theorem dX7_changeTall_0 : decode cX7_changeTall 0 = .ok (.aload_n 0, 1) := by decide +kernel
theorem dX7_changeTall_1 : decode cX7_changeTall 1 = .ok (.getfield 21, 3) := by decide +kernel
theorem dX7_changeTall_4 : decode cX7_changeTall 4 = .ok (.iload_n 1, 1) := by decide +kernel
theorem dX7_changeTall_5 : decode cX7_changeTall 5 = .ok (.iaload, 1) := by decide +kernel
theorem dX7_changeTall_6 : decode cX7_changeTall 6 = .ok (.istore_n 3, 1) := by decide +kernel
theorem dX7_changeTall_7 : decode cX7_changeTall 7 = .ok (.aload_n 0, 1) := by decide +kernel
theorem dX7_changeTall_8 : decode cX7_changeTall 8 = .ok (.getfield 21, 3) := by decide +kernel
theorem dX7_changeTall_11 : decode cX7_changeTall 11 = .ok (.iload_n 1, 1) := by decide +kernel
theorem dX7_changeTall_12 : decode cX7_changeTall 12 = .ok (.iload_n 2, 1) := by decide +kernel
theorem dX7_changeTall_13 : decode cX7_changeTall 13 = .ok (.iastore, 1) := by decide +kernel
theorem dX7_changeTall_14 : decode cX7_changeTall 14 = .ok (.aload_n 0, 1) := by decide +kernel
theorem dX7_changeTall_15 : decode cX7_changeTall 15 = .ok (.iconst 1, 1) := by decide +kernel
theorem dX7_changeTall_16 : decode cX7_changeTall 16 = .ok (.putfield 31, 3) := by decide +kernel
theorem dX7_changeTall_19 : decode cX7_changeTall 19 = .ok (.iload_n 3, 1) := by decide +kernel
theorem dX7_changeTall_20 : decode cX7_changeTall 20 = .ok (.ireturn, 1) := by decide +kernel
theorem dX7_changePair_0 : decode cX7_changePair 0 = .ok (.aload_n 0, 1) := by decide +kernel
theorem dX7_changePair_1 : decode cX7_changePair 1 = .ok (.getfield 25, 3) := by decide +kernel
theorem dX7_changePair_4 : decode cX7_changePair 4 = .ok (.iload_n 1, 1) := by decide +kernel
theorem dX7_changePair_5 : decode cX7_changePair 5 = .ok (.bipush 8, 2) := by decide +kernel
theorem dX7_changePair_7 : decode cX7_changePair 7 = .ok (.imul, 1) := by decide +kernel
theorem dX7_changePair_8 : decode cX7_changePair 8 = .ok (.iload_n 2, 1) := by decide +kernel
theorem dX7_changePair_9 : decode cX7_changePair 9 = .ok (.iadd, 1) := by decide +kernel
theorem dX7_changePair_10 : decode cX7_changePair 10 = .ok (.iaload, 1) := by decide +kernel
theorem dX7_changePair_11 : decode cX7_changePair 11 = .ok (.istore 4, 2) := by decide +kernel
theorem dX7_changePair_13 : decode cX7_changePair 13 = .ok (.aload_n 0, 1) := by decide +kernel
theorem dX7_changePair_14 : decode cX7_changePair 14 = .ok (.getfield 25, 3) := by decide +kernel
theorem dX7_changePair_17 : decode cX7_changePair 17 = .ok (.iload_n 1, 1) := by decide +kernel
theorem dX7_changePair_18 : decode cX7_changePair 18 = .ok (.bipush 8, 2) := by decide +kernel
theorem dX7_changePair_20 : decode cX7_changePair 20 = .ok (.imul, 1) := by decide +kernel
theorem dX7_changePair_21 : decode cX7_changePair 21 = .ok (.iload_n 2, 1) := by decide +kernel
theorem dX7_changePair_22 : decode cX7_changePair 22 = .ok (.iadd, 1) := by decide +kernel
theorem dX7_changePair_23 : decode cX7_changePair 23 = .ok (.iload_n 3, 1) := by decide +kernel
theorem dX7_changePair_24 : decode cX7_changePair 24 = .ok (.iastore, 1) := by decide +kernel
theorem dX7_changePair_25 : decode cX7_changePair 25 = .ok (.aload_n 0, 1) := by decide +kernel
theorem dX7_changePair_26 : decode cX7_changePair 26 = .ok (.getfield 25, 3) := by decide +kernel
theorem dX7_changePair_29 : decode cX7_changePair 29 = .ok (.iload_n 2, 1) := by decide +kernel
theorem dX7_changePair_30 : decode cX7_changePair 30 = .ok (.bipush 8, 2) := by decide +kernel
theorem dX7_changePair_32 : decode cX7_changePair 32 = .ok (.imul, 1) := by decide +kernel
theorem dX7_changePair_33 : decode cX7_changePair 33 = .ok (.iload_n 1, 1) := by decide +kernel
theorem dX7_changePair_34 : decode cX7_changePair 34 = .ok (.iadd, 1) := by decide +kernel
theorem dX7_changePair_35 : decode cX7_changePair 35 = .ok (.iload_n 3, 1) := by decide +kernel
theorem dX7_changePair_36 : decode cX7_changePair 36 = .ok (.iastore, 1) := by decide +kernel
theorem dX7_changePair_37 : decode cX7_changePair 37 = .ok (.aload_n 0, 1) := by decide +kernel
theorem dX7_changePair_38 : decode cX7_changePair 38 = .ok (.iconst 1, 1) := by decide +kernel
theorem dX7_changePair_39 : decode cX7_changePair 39 = .ok (.putfield 31, 3) := by decide +kernel
theorem dX7_changePair_42 : decode cX7_changePair 42 = .ok (.iload 4, 2) := by decide +kernel
theorem dX7_changePair_44 : decode cX7_changePair 44 = .ok (.ireturn, 1) := by decide +kernel
theorem dX7_firstWrong_0 : decode cX7_firstWrong 0 = .ok (.iconst 0, 1) := by decide +kernel
theorem dX7_firstWrong_1 : decode cX7_firstWrong 1 = .ok (.istore_n 3, 1) := by decide +kernel
theorem dX7_firstWrong_2 : decode cX7_firstWrong 2 = .ok (.iload_n 3, 1) := by decide +kernel
theorem dX7_firstWrong_3 : decode cX7_firstWrong 3 = .ok (.iload_n 2, 1) := by decide +kernel
theorem dX7_firstWrong_4 : decode cX7_firstWrong 4 = .ok (.if_icmp .ge 21, 3) := by decide +kernel
theorem dX7_firstWrong_7 : decode cX7_firstWrong 7 = .ok (.aload_n 0, 1) := by decide +kernel
theorem dX7_firstWrong_8 : decode cX7_firstWrong 8 = .ok (.iload_n 3, 1) := by decide +kernel
theorem dX7_firstWrong_9 : decode cX7_firstWrong 9 = .ok (.aload_n 1, 1) := by decide +kernel
theorem dX7_firstWrong_10 : decode cX7_firstWrong 10 = .ok (.iload_n 2, 1) := by decide +kernel
theorem dX7_firstWrong_11 : decode cX7_firstWrong 11 = .ok (.invokevirtual 45, 3) := by decide +kernel
theorem dX7_firstWrong_14 : decode cX7_firstWrong 14 = .ok (.ifCond .eq 5, 3) := by decide +kernel
theorem dX7_firstWrong_17 : decode cX7_firstWrong 17 = .ok (.iload_n 3, 1) := by decide +kernel
theorem dX7_firstWrong_18 : decode cX7_firstWrong 18 = .ok (.ireturn, 1) := by decide +kernel
theorem dX7_firstWrong_19 : decode cX7_firstWrong 19 = .ok (.iinc 3 1, 3) := by decide +kernel
theorem dX7_firstWrong_22 : decode cX7_firstWrong 22 = .ok (.goto (-20), 3) := by decide +kernel
theorem dX7_firstWrong_25 : decode cX7_firstWrong 25 = .ok (.bipush (-6), 2) := by decide +kernel
theorem dX7_firstWrong_27 : decode cX7_firstWrong 27 = .ok (.ireturn, 1) := by decide +kernel
theorem dX7_wrongFor_0 : decode cX7_wrongFor 0 = .ok (.iconst 0, 1) := by decide +kernel
theorem dX7_wrongFor_1 : decode cX7_wrongFor 1 = .ok (.istore 4, 2) := by decide +kernel
theorem dX7_wrongFor_3 : decode cX7_wrongFor 3 = .ok (.iconst 0, 1) := by decide +kernel
theorem dX7_wrongFor_4 : decode cX7_wrongFor 4 = .ok (.istore 5, 2) := by decide +kernel
theorem dX7_wrongFor_6 : decode cX7_wrongFor 6 = .ok (.iload 5, 2) := by decide +kernel
theorem dX7_wrongFor_8 : decode cX7_wrongFor 8 = .ok (.iload_n 3, 1) := by decide +kernel
theorem dX7_wrongFor_9 : decode cX7_wrongFor 9 = .ok (.if_icmp .ge 62, 3) := by decide +kernel
theorem dX7_wrongFor_12 : decode cX7_wrongFor 12 = .ok (.iload 5, 2) := by decide +kernel
theorem dX7_wrongFor_14 : decode cX7_wrongFor 14 = .ok (.aload_n 2, 1) := by decide +kernel
theorem dX7_wrongFor_15 : decode cX7_wrongFor 15 = .ok (.arraylength, 1) := by decide +kernel
theorem dX7_wrongFor_16 : decode cX7_wrongFor 16 = .ok (.if_icmp .ge 55, 3) := by decide +kernel
theorem dX7_wrongFor_19 : decode cX7_wrongFor 19 = .ok (.iload 5, 2) := by decide +kernel
theorem dX7_wrongFor_21 : decode cX7_wrongFor 21 = .ok (.iload_n 1, 1) := by decide +kernel
theorem dX7_wrongFor_22 : decode cX7_wrongFor 22 = .ok (.if_icmp .ne 6, 3) := by decide +kernel
theorem dX7_wrongFor_25 : decode cX7_wrongFor 25 = .ok (.goto 40, 3) := by decide +kernel
theorem dX7_wrongFor_28 : decode cX7_wrongFor 28 = .ok (.aload_n 0, 1) := by decide +kernel
theorem dX7_wrongFor_29 : decode cX7_wrongFor 29 = .ok (.iload_n 1, 1) := by decide +kernel
theorem dX7_wrongFor_30 : decode cX7_wrongFor 30 = .ok (.aload_n 2, 1) := by decide +kernel
theorem dX7_wrongFor_31 : decode cX7_wrongFor 31 = .ok (.iload_n 1, 1) := by decide +kernel
theorem dX7_wrongFor_32 : decode cX7_wrongFor 32 = .ok (.iaload, 1) := by decide +kernel
theorem dX7_wrongFor_33 : decode cX7_wrongFor 33 = .ok (.iload 5, 2) := by decide +kernel
theorem dX7_wrongFor_35 : decode cX7_wrongFor 35 = .ok (.aload_n 2, 1) := by decide +kernel
theorem dX7_wrongFor_36 : decode cX7_wrongFor 36 = .ok (.iload 5, 2) := by decide +kernel
theorem dX7_wrongFor_38 : decode cX7_wrongFor 38 = .ok (.iaload, 1) := by decide +kernel
theorem dX7_wrongFor_39 : decode cX7_wrongFor 39 = .ok (.invokevirtual 49, 3) := by decide +kernel
theorem dX7_wrongFor_42 : decode cX7_wrongFor 42 = .ok (.istore 6, 2) := by decide +kernel
theorem dX7_wrongFor_44 : decode cX7_wrongFor 44 = .ok (.iload 6, 2) := by decide +kernel
theorem dX7_wrongFor_46 : decode cX7_wrongFor 46 = .ok (.ifCond .eq 19, 3) := by decide +kernel
theorem dX7_wrongFor_49 : decode cX7_wrongFor 49 = .ok (.iload 4, 2) := by decide +kernel
theorem dX7_wrongFor_51 : decode cX7_wrongFor 51 = .ok (.ifCond .eq 10, 3) := by decide +kernel
theorem dX7_wrongFor_54 : decode cX7_wrongFor 54 = .ok (.iload 6, 2) := by decide +kernel
theorem dX7_wrongFor_56 : decode cX7_wrongFor 56 = .ok (.iload 4, 2) := by decide +kernel
theorem dX7_wrongFor_58 : decode cX7_wrongFor 58 = .ok (.if_icmp .ge 7, 3) := by decide +kernel
theorem dX7_wrongFor_61 : decode cX7_wrongFor 61 = .ok (.iload 6, 2) := by decide +kernel
theorem dX7_wrongFor_63 : decode cX7_wrongFor 63 = .ok (.istore 4, 2) := by decide +kernel
theorem dX7_wrongFor_65 : decode cX7_wrongFor 65 = .ok (.iinc 5 1, 3) := by decide +kernel
theorem dX7_wrongFor_68 : decode cX7_wrongFor 68 = .ok (.goto (-62), 3) := by decide +kernel
theorem dX7_wrongFor_71 : decode cX7_wrongFor 71 = .ok (.iload 4, 2) := by decide +kernel
theorem dX7_wrongFor_73 : decode cX7_wrongFor 73 = .ok (.ireturn, 1) := by decide +kernel
theorem dX7_wrongBetween_0 : decode cX7_wrongBetween 0 = .ok (.aload_n 0, 1) := by decide +kernel
theorem dX7_wrongBetween_1 : decode cX7_wrongBetween 1 = .ok (.iload_n 1, 1) := by decide +kernel
theorem dX7_wrongBetween_2 : decode cX7_wrongBetween 2 = .ok (.iload_n 2, 1) := by decide +kernel
theorem dX7_wrongBetween_3 : decode cX7_wrongBetween 3 = .ok (.iload_n 3, 1) := by decide +kernel
theorem dX7_wrongBetween_4 : decode cX7_wrongBetween 4 = .ok (.iload 4, 2) := by decide +kernel
theorem dX7_wrongBetween_6 : decode cX7_wrongBetween 6 = .ok (.invokevirtual 53, 3) := by decide +kernel
theorem dX7_wrongBetween_9 : decode cX7_wrongBetween 9 = .ok (.ifCond .eq 5, 3) := by decide +kernel
theorem dX7_wrongBetween_12 : decode cX7_wrongBetween 12 = .ok (.iconst 1, 1) := by decide +kernel
theorem dX7_wrongBetween_13 : decode cX7_wrongBetween 13 = .ok (.ireturn, 1) := by decide +kernel
theorem dX7_wrongBetween_14 : decode cX7_wrongBetween 14 = .ok (.aload_n 0, 1) := by decide +kernel
theorem dX7_wrongBetween_15 : decode cX7_wrongBetween 15 = .ok (.getfield 25, 3) := by decide +kernel
theorem dX7_wrongBetween_18 : decode cX7_wrongBetween 18 = .ok (.iload_n 1, 1) := by decide +kernel
theorem dX7_wrongBetween_19 : decode cX7_wrongBetween 19 = .ok (.bipush 8, 2) := by decide +kernel
theorem dX7_wrongBetween_21 : decode cX7_wrongBetween 21 = .ok (.imul, 1) := by decide +kernel
theorem dX7_wrongBetween_22 : decode cX7_wrongBetween 22 = .ok (.iload_n 3, 1) := by decide +kernel
theorem dX7_wrongBetween_23 : decode cX7_wrongBetween 23 = .ok (.iadd, 1) := by decide +kernel
theorem dX7_wrongBetween_24 : decode cX7_wrongBetween 24 = .ok (.iaload, 1) := by decide +kernel
theorem dX7_wrongBetween_25 : decode cX7_wrongBetween 25 = .ok (.istore 5, 2) := by decide +kernel
theorem dX7_wrongBetween_27 : decode cX7_wrongBetween 27 = .ok (.iload 5, 2) := by decide +kernel
theorem dX7_wrongBetween_29 : decode cX7_wrongBetween 29 = .ok (.ifCond .ne 5, 3) := by decide +kernel
theorem dX7_wrongBetween_32 : decode cX7_wrongBetween 32 = .ok (.iconst 0, 1) := by decide +kernel
theorem dX7_wrongBetween_33 : decode cX7_wrongBetween 33 = .ok (.ireturn, 1) := by decide +kernel
theorem dX7_wrongBetween_34 : decode cX7_wrongBetween 34 = .ok (.aload_n 0, 1) := by decide +kernel
theorem dX7_wrongBetween_35 : decode cX7_wrongBetween 35 = .ok (.iload_n 2, 1) := by decide +kernel
theorem dX7_wrongBetween_36 : decode cX7_wrongBetween 36 = .ok (.iload 4, 2) := by decide +kernel
theorem dX7_wrongBetween_38 : decode cX7_wrongBetween 38 = .ok (.invokevirtual 57, 3) := by decide +kernel
theorem dX7_wrongBetween_41 : decode cX7_wrongBetween 41 = .ok (.istore 6, 2) := by decide +kernel
theorem dX7_wrongBetween_43 : decode cX7_wrongBetween 43 = .ok (.iload 5, 2) := by decide +kernel
theorem dX7_wrongBetween_45 : decode cX7_wrongBetween 45 = .ok (.iconst 1, 1) := by decide +kernel
theorem dX7_wrongBetween_46 : decode cX7_wrongBetween 46 = .ok (.if_icmp .ne 10, 3) := by decide +kernel
theorem dX7_wrongBetween_49 : decode cX7_wrongBetween 49 = .ok (.iload 6, 2) := by decide +kernel
theorem dX7_wrongBetween_51 : decode cX7_wrongBetween 51 = .ok (.ifCond .eq 5, 3) := by decide +kernel
theorem dX7_wrongBetween_54 : decode cX7_wrongBetween 54 = .ok (.iconst 2, 1) := by decide +kernel
theorem dX7_wrongBetween_55 : decode cX7_wrongBetween 55 = .ok (.ireturn, 1) := by decide +kernel
theorem dX7_wrongBetween_56 : decode cX7_wrongBetween 56 = .ok (.iload 5, 2) := by decide +kernel
theorem dX7_wrongBetween_58 : decode cX7_wrongBetween 58 = .ok (.iconst 2, 1) := by decide +kernel
theorem dX7_wrongBetween_59 : decode cX7_wrongBetween 59 = .ok (.if_icmp .ne 10, 3) := by decide +kernel
theorem dX7_wrongBetween_62 : decode cX7_wrongBetween 62 = .ok (.iload 6, 2) := by decide +kernel
theorem dX7_wrongBetween_64 : decode cX7_wrongBetween 64 = .ok (.ifCond .ne 5, 3) := by decide +kernel
theorem dX7_wrongBetween_67 : decode cX7_wrongBetween 67 = .ok (.iconst 3, 1) := by decide +kernel
theorem dX7_wrongBetween_68 : decode cX7_wrongBetween 68 = .ok (.ireturn, 1) := by decide +kernel
theorem dX7_wrongBetween_69 : decode cX7_wrongBetween 69 = .ok (.iconst 0, 1) := by decide +kernel
theorem dX7_wrongBetween_70 : decode cX7_wrongBetween 70 = .ok (.ireturn, 1) := by decide +kernel
theorem dX7_suits_0 : decode cX7_suits 0 = .ok (.iload_n 2, 1) := by decide +kernel
theorem dX7_suits_1 : decode cX7_suits 1 = .ok (.iload 4, 2) := by decide +kernel
theorem dX7_suits_3 : decode cX7_suits 3 = .ok (.if_icmp .eq 31, 3) := by decide +kernel
theorem dX7_suits_6 : decode cX7_suits 6 = .ok (.aload_n 0, 1) := by decide +kernel
theorem dX7_suits_7 : decode cX7_suits 7 = .ok (.iload_n 1, 1) := by decide +kernel
theorem dX7_suits_8 : decode cX7_suits 8 = .ok (.iload_n 2, 1) := by decide +kernel
theorem dX7_suits_9 : decode cX7_suits 9 = .ok (.iload_n 3, 1) := by decide +kernel
theorem dX7_suits_10 : decode cX7_suits 10 = .ok (.iload 4, 2) := by decide +kernel
theorem dX7_suits_12 : decode cX7_suits 12 = .ok (.invokevirtual 49, 3) := by decide +kernel
theorem dX7_suits_15 : decode cX7_suits 15 = .ok (.ifCond .ne 19, 3) := by decide +kernel
theorem dX7_suits_18 : decode cX7_suits 18 = .ok (.aload_n 0, 1) := by decide +kernel
theorem dX7_suits_19 : decode cX7_suits 19 = .ok (.iload_n 3, 1) := by decide +kernel
theorem dX7_suits_20 : decode cX7_suits 20 = .ok (.iload 4, 2) := by decide +kernel
theorem dX7_suits_22 : decode cX7_suits 22 = .ok (.iload_n 1, 1) := by decide +kernel
theorem dX7_suits_23 : decode cX7_suits 23 = .ok (.iload_n 2, 1) := by decide +kernel
theorem dX7_suits_24 : decode cX7_suits 24 = .ok (.invokevirtual 49, 3) := by decide +kernel
theorem dX7_suits_27 : decode cX7_suits 27 = .ok (.ifCond .ne 7, 3) := by decide +kernel
theorem dX7_suits_30 : decode cX7_suits 30 = .ok (.iconst 1, 1) := by decide +kernel
theorem dX7_suits_31 : decode cX7_suits 31 = .ok (.goto 4, 3) := by decide +kernel
theorem dX7_suits_34 : decode cX7_suits 34 = .ok (.iconst 0, 1) := by decide +kernel
theorem dX7_suits_35 : decode cX7_suits 35 = .ok (.ireturn, 1) := by decide +kernel
theorem dX7_isHidden_0 : decode cX7_isHidden 0 = .ok (.aload_n 0, 1) := by decide +kernel
theorem dX7_isHidden_1 : decode cX7_isHidden 1 = .ok (.iload_n 2, 1) := by decide +kernel
theorem dX7_isHidden_2 : decode cX7_isHidden 2 = .ok (.invokevirtual 61, 3) := by decide +kernel
theorem dX7_isHidden_5 : decode cX7_isHidden 5 = .ok (.aload_n 0, 1) := by decide +kernel
theorem dX7_isHidden_6 : decode cX7_isHidden 6 = .ok (.iload 4, 2) := by decide +kernel
theorem dX7_isHidden_8 : decode cX7_isHidden 8 = .ok (.invokevirtual 61, 3) := by decide +kernel
theorem dX7_isHidden_11 : decode cX7_isHidden 11 = .ok (.if_icmp .eq 5, 3) := by decide +kernel
theorem dX7_isHidden_14 : decode cX7_isHidden 14 = .ok (.iconst 0, 1) := by decide +kernel
theorem dX7_isHidden_15 : decode cX7_isHidden 15 = .ok (.ireturn, 1) := by decide +kernel
theorem dX7_isHidden_16 : decode cX7_isHidden 16 = .ok (.aload_n 0, 1) := by decide +kernel
theorem dX7_isHidden_17 : decode cX7_isHidden 17 = .ok (.iload_n 2, 1) := by decide +kernel
theorem dX7_isHidden_18 : decode cX7_isHidden 18 = .ok (.invokevirtual 65, 3) := by decide +kernel
theorem dX7_isHidden_21 : decode cX7_isHidden 21 = .ok (.istore 5, 2) := by decide +kernel
theorem dX7_isHidden_23 : decode cX7_isHidden 23 = .ok (.aload_n 0, 1) := by decide +kernel
theorem dX7_isHidden_24 : decode cX7_isHidden 24 = .ok (.iload 4, 2) := by decide +kernel
theorem dX7_isHidden_26 : decode cX7_isHidden 26 = .ok (.invokevirtual 65, 3) := by decide +kernel
theorem dX7_isHidden_29 : decode cX7_isHidden 29 = .ok (.istore 6, 2) := by decide +kernel
theorem dX7_isHidden_31 : decode cX7_isHidden 31 = .ok (.iload 5, 2) := by decide +kernel
theorem dX7_isHidden_33 : decode cX7_isHidden 33 = .ok (.iload 6, 2) := by decide +kernel
theorem dX7_isHidden_35 : decode cX7_isHidden 35 = .ok (.if_icmp .gt 5, 3) := by decide +kernel
theorem dX7_isHidden_38 : decode cX7_isHidden 38 = .ok (.iconst 0, 1) := by decide +kernel
theorem dX7_isHidden_39 : decode cX7_isHidden 39 = .ok (.ireturn, 1) := by decide +kernel
theorem dX7_isHidden_40 : decode cX7_isHidden 40 = .ok (.aload_n 0, 1) := by decide +kernel
theorem dX7_isHidden_41 : decode cX7_isHidden 41 = .ok (.getfield 21, 3) := by decide +kernel
theorem dX7_isHidden_44 : decode cX7_isHidden 44 = .ok (.iload_n 1, 1) := by decide +kernel
theorem dX7_isHidden_45 : decode cX7_isHidden 45 = .ok (.iaload, 1) := by decide +kernel
theorem dX7_isHidden_46 : decode cX7_isHidden 46 = .ok (.aload_n 0, 1) := by decide +kernel
theorem dX7_isHidden_47 : decode cX7_isHidden 47 = .ok (.getfield 18, 3) := by decide +kernel
theorem dX7_isHidden_50 : decode cX7_isHidden 50 = .ok (.iload 5, 2) := by decide +kernel
theorem dX7_isHidden_52 : decode cX7_isHidden 52 = .ok (.imul, 1) := by decide +kernel
theorem dX7_isHidden_53 : decode cX7_isHidden 53 = .ok (.iadd, 1) := by decide +kernel
theorem dX7_isHidden_54 : decode cX7_isHidden 54 = .ok (.aload_n 0, 1) := by decide +kernel
theorem dX7_isHidden_55 : decode cX7_isHidden 55 = .ok (.getfield 21, 3) := by decide +kernel
theorem dX7_isHidden_58 : decode cX7_isHidden 58 = .ok (.iload_n 3, 1) := by decide +kernel
theorem dX7_isHidden_59 : decode cX7_isHidden 59 = .ok (.iaload, 1) := by decide +kernel
theorem dX7_isHidden_60 : decode cX7_isHidden 60 = .ok (.aload_n 0, 1) := by decide +kernel
theorem dX7_isHidden_61 : decode cX7_isHidden 61 = .ok (.getfield 18, 3) := by decide +kernel
theorem dX7_isHidden_64 : decode cX7_isHidden 64 = .ok (.iload 6, 2) := by decide +kernel
theorem dX7_isHidden_66 : decode cX7_isHidden 66 = .ok (.imul, 1) := by decide +kernel
theorem dX7_isHidden_67 : decode cX7_isHidden 67 = .ok (.iadd, 1) := by decide +kernel
theorem dX7_isHidden_68 : decode cX7_isHidden 68 = .ok (.if_icmp .gt 7, 3) := by decide +kernel
theorem dX7_isHidden_71 : decode cX7_isHidden 71 = .ok (.iconst 1, 1) := by decide +kernel
theorem dX7_isHidden_72 : decode cX7_isHidden 72 = .ok (.goto 4, 3) := by decide +kernel
theorem dX7_isHidden_75 : decode cX7_isHidden 75 = .ok (.iconst 0, 1) := by decide +kernel
theorem dX7_isHidden_76 : decode cX7_isHidden 76 = .ok (.ireturn, 1) := by decide +kernel
theorem dX7_areNeighbours_0 : decode cX7_areNeighbours 0 = .ok (.aload_n 0, 1) := by decide +kernel
theorem dX7_areNeighbours_1 : decode cX7_areNeighbours 1 = .ok (.iload_n 1, 1) := by decide +kernel
theorem dX7_areNeighbours_2 : decode cX7_areNeighbours 2 = .ok (.invokevirtual 65, 3) := by decide +kernel
theorem dX7_areNeighbours_5 : decode cX7_areNeighbours 5 = .ok (.aload_n 0, 1) := by decide +kernel
end
section
theorem dX7_areNeighbours_6 : decode cX7_areNeighbours 6 = .ok (.iload_n 2, 1) := by decide +kernel
theorem dX7_areNeighbours_7 : decode cX7_areNeighbours 7 = .ok (.invokevirtual 65, 3) := by decide +kernel
theorem dX7_areNeighbours_10 : decode cX7_areNeighbours 10 = .ok (.isub, 1) := by decide +kernel
theorem dX7_areNeighbours_11 : decode cX7_areNeighbours 11 = .ok (.invokestatic 68, 3) := by decide +kernel
theorem dX7_areNeighbours_14 : decode cX7_areNeighbours 14 = .ok (.istore_n 3, 1) := by decide +kernel
theorem dX7_areNeighbours_15 : decode cX7_areNeighbours 15 = .ok (.aload_n 0, 1) := by decide +kernel
theorem dX7_areNeighbours_16 : decode cX7_areNeighbours 16 = .ok (.iload_n 1, 1) := by decide +kernel
theorem dX7_areNeighbours_17 : decode cX7_areNeighbours 17 = .ok (.invokevirtual 61, 3) := by decide +kernel
theorem dX7_areNeighbours_20 : decode cX7_areNeighbours 20 = .ok (.aload_n 0, 1) := by decide +kernel
theorem dX7_areNeighbours_21 : decode cX7_areNeighbours 21 = .ok (.iload_n 2, 1) := by decide +kernel
theorem dX7_areNeighbours_22 : decode cX7_areNeighbours 22 = .ok (.invokevirtual 61, 3) := by decide +kernel
theorem dX7_areNeighbours_25 : decode cX7_areNeighbours 25 = .ok (.isub, 1) := by decide +kernel
theorem dX7_areNeighbours_26 : decode cX7_areNeighbours 26 = .ok (.invokestatic 68, 3) := by decide +kernel
theorem dX7_areNeighbours_29 : decode cX7_areNeighbours 29 = .ok (.istore 4, 2) := by decide +kernel
theorem dX7_areNeighbours_31 : decode cX7_areNeighbours 31 = .ok (.iload_n 3, 1) := by decide +kernel
theorem dX7_areNeighbours_32 : decode cX7_areNeighbours 32 = .ok (.iload 4, 2) := by decide +kernel
theorem dX7_areNeighbours_34 : decode cX7_areNeighbours 34 = .ok (.iadd, 1) := by decide +kernel
theorem dX7_areNeighbours_35 : decode cX7_areNeighbours 35 = .ok (.iconst 1, 1) := by decide +kernel
theorem dX7_areNeighbours_36 : decode cX7_areNeighbours 36 = .ok (.if_icmp .ne 7, 3) := by decide +kernel
theorem dX7_areNeighbours_39 : decode cX7_areNeighbours 39 = .ok (.iconst 1, 1) := by decide +kernel
theorem dX7_areNeighbours_40 : decode cX7_areNeighbours 40 = .ok (.goto 4, 3) := by decide +kernel
theorem dX7_areNeighbours_43 : decode cX7_areNeighbours 43 = .ok (.iconst 0, 1) := by decide +kernel
theorem dX7_areNeighbours_44 : decode cX7_areNeighbours 44 = .ok (.ireturn, 1) := by decide +kernel
theorem dX7_rowOf_0 : decode cX7_rowOf 0 = .ok (.aload_n 0, 1) := by decide +kernel
theorem dX7_rowOf_1 : decode cX7_rowOf 1 = .ok (.getfield 15, 3) := by decide +kernel
theorem dX7_rowOf_4 : decode cX7_rowOf 4 = .ok (.iconst 1, 1) := by decide +kernel
theorem dX7_rowOf_5 : decode cX7_rowOf 5 = .ok (.if_icmp .ge 7, 3) := by decide +kernel
theorem dX7_rowOf_8 : decode cX7_rowOf 8 = .ok (.iconst 0, 1) := by decide +kernel
theorem dX7_rowOf_9 : decode cX7_rowOf 9 = .ok (.goto 9, 3) := by decide +kernel
theorem dX7_rowOf_12 : decode cX7_rowOf 12 = .ok (.iload_n 1, 1) := by decide +kernel
theorem dX7_rowOf_13 : decode cX7_rowOf 13 = .ok (.aload_n 0, 1) := by decide +kernel
theorem dX7_rowOf_14 : decode cX7_rowOf 14 = .ok (.getfield 15, 3) := by decide +kernel
theorem dX7_rowOf_17 : decode cX7_rowOf 17 = .ok (.idiv, 1) := by decide +kernel
theorem dX7_rowOf_18 : decode cX7_rowOf 18 = .ok (.ireturn, 1) := by decide +kernel
theorem dX7_columnOf_0 : decode cX7_columnOf 0 = .ok (.aload_n 0, 1) := by decide +kernel
theorem dX7_columnOf_1 : decode cX7_columnOf 1 = .ok (.getfield 15, 3) := by decide +kernel
theorem dX7_columnOf_4 : decode cX7_columnOf 4 = .ok (.iconst 1, 1) := by decide +kernel
theorem dX7_columnOf_5 : decode cX7_columnOf 5 = .ok (.if_icmp .ge 7, 3) := by decide +kernel
theorem dX7_columnOf_8 : decode cX7_columnOf 8 = .ok (.iconst 0, 1) := by decide +kernel
theorem dX7_columnOf_9 : decode cX7_columnOf 9 = .ok (.goto 9, 3) := by decide +kernel
theorem dX7_columnOf_12 : decode cX7_columnOf 12 = .ok (.iload_n 1, 1) := by decide +kernel
theorem dX7_columnOf_13 : decode cX7_columnOf 13 = .ok (.aload_n 0, 1) := by decide +kernel
theorem dX7_columnOf_14 : decode cX7_columnOf 14 = .ok (.getfield 15, 3) := by decide +kernel
theorem dX7_columnOf_17 : decode cX7_columnOf 17 = .ok (.irem, 1) := by decide +kernel
theorem dX7_columnOf_18 : decode cX7_columnOf 18 = .ok (.ireturn, 1) := by decide +kernel
theorem dX8_init_0 : decode cX8_init 0 = .ok (.aload_n 0, 1) := by decide +kernel
theorem dX8_init_1 : decode cX8_init 1 = .ok (.invokespecial 1, 3) := by decide +kernel
theorem dX8_init_4 : decode cX8_init 4 = .ok (.aload_n 0, 1) := by decide +kernel
theorem dX8_init_5 : decode cX8_init 5 = .ok (.new 7, 3) := by decide +kernel
theorem dX8_init_8 : decode cX8_init 8 = .ok (.dup, 1) := by decide +kernel
theorem dX8_init_9 : decode cX8_init 9 = .ok (.invokespecial 9, 3) := by decide +kernel
theorem dX8_init_12 : decode cX8_init 12 = .ok (.putfield 10, 3) := by decide +kernel
theorem dX8_init_15 : decode cX8_init 15 = .ok (.aload_n 0, 1) := by decide +kernel
theorem dX8_init_16 : decode cX8_init 16 = .ok (.new 16, 3) := by decide +kernel
theorem dX8_init_19 : decode cX8_init 19 = .ok (.dup, 1) := by decide +kernel
theorem dX8_init_20 : decode cX8_init 20 = .ok (.invokespecial 18, 3) := by decide +kernel
theorem dX8_init_23 : decode cX8_init 23 = .ok (.putfield 19, 3) := by decide +kernel
theorem dX8_init_26 : decode cX8_init 26 = .ok (.aload_n 0, 1) := by decide +kernel
theorem dX8_init_27 : decode cX8_init 27 = .ok (.iconst 2, 1) := by decide +kernel
theorem dX8_init_28 : decode cX8_init 28 = .ok (.anewarray 16, 3) := by decide +kernel
theorem dX8_init_31 : decode cX8_init 31 = .ok (.putfield 23, 3) := by decide +kernel
theorem dX8_init_34 : decode cX8_init 34 = .ok (.aload_n 0, 1) := by decide +kernel
theorem dX8_init_35 : decode cX8_init 35 = .ok (.new 27, 3) := by decide +kernel
theorem dX8_init_38 : decode cX8_init 38 = .ok (.dup, 1) := by decide +kernel
theorem dX8_init_39 : decode cX8_init 39 = .ok (.invokespecial 29, 3) := by decide +kernel
theorem dX8_init_42 : decode cX8_init 42 = .ok (.putfield 30, 3) := by decide +kernel
theorem dX8_init_45 : decode cX8_init 45 = .ok (.aload_n 0, 1) := by decide +kernel
theorem dX8_init_46 : decode cX8_init 46 = .ok (.new 34, 3) := by decide +kernel
theorem dX8_init_49 : decode cX8_init 49 = .ok (.dup, 1) := by decide +kernel
theorem dX8_init_50 : decode cX8_init 50 = .ok (.invokespecial 36, 3) := by decide +kernel
theorem dX8_init_53 : decode cX8_init 53 = .ok (.putfield 37, 3) := by decide +kernel
theorem dX8_init_56 : decode cX8_init 56 = .ok (.aload_n 0, 1) := by decide +kernel
theorem dX8_init_57 : decode cX8_init 57 = .ok (.bipush 8, 2) := by decide +kernel
theorem dX8_init_59 : decode cX8_init 59 = .ok (.newarray .int, 2) := by decide +kernel
theorem dX8_init_61 : decode cX8_init 61 = .ok (.putfield 41, 3) := by decide +kernel
theorem dX8_init_64 : decode cX8_init 64 = .ok (.return_, 1) := by decide +kernel
theorem dX8_people_0 : decode cX8_people 0 = .ok (.iload_n 1, 1) := by decide +kernel
theorem dX8_people_1 : decode cX8_people 1 = .ok (.iconst 1, 1) := by decide +kernel
theorem dX8_people_2 : decode cX8_people 2 = .ok (.bipush 8, 2) := by decide +kernel
theorem dX8_people_4 : decode cX8_people 4 = .ok (.invokestatic 45, 3) := by decide +kernel
theorem dX8_people_7 : decode cX8_people 7 = .ok (.ifCond .ne 6, 3) := by decide +kernel
theorem dX8_people_10 : decode cX8_people 10 = .ok (.bipush (-2), 2) := by decide +kernel
theorem dX8_people_12 : decode cX8_people 12 = .ok (.ireturn, 1) := by decide +kernel
theorem dX8_people_13 : decode cX8_people 13 = .ok (.aload_n 0, 1) := by decide +kernel
theorem dX8_people_14 : decode cX8_people 14 = .ok (.getfield 19, 3) := by decide +kernel
theorem dX8_people_17 : decode cX8_people 17 = .ok (.iload_n 1, 1) := by decide +kernel
theorem dX8_people_18 : decode cX8_people 18 = .ok (.invokevirtual 49, 3) := by decide +kernel
theorem dX8_people_21 : decode cX8_people 21 = .ok (.ireturn, 1) := by decide +kernel
theorem dX8_bride_0 : decode cX8_bride 0 = .ok (.iload_n 1, 1) := by decide +kernel
theorem dX8_bride_1 : decode cX8_bride 1 = .ok (.iconst (-1), 1) := by decide +kernel
theorem dX8_bride_2 : decode cX8_bride 2 = .ok (.if_icmp .eq 16, 3) := by decide +kernel
theorem dX8_bride_5 : decode cX8_bride 5 = .ok (.aload_n 0, 1) := by decide +kernel
theorem dX8_bride_6 : decode cX8_bride 6 = .ok (.getfield 19, 3) := by decide +kernel
theorem dX8_bride_9 : decode cX8_bride 9 = .ok (.iload_n 1, 1) := by decide +kernel
theorem dX8_bride_10 : decode cX8_bride 10 = .ok (.invokevirtual 53, 3) := by decide +kernel
theorem dX8_bride_13 : decode cX8_bride 13 = .ok (.ifCond .ne 5, 3) := by decide +kernel
theorem dX8_bride_16 : decode cX8_bride 16 = .ok (.iconst (-1), 1) := by decide +kernel
theorem dX8_bride_17 : decode cX8_bride 17 = .ok (.ireturn, 1) := by decide +kernel
theorem dX8_bride_18 : decode cX8_bride 18 = .ok (.aload_n 0, 1) := by decide +kernel
theorem dX8_bride_19 : decode cX8_bride 19 = .ok (.getfield 19, 3) := by decide +kernel
theorem dX8_bride_22 : decode cX8_bride 22 = .ok (.getfield 57, 3) := by decide +kernel
theorem dX8_bride_25 : decode cX8_bride 25 = .ok (.istore_n 2, 1) := by decide +kernel
theorem dX8_bride_26 : decode cX8_bride 26 = .ok (.aload_n 0, 1) := by decide +kernel
theorem dX8_bride_27 : decode cX8_bride 27 = .ok (.getfield 19, 3) := by decide +kernel
theorem dX8_bride_30 : decode cX8_bride 30 = .ok (.iload_n 1, 1) := by decide +kernel
theorem dX8_bride_31 : decode cX8_bride 31 = .ok (.iconst (-1), 1) := by decide +kernel
theorem dX8_bride_32 : decode cX8_bride 32 = .ok (.if_icmp .ne 8, 3) := by decide +kernel
theorem dX8_bride_35 : decode cX8_bride 35 = .ok (.bipush (-6), 2) := by decide +kernel
theorem dX8_bride_37 : decode cX8_bride 37 = .ok (.goto 4, 3) := by decide +kernel
theorem dX8_bride_40 : decode cX8_bride 40 = .ok (.iload_n 1, 1) := by decide +kernel
theorem dX8_bride_41 : decode cX8_bride 41 = .ok (.putfield 57, 3) := by decide +kernel
theorem dX8_bride_44 : decode cX8_bride 44 = .ok (.iload_n 2, 1) := by decide +kernel
theorem dX8_bride_45 : decode cX8_bride 45 = .ok (.ireturn, 1) := by decide +kernel
theorem dX8_say_0 : decode cX8_say 0 = .ok (.iload_n 1, 1) := by decide +kernel
theorem dX8_say_1 : decode cX8_say 1 = .ok (.bipush 33, 2) := by decide +kernel
theorem dX8_say_3 : decode cX8_say 3 = .ok (.bipush 126, 2) := by decide +kernel
theorem dX8_say_5 : decode cX8_say 5 = .ok (.invokestatic 45, 3) := by decide +kernel
theorem dX8_say_8 : decode cX8_say 8 = .ok (.ifCond .ne 6, 3) := by decide +kernel
theorem dX8_say_11 : decode cX8_say 11 = .ok (.bipush (-2), 2) := by decide +kernel
theorem dX8_say_13 : decode cX8_say 13 = .ok (.ireturn, 1) := by decide +kernel
theorem dX8_say_14 : decode cX8_say 14 = .ok (.aload_n 0, 1) := by decide +kernel
theorem dX8_say_15 : decode cX8_say 15 = .ok (.getfield 10, 3) := by decide +kernel
theorem dX8_say_18 : decode cX8_say 18 = .ok (.invokevirtual 61, 3) := by decide +kernel
theorem dX8_say_21 : decode cX8_say 21 = .ok (.ifCond .eq 6, 3) := by decide +kernel
theorem dX8_say_24 : decode cX8_say 24 = .ok (.bipush (-4), 2) := by decide +kernel
theorem dX8_say_26 : decode cX8_say 26 = .ok (.ireturn, 1) := by decide +kernel
theorem dX8_say_27 : decode cX8_say 27 = .ok (.aload_n 0, 1) := by decide +kernel
theorem dX8_say_28 : decode cX8_say 28 = .ok (.getfield 10, 3) := by decide +kernel
theorem dX8_say_31 : decode cX8_say 31 = .ok (.iload_n 1, 1) := by decide +kernel
theorem dX8_say_32 : decode cX8_say 32 = .ok (.invokevirtual 65, 3) := by decide +kernel
theorem dX8_say_35 : decode cX8_say 35 = .ok (.ireturn, 1) := by decide +kernel
theorem dX8_wipe_0 : decode cX8_wipe 0 = .ok (.aload_n 0, 1) := by decide +kernel
theorem dX8_wipe_1 : decode cX8_wipe 1 = .ok (.getfield 10, 3) := by decide +kernel
theorem dX8_wipe_4 : decode cX8_wipe 4 = .ok (.invokevirtual 68, 3) := by decide +kernel
theorem dX8_wipe_7 : decode cX8_wipe 7 = .ok (.ireturn, 1) := by decide +kernel
theorem dX8_fault_0 : decode cX8_fault 0 = .ok (.iload_n 1, 1) := by decide +kernel
theorem dX8_fault_1 : decode cX8_fault 1 = .ok (.iconst 0, 1) := by decide +kernel
theorem dX8_fault_2 : decode cX8_fault 2 = .ok (.iconst 1, 1) := by decide +kernel
theorem dX8_fault_3 : decode cX8_fault 3 = .ok (.invokestatic 45, 3) := by decide +kernel
theorem dX8_fault_6 : decode cX8_fault 6 = .ok (.ifCond .ne 6, 3) := by decide +kernel
theorem dX8_fault_9 : decode cX8_fault 9 = .ok (.bipush (-2), 2) := by decide +kernel
theorem dX8_fault_11 : decode cX8_fault 11 = .ok (.ireturn, 1) := by decide +kernel
theorem dX8_fault_12 : decode cX8_fault 12 = .ok (.iload_n 1, 1) := by decide +kernel
theorem dX8_fault_13 : decode cX8_fault 13 = .ok (.ifCond .ne 20, 3) := by decide +kernel
theorem dX8_fault_16 : decode cX8_fault 16 = .ok (.aload_n 0, 1) := by decide +kernel
theorem dX8_fault_17 : decode cX8_fault 17 = .ok (.getfield 10, 3) := by decide +kernel
theorem dX8_fault_20 : decode cX8_fault 20 = .ok (.aload_n 0, 1) := by decide +kernel
theorem dX8_fault_21 : decode cX8_fault 21 = .ok (.getfield 19, 3) := by decide +kernel
theorem dX8_fault_24 : decode cX8_fault 24 = .ok (.getfield 72, 3) := by decide +kernel
theorem dX8_fault_27 : decode cX8_fault 27 = .ok (.invokevirtual 75, 3) := by decide +kernel
theorem dX8_fault_30 : decode cX8_fault 30 = .ok (.goto 7, 3) := by decide +kernel
theorem dX8_fault_33 : decode cX8_fault 33 = .ok (.aload_n 0, 1) := by decide +kernel
theorem dX8_fault_34 : decode cX8_fault 34 = .ok (.invokevirtual 78, 3) := by decide +kernel
theorem dX8_fault_37 : decode cX8_fault 37 = .ok (.ireturn, 1) := by decide +kernel
theorem dX8_shot_0 : decode cX8_shot 0 = .ok (.aload_n 0, 1) := by decide +kernel
theorem dX8_shot_1 : decode cX8_shot 1 = .ok (.getfield 10, 3) := by decide +kernel
theorem dX8_shot_4 : decode cX8_shot 4 = .ok (.aload_n 0, 1) := by decide +kernel
theorem dX8_shot_5 : decode cX8_shot 5 = .ok (.getfield 19, 3) := by decide +kernel
theorem dX8_shot_8 : decode cX8_shot 8 = .ok (.getfield 72, 3) := by decide +kernel
theorem dX8_shot_11 : decode cX8_shot 11 = .ok (.invokevirtual 75, 3) := by decide +kernel
theorem dX8_shot_14 : decode cX8_shot 14 = .ok (.bipush (-6), 2) := by decide +kernel
theorem dX8_shot_16 : decode cX8_shot 16 = .ok (.if_icmp .eq 6, 3) := by decide +kernel
theorem dX8_shot_19 : decode cX8_shot 19 = .ok (.bipush (-5), 2) := by decide +kernel
theorem dX8_shot_21 : decode cX8_shot 21 = .ok (.ireturn, 1) := by decide +kernel
theorem dX8_shot_22 : decode cX8_shot 22 = .ok (.aload_n 0, 1) := by decide +kernel
theorem dX8_shot_23 : decode cX8_shot 23 = .ok (.getfield 19, 3) := by decide +kernel
theorem dX8_shot_26 : decode cX8_shot 26 = .ok (.getfield 81, 3) := by decide +kernel
theorem dX8_shot_29 : decode cX8_shot 29 = .ok (.invokevirtual 85, 3) := by decide +kernel
theorem dX8_shot_32 : decode cX8_shot 32 = .ok (.ifCond .eq 6, 3) := by decide +kernel
theorem dX8_shot_35 : decode cX8_shot 35 = .ok (.bipush (-4), 2) := by decide +kernel
theorem dX8_shot_37 : decode cX8_shot 37 = .ok (.ireturn, 1) := by decide +kernel
theorem dX8_shot_38 : decode cX8_shot 38 = .ok (.aload_n 0, 1) := by decide +kernel
theorem dX8_shot_39 : decode cX8_shot 39 = .ok (.getfield 19, 3) := by decide +kernel
theorem dX8_shot_42 : decode cX8_shot 42 = .ok (.getfield 81, 3) := by decide +kernel
theorem dX8_shot_45 : decode cX8_shot 45 = .ok (.aload_n 0, 1) := by decide +kernel
theorem dX8_shot_46 : decode cX8_shot 46 = .ok (.getfield 10, 3) := by decide +kernel
theorem dX8_shot_49 : decode cX8_shot 49 = .ok (.aload_n 0, 1) := by decide +kernel
theorem dX8_shot_50 : decode cX8_shot 50 = .ok (.getfield 19, 3) := by decide +kernel
theorem dX8_shot_53 : decode cX8_shot 53 = .ok (.getfield 72, 3) := by decide +kernel
theorem dX8_shot_56 : decode cX8_shot 56 = .ok (.invokevirtual 88, 3) := by decide +kernel
theorem dX8_shot_59 : decode cX8_shot 59 = .ok (.istore_n 1, 1) := by decide +kernel
theorem dX8_shot_60 : decode cX8_shot 60 = .ok (.aload_n 0, 1) := by decide +kernel
theorem dX8_shot_61 : decode cX8_shot 61 = .ok (.getfield 10, 3) := by decide +kernel
theorem dX8_shot_64 : decode cX8_shot 64 = .ok (.invokevirtual 68, 3) := by decide +kernel
theorem dX8_shot_67 : decode cX8_shot 67 = .ok (.pop, 1) := by decide +kernel
theorem dX8_shot_68 : decode cX8_shot 68 = .ok (.iload_n 1, 1) := by decide +kernel
theorem dX8_shot_69 : decode cX8_shot 69 = .ok (.ireturn, 1) := by decide +kernel
theorem dX8_look_0 : decode cX8_look 0 = .ok (.aload_n 0, 1) := by decide +kernel
theorem dX8_look_1 : decode cX8_look 1 = .ok (.getfield 19, 3) := by decide +kernel
theorem dX8_look_4 : decode cX8_look 4 = .ok (.getfield 81, 3) := by decide +kernel
theorem dX8_look_7 : decode cX8_look 7 = .ok (.iload_n 1, 1) := by decide +kernel
theorem dX8_look_8 : decode cX8_look 8 = .ok (.invokevirtual 92, 3) := by decide +kernel
theorem dX8_look_11 : decode cX8_look 11 = .ok (.ifCond .eq 14, 3) := by decide +kernel
theorem dX8_look_14 : decode cX8_look 14 = .ok (.aload_n 0, 1) := by decide +kernel
theorem dX8_look_15 : decode cX8_look 15 = .ok (.getfield 19, 3) := by decide +kernel
theorem dX8_look_18 : decode cX8_look 18 = .ok (.iload_n 2, 1) := by decide +kernel
theorem dX8_look_19 : decode cX8_look 19 = .ok (.invokevirtual 53, 3) := by decide +kernel
theorem dX8_look_22 : decode cX8_look 22 = .ok (.ifCond .ne 5, 3) := by decide +kernel
theorem dX8_look_25 : decode cX8_look 25 = .ok (.iconst (-1), 1) := by decide +kernel
theorem dX8_look_26 : decode cX8_look 26 = .ok (.ireturn, 1) := by decide +kernel
theorem dX8_look_27 : decode cX8_look 27 = .ok (.aload_n 0, 1) := by decide +kernel
theorem dX8_look_28 : decode cX8_look 28 = .ok (.getfield 19, 3) := by decide +kernel
theorem dX8_look_31 : decode cX8_look 31 = .ok (.getfield 81, 3) := by decide +kernel
theorem dX8_look_34 : decode cX8_look 34 = .ok (.iload_n 1, 1) := by decide +kernel
theorem dX8_look_35 : decode cX8_look 35 = .ok (.iload_n 2, 1) := by decide +kernel
theorem dX8_look_36 : decode cX8_look 36 = .ok (.invokevirtual 93, 3) := by decide +kernel
theorem dX8_look_39 : decode cX8_look 39 = .ok (.ireturn, 1) := by decide +kernel
theorem dX8_single_0 : decode cX8_single 0 = .ok (.iload_n 1, 1) := by decide +kernel
theorem dX8_single_1 : decode cX8_single 1 = .ok (.iconst 0, 1) := by decide +kernel
theorem dX8_single_2 : decode cX8_single 2 = .ok (.iconst 1, 1) := by decide +kernel
theorem dX8_single_3 : decode cX8_single 3 = .ok (.invokestatic 45, 3) := by decide +kernel
theorem dX8_single_6 : decode cX8_single 6 = .ok (.ifCond .ne 6, 3) := by decide +kernel
theorem dX8_single_9 : decode cX8_single 9 = .ok (.bipush (-2), 2) := by decide +kernel
theorem dX8_single_11 : decode cX8_single 11 = .ok (.ireturn, 1) := by decide +kernel
theorem dX8_single_12 : decode cX8_single 12 = .ok (.aload_n 0, 1) := by decide +kernel
theorem dX8_single_13 : decode cX8_single 13 = .ok (.getfield 19, 3) := by decide +kernel
theorem dX8_single_16 : decode cX8_single 16 = .ok (.getfield 81, 3) := by decide +kernel
theorem dX8_single_19 : decode cX8_single 19 = .ok (.aload_n 0, 1) := by decide +kernel
theorem dX8_single_20 : decode cX8_single 20 = .ok (.getfield 19, 3) := by decide +kernel
theorem dX8_single_23 : decode cX8_single 23 = .ok (.getfield 72, 3) := by decide +kernel
theorem dX8_single_26 : decode cX8_single 26 = .ok (.aload_n 0, 1) := by decide +kernel
theorem dX8_single_27 : decode cX8_single 27 = .ok (.getfield 19, 3) := by decide +kernel
theorem dX8_single_30 : decode cX8_single 30 = .ok (.getfield 57, 3) := by decide +kernel
theorem dX8_single_33 : decode cX8_single 33 = .ok (.invokevirtual 97, 3) := by decide +kernel
theorem dX8_single_36 : decode cX8_single 36 = .ok (.istore_n 2, 1) := by decide +kernel
theorem dX8_single_37 : decode cX8_single 37 = .ok (.iload_n 2, 1) := by decide +kernel
theorem dX8_single_38 : decode cX8_single 38 = .ok (.bipush (-6), 2) := by decide +kernel
theorem dX8_single_40 : decode cX8_single 40 = .ok (.if_icmp .eq 7, 3) := by decide +kernel
theorem dX8_single_43 : decode cX8_single 43 = .ok (.iload_n 1, 1) := by decide +kernel
theorem dX8_single_44 : decode cX8_single 44 = .ok (.ifCond .ne 5, 3) := by decide +kernel
theorem dX8_single_47 : decode cX8_single 47 = .ok (.iload_n 2, 1) := by decide +kernel
theorem dX8_single_48 : decode cX8_single 48 = .ok (.ireturn, 1) := by decide +kernel
theorem dX8_single_49 : decode cX8_single 49 = .ok (.aload_n 0, 1) := by decide +kernel
theorem dX8_single_50 : decode cX8_single 50 = .ok (.getfield 19, 3) := by decide +kernel
theorem dX8_single_53 : decode cX8_single 53 = .ok (.getfield 81, 3) := by decide +kernel
theorem dX8_single_56 : decode cX8_single 56 = .ok (.iload_n 2, 1) := by decide +kernel
theorem dX8_single_57 : decode cX8_single 57 = .ok (.aload_n 0, 1) := by decide +kernel
theorem dX8_single_58 : decode cX8_single 58 = .ok (.getfield 19, 3) := by decide +kernel
theorem dX8_single_61 : decode cX8_single 61 = .ok (.invokevirtual 100, 3) := by decide +kernel
theorem dX8_single_64 : decode cX8_single 64 = .ok (.invokevirtual 103, 3) := by decide +kernel
theorem dX8_single_67 : decode cX8_single 67 = .ok (.ireturn, 1) := by decide +kernel
theorem dX8_cover_0 : decode cX8_cover 0 = .ok (.aload_n 0, 1) := by decide +kernel
theorem dX8_cover_1 : decode cX8_cover 1 = .ok (.getfield 19, 3) := by decide +kernel
theorem dX8_cover_4 : decode cX8_cover 4 = .ok (.getfield 81, 3) := by decide +kernel
theorem dX8_cover_7 : decode cX8_cover 7 = .ok (.aload_n 0, 1) := by decide +kernel
theorem dX8_cover_8 : decode cX8_cover 8 = .ok (.getfield 19, 3) := by decide +kernel
theorem dX8_cover_11 : decode cX8_cover 11 = .ok (.invokevirtual 100, 3) := by decide +kernel
theorem dX8_cover_14 : decode cX8_cover 14 = .ok (.invokevirtual 106, 3) := by decide +kernel
theorem dX8_cover_17 : decode cX8_cover 17 = .ok (.ireturn, 1) := by decide +kernel
theorem dX8_spoils_0 : decode cX8_spoils 0 = .ok (.iload_n 1, 1) := by decide +kernel
theorem dX8_spoils_1 : decode cX8_spoils 1 = .ok (.iconst 0, 1) := by decide +kernel
theorem dX8_spoils_2 : decode cX8_spoils 2 = .ok (.iconst 1, 1) := by decide +kernel
theorem dX8_spoils_3 : decode cX8_spoils 3 = .ok (.invokestatic 45, 3) := by decide +kernel
theorem dX8_spoils_6 : decode cX8_spoils 6 = .ok (.ifCond .ne 6, 3) := by decide +kernel
theorem dX8_spoils_9 : decode cX8_spoils 9 = .ok (.bipush (-2), 2) := by decide +kernel
theorem dX8_spoils_11 : decode cX8_spoils 11 = .ok (.ireturn, 1) := by decide +kernel
theorem dX8_spoils_12 : decode cX8_spoils 12 = .ok (.aload_n 0, 1) := by decide +kernel
theorem dX8_spoils_13 : decode cX8_spoils 13 = .ok (.getfield 19, 3) := by decide +kernel
theorem dX8_spoils_16 : decode cX8_spoils 16 = .ok (.getfield 81, 3) := by decide +kernel
theorem dX8_spoils_19 : decode cX8_spoils 19 = .ok (.aload_n 0, 1) := by decide +kernel
theorem dX8_spoils_20 : decode cX8_spoils 20 = .ok (.getfield 19, 3) := by decide +kernel
theorem dX8_spoils_23 : decode cX8_spoils 23 = .ok (.getfield 72, 3) := by decide +kernel
theorem dX8_spoils_26 : decode cX8_spoils 26 = .ok (.invokevirtual 109, 3) := by decide +kernel
theorem dX8_spoils_29 : decode cX8_spoils 29 = .ok (.istore_n 2, 1) := by decide +kernel
theorem dX8_spoils_30 : decode cX8_spoils 30 = .ok (.iload_n 1, 1) := by decide +kernel
theorem dX8_spoils_31 : decode cX8_spoils 31 = .ok (.ifCond .ne 5, 3) := by decide +kernel
theorem dX8_spoils_34 : decode cX8_spoils 34 = .ok (.iload_n 2, 1) := by decide +kernel
theorem dX8_spoils_35 : decode cX8_spoils 35 = .ok (.ireturn, 1) := by decide +kernel
theorem dX8_spoils_36 : decode cX8_spoils 36 = .ok (.iload_n 2, 1) := by decide +kernel
theorem dX8_spoils_37 : decode cX8_spoils 37 = .ok (.bipush (-6), 2) := by decide +kernel
theorem dX8_spoils_39 : decode cX8_spoils 39 = .ok (.if_icmp .ne 7, 3) := by decide +kernel
theorem dX8_spoils_42 : decode cX8_spoils 42 = .ok (.iconst 0, 1) := by decide +kernel
theorem dX8_spoils_43 : decode cX8_spoils 43 = .ok (.goto 14, 3) := by decide +kernel
theorem dX8_spoils_46 : decode cX8_spoils 46 = .ok (.aload_n 0, 1) := by decide +kernel
theorem dX8_spoils_47 : decode cX8_spoils 47 = .ok (.getfield 19, 3) := by decide +kernel
theorem dX8_spoils_50 : decode cX8_spoils 50 = .ok (.getfield 81, 3) := by decide +kernel
theorem dX8_spoils_53 : decode cX8_spoils 53 = .ok (.iload_n 2, 1) := by decide +kernel
theorem dX8_spoils_54 : decode cX8_spoils 54 = .ok (.invokevirtual 112, 3) := by decide +kernel
theorem dX8_spoils_57 : decode cX8_spoils 57 = .ok (.ireturn, 1) := by decide +kernel
theorem dX8_hands_0 : decode cX8_hands 0 = .ok (.iload_n 1, 1) := by decide +kernel
theorem dX8_hands_1 : decode cX8_hands 1 = .ok (.iconst 0, 1) := by decide +kernel
theorem dX8_hands_2 : decode cX8_hands 2 = .ok (.aload_n 0, 1) := by decide +kernel
theorem dX8_hands_3 : decode cX8_hands 3 = .ok (.getfield 19, 3) := by decide +kernel
theorem dX8_hands_6 : decode cX8_hands 6 = .ok (.invokevirtual 100, 3) := by decide +kernel
theorem dX8_hands_9 : decode cX8_hands 9 = .ok (.iconst 1, 1) := by decide +kernel
theorem dX8_hands_10 : decode cX8_hands 10 = .ok (.ishr, 1) := by decide +kernel
theorem dX8_hands_11 : decode cX8_hands 11 = .ok (.invokestatic 45, 3) := by decide +kernel
theorem dX8_hands_14 : decode cX8_hands 14 = .ok (.ifCond .ne 6, 3) := by decide +kernel
theorem dX8_hands_17 : decode cX8_hands 17 = .ok (.bipush (-2), 2) := by decide +kernel
theorem dX8_hands_19 : decode cX8_hands 19 = .ok (.ireturn, 1) := by decide +kernel
theorem dX8_hands_20 : decode cX8_hands 20 = .ok (.aload_n 0, 1) := by decide +kernel
theorem dX8_hands_21 : decode cX8_hands 21 = .ok (.getfield 19, 3) := by decide +kernel
theorem dX8_hands_24 : decode cX8_hands 24 = .ok (.getfield 81, 3) := by decide +kernel
theorem dX8_hands_27 : decode cX8_hands 27 = .ok (.getfield 115, 3) := by decide +kernel
theorem dX8_hands_30 : decode cX8_hands 30 = .ok (.istore_n 2, 1) := by decide +kernel
theorem dX8_hands_31 : decode cX8_hands 31 = .ok (.aload_n 0, 1) := by decide +kernel
theorem dX8_hands_32 : decode cX8_hands 32 = .ok (.getfield 19, 3) := by decide +kernel
theorem dX8_hands_35 : decode cX8_hands 35 = .ok (.getfield 81, 3) := by decide +kernel
theorem dX8_hands_38 : decode cX8_hands 38 = .ok (.iload_n 1, 1) := by decide +kernel
theorem dX8_hands_39 : decode cX8_hands 39 = .ok (.putfield 115, 3) := by decide +kernel
theorem dX8_hands_42 : decode cX8_hands 42 = .ok (.iload_n 2, 1) := by decide +kernel
theorem dX8_hands_43 : decode cX8_hands 43 = .ok (.ireturn, 1) := by decide +kernel
theorem dX8_heads_0 : decode cX8_heads 0 = .ok (.iload_n 1, 1) := by decide +kernel
theorem dX8_heads_1 : decode cX8_heads 1 = .ok (.iconst (-1), 1) := by decide +kernel
theorem dX8_heads_2 : decode cX8_heads 2 = .ok (.if_icmp .eq 17, 3) := by decide +kernel
theorem dX8_heads_5 : decode cX8_heads 5 = .ok (.aload_n 0, 1) := by decide +kernel
theorem dX8_heads_6 : decode cX8_heads 6 = .ok (.getfield 19, 3) := by decide +kernel
theorem dX8_heads_9 : decode cX8_heads 9 = .ok (.iload_n 1, 1) := by decide +kernel
theorem dX8_heads_10 : decode cX8_heads 10 = .ok (.invokevirtual 53, 3) := by decide +kernel
theorem dX8_heads_13 : decode cX8_heads 13 = .ok (.ifCond .ne 6, 3) := by decide +kernel
theorem dX8_heads_16 : decode cX8_heads 16 = .ok (.bipush (-6), 2) := by decide +kernel
theorem dX8_heads_18 : decode cX8_heads 18 = .ok (.ireturn, 1) := by decide +kernel
theorem dX8_heads_19 : decode cX8_heads 19 = .ok (.aload_n 0, 1) := by decide +kernel
theorem dX8_heads_20 : decode cX8_heads 20 = .ok (.getfield 30, 3) := by decide +kernel
theorem dX8_heads_23 : decode cX8_heads 23 = .ok (.aload_n 0, 1) := by decide +kernel
theorem dX8_heads_24 : decode cX8_heads 24 = .ok (.getfield 19, 3) := by decide +kernel
theorem dX8_heads_27 : decode cX8_heads 27 = .ok (.getfield 81, 3) := by decide +kernel
theorem dX8_heads_30 : decode cX8_heads 30 = .ok (.aload_n 0, 1) := by decide +kernel
theorem dX8_heads_31 : decode cX8_heads 31 = .ok (.getfield 19, 3) := by decide +kernel
theorem dX8_heads_34 : decode cX8_heads 34 = .ok (.getfield 72, 3) := by decide +kernel
theorem dX8_heads_37 : decode cX8_heads 37 = .ok (.invokevirtual 118, 3) := by decide +kernel
theorem dX8_heads_40 : decode cX8_heads 40 = .ok (.istore_n 2, 1) := by decide +kernel
theorem dX8_heads_41 : decode cX8_heads 41 = .ok (.iload_n 2, 1) := by decide +kernel
theorem dX8_heads_42 : decode cX8_heads 42 = .ok (.bipush (-6), 2) := by decide +kernel
theorem dX8_heads_44 : decode cX8_heads 44 = .ok (.if_icmp .eq 8, 3) := by decide +kernel
theorem dX8_heads_47 : decode cX8_heads 47 = .ok (.iload_n 1, 1) := by decide +kernel
theorem dX8_heads_48 : decode cX8_heads 48 = .ok (.iconst (-1), 1) := by decide +kernel
theorem dX8_heads_49 : decode cX8_heads 49 = .ok (.if_icmp .ne 5, 3) := by decide +kernel
theorem dX8_heads_52 : decode cX8_heads 52 = .ok (.iload_n 2, 1) := by decide +kernel
theorem dX8_heads_53 : decode cX8_heads 53 = .ok (.ireturn, 1) := by decide +kernel
theorem dX8_heads_54 : decode cX8_heads 54 = .ok (.aload_n 0, 1) := by decide +kernel
theorem dX8_heads_55 : decode cX8_heads 55 = .ok (.getfield 30, 3) := by decide +kernel
theorem dX8_heads_58 : decode cX8_heads 58 = .ok (.iload_n 1, 1) := by decide +kernel
theorem dX8_heads_59 : decode cX8_heads 59 = .ok (.invokevirtual 122, 3) := by decide +kernel
theorem dX8_heads_62 : decode cX8_heads 62 = .ok (.ireturn, 1) := by decide +kernel
theorem dX8_left_0 : decode cX8_left 0 = .ok (.aload_n 0, 1) := by decide +kernel
theorem dX8_left_1 : decode cX8_left 1 = .ok (.getfield 19, 3) := by decide +kernel
theorem dX8_left_4 : decode cX8_left 4 = .ok (.getfield 81, 3) := by decide +kernel
theorem dX8_left_7 : decode cX8_left 7 = .ok (.aload_n 0, 1) := by decide +kernel
theorem dX8_left_8 : decode cX8_left 8 = .ok (.getfield 19, 3) := by decide +kernel
theorem dX8_left_11 : decode cX8_left 11 = .ok (.getfield 72, 3) := by decide +kernel
theorem dX8_left_14 : decode cX8_left 14 = .ok (.invokevirtual 125, 3) := by decide +kernel
theorem dX8_left_17 : decode cX8_left 17 = .ok (.ireturn, 1) := by decide +kernel
theorem dX8_blink_0 : decode cX8_blink 0 = .ok (.aload_n 0, 1) := by decide +kernel
theorem dX8_blink_1 : decode cX8_blink 1 = .ok (.getfield 19, 3) := by decide +kernel
theorem dX8_blink_4 : decode cX8_blink 4 = .ok (.iload_n 1, 1) := by decide +kernel
theorem dX8_blink_5 : decode cX8_blink 5 = .ok (.invokevirtual 53, 3) := by decide +kernel
theorem dX8_blink_8 : decode cX8_blink 8 = .ok (.ifCond .ne 5, 3) := by decide +kernel
theorem dX8_blink_11 : decode cX8_blink 11 = .ok (.iconst (-1), 1) := by decide +kernel
theorem dX8_blink_12 : decode cX8_blink 12 = .ok (.ireturn, 1) := by decide +kernel
theorem dX8_blink_13 : decode cX8_blink 13 = .ok (.aload_n 0, 1) := by decide +kernel
theorem dX8_blink_14 : decode cX8_blink 14 = .ok (.getfield 19, 3) := by decide +kernel
theorem dX8_blink_17 : decode cX8_blink 17 = .ok (.getfield 128, 3) := by decide +kernel
theorem dX8_blink_20 : decode cX8_blink 20 = .ok (.iload_n 1, 1) := by decide +kernel
theorem dX8_blink_21 : decode cX8_blink 21 = .ok (.iload_n 2, 1) := by decide +kernel
theorem dX8_blink_22 : decode cX8_blink 22 = .ok (.iload_n 3, 1) := by decide +kernel
theorem dX8_blink_23 : decode cX8_blink 23 = .ok (.invokevirtual 132, 3) := by decide +kernel
theorem dX8_blink_26 : decode cX8_blink 26 = .ok (.ifCond .ne 6, 3) := by decide +kernel
theorem dX8_blink_29 : decode cX8_blink 29 = .ok (.bipush (-2), 2) := by decide +kernel
theorem dX8_blink_31 : decode cX8_blink 31 = .ok (.ireturn, 1) := by decide +kernel
theorem dX8_blink_32 : decode cX8_blink 32 = .ok (.aload_n 0, 1) := by decide +kernel
theorem dX8_blink_33 : decode cX8_blink 33 = .ok (.getfield 19, 3) := by decide +kernel
theorem dX8_blink_36 : decode cX8_blink 36 = .ok (.getfield 128, 3) := by decide +kernel
theorem dX8_blink_39 : decode cX8_blink 39 = .ok (.iload_n 1, 1) := by decide +kernel
theorem dX8_blink_40 : decode cX8_blink 40 = .ok (.iload_n 2, 1) := by decide +kernel
theorem dX8_blink_41 : decode cX8_blink 41 = .ok (.iload_n 3, 1) := by decide +kernel
theorem dX8_blink_42 : decode cX8_blink 42 = .ok (.invokevirtual 137, 3) := by decide +kernel
theorem dX8_blink_45 : decode cX8_blink 45 = .ok (.ireturn, 1) := by decide +kernel
theorem dX8_flash_0 : decode cX8_flash 0 = .ok (.iload_n 1, 1) := by decide +kernel
theorem dX8_flash_1 : decode cX8_flash 1 = .ok (.iconst (-1), 1) := by decide +kernel
theorem dX8_flash_2 : decode cX8_flash 2 = .ok (.sipush 999, 3) := by decide +kernel
theorem dX8_flash_5 : decode cX8_flash 5 = .ok (.invokestatic 45, 3) := by decide +kernel
theorem dX8_flash_8 : decode cX8_flash 8 = .ok (.ifCond .ne 6, 3) := by decide +kernel
theorem dX8_flash_11 : decode cX8_flash 11 = .ok (.bipush (-2), 2) := by decide +kernel
theorem dX8_flash_13 : decode cX8_flash 13 = .ok (.ireturn, 1) := by decide +kernel
theorem dX8_flash_14 : decode cX8_flash 14 = .ok (.aload_n 0, 1) := by decide +kernel
theorem dX8_flash_15 : decode cX8_flash 15 = .ok (.getfield 19, 3) := by decide +kernel
theorem dX8_flash_18 : decode cX8_flash 18 = .ok (.getfield 128, 3) := by decide +kernel
theorem dX8_flash_21 : decode cX8_flash 21 = .ok (.getfield 141, 3) := by decide +kernel
theorem dX8_flash_24 : decode cX8_flash 24 = .ok (.istore_n 2, 1) := by decide +kernel
theorem dX8_flash_25 : decode cX8_flash 25 = .ok (.aload_n 0, 1) := by decide +kernel
theorem dX8_flash_26 : decode cX8_flash 26 = .ok (.getfield 19, 3) := by decide +kernel
theorem dX8_flash_29 : decode cX8_flash 29 = .ok (.getfield 128, 3) := by decide +kernel
theorem dX8_flash_32 : decode cX8_flash 32 = .ok (.iload_n 1, 1) := by decide +kernel
theorem dX8_flash_33 : decode cX8_flash 33 = .ok (.putfield 141, 3) := by decide +kernel
theorem dX8_flash_36 : decode cX8_flash 36 = .ok (.iload_n 2, 1) := by decide +kernel
theorem dX8_flash_37 : decode cX8_flash 37 = .ok (.ireturn, 1) := by decide +kernel
theorem dX8_open_0 : decode cX8_open 0 = .ok (.iload_n 1, 1) := by decide +kernel
theorem dX8_open_1 : decode cX8_open 1 = .ok (.iconst 0, 1) := by decide +kernel
theorem dX8_open_2 : decode cX8_open 2 = .ok (.sipush 999, 3) := by decide +kernel
theorem dX8_open_5 : decode cX8_open 5 = .ok (.invokestatic 45, 3) := by decide +kernel
theorem dX8_open_8 : decode cX8_open 8 = .ok (.ifCond .ne 6, 3) := by decide +kernel
theorem dX8_open_11 : decode cX8_open 11 = .ok (.bipush (-2), 2) := by decide +kernel
theorem dX8_open_13 : decode cX8_open 13 = .ok (.ireturn, 1) := by decide +kernel
theorem dX8_open_14 : decode cX8_open 14 = .ok (.aload_n 0, 1) := by decide +kernel
theorem dX8_open_15 : decode cX8_open 15 = .ok (.getfield 19, 3) := by decide +kernel
theorem dX8_open_18 : decode cX8_open 18 = .ok (.getfield 128, 3) := by decide +kernel
theorem dX8_open_21 : decode cX8_open 21 = .ok (.iload_n 1, 1) := by decide +kernel
theorem dX8_open_22 : decode cX8_open 22 = .ok (.aload_n 0, 1) := by decide +kernel
theorem dX8_open_23 : decode cX8_open 23 = .ok (.getfield 19, 3) := by decide +kernel
theorem dX8_open_26 : decode cX8_open 26 = .ok (.getfield 72, 3) := by decide +kernel
theorem dX8_open_29 : decode cX8_open 29 = .ok (.invokevirtual 144, 3) := by decide +kernel
theorem dX8_open_32 : decode cX8_open 32 = .ok (.ireturn, 1) := by decide +kernel
theorem dX8_fire_0 : decode cX8_fire 0 = .ok (.iload_n 1, 1) := by decide +kernel
theorem dX8_fire_1 : decode cX8_fire 1 = .ok (.iconst 0, 1) := by decide +kernel
theorem dX8_fire_2 : decode cX8_fire 2 = .ok (.sipush 999, 3) := by decide +kernel
theorem dX8_fire_5 : decode cX8_fire 5 = .ok (.invokestatic 45, 3) := by decide +kernel
theorem dX8_fire_8 : decode cX8_fire 8 = .ok (.ifCond .eq 14, 3) := by decide +kernel
theorem dX8_fire_11 : decode cX8_fire 11 = .ok (.iload_n 2, 1) := by decide +kernel
theorem dX8_fire_12 : decode cX8_fire 12 = .ok (.iload_n 1, 1) := by decide +kernel
theorem dX8_fire_13 : decode cX8_fire 13 = .ok (.sipush 999, 3) := by decide +kernel
theorem dX8_fire_16 : decode cX8_fire 16 = .ok (.invokestatic 45, 3) := by decide +kernel
theorem dX8_fire_19 : decode cX8_fire 19 = .ok (.ifCond .ne 6, 3) := by decide +kernel
theorem dX8_fire_22 : decode cX8_fire 22 = .ok (.bipush (-2), 2) := by decide +kernel
theorem dX8_fire_24 : decode cX8_fire 24 = .ok (.ireturn, 1) := by decide +kernel
theorem dX8_fire_25 : decode cX8_fire 25 = .ok (.iload_n 3, 1) := by decide +kernel
theorem dX8_fire_26 : decode cX8_fire 26 = .ok (.iconst 0, 1) := by decide +kernel
theorem dX8_fire_27 : decode cX8_fire 27 = .ok (.iconst 2, 1) := by decide +kernel
theorem dX8_fire_28 : decode cX8_fire 28 = .ok (.invokestatic 45, 3) := by decide +kernel
theorem dX8_fire_31 : decode cX8_fire 31 = .ok (.ifCond .ne 6, 3) := by decide +kernel
theorem dX8_fire_34 : decode cX8_fire 34 = .ok (.bipush (-2), 2) := by decide +kernel
theorem dX8_fire_36 : decode cX8_fire 36 = .ok (.ireturn, 1) := by decide +kernel
theorem dX8_fire_37 : decode cX8_fire 37 = .ok (.iload_n 3, 1) := by decide +kernel
theorem dX8_fire_38 : decode cX8_fire 38 = .ok (.iconst 2, 1) := by decide +kernel
theorem dX8_fire_39 : decode cX8_fire 39 = .ok (.if_icmp .ne 23, 3) := by decide +kernel
theorem dX8_fire_42 : decode cX8_fire 42 = .ok (.aload_n 0, 1) := by decide +kernel
theorem dX8_fire_43 : decode cX8_fire 43 = .ok (.getfield 19, 3) := by decide +kernel
theorem dX8_fire_46 : decode cX8_fire 46 = .ok (.getfield 128, 3) := by decide +kernel
theorem dX8_fire_49 : decode cX8_fire 49 = .ok (.iload_n 1, 1) := by decide +kernel
theorem dX8_fire_50 : decode cX8_fire 50 = .ok (.iload_n 2, 1) := by decide +kernel
theorem dX8_fire_51 : decode cX8_fire 51 = .ok (.aload_n 0, 1) := by decide +kernel
theorem dX8_fire_52 : decode cX8_fire 52 = .ok (.getfield 19, 3) := by decide +kernel
theorem dX8_fire_55 : decode cX8_fire 55 = .ok (.getfield 72, 3) := by decide +kernel
theorem dX8_fire_58 : decode cX8_fire 58 = .ok (.invokevirtual 147, 3) := by decide +kernel
theorem dX8_fire_61 : decode cX8_fire 61 = .ok (.ireturn, 1) := by decide +kernel
theorem dX8_fire_62 : decode cX8_fire 62 = .ok (.aload_n 0, 1) := by decide +kernel
theorem dX8_fire_63 : decode cX8_fire 63 = .ok (.getfield 19, 3) := by decide +kernel
theorem dX8_fire_66 : decode cX8_fire 66 = .ok (.getfield 128, 3) := by decide +kernel
theorem dX8_fire_69 : decode cX8_fire 69 = .ok (.iload_n 1, 1) := by decide +kernel
theorem dX8_fire_70 : decode cX8_fire 70 = .ok (.iload_n 2, 1) := by decide +kernel
theorem dX8_fire_71 : decode cX8_fire 71 = .ok (.aload_n 0, 1) := by decide +kernel
theorem dX8_fire_72 : decode cX8_fire 72 = .ok (.getfield 19, 3) := by decide +kernel
theorem dX8_fire_75 : decode cX8_fire 75 = .ok (.getfield 72, 3) := by decide +kernel
theorem dX8_fire_78 : decode cX8_fire 78 = .ok (.invokevirtual 150, 3) := by decide +kernel
theorem dX8_fire_81 : decode cX8_fire 81 = .ok (.istore 4, 2) := by decide +kernel
theorem dX8_fire_83 : decode cX8_fire 83 = .ok (.iload_n 3, 1) := by decide +kernel
theorem dX8_fire_84 : decode cX8_fire 84 = .ok (.ifCond .ne 8, 3) := by decide +kernel
theorem dX8_fire_87 : decode cX8_fire 87 = .ok (.iload 4, 2) := by decide +kernel
theorem dX8_fire_89 : decode cX8_fire 89 = .ok (.goto 25, 3) := by decide +kernel
theorem dX8_fire_92 : decode cX8_fire 92 = .ok (.aload_n 0, 1) := by decide +kernel
theorem dX8_fire_93 : decode cX8_fire 93 = .ok (.getfield 19, 3) := by decide +kernel
theorem dX8_fire_96 : decode cX8_fire 96 = .ok (.getfield 128, 3) := by decide +kernel
theorem dX8_fire_99 : decode cX8_fire 99 = .ok (.iload 4, 2) := by decide +kernel
theorem dX8_fire_101 : decode cX8_fire 101 = .ok (.aload_n 0, 1) := by decide +kernel
theorem dX8_fire_102 : decode cX8_fire 102 = .ok (.getfield 19, 3) := by decide +kernel
theorem dX8_fire_105 : decode cX8_fire 105 = .ok (.getfield 72, 3) := by decide +kernel
theorem dX8_fire_108 : decode cX8_fire 108 = .ok (.invokevirtual 144, 3) := by decide +kernel
theorem dX8_fire_111 : decode cX8_fire 111 = .ok (.invokestatic 153, 3) := by decide +kernel
theorem dX8_fire_114 : decode cX8_fire 114 = .ok (.ireturn, 1) := by decide +kernel
theorem dX8_bad_0 : decode cX8_bad 0 = .ok (.iload_n 1, 1) := by decide +kernel
theorem dX8_bad_1 : decode cX8_bad 1 = .ok (.iconst (-1), 1) := by decide +kernel
theorem dX8_bad_2 : decode cX8_bad 2 = .ok (.if_icmp .ne 30, 3) := by decide +kernel
theorem dX8_bad_5 : decode cX8_bad 5 = .ok (.iload_n 2, 1) := by decide +kernel
theorem dX8_bad_6 : decode cX8_bad 6 = .ok (.iconst 0, 1) := by decide +kernel
theorem dX8_bad_7 : decode cX8_bad 7 = .ok (.bipush 20, 2) := by decide +kernel
theorem dX8_bad_9 : decode cX8_bad 9 = .ok (.invokestatic 45, 3) := by decide +kernel
theorem dX8_bad_12 : decode cX8_bad 12 = .ok (.ifCond .eq 17, 3) := by decide +kernel
theorem dX8_bad_15 : decode cX8_bad 15 = .ok (.aload_n 0, 1) := by decide +kernel
theorem dX8_bad_16 : decode cX8_bad 16 = .ok (.getfield 19, 3) := by decide +kernel
theorem dX8_bad_19 : decode cX8_bad 19 = .ok (.getfield 158, 3) := by decide +kernel
theorem dX8_bad_22 : decode cX8_bad 22 = .ok (.iload_n 2, 1) := by decide +kernel
theorem dX8_bad_23 : decode cX8_bad 23 = .ok (.invokevirtual 162, 3) := by decide +kernel
theorem dX8_bad_26 : decode cX8_bad 26 = .ok (.goto 5, 3) := by decide +kernel
theorem dX8_bad_29 : decode cX8_bad 29 = .ok (.bipush (-2), 2) := by decide +kernel
theorem dX8_bad_31 : decode cX8_bad 31 = .ok (.ireturn, 1) := by decide +kernel
theorem dX8_bad_32 : decode cX8_bad 32 = .ok (.aload_n 0, 1) := by decide +kernel
theorem dX8_bad_33 : decode cX8_bad 33 = .ok (.getfield 19, 3) := by decide +kernel
theorem dX8_bad_36 : decode cX8_bad 36 = .ok (.iload_n 1, 1) := by decide +kernel
theorem dX8_bad_37 : decode cX8_bad 37 = .ok (.invokevirtual 53, 3) := by decide +kernel
theorem dX8_bad_40 : decode cX8_bad 40 = .ok (.ifCond .ne 5, 3) := by decide +kernel
theorem dX8_bad_43 : decode cX8_bad 43 = .ok (.iconst (-1), 1) := by decide +kernel
theorem dX8_bad_44 : decode cX8_bad 44 = .ok (.ireturn, 1) := by decide +kernel
theorem dX8_bad_45 : decode cX8_bad 45 = .ok (.iload_n 2, 1) := by decide +kernel
theorem dX8_bad_46 : decode cX8_bad 46 = .ok (.iconst 0, 1) := by decide +kernel
theorem dX8_bad_47 : decode cX8_bad 47 = .ok (.iconst 4, 1) := by decide +kernel
theorem dX8_bad_48 : decode cX8_bad 48 = .ok (.invokestatic 45, 3) := by decide +kernel
theorem dX8_bad_51 : decode cX8_bad 51 = .ok (.ifCond .eq 18, 3) := by decide +kernel
theorem dX8_bad_54 : decode cX8_bad 54 = .ok (.aload_n 0, 1) := by decide +kernel
theorem dX8_bad_55 : decode cX8_bad 55 = .ok (.getfield 19, 3) := by decide +kernel
theorem dX8_bad_58 : decode cX8_bad 58 = .ok (.getfield 158, 3) := by decide +kernel
theorem dX8_bad_61 : decode cX8_bad 61 = .ok (.iload_n 1, 1) := by decide +kernel
theorem dX8_bad_62 : decode cX8_bad 62 = .ok (.iload_n 2, 1) := by decide +kernel
theorem dX8_bad_63 : decode cX8_bad 63 = .ok (.invokevirtual 167, 3) := by decide +kernel
theorem dX8_bad_66 : decode cX8_bad 66 = .ok (.goto 5, 3) := by decide +kernel
theorem dX8_bad_69 : decode cX8_bad 69 = .ok (.bipush (-2), 2) := by decide +kernel
theorem dX8_bad_71 : decode cX8_bad 71 = .ok (.ireturn, 1) := by decide +kernel
theorem dX8_likely_0 : decode cX8_likely 0 = .ok (.iload_n 1, 1) := by decide +kernel
theorem dX8_likely_1 : decode cX8_likely 1 = .ok (.iconst 0, 1) := by decide +kernel
theorem dX8_likely_2 : decode cX8_likely 2 = .ok (.bipush 20, 2) := by decide +kernel
theorem dX8_likely_4 : decode cX8_likely 4 = .ok (.invokestatic 45, 3) := by decide +kernel
theorem dX8_likely_7 : decode cX8_likely 7 = .ok (.ifCond .eq 12, 3) := by decide +kernel
theorem dX8_likely_10 : decode cX8_likely 10 = .ok (.iload_n 2, 1) := by decide +kernel
theorem dX8_likely_11 : decode cX8_likely 11 = .ok (.iconst 0, 1) := by decide +kernel
theorem dX8_likely_12 : decode cX8_likely 12 = .ok (.iconst 1, 1) := by decide +kernel
theorem dX8_likely_13 : decode cX8_likely 13 = .ok (.invokestatic 45, 3) := by decide +kernel
theorem dX8_likely_16 : decode cX8_likely 16 = .ok (.ifCond .ne 7, 3) := by decide +kernel
theorem dX8_likely_19 : decode cX8_likely 19 = .ok (.ldc2_w 170, 3) := by decide +kernel
theorem dX8_likely_22 : decode cX8_likely 22 = .ok (.lreturn, 1) := by decide +kernel
theorem dX8_likely_23 : decode cX8_likely 23 = .ok (.aload_n 0, 1) := by decide +kernel
theorem dX8_likely_24 : decode cX8_likely 24 = .ok (.getfield 19, 3) := by decide +kernel
theorem dX8_likely_27 : decode cX8_likely 27 = .ok (.getfield 158, 3) := by decide +kernel
theorem dX8_likely_30 : decode cX8_likely 30 = .ok (.iload_n 1, 1) := by decide +kernel
theorem dX8_likely_31 : decode cX8_likely 31 = .ok (.aload_n 0, 1) := by decide +kernel
theorem dX8_likely_32 : decode cX8_likely 32 = .ok (.getfield 19, 3) := by decide +kernel
theorem dX8_likely_35 : decode cX8_likely 35 = .ok (.getfield 72, 3) := by decide +kernel
theorem dX8_likely_38 : decode cX8_likely 38 = .ok (.invokevirtual 172, 3) := by decide +kernel
theorem dX8_likely_41 : decode cX8_likely 41 = .ok (.iconst 1, 1) := by decide +kernel
theorem dX8_likely_42 : decode cX8_likely 42 = .ok (.aload_n 0, 1) := by decide +kernel
theorem dX8_likely_43 : decode cX8_likely 43 = .ok (.getfield 19, 3) := by decide +kernel
theorem dX8_likely_46 : decode cX8_likely 46 = .ok (.getfield 72, 3) := by decide +kernel
theorem dX8_likely_49 : decode cX8_likely 49 = .ok (.invokestatic 176, 3) := by decide +kernel
theorem dX8_likely_52 : decode cX8_likely 52 = .ok (.iload_n 2, 1) := by decide +kernel
theorem dX8_likely_53 : decode cX8_likely 53 = .ok (.invokestatic 179, 3) := by decide +kernel
theorem dX8_likely_56 : decode cX8_likely 56 = .ok (.lreturn, 1) := by decide +kernel
theorem dX8_one_0 : decode cX8_one 0 = .ok (.iload_n 1, 1) := by decide +kernel
theorem dX8_one_1 : decode cX8_one 1 = .ok (.iconst 1, 1) := by decide +kernel
theorem dX8_one_2 : decode cX8_one 2 = .ok (.iconst 3, 1) := by decide +kernel
theorem dX8_one_3 : decode cX8_one 3 = .ok (.invokestatic 45, 3) := by decide +kernel
theorem dX8_one_6 : decode cX8_one 6 = .ok (.ifCond .eq 12, 3) := by decide +kernel
theorem dX8_one_9 : decode cX8_one 9 = .ok (.iload_n 2, 1) := by decide +kernel
theorem dX8_one_10 : decode cX8_one 10 = .ok (.iconst 0, 1) := by decide +kernel
theorem dX8_one_11 : decode cX8_one 11 = .ok (.iconst 1, 1) := by decide +kernel
theorem dX8_one_12 : decode cX8_one 12 = .ok (.invokestatic 45, 3) := by decide +kernel
theorem dX8_one_15 : decode cX8_one 15 = .ok (.ifCond .ne 7, 3) := by decide +kernel
theorem dX8_one_18 : decode cX8_one 18 = .ok (.ldc2_w 170, 3) := by decide +kernel
theorem dX8_one_21 : decode cX8_one 21 = .ok (.lreturn, 1) := by decide +kernel
theorem dX8_one_22 : decode cX8_one 22 = .ok (.aload_n 0, 1) := by decide +kernel
theorem dX8_one_23 : decode cX8_one 23 = .ok (.getfield 19, 3) := by decide +kernel
theorem dX8_one_26 : decode cX8_one 26 = .ok (.getfield 158, 3) := by decide +kernel
theorem dX8_one_29 : decode cX8_one 29 = .ok (.iload_n 1, 1) := by decide +kernel
theorem dX8_one_30 : decode cX8_one 30 = .ok (.aload_n 0, 1) := by decide +kernel
theorem dX8_one_31 : decode cX8_one 31 = .ok (.getfield 19, 3) := by decide +kernel
theorem dX8_one_34 : decode cX8_one 34 = .ok (.getfield 72, 3) := by decide +kernel
theorem dX8_one_37 : decode cX8_one 37 = .ok (.invokevirtual 183, 3) := by decide +kernel
theorem dX8_one_40 : decode cX8_one 40 = .ok (.iload_n 1, 1) := by decide +kernel
theorem dX8_one_41 : decode cX8_one 41 = .ok (.aload_n 0, 1) := by decide +kernel
theorem dX8_one_42 : decode cX8_one 42 = .ok (.getfield 19, 3) := by decide +kernel
theorem dX8_one_45 : decode cX8_one 45 = .ok (.getfield 72, 3) := by decide +kernel
theorem dX8_one_48 : decode cX8_one 48 = .ok (.invokestatic 176, 3) := by decide +kernel
theorem dX8_one_51 : decode cX8_one 51 = .ok (.iload_n 2, 1) := by decide +kernel
theorem dX8_one_52 : decode cX8_one 52 = .ok (.invokestatic 179, 3) := by decide +kernel
theorem dX8_one_55 : decode cX8_one 55 = .ok (.lreturn, 1) := by decide +kernel
theorem dX8_many_0 : decode cX8_many 0 = .ok (.iload_n 2, 1) := by decide +kernel
theorem dX8_many_1 : decode cX8_many 1 = .ok (.iconst 1, 1) := by decide +kernel
theorem dX8_many_2 : decode cX8_many 2 = .ok (.bipush 100, 2) := by decide +kernel
theorem dX8_many_4 : decode cX8_many 4 = .ok (.invokestatic 45, 3) := by decide +kernel
theorem dX8_many_7 : decode cX8_many 7 = .ok (.ifCond .eq 12, 3) := by decide +kernel
theorem dX8_many_10 : decode cX8_many 10 = .ok (.iload_n 1, 1) := by decide +kernel
theorem dX8_many_11 : decode cX8_many 11 = .ok (.iconst 0, 1) := by decide +kernel
theorem dX8_many_12 : decode cX8_many 12 = .ok (.iload_n 2, 1) := by decide +kernel
theorem dX8_many_13 : decode cX8_many 13 = .ok (.invokestatic 45, 3) := by decide +kernel
theorem dX8_many_16 : decode cX8_many 16 = .ok (.ifCond .ne 6, 3) := by decide +kernel
theorem dX8_many_19 : decode cX8_many 19 = .ok (.bipush (-2), 2) := by decide +kernel
theorem dX8_many_21 : decode cX8_many 21 = .ok (.ireturn, 1) := by decide +kernel
theorem dX8_many_22 : decode cX8_many 22 = .ok (.iconst 1, 1) := by decide +kernel
theorem dX8_many_23 : decode cX8_many 23 = .ok (.istore_n 3, 1) := by decide +kernel
theorem dX8_many_24 : decode cX8_many 24 = .ok (.iload_n 3, 1) := by decide +kernel
theorem dX8_many_25 : decode cX8_many 25 = .ok (.iconst 3, 1) := by decide +kernel
theorem dX8_many_26 : decode cX8_many 26 = .ok (.if_icmp .gt 50, 3) := by decide +kernel
theorem dX8_many_29 : decode cX8_many 29 = .ok (.aload_n 0, 1) := by decide +kernel
theorem dX8_many_30 : decode cX8_many 30 = .ok (.getfield 19, 3) := by decide +kernel
theorem dX8_many_33 : decode cX8_many 33 = .ok (.getfield 158, 3) := by decide +kernel
theorem dX8_many_36 : decode cX8_many 36 = .ok (.iload_n 3, 1) := by decide +kernel
theorem dX8_many_37 : decode cX8_many 37 = .ok (.aload_n 0, 1) := by decide +kernel
theorem dX8_many_38 : decode cX8_many 38 = .ok (.getfield 19, 3) := by decide +kernel
theorem dX8_many_41 : decode cX8_many 41 = .ok (.getfield 72, 3) := by decide +kernel
theorem dX8_many_44 : decode cX8_many 44 = .ok (.invokevirtual 183, 3) := by decide +kernel
theorem dX8_many_47 : decode cX8_many 47 = .ok (.iload_n 2, 1) := by decide +kernel
theorem dX8_many_48 : decode cX8_many 48 = .ok (.i2l, 1) := by decide +kernel
theorem dX8_many_49 : decode cX8_many 49 = .ok (.lmul, 1) := by decide +kernel
theorem dX8_many_50 : decode cX8_many 50 = .ok (.iload_n 3, 1) := by decide +kernel
theorem dX8_many_51 : decode cX8_many 51 = .ok (.aload_n 0, 1) := by decide +kernel
theorem dX8_many_52 : decode cX8_many 52 = .ok (.getfield 19, 3) := by decide +kernel
theorem dX8_many_55 : decode cX8_many 55 = .ok (.getfield 72, 3) := by decide +kernel
theorem dX8_many_58 : decode cX8_many 58 = .ok (.invokestatic 176, 3) := by decide +kernel
theorem dX8_many_61 : decode cX8_many 61 = .ok (.iload_n 1, 1) := by decide +kernel
theorem dX8_many_62 : decode cX8_many 62 = .ok (.i2l, 1) := by decide +kernel
theorem dX8_many_63 : decode cX8_many 63 = .ok (.lmul, 1) := by decide +kernel
theorem dX8_many_64 : decode cX8_many 64 = .ok (.lcmp, 1) := by decide +kernel
theorem dX8_many_65 : decode cX8_many 65 = .ok (.ifCond .lt 5, 3) := by decide +kernel
theorem dX8_many_68 : decode cX8_many 68 = .ok (.iload_n 3, 1) := by decide +kernel
theorem dX8_many_69 : decode cX8_many 69 = .ok (.ireturn, 1) := by decide +kernel
theorem dX8_many_70 : decode cX8_many 70 = .ok (.iinc 3 1, 3) := by decide +kernel
theorem dX8_many_73 : decode cX8_many 73 = .ok (.goto (-49), 3) := by decide +kernel
theorem dX8_many_76 : decode cX8_many 76 = .ok (.bipush (-6), 2) := by decide +kernel
theorem dX8_many_78 : decode cX8_many 78 = .ok (.ireturn, 1) := by decide +kernel
theorem dX8_shoot_0 : decode cX8_shoot 0 = .ok (.iload_n 1, 1) := by decide +kernel
theorem dX8_shoot_1 : decode cX8_shoot 1 = .ok (.iconst 0, 1) := by decide +kernel
theorem dX8_shoot_2 : decode cX8_shoot 2 = .ok (.sipush 9999, 3) := by decide +kernel
theorem dX8_shoot_5 : decode cX8_shoot 5 = .ok (.invokestatic 45, 3) := by decide +kernel
theorem dX8_shoot_8 : decode cX8_shoot 8 = .ok (.ifCond .eq 13, 3) := by decide +kernel
theorem dX8_shoot_11 : decode cX8_shoot 11 = .ok (.iload_n 2, 1) := by decide +kernel
theorem dX8_shoot_12 : decode cX8_shoot 12 = .ok (.iconst 1, 1) := by decide +kernel
theorem dX8_shoot_13 : decode cX8_shoot 13 = .ok (.bipush 30, 2) := by decide +kernel
theorem dX8_shoot_15 : decode cX8_shoot 15 = .ok (.invokestatic 45, 3) := by decide +kernel
theorem dX8_shoot_18 : decode cX8_shoot 18 = .ok (.ifCond .ne 6, 3) := by decide +kernel
theorem dX8_shoot_21 : decode cX8_shoot 21 = .ok (.bipush (-2), 2) := by decide +kernel
theorem dX8_shoot_23 : decode cX8_shoot 23 = .ok (.ireturn, 1) := by decide +kernel
theorem dX8_shoot_24 : decode cX8_shoot 24 = .ok (.iload_n 3, 1) := by decide +kernel
theorem dX8_shoot_25 : decode cX8_shoot 25 = .ok (.iconst 0, 1) := by decide +kernel
theorem dX8_shoot_26 : decode cX8_shoot 26 = .ok (.iconst 1, 1) := by decide +kernel
theorem dX8_shoot_27 : decode cX8_shoot 27 = .ok (.invokestatic 45, 3) := by decide +kernel
theorem dX8_shoot_30 : decode cX8_shoot 30 = .ok (.ifCond .ne 6, 3) := by decide +kernel
theorem dX8_shoot_33 : decode cX8_shoot 33 = .ok (.bipush (-2), 2) := by decide +kernel
theorem dX8_shoot_35 : decode cX8_shoot 35 = .ok (.ireturn, 1) := by decide +kernel
theorem dX8_shoot_36 : decode cX8_shoot 36 = .ok (.aload_n 0, 1) := by decide +kernel
theorem dX8_shoot_37 : decode cX8_shoot 37 = .ok (.getfield 19, 3) := by decide +kernel
theorem dX8_shoot_40 : decode cX8_shoot 40 = .ok (.getfield 158, 3) := by decide +kernel
theorem dX8_shoot_43 : decode cX8_shoot 43 = .ok (.iload_n 1, 1) := by decide +kernel
theorem dX8_shoot_44 : decode cX8_shoot 44 = .ok (.iload_n 2, 1) := by decide +kernel
end
section
theorem dX8_shoot_45 : decode cX8_shoot 45 = .ok (.aload_n 0, 1) := by decide +kernel
theorem dX8_shoot_46 : decode cX8_shoot 46 = .ok (.getfield 19, 3) := by decide +kernel
theorem dX8_shoot_49 : decode cX8_shoot 49 = .ok (.getfield 72, 3) := by decide +kernel
theorem dX8_shoot_52 : decode cX8_shoot 52 = .ok (.invokevirtual 186, 3) := by decide +kernel
theorem dX8_shoot_55 : decode cX8_shoot 55 = .ok (.istore 4, 2) := by decide +kernel
theorem dX8_shoot_57 : decode cX8_shoot 57 = .ok (.iload_n 3, 1) := by decide +kernel
theorem dX8_shoot_58 : decode cX8_shoot 58 = .ok (.iconst 1, 1) := by decide +kernel
theorem dX8_shoot_59 : decode cX8_shoot 59 = .ok (.if_icmp .ne 9, 3) := by decide +kernel
theorem dX8_shoot_62 : decode cX8_shoot 62 = .ok (.iload 4, 2) := by decide +kernel
theorem dX8_shoot_64 : decode cX8_shoot 64 = .ok (.invokestatic 153, 3) := by decide +kernel
theorem dX8_shoot_67 : decode cX8_shoot 67 = .ok (.ireturn, 1) := by decide +kernel
theorem dX8_shoot_68 : decode cX8_shoot 68 = .ok (.iload 4, 2) := by decide +kernel
theorem dX8_shoot_70 : decode cX8_shoot 70 = .ok (.ifCond .ne 8, 3) := by decide +kernel
theorem dX8_shoot_73 : decode cX8_shoot 73 = .ok (.bipush (-6), 2) := by decide +kernel
theorem dX8_shoot_75 : decode cX8_shoot 75 = .ok (.goto 8, 3) := by decide +kernel
theorem dX8_shoot_78 : decode cX8_shoot 78 = .ok (.iload 4, 2) := by decide +kernel
theorem dX8_shoot_80 : decode cX8_shoot 80 = .ok (.invokestatic 189, 3) := by decide +kernel
theorem dX8_shoot_83 : decode cX8_shoot 83 = .ok (.ireturn, 1) := by decide +kernel
theorem dX8_stair_0 : decode cX8_stair 0 = .ok (.iload_n 1, 1) := by decide +kernel
theorem dX8_stair_1 : decode cX8_stair 1 = .ok (.iconst 1, 1) := by decide +kernel
theorem dX8_stair_2 : decode cX8_stair 2 = .ok (.iconst 3, 1) := by decide +kernel
theorem dX8_stair_3 : decode cX8_stair 3 = .ok (.invokestatic 45, 3) := by decide +kernel
theorem dX8_stair_6 : decode cX8_stair 6 = .ok (.ifCond .eq 12, 3) := by decide +kernel
theorem dX8_stair_9 : decode cX8_stair 9 = .ok (.iload_n 2, 1) := by decide +kernel
theorem dX8_stair_10 : decode cX8_stair 10 = .ok (.iconst 1, 1) := by decide +kernel
theorem dX8_stair_11 : decode cX8_stair 11 = .ok (.iconst 4, 1) := by decide +kernel
theorem dX8_stair_12 : decode cX8_stair 12 = .ok (.invokestatic 45, 3) := by decide +kernel
theorem dX8_stair_15 : decode cX8_stair 15 = .ok (.ifCond .ne 6, 3) := by decide +kernel
theorem dX8_stair_18 : decode cX8_stair 18 = .ok (.bipush (-2), 2) := by decide +kernel
theorem dX8_stair_20 : decode cX8_stair 20 = .ok (.ireturn, 1) := by decide +kernel
theorem dX8_stair_21 : decode cX8_stair 21 = .ok (.iload_n 1, 1) := by decide +kernel
theorem dX8_stair_22 : decode cX8_stair 22 = .ok (.iload_n 2, 1) := by decide +kernel
theorem dX8_stair_23 : decode cX8_stair 23 = .ok (.imul, 1) := by decide +kernel
theorem dX8_stair_24 : decode cX8_stair 24 = .ok (.bipush 8, 2) := by decide +kernel
theorem dX8_stair_26 : decode cX8_stair 26 = .ok (.if_icmp .le 6, 3) := by decide +kernel
theorem dX8_stair_29 : decode cX8_stair 29 = .ok (.bipush (-2), 2) := by decide +kernel
theorem dX8_stair_31 : decode cX8_stair 31 = .ok (.ireturn, 1) := by decide +kernel
theorem dX8_stair_32 : decode cX8_stair 32 = .ok (.aload_n 0, 1) := by decide +kernel
theorem dX8_stair_33 : decode cX8_stair 33 = .ok (.getfield 19, 3) := by decide +kernel
theorem dX8_stair_36 : decode cX8_stair 36 = .ok (.getfield 192, 3) := by decide +kernel
theorem dX8_stair_39 : decode cX8_stair 39 = .ok (.iload_n 1, 1) := by decide +kernel
theorem dX8_stair_40 : decode cX8_stair 40 = .ok (.iload_n 2, 1) := by decide +kernel
theorem dX8_stair_41 : decode cX8_stair 41 = .ok (.invokevirtual 196, 3) := by decide +kernel
theorem dX8_stair_44 : decode cX8_stair 44 = .ok (.ireturn, 1) := by decide +kernel
theorem dX8_tall_0 : decode cX8_tall 0 = .ok (.iload_n 1, 1) := by decide +kernel
theorem dX8_tall_1 : decode cX8_tall 1 = .ok (.iconst (-1), 1) := by decide +kernel
theorem dX8_tall_2 : decode cX8_tall 2 = .ok (.if_icmp .ne 30, 3) := by decide +kernel
theorem dX8_tall_5 : decode cX8_tall 5 = .ok (.iload_n 2, 1) := by decide +kernel
theorem dX8_tall_6 : decode cX8_tall 6 = .ok (.iconst 0, 1) := by decide +kernel
theorem dX8_tall_7 : decode cX8_tall 7 = .ok (.bipush 50, 2) := by decide +kernel
theorem dX8_tall_9 : decode cX8_tall 9 = .ok (.invokestatic 45, 3) := by decide +kernel
theorem dX8_tall_12 : decode cX8_tall 12 = .ok (.ifCond .eq 17, 3) := by decide +kernel
theorem dX8_tall_15 : decode cX8_tall 15 = .ok (.aload_n 0, 1) := by decide +kernel
theorem dX8_tall_16 : decode cX8_tall 16 = .ok (.getfield 19, 3) := by decide +kernel
theorem dX8_tall_19 : decode cX8_tall 19 = .ok (.getfield 192, 3) := by decide +kernel
theorem dX8_tall_22 : decode cX8_tall 22 = .ok (.iload_n 2, 1) := by decide +kernel
theorem dX8_tall_23 : decode cX8_tall 23 = .ok (.invokevirtual 201, 3) := by decide +kernel
theorem dX8_tall_26 : decode cX8_tall 26 = .ok (.goto 5, 3) := by decide +kernel
theorem dX8_tall_29 : decode cX8_tall 29 = .ok (.bipush (-2), 2) := by decide +kernel
theorem dX8_tall_31 : decode cX8_tall 31 = .ok (.ireturn, 1) := by decide +kernel
theorem dX8_tall_32 : decode cX8_tall 32 = .ok (.aload_n 0, 1) := by decide +kernel
theorem dX8_tall_33 : decode cX8_tall 33 = .ok (.getfield 19, 3) := by decide +kernel
theorem dX8_tall_36 : decode cX8_tall 36 = .ok (.iload_n 1, 1) := by decide +kernel
theorem dX8_tall_37 : decode cX8_tall 37 = .ok (.invokevirtual 53, 3) := by decide +kernel
theorem dX8_tall_40 : decode cX8_tall 40 = .ok (.ifCond .ne 5, 3) := by decide +kernel
theorem dX8_tall_43 : decode cX8_tall 43 = .ok (.iconst (-1), 1) := by decide +kernel
theorem dX8_tall_44 : decode cX8_tall 44 = .ok (.ireturn, 1) := by decide +kernel
theorem dX8_tall_45 : decode cX8_tall 45 = .ok (.iload_n 2, 1) := by decide +kernel
theorem dX8_tall_46 : decode cX8_tall 46 = .ok (.iconst 0, 1) := by decide +kernel
theorem dX8_tall_47 : decode cX8_tall 47 = .ok (.sipush 250, 3) := by decide +kernel
theorem dX8_tall_50 : decode cX8_tall 50 = .ok (.invokestatic 45, 3) := by decide +kernel
theorem dX8_tall_53 : decode cX8_tall 53 = .ok (.ifCond .eq 18, 3) := by decide +kernel
theorem dX8_tall_56 : decode cX8_tall 56 = .ok (.aload_n 0, 1) := by decide +kernel
theorem dX8_tall_57 : decode cX8_tall 57 = .ok (.getfield 19, 3) := by decide +kernel
theorem dX8_tall_60 : decode cX8_tall 60 = .ok (.getfield 192, 3) := by decide +kernel
theorem dX8_tall_63 : decode cX8_tall 63 = .ok (.iload_n 1, 1) := by decide +kernel
theorem dX8_tall_64 : decode cX8_tall 64 = .ok (.iload_n 2, 1) := by decide +kernel
theorem dX8_tall_65 : decode cX8_tall 65 = .ok (.invokevirtual 204, 3) := by decide +kernel
theorem dX8_tall_68 : decode cX8_tall 68 = .ok (.goto 5, 3) := by decide +kernel
theorem dX8_tall_71 : decode cX8_tall 71 = .ok (.bipush (-2), 2) := by decide +kernel
theorem dX8_tall_73 : decode cX8_tall 73 = .ok (.ireturn, 1) := by decide +kernel
theorem dX8_pair_0 : decode cX8_pair 0 = .ok (.aload_n 0, 1) := by decide +kernel
theorem dX8_pair_1 : decode cX8_pair 1 = .ok (.getfield 19, 3) := by decide +kernel
theorem dX8_pair_4 : decode cX8_pair 4 = .ok (.iload_n 1, 1) := by decide +kernel
theorem dX8_pair_5 : decode cX8_pair 5 = .ok (.invokevirtual 53, 3) := by decide +kernel
theorem dX8_pair_8 : decode cX8_pair 8 = .ok (.ifCond .eq 19, 3) := by decide +kernel
theorem dX8_pair_11 : decode cX8_pair 11 = .ok (.aload_n 0, 1) := by decide +kernel
theorem dX8_pair_12 : decode cX8_pair 12 = .ok (.getfield 19, 3) := by decide +kernel
theorem dX8_pair_15 : decode cX8_pair 15 = .ok (.iload_n 2, 1) := by decide +kernel
theorem dX8_pair_16 : decode cX8_pair 16 = .ok (.invokevirtual 53, 3) := by decide +kernel
theorem dX8_pair_19 : decode cX8_pair 19 = .ok (.ifCond .eq 8, 3) := by decide +kernel
theorem dX8_pair_22 : decode cX8_pair 22 = .ok (.iload_n 1, 1) := by decide +kernel
theorem dX8_pair_23 : decode cX8_pair 23 = .ok (.iload_n 2, 1) := by decide +kernel
theorem dX8_pair_24 : decode cX8_pair 24 = .ok (.if_icmp .ne 5, 3) := by decide +kernel
theorem dX8_pair_27 : decode cX8_pair 27 = .ok (.iconst (-1), 1) := by decide +kernel
theorem dX8_pair_28 : decode cX8_pair 28 = .ok (.ireturn, 1) := by decide +kernel
theorem dX8_pair_29 : decode cX8_pair 29 = .ok (.iload_n 3, 1) := by decide +kernel
theorem dX8_pair_30 : decode cX8_pair 30 = .ok (.iconst 0, 1) := by decide +kernel
theorem dX8_pair_31 : decode cX8_pair 31 = .ok (.iconst 2, 1) := by decide +kernel
theorem dX8_pair_32 : decode cX8_pair 32 = .ok (.invokestatic 45, 3) := by decide +kernel
theorem dX8_pair_35 : decode cX8_pair 35 = .ok (.ifCond .ne 6, 3) := by decide +kernel
theorem dX8_pair_38 : decode cX8_pair 38 = .ok (.bipush (-2), 2) := by decide +kernel
theorem dX8_pair_40 : decode cX8_pair 40 = .ok (.ireturn, 1) := by decide +kernel
theorem dX8_pair_41 : decode cX8_pair 41 = .ok (.aload_n 0, 1) := by decide +kernel
theorem dX8_pair_42 : decode cX8_pair 42 = .ok (.getfield 19, 3) := by decide +kernel
theorem dX8_pair_45 : decode cX8_pair 45 = .ok (.getfield 192, 3) := by decide +kernel
theorem dX8_pair_48 : decode cX8_pair 48 = .ok (.iload_n 1, 1) := by decide +kernel
theorem dX8_pair_49 : decode cX8_pair 49 = .ok (.iload_n 2, 1) := by decide +kernel
theorem dX8_pair_50 : decode cX8_pair 50 = .ok (.iload_n 3, 1) := by decide +kernel
theorem dX8_pair_51 : decode cX8_pair 51 = .ok (.invokevirtual 207, 3) := by decide +kernel
theorem dX8_pair_54 : decode cX8_pair 54 = .ok (.ireturn, 1) := by decide +kernel
theorem dX8_judge_0 : decode cX8_judge 0 = .ok (.iload_n 1, 1) := by decide +kernel
theorem dX8_judge_1 : decode cX8_judge 1 = .ok (.iconst 0, 1) := by decide +kernel
theorem dX8_judge_2 : decode cX8_judge 2 = .ok (.iconst 1, 1) := by decide +kernel
theorem dX8_judge_3 : decode cX8_judge 3 = .ok (.invokestatic 45, 3) := by decide +kernel
theorem dX8_judge_6 : decode cX8_judge 6 = .ok (.ifCond .ne 6, 3) := by decide +kernel
theorem dX8_judge_9 : decode cX8_judge 9 = .ok (.bipush (-2), 2) := by decide +kernel
theorem dX8_judge_11 : decode cX8_judge 11 = .ok (.ireturn, 1) := by decide +kernel
theorem dX8_judge_12 : decode cX8_judge 12 = .ok (.aload_n 0, 1) := by decide +kernel
theorem dX8_judge_13 : decode cX8_judge 13 = .ok (.invokevirtual 78, 3) := by decide +kernel
theorem dX8_judge_16 : decode cX8_judge 16 = .ok (.bipush (-6), 2) := by decide +kernel
theorem dX8_judge_18 : decode cX8_judge 18 = .ok (.if_icmp .eq 6, 3) := by decide +kernel
theorem dX8_judge_21 : decode cX8_judge 21 = .ok (.bipush (-5), 2) := by decide +kernel
theorem dX8_judge_23 : decode cX8_judge 23 = .ok (.ireturn, 1) := by decide +kernel
theorem dX8_judge_24 : decode cX8_judge 24 = .ok (.aload_n 0, 1) := by decide +kernel
theorem dX8_judge_25 : decode cX8_judge 25 = .ok (.getfield 10, 3) := by decide +kernel
theorem dX8_judge_28 : decode cX8_judge 28 = .ok (.aload_n 0, 1) := by decide +kernel
theorem dX8_judge_29 : decode cX8_judge 29 = .ok (.getfield 41, 3) := by decide +kernel
theorem dX8_judge_32 : decode cX8_judge 32 = .ok (.aload_n 0, 1) := by decide +kernel
theorem dX8_judge_33 : decode cX8_judge 33 = .ok (.getfield 19, 3) := by decide +kernel
theorem dX8_judge_36 : decode cX8_judge 36 = .ok (.getfield 72, 3) := by decide +kernel
theorem dX8_judge_39 : decode cX8_judge 39 = .ok (.invokevirtual 210, 3) := by decide +kernel
theorem dX8_judge_42 : decode cX8_judge 42 = .ok (.aload_n 0, 1) := by decide +kernel
theorem dX8_judge_43 : decode cX8_judge 43 = .ok (.getfield 19, 3) := by decide +kernel
theorem dX8_judge_46 : decode cX8_judge 46 = .ok (.getfield 192, 3) := by decide +kernel
theorem dX8_judge_49 : decode cX8_judge 49 = .ok (.aload_n 0, 1) := by decide +kernel
theorem dX8_judge_50 : decode cX8_judge 50 = .ok (.getfield 41, 3) := by decide +kernel
theorem dX8_judge_53 : decode cX8_judge 53 = .ok (.aload_n 0, 1) := by decide +kernel
theorem dX8_judge_54 : decode cX8_judge 54 = .ok (.getfield 19, 3) := by decide +kernel
theorem dX8_judge_57 : decode cX8_judge 57 = .ok (.getfield 72, 3) := by decide +kernel
theorem dX8_judge_60 : decode cX8_judge 60 = .ok (.invokevirtual 214, 3) := by decide +kernel
theorem dX8_judge_63 : decode cX8_judge 63 = .ok (.istore_n 2, 1) := by decide +kernel
theorem dX8_judge_64 : decode cX8_judge 64 = .ok (.iload_n 2, 1) := by decide +kernel
theorem dX8_judge_65 : decode cX8_judge 65 = .ok (.bipush (-6), 2) := by decide +kernel
theorem dX8_judge_67 : decode cX8_judge 67 = .ok (.if_icmp .eq 7, 3) := by decide +kernel
theorem dX8_judge_70 : decode cX8_judge 70 = .ok (.iload_n 1, 1) := by decide +kernel
theorem dX8_judge_71 : decode cX8_judge 71 = .ok (.ifCond .ne 5, 3) := by decide +kernel
theorem dX8_judge_74 : decode cX8_judge 74 = .ok (.iload_n 2, 1) := by decide +kernel
theorem dX8_judge_75 : decode cX8_judge 75 = .ok (.ireturn, 1) := by decide +kernel
theorem dX8_judge_76 : decode cX8_judge 76 = .ok (.aload_n 0, 1) := by decide +kernel
theorem dX8_judge_77 : decode cX8_judge 77 = .ok (.getfield 19, 3) := by decide +kernel
theorem dX8_judge_80 : decode cX8_judge 80 = .ok (.getfield 192, 3) := by decide +kernel
theorem dX8_judge_83 : decode cX8_judge 83 = .ok (.iload_n 2, 1) := by decide +kernel
theorem dX8_judge_84 : decode cX8_judge 84 = .ok (.aload_n 0, 1) := by decide +kernel
theorem dX8_judge_85 : decode cX8_judge 85 = .ok (.getfield 41, 3) := by decide +kernel
theorem dX8_judge_88 : decode cX8_judge 88 = .ok (.aload_n 0, 1) := by decide +kernel
theorem dX8_judge_89 : decode cX8_judge 89 = .ok (.getfield 19, 3) := by decide +kernel
theorem dX8_judge_92 : decode cX8_judge 92 = .ok (.getfield 72, 3) := by decide +kernel
theorem dX8_judge_95 : decode cX8_judge 95 = .ok (.invokevirtual 218, 3) := by decide +kernel
theorem dX8_judge_98 : decode cX8_judge 98 = .ok (.ireturn, 1) := by decide +kernel
theorem dX8_placed_0 : decode cX8_placed 0 = .ok (.aload_n 0, 1) := by decide +kernel
theorem dX8_placed_1 : decode cX8_placed 1 = .ok (.getfield 19, 3) := by decide +kernel
theorem dX8_placed_4 : decode cX8_placed 4 = .ok (.getfield 72, 3) := by decide +kernel
theorem dX8_placed_7 : decode cX8_placed 7 = .ok (.aload_n 0, 1) := by decide +kernel
theorem dX8_placed_8 : decode cX8_placed 8 = .ok (.getfield 19, 3) := by decide +kernel
theorem dX8_placed_11 : decode cX8_placed 11 = .ok (.getfield 192, 3) := by decide +kernel
theorem dX8_placed_14 : decode cX8_placed 14 = .ok (.invokevirtual 222, 3) := by decide +kernel
theorem dX8_placed_17 : decode cX8_placed 17 = .ok (.if_icmp .le 6, 3) := by decide +kernel
theorem dX8_placed_20 : decode cX8_placed 20 = .ok (.bipush (-3), 2) := by decide +kernel
theorem dX8_placed_22 : decode cX8_placed 22 = .ok (.ireturn, 1) := by decide +kernel
theorem dX8_placed_23 : decode cX8_placed 23 = .ok (.iload_n 1, 1) := by decide +kernel
theorem dX8_placed_24 : decode cX8_placed 24 = .ok (.iconst (-1), 1) := by decide +kernel
theorem dX8_placed_25 : decode cX8_placed 25 = .ok (.if_icmp .eq 17, 3) := by decide +kernel
theorem dX8_placed_28 : decode cX8_placed 28 = .ok (.aload_n 0, 1) := by decide +kernel
theorem dX8_placed_29 : decode cX8_placed 29 = .ok (.getfield 19, 3) := by decide +kernel
theorem dX8_placed_32 : decode cX8_placed 32 = .ok (.iload_n 1, 1) := by decide +kernel
theorem dX8_placed_33 : decode cX8_placed 33 = .ok (.invokevirtual 53, 3) := by decide +kernel
theorem dX8_placed_36 : decode cX8_placed 36 = .ok (.ifCond .ne 6, 3) := by decide +kernel
theorem dX8_placed_39 : decode cX8_placed 39 = .ok (.bipush (-6), 2) := by decide +kernel
theorem dX8_placed_41 : decode cX8_placed 41 = .ok (.ireturn, 1) := by decide +kernel
theorem dX8_placed_42 : decode cX8_placed 42 = .ok (.aload_n 0, 1) := by decide +kernel
theorem dX8_placed_43 : decode cX8_placed 43 = .ok (.getfield 37, 3) := by decide +kernel
theorem dX8_placed_46 : decode cX8_placed 46 = .ok (.aload_n 0, 1) := by decide +kernel
theorem dX8_placed_47 : decode cX8_placed 47 = .ok (.getfield 19, 3) := by decide +kernel
theorem dX8_placed_50 : decode cX8_placed 50 = .ok (.getfield 192, 3) := by decide +kernel
theorem dX8_placed_53 : decode cX8_placed 53 = .ok (.aload_n 0, 1) := by decide +kernel
theorem dX8_placed_54 : decode cX8_placed 54 = .ok (.getfield 19, 3) := by decide +kernel
theorem dX8_placed_57 : decode cX8_placed 57 = .ok (.getfield 72, 3) := by decide +kernel
theorem dX8_placed_60 : decode cX8_placed 60 = .ok (.invokevirtual 225, 3) := by decide +kernel
theorem dX8_placed_63 : decode cX8_placed 63 = .ok (.iload_n 1, 1) := by decide +kernel
theorem dX8_placed_64 : decode cX8_placed 64 = .ok (.iconst (-1), 1) := by decide +kernel
theorem dX8_placed_65 : decode cX8_placed 65 = .ok (.if_icmp .ne 13, 3) := by decide +kernel
theorem dX8_placed_68 : decode cX8_placed 68 = .ok (.aload_n 0, 1) := by decide +kernel
theorem dX8_placed_69 : decode cX8_placed 69 = .ok (.getfield 37, 3) := by decide +kernel
theorem dX8_placed_72 : decode cX8_placed 72 = .ok (.getfield 228, 3) := by decide +kernel
theorem dX8_placed_75 : decode cX8_placed 75 = .ok (.goto 11, 3) := by decide +kernel
theorem dX8_placed_78 : decode cX8_placed 78 = .ok (.aload_n 0, 1) := by decide +kernel
theorem dX8_placed_79 : decode cX8_placed 79 = .ok (.getfield 37, 3) := by decide +kernel
theorem dX8_placed_82 : decode cX8_placed 82 = .ok (.iload_n 1, 1) := by decide +kernel
theorem dX8_placed_83 : decode cX8_placed 83 = .ok (.invokevirtual 231, 3) := by decide +kernel
theorem dX8_placed_86 : decode cX8_placed 86 = .ok (.ireturn, 1) := by decide +kernel
theorem dX8_image_0 : decode cX8_image 0 = .ok (.iload_n 1, 1) := by decide +kernel
theorem dX8_image_1 : decode cX8_image 1 = .ok (.iconst 0, 1) := by decide +kernel
theorem dX8_image_2 : decode cX8_image 2 = .ok (.iconst 1, 1) := by decide +kernel
theorem dX8_image_3 : decode cX8_image 3 = .ok (.invokestatic 45, 3) := by decide +kernel
theorem dX8_image_6 : decode cX8_image 6 = .ok (.ifCond .ne 6, 3) := by decide +kernel
theorem dX8_image_9 : decode cX8_image 9 = .ok (.bipush (-2), 2) := by decide +kernel
theorem dX8_image_11 : decode cX8_image 11 = .ok (.ireturn, 1) := by decide +kernel
theorem dX8_image_12 : decode cX8_image 12 = .ok (.aload_n 0, 1) := by decide +kernel
theorem dX8_image_13 : decode cX8_image 13 = .ok (.getfield 23, 3) := by decide +kernel
theorem dX8_image_16 : decode cX8_image 16 = .ok (.iload_n 1, 1) := by decide +kernel
theorem dX8_image_17 : decode cX8_image 17 = .ok (.aaload, 1) := by decide +kernel
theorem dX8_image_18 : decode cX8_image 18 = .ok (.ifnonnull 16, 3) := by decide +kernel
theorem dX8_image_21 : decode cX8_image 21 = .ok (.aload_n 0, 1) := by decide +kernel
theorem dX8_image_22 : decode cX8_image 22 = .ok (.getfield 23, 3) := by decide +kernel
theorem dX8_image_25 : decode cX8_image 25 = .ok (.iload_n 1, 1) := by decide +kernel
theorem dX8_image_26 : decode cX8_image 26 = .ok (.new 16, 3) := by decide +kernel
theorem dX8_image_29 : decode cX8_image 29 = .ok (.dup, 1) := by decide +kernel
theorem dX8_image_30 : decode cX8_image 30 = .ok (.invokespecial 18, 3) := by decide +kernel
theorem dX8_image_33 : decode cX8_image 33 = .ok (.aastore, 1) := by decide +kernel
theorem dX8_image_34 : decode cX8_image 34 = .ok (.aload_n 0, 1) := by decide +kernel
theorem dX8_image_35 : decode cX8_image 35 = .ok (.getfield 23, 3) := by decide +kernel
theorem dX8_image_38 : decode cX8_image 38 = .ok (.iload_n 1, 1) := by decide +kernel
theorem dX8_image_39 : decode cX8_image 39 = .ok (.aaload, 1) := by decide +kernel
theorem dX8_image_40 : decode cX8_image 40 = .ok (.aload_n 0, 1) := by decide +kernel
theorem dX8_image_41 : decode cX8_image 41 = .ok (.getfield 19, 3) := by decide +kernel
theorem dX8_image_44 : decode cX8_image 44 = .ok (.invokevirtual 234, 3) := by decide +kernel
theorem dX8_image_47 : decode cX8_image 47 = .ok (.iconst 1, 1) := by decide +kernel
theorem dX8_image_48 : decode cX8_image 48 = .ok (.ireturn, 1) := by decide +kernel
theorem dX8_restore_0 : decode cX8_restore 0 = .ok (.iload_n 1, 1) := by decide +kernel
theorem dX8_restore_1 : decode cX8_restore 1 = .ok (.iconst 0, 1) := by decide +kernel
theorem dX8_restore_2 : decode cX8_restore 2 = .ok (.iconst 1, 1) := by decide +kernel
theorem dX8_restore_3 : decode cX8_restore 3 = .ok (.invokestatic 45, 3) := by decide +kernel
theorem dX8_restore_6 : decode cX8_restore 6 = .ok (.ifCond .ne 6, 3) := by decide +kernel
theorem dX8_restore_9 : decode cX8_restore 9 = .ok (.bipush (-2), 2) := by decide +kernel
theorem dX8_restore_11 : decode cX8_restore 11 = .ok (.ireturn, 1) := by decide +kernel
theorem dX8_restore_12 : decode cX8_restore 12 = .ok (.aload_n 0, 1) := by decide +kernel
theorem dX8_restore_13 : decode cX8_restore 13 = .ok (.getfield 23, 3) := by decide +kernel
theorem dX8_restore_16 : decode cX8_restore 16 = .ok (.iload_n 1, 1) := by decide +kernel
theorem dX8_restore_17 : decode cX8_restore 17 = .ok (.aaload, 1) := by decide +kernel
theorem dX8_restore_18 : decode cX8_restore 18 = .ok (.ifnonnull 6, 3) := by decide +kernel
theorem dX8_restore_21 : decode cX8_restore 21 = .ok (.bipush (-3), 2) := by decide +kernel
theorem dX8_restore_23 : decode cX8_restore 23 = .ok (.ireturn, 1) := by decide +kernel
theorem dX8_restore_24 : decode cX8_restore 24 = .ok (.aload_n 0, 1) := by decide +kernel
theorem dX8_restore_25 : decode cX8_restore 25 = .ok (.getfield 19, 3) := by decide +kernel
theorem dX8_restore_28 : decode cX8_restore 28 = .ok (.aload_n 0, 1) := by decide +kernel
theorem dX8_restore_29 : decode cX8_restore 29 = .ok (.getfield 23, 3) := by decide +kernel
theorem dX8_restore_32 : decode cX8_restore 32 = .ok (.iload_n 1, 1) := by decide +kernel
theorem dX8_restore_33 : decode cX8_restore 33 = .ok (.aaload, 1) := by decide +kernel
theorem dX8_restore_34 : decode cX8_restore 34 = .ok (.invokevirtual 234, 3) := by decide +kernel
theorem dX8_restore_37 : decode cX8_restore 37 = .ok (.iconst 1, 1) := by decide +kernel
theorem dX8_restore_38 : decode cX8_restore 38 = .ok (.ireturn, 1) := by decide +kernel
theorem dX8_told_0 : decode cX8_told 0 = .ok (.aload_n 0, 1) := by decide +kernel
theorem dX8_told_1 : decode cX8_told 1 = .ok (.getfield 19, 3) := by decide +kernel
theorem dX8_told_4 : decode cX8_told 4 = .ok (.iload_n 1, 1) := by decide +kernel
theorem dX8_told_5 : decode cX8_told 5 = .ok (.bipush 10, 2) := by decide +kernel
theorem dX8_told_7 : decode cX8_told 7 = .ok (.isub, 1) := by decide +kernel
theorem dX8_told_8 : decode cX8_told 8 = .ok (.invokevirtual 53, 3) := by decide +kernel
theorem dX8_told_11 : decode cX8_told 11 = .ok (.ifCond .eq 18, 3) := by decide +kernel
theorem dX8_told_14 : decode cX8_told 14 = .ok (.aload_n 0, 1) := by decide +kernel
theorem dX8_told_15 : decode cX8_told 15 = .ok (.getfield 19, 3) := by decide +kernel
theorem dX8_told_18 : decode cX8_told 18 = .ok (.getfield 192, 3) := by decide +kernel
theorem dX8_told_21 : decode cX8_told 21 = .ok (.iload_n 1, 1) := by decide +kernel
theorem dX8_told_22 : decode cX8_told 22 = .ok (.bipush 10, 2) := by decide +kernel
theorem dX8_told_24 : decode cX8_told 24 = .ok (.isub, 1) := by decide +kernel
theorem dX8_told_25 : decode cX8_told 25 = .ok (.invokevirtual 238, 3) := by decide +kernel
theorem dX8_told_28 : decode cX8_told 28 = .ok (.ireturn, 1) := by decide +kernel
theorem dX8_told_29 : decode cX8_told 29 = .ok (.aload_n 0, 1) := by decide +kernel
theorem dX8_told_30 : decode cX8_told 30 = .ok (.getfield 19, 3) := by decide +kernel
theorem dX8_told_33 : decode cX8_told 33 = .ok (.iload_n 1, 1) := by decide +kernel
theorem dX8_told_34 : decode cX8_told 34 = .ok (.bipush 20, 2) := by decide +kernel
theorem dX8_told_36 : decode cX8_told 36 = .ok (.isub, 1) := by decide +kernel
theorem dX8_told_37 : decode cX8_told 37 = .ok (.invokevirtual 53, 3) := by decide +kernel
theorem dX8_told_40 : decode cX8_told 40 = .ok (.ifCond .eq 18, 3) := by decide +kernel
theorem dX8_told_43 : decode cX8_told 43 = .ok (.aload_n 0, 1) := by decide +kernel
theorem dX8_told_44 : decode cX8_told 44 = .ok (.getfield 19, 3) := by decide +kernel
theorem dX8_told_47 : decode cX8_told 47 = .ok (.getfield 158, 3) := by decide +kernel
theorem dX8_told_50 : decode cX8_told 50 = .ok (.iload_n 1, 1) := by decide +kernel
theorem dX8_told_51 : decode cX8_told 51 = .ok (.bipush 20, 2) := by decide +kernel
theorem dX8_told_53 : decode cX8_told 53 = .ok (.isub, 1) := by decide +kernel
theorem dX8_told_54 : decode cX8_told 54 = .ok (.invokevirtual 241, 3) := by decide +kernel
theorem dX8_told_57 : decode cX8_told 57 = .ok (.ireturn, 1) := by decide +kernel
theorem dX8_told_58 : decode cX8_told 58 = .ok (.iload_n 1, 1) := by decide +kernel
theorem dX8_told_59 : decode cX8_told 59 = .ok (.tableswitch 154 0 9 #[53, 61, 69, 80, 88, 99, 110, 121, 132, 143], 53) := by decide +kernel
theorem dX8_told_112 : decode cX8_told 112 = .ok (.aload_n 0, 1) := by decide +kernel
theorem dX8_told_113 : decode cX8_told 113 = .ok (.getfield 10, 3) := by decide +kernel
theorem dX8_told_116 : decode cX8_told 116 = .ok (.getfield 244, 3) := by decide +kernel
theorem dX8_told_119 : decode cX8_told 119 = .ok (.ireturn, 1) := by decide +kernel
theorem dX8_told_120 : decode cX8_told 120 = .ok (.aload_n 0, 1) := by decide +kernel
theorem dX8_told_121 : decode cX8_told 121 = .ok (.getfield 19, 3) := by decide +kernel
theorem dX8_told_124 : decode cX8_told 124 = .ok (.getfield 72, 3) := by decide +kernel
theorem dX8_told_127 : decode cX8_told 127 = .ok (.ireturn, 1) := by decide +kernel
theorem dX8_told_128 : decode cX8_told 128 = .ok (.aload_n 0, 1) := by decide +kernel
theorem dX8_told_129 : decode cX8_told 129 = .ok (.getfield 19, 3) := by decide +kernel
theorem dX8_told_132 : decode cX8_told 132 = .ok (.getfield 81, 3) := by decide +kernel
theorem dX8_told_135 : decode cX8_told 135 = .ok (.getfield 245, 3) := by decide +kernel
theorem dX8_told_138 : decode cX8_told 138 = .ok (.ireturn, 1) := by decide +kernel
theorem dX8_told_139 : decode cX8_told 139 = .ok (.aload_n 0, 1) := by decide +kernel
theorem dX8_told_140 : decode cX8_told 140 = .ok (.getfield 19, 3) := by decide +kernel
theorem dX8_told_143 : decode cX8_told 143 = .ok (.getfield 57, 3) := by decide +kernel
theorem dX8_told_146 : decode cX8_told 146 = .ok (.ireturn, 1) := by decide +kernel
theorem dX8_told_147 : decode cX8_told 147 = .ok (.aload_n 0, 1) := by decide +kernel
theorem dX8_told_148 : decode cX8_told 148 = .ok (.getfield 19, 3) := by decide +kernel
theorem dX8_told_151 : decode cX8_told 151 = .ok (.getfield 81, 3) := by decide +kernel
theorem dX8_told_154 : decode cX8_told 154 = .ok (.getfield 115, 3) := by decide +kernel
theorem dX8_told_157 : decode cX8_told 157 = .ok (.ireturn, 1) := by decide +kernel
theorem dX8_told_158 : decode cX8_told 158 = .ok (.aload_n 0, 1) := by decide +kernel
theorem dX8_told_159 : decode cX8_told 159 = .ok (.getfield 19, 3) := by decide +kernel
theorem dX8_told_162 : decode cX8_told 162 = .ok (.getfield 128, 3) := by decide +kernel
theorem dX8_told_165 : decode cX8_told 165 = .ok (.getfield 141, 3) := by decide +kernel
theorem dX8_told_168 : decode cX8_told 168 = .ok (.ireturn, 1) := by decide +kernel
theorem dX8_told_169 : decode cX8_told 169 = .ok (.aload_n 0, 1) := by decide +kernel
theorem dX8_told_170 : decode cX8_told 170 = .ok (.getfield 19, 3) := by decide +kernel
theorem dX8_told_173 : decode cX8_told 173 = .ok (.getfield 158, 3) := by decide +kernel
theorem dX8_told_176 : decode cX8_told 176 = .ok (.getfield 246, 3) := by decide +kernel
theorem dX8_told_179 : decode cX8_told 179 = .ok (.ireturn, 1) := by decide +kernel
theorem dX8_told_180 : decode cX8_told 180 = .ok (.aload_n 0, 1) := by decide +kernel
theorem dX8_told_181 : decode cX8_told 181 = .ok (.getfield 19, 3) := by decide +kernel
theorem dX8_told_184 : decode cX8_told 184 = .ok (.getfield 192, 3) := by decide +kernel
theorem dX8_told_187 : decode cX8_told 187 = .ok (.getfield 249, 3) := by decide +kernel
theorem dX8_told_190 : decode cX8_told 190 = .ok (.ireturn, 1) := by decide +kernel
theorem dX8_told_191 : decode cX8_told 191 = .ok (.aload_n 0, 1) := by decide +kernel
theorem dX8_told_192 : decode cX8_told 192 = .ok (.getfield 19, 3) := by decide +kernel
theorem dX8_told_195 : decode cX8_told 195 = .ok (.getfield 192, 3) := by decide +kernel
theorem dX8_told_198 : decode cX8_told 198 = .ok (.getfield 252, 3) := by decide +kernel
theorem dX8_told_201 : decode cX8_told 201 = .ok (.ireturn, 1) := by decide +kernel
theorem dX8_told_202 : decode cX8_told 202 = .ok (.aload_n 0, 1) := by decide +kernel
theorem dX8_told_203 : decode cX8_told 203 = .ok (.getfield 19, 3) := by decide +kernel
theorem dX8_told_206 : decode cX8_told 206 = .ok (.getfield 192, 3) := by decide +kernel
theorem dX8_told_209 : decode cX8_told 209 = .ok (.getfield 255, 3) := by decide +kernel
theorem dX8_told_212 : decode cX8_told 212 = .ok (.ireturn, 1) := by decide +kernel
theorem dX8_told_213 : decode cX8_told 213 = .ok (.bipush (-2), 2) := by decide +kernel
theorem dX8_told_215 : decode cX8_told 215 = .ok (.ireturn, 1) := by decide +kernel
theorem dX8_standingFault_0 : decode cX8_standingFault 0 = .ok (.aload_n 0, 1) := by decide +kernel
theorem dX8_standingFault_1 : decode cX8_standingFault 1 = .ok (.getfield 10, 3) := by decide +kernel
theorem dX8_standingFault_4 : decode cX8_standingFault 4 = .ok (.aload_n 0, 1) := by decide +kernel
theorem dX8_standingFault_5 : decode cX8_standingFault 5 = .ok (.getfield 19, 3) := by decide +kernel
theorem dX8_standingFault_8 : decode cX8_standingFault 8 = .ok (.getfield 72, 3) := by decide +kernel
theorem dX8_standingFault_11 : decode cX8_standingFault 11 = .ok (.aload_n 0, 1) := by decide +kernel
theorem dX8_standingFault_12 : decode cX8_standingFault 12 = .ok (.getfield 19, 3) := by decide +kernel
theorem dX8_standingFault_15 : decode cX8_standingFault 15 = .ok (.getfield 192, 3) := by decide +kernel
theorem dX8_standingFault_18 : decode cX8_standingFault 18 = .ok (.invokevirtual 222, 3) := by decide +kernel
theorem dX8_standingFault_21 : decode cX8_standingFault 21 = .ok (.invokevirtual 258, 3) := by decide +kernel
theorem dX8_standingFault_24 : decode cX8_standingFault 24 = .ok (.ireturn, 1) := by decide +kernel
theorem dX8_within_0 : decode cX8_within 0 = .ok (.iload_n 0, 1) := by decide +kernel
theorem dX8_within_1 : decode cX8_within 1 = .ok (.iload_n 1, 1) := by decide +kernel
theorem dX8_within_2 : decode cX8_within 2 = .ok (.if_icmp .lt 12, 3) := by decide +kernel
theorem dX8_within_5 : decode cX8_within 5 = .ok (.iload_n 0, 1) := by decide +kernel
theorem dX8_within_6 : decode cX8_within 6 = .ok (.iload_n 2, 1) := by decide +kernel
theorem dX8_within_7 : decode cX8_within 7 = .ok (.if_icmp .gt 7, 3) := by decide +kernel
theorem dX8_within_10 : decode cX8_within 10 = .ok (.iconst 1, 1) := by decide +kernel
theorem dX8_within_11 : decode cX8_within 11 = .ok (.goto 4, 3) := by decide +kernel
theorem dX8_within_14 : decode cX8_within 14 = .ok (.iconst 0, 1) := by decide +kernel
theorem dX8_within_15 : decode cX8_within 15 = .ok (.ireturn, 1) := by decide +kernel
theorem dX8_lowest_0 : decode cX8_lowest 0 = .ok (.lload_n 0, 1) := by decide +kernel
theorem dX8_lowest_1 : decode cX8_lowest 1 = .ok (.lstore 5, 2) := by decide +kernel
theorem dX8_lowest_3 : decode cX8_lowest 3 = .ok (.lload_n 2, 1) := by decide +kernel
theorem dX8_lowest_4 : decode cX8_lowest 4 = .ok (.lstore 7, 2) := by decide +kernel
theorem dX8_lowest_6 : decode cX8_lowest 6 = .ok (.iconst 0, 1) := by decide +kernel
theorem dX8_lowest_7 : decode cX8_lowest 7 = .ok (.istore 9, 2) := by decide +kernel
theorem dX8_lowest_9 : decode cX8_lowest 9 = .ok (.iload 9, 2) := by decide +kernel
theorem dX8_lowest_11 : decode cX8_lowest 11 = .ok (.bipush 64, 2) := by decide +kernel
theorem dX8_lowest_13 : decode cX8_lowest 13 = .ok (.if_icmp .ge 43, 3) := by decide +kernel
theorem dX8_lowest_16 : decode cX8_lowest 16 = .ok (.lload 7, 2) := by decide +kernel
theorem dX8_lowest_18 : decode cX8_lowest 18 = .ok (.lconst 1, 1) := by decide +kernel
theorem dX8_lowest_19 : decode cX8_lowest 19 = .ok (.lcmp, 1) := by decide +kernel
theorem dX8_lowest_20 : decode cX8_lowest 20 = .ok (.ifCond .le 36, 3) := by decide +kernel
theorem dX8_lowest_23 : decode cX8_lowest 23 = .ok (.lload 5, 2) := by decide +kernel
theorem dX8_lowest_25 : decode cX8_lowest 25 = .ok (.ldc2_w 261, 3) := by decide +kernel
theorem dX8_lowest_28 : decode cX8_lowest 28 = .ok (.lrem, 1) := by decide +kernel
theorem dX8_lowest_29 : decode cX8_lowest 29 = .ok (.lconst 0, 1) := by decide +kernel
theorem dX8_lowest_30 : decode cX8_lowest 30 = .ok (.lcmp, 1) := by decide +kernel
theorem dX8_lowest_31 : decode cX8_lowest 31 = .ok (.ifCond .ne 25, 3) := by decide +kernel
theorem dX8_lowest_34 : decode cX8_lowest 34 = .ok (.lload 5, 2) := by decide +kernel
theorem dX8_lowest_36 : decode cX8_lowest 36 = .ok (.ldc2_w 261, 3) := by decide +kernel
theorem dX8_lowest_39 : decode cX8_lowest 39 = .ok (.ldiv, 1) := by decide +kernel
theorem dX8_lowest_40 : decode cX8_lowest 40 = .ok (.lstore 5, 2) := by decide +kernel
theorem dX8_lowest_42 : decode cX8_lowest 42 = .ok (.lload 7, 2) := by decide +kernel
theorem dX8_lowest_44 : decode cX8_lowest 44 = .ok (.ldc2_w 261, 3) := by decide +kernel
theorem dX8_lowest_47 : decode cX8_lowest 47 = .ok (.ldiv, 1) := by decide +kernel
theorem dX8_lowest_48 : decode cX8_lowest 48 = .ok (.lstore 7, 2) := by decide +kernel
theorem dX8_lowest_50 : decode cX8_lowest 50 = .ok (.iinc 9 1, 3) := by decide +kernel
theorem dX8_lowest_53 : decode cX8_lowest 53 = .ok (.goto (-44), 3) := by decide +kernel
theorem dX8_lowest_56 : decode cX8_lowest 56 = .ok (.iload 4, 2) := by decide +kernel
theorem dX8_lowest_58 : decode cX8_lowest 58 = .ok (.ifCond .ne 8, 3) := by decide +kernel
theorem dX8_lowest_61 : decode cX8_lowest 61 = .ok (.lload 5, 2) := by decide +kernel
theorem dX8_lowest_63 : decode cX8_lowest 63 = .ok (.goto 5, 3) := by decide +kernel
theorem dX8_lowest_66 : decode cX8_lowest 66 = .ok (.lload 7, 2) := by decide +kernel
theorem dX8_lowest_68 : decode cX8_lowest 68 = .ok (.lreturn, 1) := by decide +kernel
theorem dX9_init_0 : decode cX9_init 0 = .ok (.aload_n 0, 1) := by decide +kernel
theorem dX9_init_1 : decode cX9_init 1 = .ok (.invokespecial 1, 3) := by decide +kernel
theorem dX9_init_4 : decode cX9_init 4 = .ok (.aload_n 0, 1) := by decide +kernel
theorem dX9_init_5 : decode cX9_init 5 = .ok (.bipush 80, 2) := by decide +kernel
theorem dX9_init_7 : decode cX9_init 7 = .ok (.newarray .int, 2) := by decide +kernel
theorem dX9_init_9 : decode cX9_init 9 = .ok (.putfield 7, 3) := by decide +kernel
theorem dX9_init_12 : decode cX9_init 12 = .ok (.aload_n 0, 1) := by decide +kernel
theorem dX9_init_13 : decode cX9_init 13 = .ok (.bipush 8, 2) := by decide +kernel
theorem dX9_init_15 : decode cX9_init 15 = .ok (.newarray .int, 2) := by decide +kernel
theorem dX9_init_17 : decode cX9_init 17 = .ok (.putfield 13, 3) := by decide +kernel
theorem dX9_init_20 : decode cX9_init 20 = .ok (.aload_n 0, 1) := by decide +kernel
theorem dX9_init_21 : decode cX9_init 21 = .ok (.bipush 8, 2) := by decide +kernel
theorem dX9_init_23 : decode cX9_init 23 = .ok (.newarray .int, 2) := by decide +kernel
theorem dX9_init_25 : decode cX9_init 25 = .ok (.putfield 16, 3) := by decide +kernel
theorem dX9_init_28 : decode cX9_init 28 = .ok (.aload_n 0, 1) := by decide +kernel
theorem dX9_init_29 : decode cX9_init 29 = .ok (.bipush 8, 2) := by decide +kernel
theorem dX9_init_31 : decode cX9_init 31 = .ok (.newarray .int, 2) := by decide +kernel
theorem dX9_init_33 : decode cX9_init 33 = .ok (.putfield 19, 3) := by decide +kernel
theorem dX9_init_36 : decode cX9_init 36 = .ok (.aload_n 0, 1) := by decide +kernel
theorem dX9_init_37 : decode cX9_init 37 = .ok (.bipush 8, 2) := by decide +kernel
theorem dX9_init_39 : decode cX9_init 39 = .ok (.newarray .int, 2) := by decide +kernel
theorem dX9_init_41 : decode cX9_init 41 = .ok (.putfield 22, 3) := by decide +kernel
theorem dX9_init_44 : decode cX9_init 44 = .ok (.aload_n 0, 1) := by decide +kernel
theorem dX9_init_45 : decode cX9_init 45 = .ok (.bipush 8, 2) := by decide +kernel
theorem dX9_init_47 : decode cX9_init 47 = .ok (.newarray .int, 2) := by decide +kernel
theorem dX9_init_49 : decode cX9_init 49 = .ok (.putfield 25, 3) := by decide +kernel
theorem dX9_init_52 : decode cX9_init 52 = .ok (.aload_n 0, 1) := by decide +kernel
theorem dX9_init_53 : decode cX9_init 53 = .ok (.bipush 64, 2) := by decide +kernel
theorem dX9_init_55 : decode cX9_init 55 = .ok (.newarray .int, 2) := by decide +kernel
theorem dX9_init_57 : decode cX9_init 57 = .ok (.putfield 28, 3) := by decide +kernel
theorem dX9_init_60 : decode cX9_init 60 = .ok (.aload_n 0, 1) := by decide +kernel
theorem dX9_init_61 : decode cX9_init 61 = .ok (.bipush 40, 2) := by decide +kernel
theorem dX9_init_63 : decode cX9_init 63 = .ok (.newarray .int, 2) := by decide +kernel
theorem dX9_init_65 : decode cX9_init 65 = .ok (.putfield 31, 3) := by decide +kernel
theorem dX9_init_68 : decode cX9_init 68 = .ok (.aload_n 0, 1) := by decide +kernel
theorem dX9_init_69 : decode cX9_init 69 = .ok (.bipush 80, 2) := by decide +kernel
theorem dX9_init_71 : decode cX9_init 71 = .ok (.newarray .int, 2) := by decide +kernel
theorem dX9_init_73 : decode cX9_init 73 = .ok (.putfield 34, 3) := by decide +kernel
theorem dX9_init_76 : decode cX9_init 76 = .ok (.aload_n 0, 1) := by decide +kernel
theorem dX9_init_77 : decode cX9_init 77 = .ok (.bipush 8, 2) := by decide +kernel
theorem dX9_init_79 : decode cX9_init 79 = .ok (.newarray .int, 2) := by decide +kernel
theorem dX9_init_81 : decode cX9_init 81 = .ok (.putfield 37, 3) := by decide +kernel
theorem dX9_init_84 : decode cX9_init 84 = .ok (.aload_n 0, 1) := by decide +kernel
theorem dX9_init_85 : decode cX9_init 85 = .ok (.bipush 8, 2) := by decide +kernel
theorem dX9_init_87 : decode cX9_init 87 = .ok (.newarray .int, 2) := by decide +kernel
theorem dX9_init_89 : decode cX9_init 89 = .ok (.putfield 40, 3) := by decide +kernel
theorem dX9_init_92 : decode cX9_init 92 = .ok (.aload_n 0, 1) := by decide +kernel
theorem dX9_init_93 : decode cX9_init 93 = .ok (.sipush 480, 3) := by decide +kernel
theorem dX9_init_96 : decode cX9_init 96 = .ok (.newarray .int, 2) := by decide +kernel
theorem dX9_init_98 : decode cX9_init 98 = .ok (.putfield 43, 3) := by decide +kernel
theorem dX9_init_101 : decode cX9_init 101 = .ok (.aload_n 0, 1) := by decide +kernel
theorem dX9_init_102 : decode cX9_init 102 = .ok (.iconst 2, 1) := by decide +kernel
theorem dX9_init_103 : decode cX9_init 103 = .ok (.newarray .boolean, 2) := by decide +kernel
theorem dX9_init_105 : decode cX9_init 105 = .ok (.putfield 46, 3) := by decide +kernel
theorem dX9_init_108 : decode cX9_init 108 = .ok (.aload_n 0, 1) := by decide +kernel
theorem dX9_init_109 : decode cX9_init 109 = .ok (.bipush 20, 2) := by decide +kernel
theorem dX9_init_111 : decode cX9_init 111 = .ok (.putfield 50, 3) := by decide +kernel
theorem dX9_init_114 : decode cX9_init 114 = .ok (.aload_n 0, 1) := by decide +kernel
theorem dX9_init_115 : decode cX9_init 115 = .ok (.iconst 2, 1) := by decide +kernel
theorem dX9_init_116 : decode cX9_init 116 = .ok (.putfield 54, 3) := by decide +kernel
theorem dX9_init_119 : decode cX9_init 119 = .ok (.aload_n 0, 1) := by decide +kernel
theorem dX9_init_120 : decode cX9_init 120 = .ok (.iconst 3, 1) := by decide +kernel
theorem dX9_init_121 : decode cX9_init 121 = .ok (.putfield 57, 3) := by decide +kernel
theorem dX9_init_124 : decode cX9_init 124 = .ok (.aload_n 0, 1) := by decide +kernel
theorem dX9_init_125 : decode cX9_init 125 = .ok (.bipush 10, 2) := by decide +kernel
theorem dX9_init_127 : decode cX9_init 127 = .ok (.putfield 60, 3) := by decide +kernel
theorem dX9_init_130 : decode cX9_init 130 = .ok (.aload_n 0, 1) := by decide +kernel
theorem dX9_init_131 : decode cX9_init 131 = .ok (.iconst (-1), 1) := by decide +kernel
theorem dX9_init_132 : decode cX9_init 132 = .ok (.putfield 63, 3) := by decide +kernel
theorem dX9_init_135 : decode cX9_init 135 = .ok (.aload_n 0, 1) := by decide +kernel
theorem dX9_init_136 : decode cX9_init 136 = .ok (.iconst 4, 1) := by decide +kernel
theorem dX9_init_137 : decode cX9_init 137 = .ok (.invokevirtual 66, 3) := by decide +kernel
theorem dX9_init_140 : decode cX9_init 140 = .ok (.return_, 1) := by decide +kernel
theorem dX9_in_0 : decode cX9_in 0 = .ok (.lload_n 0, 1) := by decide +kernel
theorem dX9_in_1 : decode cX9_in 1 = .ok (.lload_n 2, 1) := by decide +kernel
theorem dX9_in_2 : decode cX9_in 2 = .ok (.lcmp, 1) := by decide +kernel
theorem dX9_in_3 : decode cX9_in 3 = .ok (.ifCond .lt 14, 3) := by decide +kernel
theorem dX9_in_6 : decode cX9_in 6 = .ok (.lload_n 0, 1) := by decide +kernel
theorem dX9_in_7 : decode cX9_in 7 = .ok (.lload 4, 2) := by decide +kernel
theorem dX9_in_9 : decode cX9_in 9 = .ok (.lcmp, 1) := by decide +kernel
theorem dX9_in_10 : decode cX9_in 10 = .ok (.ifCond .gt 7, 3) := by decide +kernel
theorem dX9_in_13 : decode cX9_in 13 = .ok (.iconst 1, 1) := by decide +kernel
theorem dX9_in_14 : decode cX9_in 14 = .ok (.goto 4, 3) := by decide +kernel
theorem dX9_in_17 : decode cX9_in 17 = .ok (.iconst 0, 1) := by decide +kernel
theorem dX9_in_18 : decode cX9_in 18 = .ok (.ireturn, 1) := by decide +kernel
theorem dX9_ones_0 : decode cX9_ones 0 = .ok (.iconst 0, 1) := by decide +kernel
theorem dX9_ones_1 : decode cX9_ones 1 = .ok (.istore_n 1, 1) := by decide +kernel
theorem dX9_ones_2 : decode cX9_ones 2 = .ok (.iload_n 0, 1) := by decide +kernel
theorem dX9_ones_3 : decode cX9_ones 3 = .ok (.istore_n 2, 1) := by decide +kernel
theorem dX9_ones_4 : decode cX9_ones 4 = .ok (.iload_n 2, 1) := by decide +kernel
theorem dX9_ones_5 : decode cX9_ones 5 = .ok (.ifCond .eq 15, 3) := by decide +kernel
theorem dX9_ones_8 : decode cX9_ones 8 = .ok (.iinc 1 1, 3) := by decide +kernel
theorem dX9_ones_11 : decode cX9_ones 11 = .ok (.iload_n 2, 1) := by decide +kernel
theorem dX9_ones_12 : decode cX9_ones 12 = .ok (.iload_n 2, 1) := by decide +kernel
theorem dX9_ones_13 : decode cX9_ones 13 = .ok (.iconst 1, 1) := by decide +kernel
theorem dX9_ones_14 : decode cX9_ones 14 = .ok (.isub, 1) := by decide +kernel
theorem dX9_ones_15 : decode cX9_ones 15 = .ok (.iand, 1) := by decide +kernel
theorem dX9_ones_16 : decode cX9_ones 16 = .ok (.istore_n 2, 1) := by decide +kernel
theorem dX9_ones_17 : decode cX9_ones 17 = .ok (.goto (-13), 3) := by decide +kernel
theorem dX9_ones_20 : decode cX9_ones 20 = .ok (.iload_n 1, 1) := by decide +kernel
theorem dX9_ones_21 : decode cX9_ones 21 = .ok (.ireturn, 1) := by decide +kernel
theorem dX9_begin_0 : decode cX9_begin 0 = .ok (.aload_n 0, 1) := by decide +kernel
theorem dX9_begin_1 : decode cX9_begin 1 = .ok (.iload_n 1, 1) := by decide +kernel
theorem dX9_begin_2 : decode cX9_begin 2 = .ok (.putfield 70, 3) := by decide +kernel
theorem dX9_begin_5 : decode cX9_begin 5 = .ok (.aload_n 0, 1) := by decide +kernel
theorem dX9_begin_6 : decode cX9_begin 6 = .ok (.iconst 0, 1) := by decide +kernel
theorem dX9_begin_7 : decode cX9_begin 7 = .ok (.putfield 73, 3) := by decide +kernel
theorem dX9_begin_10 : decode cX9_begin 10 = .ok (.aload_n 0, 1) := by decide +kernel
theorem dX9_begin_11 : decode cX9_begin 11 = .ok (.bipush (-6), 2) := by decide +kernel
theorem dX9_begin_13 : decode cX9_begin 13 = .ok (.putfield 76, 3) := by decide +kernel
theorem dX9_begin_16 : decode cX9_begin 16 = .ok (.aload_n 0, 1) := by decide +kernel
theorem dX9_begin_17 : decode cX9_begin 17 = .ok (.iconst 0, 1) := by decide +kernel
theorem dX9_begin_18 : decode cX9_begin 18 = .ok (.putfield 79, 3) := by decide +kernel
theorem dX9_begin_21 : decode cX9_begin 21 = .ok (.iconst 0, 1) := by decide +kernel
theorem dX9_begin_22 : decode cX9_begin 22 = .ok (.istore_n 2, 1) := by decide +kernel
theorem dX9_begin_23 : decode cX9_begin 23 = .ok (.iload_n 2, 1) := by decide +kernel
theorem dX9_begin_24 : decode cX9_begin 24 = .ok (.bipush 8, 2) := by decide +kernel
theorem dX9_begin_26 : decode cX9_begin 26 = .ok (.if_icmp .ge 47, 3) := by decide +kernel
theorem dX9_begin_29 : decode cX9_begin 29 = .ok (.aload_n 0, 1) := by decide +kernel
theorem dX9_begin_30 : decode cX9_begin 30 = .ok (.getfield 13, 3) := by decide +kernel
theorem dX9_begin_33 : decode cX9_begin 33 = .ok (.iload_n 2, 1) := by decide +kernel
theorem dX9_begin_34 : decode cX9_begin 34 = .ok (.bipush 30, 2) := by decide +kernel
theorem dX9_begin_36 : decode cX9_begin 36 = .ok (.iastore, 1) := by decide +kernel
theorem dX9_begin_37 : decode cX9_begin 37 = .ok (.aload_n 0, 1) := by decide +kernel
theorem dX9_begin_38 : decode cX9_begin 38 = .ok (.getfield 16, 3) := by decide +kernel
theorem dX9_begin_41 : decode cX9_begin 41 = .ok (.iload_n 2, 1) := by decide +kernel
theorem dX9_begin_42 : decode cX9_begin 42 = .ok (.iconst 2, 1) := by decide +kernel
theorem dX9_begin_43 : decode cX9_begin 43 = .ok (.iastore, 1) := by decide +kernel
theorem dX9_begin_44 : decode cX9_begin 44 = .ok (.aload_n 0, 1) := by decide +kernel
theorem dX9_begin_45 : decode cX9_begin 45 = .ok (.getfield 19, 3) := by decide +kernel
theorem dX9_begin_48 : decode cX9_begin 48 = .ok (.iload_n 2, 1) := by decide +kernel
theorem dX9_begin_49 : decode cX9_begin 49 = .ok (.iconst 0, 1) := by decide +kernel
theorem dX9_begin_50 : decode cX9_begin 50 = .ok (.iastore, 1) := by decide +kernel
theorem dX9_begin_51 : decode cX9_begin 51 = .ok (.aload_n 0, 1) := by decide +kernel
theorem dX9_begin_52 : decode cX9_begin 52 = .ok (.getfield 22, 3) := by decide +kernel
theorem dX9_begin_55 : decode cX9_begin 55 = .ok (.iload_n 2, 1) := by decide +kernel
theorem dX9_begin_56 : decode cX9_begin 56 = .ok (.iconst 1, 1) := by decide +kernel
theorem dX9_begin_57 : decode cX9_begin 57 = .ok (.iastore, 1) := by decide +kernel
theorem dX9_begin_58 : decode cX9_begin 58 = .ok (.aload_n 0, 1) := by decide +kernel
theorem dX9_begin_59 : decode cX9_begin 59 = .ok (.getfield 25, 3) := by decide +kernel
theorem dX9_begin_62 : decode cX9_begin 62 = .ok (.iload_n 2, 1) := by decide +kernel
theorem dX9_begin_63 : decode cX9_begin 63 = .ok (.sipush 170, 3) := by decide +kernel
theorem dX9_begin_66 : decode cX9_begin 66 = .ok (.iastore, 1) := by decide +kernel
theorem dX9_begin_67 : decode cX9_begin 67 = .ok (.iinc 2 1, 3) := by decide +kernel
theorem dX9_begin_70 : decode cX9_begin 70 = .ok (.goto (-47), 3) := by decide +kernel
theorem dX9_begin_73 : decode cX9_begin 73 = .ok (.iconst 0, 1) := by decide +kernel
theorem dX9_begin_74 : decode cX9_begin 74 = .ok (.istore_n 2, 1) := by decide +kernel
theorem dX9_begin_75 : decode cX9_begin 75 = .ok (.iload_n 2, 1) := by decide +kernel
theorem dX9_begin_76 : decode cX9_begin 76 = .ok (.bipush 64, 2) := by decide +kernel
theorem dX9_begin_78 : decode cX9_begin 78 = .ok (.if_icmp .ge 16, 3) := by decide +kernel
theorem dX9_begin_81 : decode cX9_begin 81 = .ok (.aload_n 0, 1) := by decide +kernel
theorem dX9_begin_82 : decode cX9_begin 82 = .ok (.getfield 28, 3) := by decide +kernel
theorem dX9_begin_85 : decode cX9_begin 85 = .ok (.iload_n 2, 1) := by decide +kernel
theorem dX9_begin_86 : decode cX9_begin 86 = .ok (.iconst 0, 1) := by decide +kernel
theorem dX9_begin_87 : decode cX9_begin 87 = .ok (.iastore, 1) := by decide +kernel
theorem dX9_begin_88 : decode cX9_begin 88 = .ok (.iinc 2 1, 3) := by decide +kernel
theorem dX9_begin_91 : decode cX9_begin 91 = .ok (.goto (-16), 3) := by decide +kernel
theorem dX9_begin_94 : decode cX9_begin 94 = .ok (.return_, 1) := by decide +kernel
theorem dX9_isPerson_0 : decode cX9_isPerson 0 = .ok (.iload_n 1, 1) := by decide +kernel
theorem dX9_isPerson_1 : decode cX9_isPerson 1 = .ok (.i2l, 1) := by decide +kernel
theorem dX9_isPerson_2 : decode cX9_isPerson 2 = .ok (.lconst 0, 1) := by decide +kernel
theorem dX9_isPerson_3 : decode cX9_isPerson 3 = .ok (.aload_n 0, 1) := by decide +kernel
theorem dX9_isPerson_4 : decode cX9_isPerson 4 = .ok (.getfield 70, 3) := by decide +kernel
theorem dX9_isPerson_7 : decode cX9_isPerson 7 = .ok (.iconst 1, 1) := by decide +kernel
theorem dX9_isPerson_8 : decode cX9_isPerson 8 = .ok (.isub, 1) := by decide +kernel
theorem dX9_isPerson_9 : decode cX9_isPerson 9 = .ok (.i2l, 1) := by decide +kernel
theorem dX9_isPerson_10 : decode cX9_isPerson 10 = .ok (.invokestatic 82, 3) := by decide +kernel
theorem dX9_isPerson_13 : decode cX9_isPerson 13 = .ok (.ireturn, 1) := by decide +kernel
theorem dX9_people_0 : decode cX9_people 0 = .ok (.iload_n 1, 1) := by decide +kernel
theorem dX9_people_1 : decode cX9_people 1 = .ok (.i2l, 1) := by decide +kernel
theorem dX9_people_2 : decode cX9_people 2 = .ok (.lconst 1, 1) := by decide +kernel
theorem dX9_people_3 : decode cX9_people 3 = .ok (.ldc2_w 86, 3) := by decide +kernel
theorem dX9_people_6 : decode cX9_people 6 = .ok (.invokestatic 82, 3) := by decide +kernel
theorem dX9_people_9 : decode cX9_people 9 = .ok (.ifCond .ne 6, 3) := by decide +kernel
theorem dX9_people_12 : decode cX9_people 12 = .ok (.bipush (-2), 2) := by decide +kernel
theorem dX9_people_14 : decode cX9_people 14 = .ok (.ireturn, 1) := by decide +kernel
theorem dX9_people_15 : decode cX9_people 15 = .ok (.aload_n 0, 1) := by decide +kernel
theorem dX9_people_16 : decode cX9_people 16 = .ok (.getfield 70, 3) := by decide +kernel
theorem dX9_people_19 : decode cX9_people 19 = .ok (.istore_n 2, 1) := by decide +kernel
theorem dX9_people_20 : decode cX9_people 20 = .ok (.aload_n 0, 1) := by decide +kernel
theorem dX9_people_21 : decode cX9_people 21 = .ok (.iload_n 1, 1) := by decide +kernel
theorem dX9_people_22 : decode cX9_people 22 = .ok (.invokevirtual 66, 3) := by decide +kernel
theorem dX9_people_25 : decode cX9_people 25 = .ok (.iload_n 2, 1) := by decide +kernel
theorem dX9_people_26 : decode cX9_people 26 = .ok (.ireturn, 1) := by decide +kernel
theorem dX9_bride_0 : decode cX9_bride 0 = .ok (.iload_n 1, 1) := by decide +kernel
theorem dX9_bride_1 : decode cX9_bride 1 = .ok (.iconst (-1), 1) := by decide +kernel
theorem dX9_bride_2 : decode cX9_bride 2 = .ok (.if_icmp .eq 13, 3) := by decide +kernel
theorem dX9_bride_5 : decode cX9_bride 5 = .ok (.aload_n 0, 1) := by decide +kernel
theorem dX9_bride_6 : decode cX9_bride 6 = .ok (.iload_n 1, 1) := by decide +kernel
theorem dX9_bride_7 : decode cX9_bride 7 = .ok (.invokevirtual 88, 3) := by decide +kernel
theorem dX9_bride_10 : decode cX9_bride 10 = .ok (.ifCond .ne 5, 3) := by decide +kernel
theorem dX9_bride_13 : decode cX9_bride 13 = .ok (.iconst (-1), 1) := by decide +kernel
theorem dX9_bride_14 : decode cX9_bride 14 = .ok (.ireturn, 1) := by decide +kernel
theorem dX9_bride_15 : decode cX9_bride 15 = .ok (.aload_n 0, 1) := by decide +kernel
theorem dX9_bride_16 : decode cX9_bride 16 = .ok (.getfield 76, 3) := by decide +kernel
theorem dX9_bride_19 : decode cX9_bride 19 = .ok (.istore_n 2, 1) := by decide +kernel
theorem dX9_bride_20 : decode cX9_bride 20 = .ok (.aload_n 0, 1) := by decide +kernel
theorem dX9_bride_21 : decode cX9_bride 21 = .ok (.iload_n 1, 1) := by decide +kernel
theorem dX9_bride_22 : decode cX9_bride 22 = .ok (.iconst (-1), 1) := by decide +kernel
theorem dX9_bride_23 : decode cX9_bride 23 = .ok (.if_icmp .ne 8, 3) := by decide +kernel
theorem dX9_bride_26 : decode cX9_bride 26 = .ok (.bipush (-6), 2) := by decide +kernel
theorem dX9_bride_28 : decode cX9_bride 28 = .ok (.goto 4, 3) := by decide +kernel
theorem dX9_bride_31 : decode cX9_bride 31 = .ok (.iload_n 1, 1) := by decide +kernel
theorem dX9_bride_32 : decode cX9_bride 32 = .ok (.putfield 76, 3) := by decide +kernel
theorem dX9_bride_35 : decode cX9_bride 35 = .ok (.iload_n 2, 1) := by decide +kernel
theorem dX9_bride_36 : decode cX9_bride 36 = .ok (.ireturn, 1) := by decide +kernel
theorem dX9_say_0 : decode cX9_say 0 = .ok (.iload_n 1, 1) := by decide +kernel
theorem dX9_say_1 : decode cX9_say 1 = .ok (.i2l, 1) := by decide +kernel
theorem dX9_say_2 : decode cX9_say 2 = .ok (.ldc2_w 92, 3) := by decide +kernel
theorem dX9_say_5 : decode cX9_say 5 = .ok (.ldc2_w 94, 3) := by decide +kernel
theorem dX9_say_8 : decode cX9_say 8 = .ok (.invokestatic 82, 3) := by decide +kernel
theorem dX9_say_11 : decode cX9_say 11 = .ok (.ifCond .ne 6, 3) := by decide +kernel
theorem dX9_say_14 : decode cX9_say 14 = .ok (.bipush (-2), 2) := by decide +kernel
theorem dX9_say_16 : decode cX9_say 16 = .ok (.ireturn, 1) := by decide +kernel
theorem dX9_say_17 : decode cX9_say 17 = .ok (.aload_n 0, 1) := by decide +kernel
theorem dX9_say_18 : decode cX9_say 18 = .ok (.getfield 96, 3) := by decide +kernel
theorem dX9_say_21 : decode cX9_say 21 = .ok (.bipush 40, 2) := by decide +kernel
theorem dX9_say_23 : decode cX9_say 23 = .ok (.if_icmp .ne 6, 3) := by decide +kernel
theorem dX9_say_26 : decode cX9_say 26 = .ok (.bipush (-4), 2) := by decide +kernel
theorem dX9_say_28 : decode cX9_say 28 = .ok (.ireturn, 1) := by decide +kernel
theorem dX9_say_29 : decode cX9_say 29 = .ok (.aload_n 0, 1) := by decide +kernel
theorem dX9_say_30 : decode cX9_say 30 = .ok (.getfield 31, 3) := by decide +kernel
theorem dX9_say_33 : decode cX9_say 33 = .ok (.aload_n 0, 1) := by decide +kernel
theorem dX9_say_34 : decode cX9_say 34 = .ok (.getfield 96, 3) := by decide +kernel
theorem dX9_say_37 : decode cX9_say 37 = .ok (.iload_n 1, 1) := by decide +kernel
theorem dX9_say_38 : decode cX9_say 38 = .ok (.iastore, 1) := by decide +kernel
theorem dX9_say_39 : decode cX9_say 39 = .ok (.aload_n 0, 1) := by decide +kernel
theorem dX9_say_40 : decode cX9_say 40 = .ok (.dup, 1) := by decide +kernel
theorem dX9_say_41 : decode cX9_say 41 = .ok (.getfield 96, 3) := by decide +kernel
theorem dX9_say_44 : decode cX9_say 44 = .ok (.iconst 1, 1) := by decide +kernel
theorem dX9_say_45 : decode cX9_say 45 = .ok (.iadd, 1) := by decide +kernel
end
section
theorem dX9_say_46 : decode cX9_say 46 = .ok (.putfield 96, 3) := by decide +kernel
theorem dX9_say_49 : decode cX9_say 49 = .ok (.aload_n 0, 1) := by decide +kernel
theorem dX9_say_50 : decode cX9_say 50 = .ok (.getfield 96, 3) := by decide +kernel
theorem dX9_say_53 : decode cX9_say 53 = .ok (.ireturn, 1) := by decide +kernel
theorem dX9_wipe_0 : decode cX9_wipe 0 = .ok (.aload_n 0, 1) := by decide +kernel
theorem dX9_wipe_1 : decode cX9_wipe 1 = .ok (.getfield 96, 3) := by decide +kernel
theorem dX9_wipe_4 : decode cX9_wipe 4 = .ok (.istore_n 1, 1) := by decide +kernel
theorem dX9_wipe_5 : decode cX9_wipe 5 = .ok (.aload_n 0, 1) := by decide +kernel
theorem dX9_wipe_6 : decode cX9_wipe 6 = .ok (.iconst 0, 1) := by decide +kernel
theorem dX9_wipe_7 : decode cX9_wipe 7 = .ok (.putfield 96, 3) := by decide +kernel
theorem dX9_wipe_10 : decode cX9_wipe 10 = .ok (.iload_n 1, 1) := by decide +kernel
theorem dX9_wipe_11 : decode cX9_wipe 11 = .ok (.ireturn, 1) := by decide +kernel
theorem dX9_isLook_0 : decode cX9_isLook 0 = .ok (.iload_n 0, 1) := by decide +kernel
theorem dX9_isLook_1 : decode cX9_isLook 1 = .ok (.bipush 111, 2) := by decide +kernel
theorem dX9_isLook_3 : decode cX9_isLook 3 = .ok (.if_icmp .eq 21, 3) := by decide +kernel
theorem dX9_isLook_6 : decode cX9_isLook 6 = .ok (.iload_n 0, 1) := by decide +kernel
theorem dX9_isLook_7 : decode cX9_isLook 7 = .ok (.bipush 115, 2) := by decide +kernel
theorem dX9_isLook_9 : decode cX9_isLook 9 = .ok (.if_icmp .eq 15, 3) := by decide +kernel
theorem dX9_isLook_12 : decode cX9_isLook 12 = .ok (.iload_n 0, 1) := by decide +kernel
theorem dX9_isLook_13 : decode cX9_isLook 13 = .ok (.bipush 116, 2) := by decide +kernel
theorem dX9_isLook_15 : decode cX9_isLook 15 = .ok (.if_icmp .eq 9, 3) := by decide +kernel
theorem dX9_isLook_18 : decode cX9_isLook 18 = .ok (.iload_n 0, 1) := by decide +kernel
theorem dX9_isLook_19 : decode cX9_isLook 19 = .ok (.bipush 104, 2) := by decide +kernel
theorem dX9_isLook_21 : decode cX9_isLook 21 = .ok (.if_icmp .ne 7, 3) := by decide +kernel
theorem dX9_isLook_24 : decode cX9_isLook 24 = .ok (.iconst 1, 1) := by decide +kernel
theorem dX9_isLook_25 : decode cX9_isLook 25 = .ok (.goto 4, 3) := by decide +kernel
theorem dX9_isLook_28 : decode cX9_isLook 28 = .ok (.iconst 0, 1) := by decide +kernel
theorem dX9_isLook_29 : decode cX9_isLook 29 = .ok (.ireturn, 1) := by decide +kernel
theorem dX9_places_0 : decode cX9_places 0 = .ok (.aload_n 0, 1) := by decide +kernel
theorem dX9_places_1 : decode cX9_places 1 = .ok (.getfield 54, 3) := by decide +kernel
theorem dX9_places_4 : decode cX9_places 4 = .ok (.aload_n 0, 1) := by decide +kernel
theorem dX9_places_5 : decode cX9_places 5 = .ok (.getfield 57, 3) := by decide +kernel
theorem dX9_places_8 : decode cX9_places 8 = .ok (.imul, 1) := by decide +kernel
theorem dX9_places_9 : decode cX9_places 9 = .ok (.ireturn, 1) := by decide +kernel
theorem dX9_faultOfShot_0 : decode cX9_faultOfShot 0 = .ok (.iconst 0, 1) := by decide +kernel
theorem dX9_faultOfShot_1 : decode cX9_faultOfShot 1 = .ok (.istore_n 1, 1) := by decide +kernel
theorem dX9_faultOfShot_2 : decode cX9_faultOfShot 2 = .ok (.iload_n 1, 1) := by decide +kernel
theorem dX9_faultOfShot_3 : decode cX9_faultOfShot 3 = .ok (.aload_n 0, 1) := by decide +kernel
theorem dX9_faultOfShot_4 : decode cX9_faultOfShot 4 = .ok (.getfield 96, 3) := by decide +kernel
theorem dX9_faultOfShot_7 : decode cX9_faultOfShot 7 = .ok (.if_icmp .ge 31, 3) := by decide +kernel
theorem dX9_faultOfShot_10 : decode cX9_faultOfShot 10 = .ok (.iload_n 1, 1) := by decide +kernel
theorem dX9_faultOfShot_11 : decode cX9_faultOfShot 11 = .ok (.aload_n 0, 1) := by decide +kernel
theorem dX9_faultOfShot_12 : decode cX9_faultOfShot 12 = .ok (.getfield 70, 3) := by decide +kernel
theorem dX9_faultOfShot_15 : decode cX9_faultOfShot 15 = .ok (.if_icmp .eq 15, 3) := by decide +kernel
theorem dX9_faultOfShot_18 : decode cX9_faultOfShot 18 = .ok (.aload_n 0, 1) := by decide +kernel
theorem dX9_faultOfShot_19 : decode cX9_faultOfShot 19 = .ok (.getfield 31, 3) := by decide +kernel
theorem dX9_faultOfShot_22 : decode cX9_faultOfShot 22 = .ok (.iload_n 1, 1) := by decide +kernel
theorem dX9_faultOfShot_23 : decode cX9_faultOfShot 23 = .ok (.iaload, 1) := by decide +kernel
theorem dX9_faultOfShot_24 : decode cX9_faultOfShot 24 = .ok (.invokestatic 99, 3) := by decide +kernel
theorem dX9_faultOfShot_27 : decode cX9_faultOfShot 27 = .ok (.ifCond .ne 5, 3) := by decide +kernel
theorem dX9_faultOfShot_30 : decode cX9_faultOfShot 30 = .ok (.iload_n 1, 1) := by decide +kernel
theorem dX9_faultOfShot_31 : decode cX9_faultOfShot 31 = .ok (.ireturn, 1) := by decide +kernel
theorem dX9_faultOfShot_32 : decode cX9_faultOfShot 32 = .ok (.iinc 1 1, 3) := by decide +kernel
theorem dX9_faultOfShot_35 : decode cX9_faultOfShot 35 = .ok (.goto (-33), 3) := by decide +kernel
theorem dX9_faultOfShot_38 : decode cX9_faultOfShot 38 = .ok (.aload_n 0, 1) := by decide +kernel
theorem dX9_faultOfShot_39 : decode cX9_faultOfShot 39 = .ok (.getfield 96, 3) := by decide +kernel
theorem dX9_faultOfShot_42 : decode cX9_faultOfShot 42 = .ok (.aload_n 0, 1) := by decide +kernel
theorem dX9_faultOfShot_43 : decode cX9_faultOfShot 43 = .ok (.getfield 70, 3) := by decide +kernel
theorem dX9_faultOfShot_46 : decode cX9_faultOfShot 46 = .ok (.if_icmp .ge 10, 3) := by decide +kernel
theorem dX9_faultOfShot_49 : decode cX9_faultOfShot 49 = .ok (.aload_n 0, 1) := by decide +kernel
theorem dX9_faultOfShot_50 : decode cX9_faultOfShot 50 = .ok (.getfield 96, 3) := by decide +kernel
theorem dX9_faultOfShot_53 : decode cX9_faultOfShot 53 = .ok (.goto 5, 3) := by decide +kernel
theorem dX9_faultOfShot_56 : decode cX9_faultOfShot 56 = .ok (.bipush (-6), 2) := by decide +kernel
theorem dX9_faultOfShot_58 : decode cX9_faultOfShot 58 = .ok (.ireturn, 1) := by decide +kernel
theorem dX9_faultOfStanding_0 : decode cX9_faultOfStanding 0 = .ok (.iconst 0, 1) := by decide +kernel
theorem dX9_faultOfStanding_1 : decode cX9_faultOfStanding 1 = .ok (.istore_n 1, 1) := by decide +kernel
theorem dX9_faultOfStanding_2 : decode cX9_faultOfStanding 2 = .ok (.iconst 0, 1) := by decide +kernel
theorem dX9_faultOfStanding_3 : decode cX9_faultOfStanding 3 = .ok (.istore_n 2, 1) := by decide +kernel
theorem dX9_faultOfStanding_4 : decode cX9_faultOfStanding 4 = .ok (.iload_n 2, 1) := by decide +kernel
theorem dX9_faultOfStanding_5 : decode cX9_faultOfStanding 5 = .ok (.aload_n 0, 1) := by decide +kernel
theorem dX9_faultOfStanding_6 : decode cX9_faultOfStanding 6 = .ok (.getfield 96, 3) := by decide +kernel
theorem dX9_faultOfStanding_9 : decode cX9_faultOfStanding 9 = .ok (.if_icmp .ge 60, 3) := by decide +kernel
theorem dX9_faultOfStanding_12 : decode cX9_faultOfStanding 12 = .ok (.aload_n 0, 1) := by decide +kernel
theorem dX9_faultOfStanding_13 : decode cX9_faultOfStanding 13 = .ok (.getfield 31, 3) := by decide +kernel
theorem dX9_faultOfStanding_16 : decode cX9_faultOfStanding 16 = .ok (.iload_n 2, 1) := by decide +kernel
theorem dX9_faultOfStanding_17 : decode cX9_faultOfStanding 17 = .ok (.iaload, 1) := by decide +kernel
theorem dX9_faultOfStanding_18 : decode cX9_faultOfStanding 18 = .ok (.bipush 48, 2) := by decide +kernel
theorem dX9_faultOfStanding_20 : decode cX9_faultOfStanding 20 = .ok (.isub, 1) := by decide +kernel
theorem dX9_faultOfStanding_21 : decode cX9_faultOfStanding 21 = .ok (.istore_n 3, 1) := by decide +kernel
theorem dX9_faultOfStanding_22 : decode cX9_faultOfStanding 22 = .ok (.iload_n 2, 1) := by decide +kernel
theorem dX9_faultOfStanding_23 : decode cX9_faultOfStanding 23 = .ok (.aload_n 0, 1) := by decide +kernel
theorem dX9_faultOfStanding_24 : decode cX9_faultOfStanding 24 = .ok (.getfield 70, 3) := by decide +kernel
theorem dX9_faultOfStanding_27 : decode cX9_faultOfStanding 27 = .ok (.if_icmp .eq 28, 3) := by decide +kernel
theorem dX9_faultOfStanding_30 : decode cX9_faultOfStanding 30 = .ok (.iload_n 3, 1) := by decide +kernel
theorem dX9_faultOfStanding_31 : decode cX9_faultOfStanding 31 = .ok (.i2l, 1) := by decide +kernel
theorem dX9_faultOfStanding_32 : decode cX9_faultOfStanding 32 = .ok (.lconst 0, 1) := by decide +kernel
theorem dX9_faultOfStanding_33 : decode cX9_faultOfStanding 33 = .ok (.aload_n 0, 1) := by decide +kernel
theorem dX9_faultOfStanding_34 : decode cX9_faultOfStanding 34 = .ok (.invokevirtual 102, 3) := by decide +kernel
theorem dX9_faultOfStanding_37 : decode cX9_faultOfStanding 37 = .ok (.iconst 1, 1) := by decide +kernel
theorem dX9_faultOfStanding_38 : decode cX9_faultOfStanding 38 = .ok (.isub, 1) := by decide +kernel
theorem dX9_faultOfStanding_39 : decode cX9_faultOfStanding 39 = .ok (.i2l, 1) := by decide +kernel
theorem dX9_faultOfStanding_40 : decode cX9_faultOfStanding 40 = .ok (.invokestatic 82, 3) := by decide +kernel
theorem dX9_faultOfStanding_43 : decode cX9_faultOfStanding 43 = .ok (.ifCond .eq 12, 3) := by decide +kernel
theorem dX9_faultOfStanding_46 : decode cX9_faultOfStanding 46 = .ok (.iload_n 1, 1) := by decide +kernel
theorem dX9_faultOfStanding_47 : decode cX9_faultOfStanding 47 = .ok (.iload_n 3, 1) := by decide +kernel
theorem dX9_faultOfStanding_48 : decode cX9_faultOfStanding 48 = .ok (.ishr, 1) := by decide +kernel
theorem dX9_faultOfStanding_49 : decode cX9_faultOfStanding 49 = .ok (.iconst 1, 1) := by decide +kernel
theorem dX9_faultOfStanding_50 : decode cX9_faultOfStanding 50 = .ok (.iand, 1) := by decide +kernel
theorem dX9_faultOfStanding_51 : decode cX9_faultOfStanding 51 = .ok (.iconst 1, 1) := by decide +kernel
theorem dX9_faultOfStanding_52 : decode cX9_faultOfStanding 52 = .ok (.if_icmp .ne 5, 3) := by decide +kernel
theorem dX9_faultOfStanding_55 : decode cX9_faultOfStanding 55 = .ok (.iload_n 2, 1) := by decide +kernel
theorem dX9_faultOfStanding_56 : decode cX9_faultOfStanding 56 = .ok (.ireturn, 1) := by decide +kernel
theorem dX9_faultOfStanding_57 : decode cX9_faultOfStanding 57 = .ok (.iload_n 1, 1) := by decide +kernel
theorem dX9_faultOfStanding_58 : decode cX9_faultOfStanding 58 = .ok (.iconst 1, 1) := by decide +kernel
theorem dX9_faultOfStanding_59 : decode cX9_faultOfStanding 59 = .ok (.iload_n 3, 1) := by decide +kernel
theorem dX9_faultOfStanding_60 : decode cX9_faultOfStanding 60 = .ok (.ishl, 1) := by decide +kernel
theorem dX9_faultOfStanding_61 : decode cX9_faultOfStanding 61 = .ok (.ior, 1) := by decide +kernel
theorem dX9_faultOfStanding_62 : decode cX9_faultOfStanding 62 = .ok (.istore_n 1, 1) := by decide +kernel
theorem dX9_faultOfStanding_63 : decode cX9_faultOfStanding 63 = .ok (.iinc 2 1, 3) := by decide +kernel
theorem dX9_faultOfStanding_66 : decode cX9_faultOfStanding 66 = .ok (.goto (-62), 3) := by decide +kernel
theorem dX9_faultOfStanding_69 : decode cX9_faultOfStanding 69 = .ok (.aload_n 0, 1) := by decide +kernel
theorem dX9_faultOfStanding_70 : decode cX9_faultOfStanding 70 = .ok (.getfield 96, 3) := by decide +kernel
theorem dX9_faultOfStanding_73 : decode cX9_faultOfStanding 73 = .ok (.aload_n 0, 1) := by decide +kernel
theorem dX9_faultOfStanding_74 : decode cX9_faultOfStanding 74 = .ok (.getfield 70, 3) := by decide +kernel
theorem dX9_faultOfStanding_77 : decode cX9_faultOfStanding 77 = .ok (.if_icmp .ge 10, 3) := by decide +kernel
theorem dX9_faultOfStanding_80 : decode cX9_faultOfStanding 80 = .ok (.aload_n 0, 1) := by decide +kernel
theorem dX9_faultOfStanding_81 : decode cX9_faultOfStanding 81 = .ok (.getfield 96, 3) := by decide +kernel
theorem dX9_faultOfStanding_84 : decode cX9_faultOfStanding 84 = .ok (.goto 5, 3) := by decide +kernel
theorem dX9_faultOfStanding_87 : decode cX9_faultOfStanding 87 = .ok (.bipush (-6), 2) := by decide +kernel
theorem dX9_faultOfStanding_89 : decode cX9_faultOfStanding 89 = .ok (.ireturn, 1) := by decide +kernel
theorem dX9_fault_0 : decode cX9_fault 0 = .ok (.iload_n 1, 1) := by decide +kernel
theorem dX9_fault_1 : decode cX9_fault 1 = .ok (.ifCond .ne 10, 3) := by decide +kernel
theorem dX9_fault_4 : decode cX9_fault 4 = .ok (.aload_n 0, 1) := by decide +kernel
theorem dX9_fault_5 : decode cX9_fault 5 = .ok (.invokevirtual 106, 3) := by decide +kernel
theorem dX9_fault_8 : decode cX9_fault 8 = .ok (.goto 17, 3) := by decide +kernel
theorem dX9_fault_11 : decode cX9_fault 11 = .ok (.iload_n 1, 1) := by decide +kernel
theorem dX9_fault_12 : decode cX9_fault 12 = .ok (.iconst 1, 1) := by decide +kernel
theorem dX9_fault_13 : decode cX9_fault 13 = .ok (.if_icmp .ne 10, 3) := by decide +kernel
theorem dX9_fault_16 : decode cX9_fault 16 = .ok (.aload_n 0, 1) := by decide +kernel
theorem dX9_fault_17 : decode cX9_fault 17 = .ok (.invokevirtual 109, 3) := by decide +kernel
theorem dX9_fault_20 : decode cX9_fault 20 = .ok (.goto 5, 3) := by decide +kernel
theorem dX9_fault_23 : decode cX9_fault 23 = .ok (.bipush (-2), 2) := by decide +kernel
theorem dX9_fault_25 : decode cX9_fault 25 = .ok (.ireturn, 1) := by decide +kernel
theorem dX9_shot_0 : decode cX9_shot 0 = .ok (.aload_n 0, 1) := by decide +kernel
theorem dX9_shot_1 : decode cX9_shot 1 = .ok (.invokevirtual 106, 3) := by decide +kernel
theorem dX9_shot_4 : decode cX9_shot 4 = .ok (.ifCond .lt 6, 3) := by decide +kernel
theorem dX9_shot_7 : decode cX9_shot 7 = .ok (.bipush (-5), 2) := by decide +kernel
theorem dX9_shot_9 : decode cX9_shot 9 = .ok (.ireturn, 1) := by decide +kernel
theorem dX9_shot_10 : decode cX9_shot 10 = .ok (.aload_n 0, 1) := by decide +kernel
theorem dX9_shot_11 : decode cX9_shot 11 = .ok (.getfield 73, 3) := by decide +kernel
theorem dX9_shot_14 : decode cX9_shot 14 = .ok (.bipush 10, 2) := by decide +kernel
theorem dX9_shot_16 : decode cX9_shot 16 = .ok (.if_icmp .ne 6, 3) := by decide +kernel
theorem dX9_shot_19 : decode cX9_shot 19 = .ok (.bipush (-4), 2) := by decide +kernel
theorem dX9_shot_21 : decode cX9_shot 21 = .ok (.ireturn, 1) := by decide +kernel
theorem dX9_shot_22 : decode cX9_shot 22 = .ok (.iconst 0, 1) := by decide +kernel
theorem dX9_shot_23 : decode cX9_shot 23 = .ok (.istore_n 1, 1) := by decide +kernel
theorem dX9_shot_24 : decode cX9_shot 24 = .ok (.iload_n 1, 1) := by decide +kernel
theorem dX9_shot_25 : decode cX9_shot 25 = .ok (.aload_n 0, 1) := by decide +kernel
theorem dX9_shot_26 : decode cX9_shot 26 = .ok (.getfield 70, 3) := by decide +kernel
theorem dX9_shot_29 : decode cX9_shot 29 = .ok (.if_icmp .ge 29, 3) := by decide +kernel
theorem dX9_shot_32 : decode cX9_shot 32 = .ok (.aload_n 0, 1) := by decide +kernel
theorem dX9_shot_33 : decode cX9_shot 33 = .ok (.getfield 7, 3) := by decide +kernel
theorem dX9_shot_36 : decode cX9_shot 36 = .ok (.bipush 8, 2) := by decide +kernel
theorem dX9_shot_38 : decode cX9_shot 38 = .ok (.aload_n 0, 1) := by decide +kernel
theorem dX9_shot_39 : decode cX9_shot 39 = .ok (.getfield 73, 3) := by decide +kernel
theorem dX9_shot_42 : decode cX9_shot 42 = .ok (.imul, 1) := by decide +kernel
theorem dX9_shot_43 : decode cX9_shot 43 = .ok (.iload_n 1, 1) := by decide +kernel
theorem dX9_shot_44 : decode cX9_shot 44 = .ok (.iadd, 1) := by decide +kernel
theorem dX9_shot_45 : decode cX9_shot 45 = .ok (.aload_n 0, 1) := by decide +kernel
theorem dX9_shot_46 : decode cX9_shot 46 = .ok (.getfield 31, 3) := by decide +kernel
theorem dX9_shot_49 : decode cX9_shot 49 = .ok (.iload_n 1, 1) := by decide +kernel
theorem dX9_shot_50 : decode cX9_shot 50 = .ok (.iaload, 1) := by decide +kernel
theorem dX9_shot_51 : decode cX9_shot 51 = .ok (.iastore, 1) := by decide +kernel
theorem dX9_shot_52 : decode cX9_shot 52 = .ok (.iinc 1 1, 3) := by decide +kernel
theorem dX9_shot_55 : decode cX9_shot 55 = .ok (.goto (-31), 3) := by decide +kernel
theorem dX9_shot_58 : decode cX9_shot 58 = .ok (.aload_n 0, 1) := by decide +kernel
theorem dX9_shot_59 : decode cX9_shot 59 = .ok (.iconst 0, 1) := by decide +kernel
theorem dX9_shot_60 : decode cX9_shot 60 = .ok (.putfield 96, 3) := by decide +kernel
theorem dX9_shot_63 : decode cX9_shot 63 = .ok (.aload_n 0, 1) := by decide +kernel
theorem dX9_shot_64 : decode cX9_shot 64 = .ok (.dup, 1) := by decide +kernel
theorem dX9_shot_65 : decode cX9_shot 65 = .ok (.getfield 73, 3) := by decide +kernel
theorem dX9_shot_68 : decode cX9_shot 68 = .ok (.iconst 1, 1) := by decide +kernel
theorem dX9_shot_69 : decode cX9_shot 69 = .ok (.iadd, 1) := by decide +kernel
theorem dX9_shot_70 : decode cX9_shot 70 = .ok (.putfield 73, 3) := by decide +kernel
theorem dX9_shot_73 : decode cX9_shot 73 = .ok (.aload_n 0, 1) := by decide +kernel
theorem dX9_shot_74 : decode cX9_shot 74 = .ok (.getfield 73, 3) := by decide +kernel
theorem dX9_shot_77 : decode cX9_shot 77 = .ok (.iconst 1, 1) := by decide +kernel
theorem dX9_shot_78 : decode cX9_shot 78 = .ok (.isub, 1) := by decide +kernel
theorem dX9_shot_79 : decode cX9_shot 79 = .ok (.ireturn, 1) := by decide +kernel
theorem dX9_look_0 : decode cX9_look 0 = .ok (.iload_n 1, 1) := by decide +kernel
theorem dX9_look_1 : decode cX9_look 1 = .ok (.i2l, 1) := by decide +kernel
theorem dX9_look_2 : decode cX9_look 2 = .ok (.lconst 0, 1) := by decide +kernel
theorem dX9_look_3 : decode cX9_look 3 = .ok (.aload_n 0, 1) := by decide +kernel
theorem dX9_look_4 : decode cX9_look 4 = .ok (.getfield 73, 3) := by decide +kernel
theorem dX9_look_7 : decode cX9_look 7 = .ok (.iconst 1, 1) := by decide +kernel
theorem dX9_look_8 : decode cX9_look 8 = .ok (.isub, 1) := by decide +kernel
theorem dX9_look_9 : decode cX9_look 9 = .ok (.i2l, 1) := by decide +kernel
theorem dX9_look_10 : decode cX9_look 10 = .ok (.invokestatic 82, 3) := by decide +kernel
theorem dX9_look_13 : decode cX9_look 13 = .ok (.ifCond .eq 25, 3) := by decide +kernel
theorem dX9_look_16 : decode cX9_look 16 = .ok (.aload_n 0, 1) := by decide +kernel
theorem dX9_look_17 : decode cX9_look 17 = .ok (.iload_n 2, 1) := by decide +kernel
theorem dX9_look_18 : decode cX9_look 18 = .ok (.invokevirtual 88, 3) := by decide +kernel
theorem dX9_look_21 : decode cX9_look 21 = .ok (.ifCond .eq 17, 3) := by decide +kernel
theorem dX9_look_24 : decode cX9_look 24 = .ok (.aload_n 0, 1) := by decide +kernel
theorem dX9_look_25 : decode cX9_look 25 = .ok (.getfield 7, 3) := by decide +kernel
theorem dX9_look_28 : decode cX9_look 28 = .ok (.bipush 8, 2) := by decide +kernel
theorem dX9_look_30 : decode cX9_look 30 = .ok (.iload_n 1, 1) := by decide +kernel
theorem dX9_look_31 : decode cX9_look 31 = .ok (.imul, 1) := by decide +kernel
theorem dX9_look_32 : decode cX9_look 32 = .ok (.iload_n 2, 1) := by decide +kernel
theorem dX9_look_33 : decode cX9_look 33 = .ok (.iadd, 1) := by decide +kernel
theorem dX9_look_34 : decode cX9_look 34 = .ok (.iaload, 1) := by decide +kernel
theorem dX9_look_35 : decode cX9_look 35 = .ok (.goto 4, 3) := by decide +kernel
theorem dX9_look_38 : decode cX9_look 38 = .ok (.iconst (-1), 1) := by decide +kernel
theorem dX9_look_39 : decode cX9_look 39 = .ok (.ireturn, 1) := by decide +kernel
theorem dX9_isOpen_0 : decode cX9_isOpen 0 = .ok (.aload_n 0, 1) := by decide +kernel
theorem dX9_isOpen_1 : decode cX9_isOpen 1 = .ok (.getfield 7, 3) := by decide +kernel
theorem dX9_isOpen_4 : decode cX9_isOpen 4 = .ok (.bipush 8, 2) := by decide +kernel
theorem dX9_isOpen_6 : decode cX9_isOpen 6 = .ok (.iload_n 1, 1) := by decide +kernel
theorem dX9_isOpen_7 : decode cX9_isOpen 7 = .ok (.imul, 1) := by decide +kernel
theorem dX9_isOpen_8 : decode cX9_isOpen 8 = .ok (.iload_n 2, 1) := by decide +kernel
theorem dX9_isOpen_9 : decode cX9_isOpen 9 = .ok (.iadd, 1) := by decide +kernel
theorem dX9_isOpen_10 : decode cX9_isOpen 10 = .ok (.iaload, 1) := by decide +kernel
theorem dX9_isOpen_11 : decode cX9_isOpen 11 = .ok (.bipush 111, 2) := by decide +kernel
theorem dX9_isOpen_13 : decode cX9_isOpen 13 = .ok (.if_icmp .ne 7, 3) := by decide +kernel
theorem dX9_isOpen_16 : decode cX9_isOpen 16 = .ok (.iconst 1, 1) := by decide +kernel
theorem dX9_isOpen_17 : decode cX9_isOpen 17 = .ok (.goto 4, 3) := by decide +kernel
theorem dX9_isOpen_20 : decode cX9_isOpen 20 = .ok (.iconst 0, 1) := by decide +kernel
theorem dX9_isOpen_21 : decode cX9_isOpen 21 = .ok (.ireturn, 1) := by decide +kernel
theorem dX9_badIn_0 : decode cX9_badIn 0 = .ok (.iconst 0, 1) := by decide +kernel
theorem dX9_badIn_1 : decode cX9_badIn 1 = .ok (.istore_n 2, 1) := by decide +kernel
theorem dX9_badIn_2 : decode cX9_badIn 2 = .ok (.iconst 0, 1) := by decide +kernel
theorem dX9_badIn_3 : decode cX9_badIn 3 = .ok (.istore_n 3, 1) := by decide +kernel
theorem dX9_badIn_4 : decode cX9_badIn 4 = .ok (.iload_n 3, 1) := by decide +kernel
theorem dX9_badIn_5 : decode cX9_badIn 5 = .ok (.aload_n 0, 1) := by decide +kernel
theorem dX9_badIn_6 : decode cX9_badIn 6 = .ok (.getfield 70, 3) := by decide +kernel
theorem dX9_badIn_9 : decode cX9_badIn 9 = .ok (.if_icmp .ge 26, 3) := by decide +kernel
theorem dX9_badIn_12 : decode cX9_badIn 12 = .ok (.iload_n 2, 1) := by decide +kernel
theorem dX9_badIn_13 : decode cX9_badIn 13 = .ok (.aload_n 0, 1) := by decide +kernel
theorem dX9_badIn_14 : decode cX9_badIn 14 = .ok (.iload_n 1, 1) := by decide +kernel
theorem dX9_badIn_15 : decode cX9_badIn 15 = .ok (.iload_n 3, 1) := by decide +kernel
theorem dX9_badIn_16 : decode cX9_badIn 16 = .ok (.invokevirtual 112, 3) := by decide +kernel
theorem dX9_badIn_19 : decode cX9_badIn 19 = .ok (.ifCond .eq 7, 3) := by decide +kernel
theorem dX9_badIn_22 : decode cX9_badIn 22 = .ok (.iconst 0, 1) := by decide +kernel
theorem dX9_badIn_23 : decode cX9_badIn 23 = .ok (.goto 4, 3) := by decide +kernel
theorem dX9_badIn_26 : decode cX9_badIn 26 = .ok (.iconst 1, 1) := by decide +kernel
theorem dX9_badIn_27 : decode cX9_badIn 27 = .ok (.iadd, 1) := by decide +kernel
theorem dX9_badIn_28 : decode cX9_badIn 28 = .ok (.istore_n 2, 1) := by decide +kernel
theorem dX9_badIn_29 : decode cX9_badIn 29 = .ok (.iinc 3 1, 3) := by decide +kernel
theorem dX9_badIn_32 : decode cX9_badIn 32 = .ok (.goto (-28), 3) := by decide +kernel
theorem dX9_badIn_35 : decode cX9_badIn 35 = .ok (.iload_n 2, 1) := by decide +kernel
theorem dX9_badIn_36 : decode cX9_badIn 36 = .ok (.ireturn, 1) := by decide +kernel
theorem dX9_hiddenIn_0 : decode cX9_hiddenIn 0 = .ok (.iconst 0, 1) := by decide +kernel
theorem dX9_hiddenIn_1 : decode cX9_hiddenIn 1 = .ok (.istore_n 2, 1) := by decide +kernel
theorem dX9_hiddenIn_2 : decode cX9_hiddenIn 2 = .ok (.iconst 0, 1) := by decide +kernel
theorem dX9_hiddenIn_3 : decode cX9_hiddenIn 3 = .ok (.istore_n 3, 1) := by decide +kernel
theorem dX9_hiddenIn_4 : decode cX9_hiddenIn 4 = .ok (.iload_n 3, 1) := by decide +kernel
theorem dX9_hiddenIn_5 : decode cX9_hiddenIn 5 = .ok (.aload_n 0, 1) := by decide +kernel
theorem dX9_hiddenIn_6 : decode cX9_hiddenIn 6 = .ok (.getfield 70, 3) := by decide +kernel
theorem dX9_hiddenIn_9 : decode cX9_hiddenIn 9 = .ok (.if_icmp .ge 33, 3) := by decide +kernel
theorem dX9_hiddenIn_12 : decode cX9_hiddenIn 12 = .ok (.iload_n 2, 1) := by decide +kernel
theorem dX9_hiddenIn_13 : decode cX9_hiddenIn 13 = .ok (.aload_n 0, 1) := by decide +kernel
theorem dX9_hiddenIn_14 : decode cX9_hiddenIn 14 = .ok (.getfield 7, 3) := by decide +kernel
theorem dX9_hiddenIn_17 : decode cX9_hiddenIn 17 = .ok (.bipush 8, 2) := by decide +kernel
theorem dX9_hiddenIn_19 : decode cX9_hiddenIn 19 = .ok (.iload_n 1, 1) := by decide +kernel
theorem dX9_hiddenIn_20 : decode cX9_hiddenIn 20 = .ok (.imul, 1) := by decide +kernel
theorem dX9_hiddenIn_21 : decode cX9_hiddenIn 21 = .ok (.iload_n 3, 1) := by decide +kernel
theorem dX9_hiddenIn_22 : decode cX9_hiddenIn 22 = .ok (.iadd, 1) := by decide +kernel
theorem dX9_hiddenIn_23 : decode cX9_hiddenIn 23 = .ok (.iaload, 1) := by decide +kernel
theorem dX9_hiddenIn_24 : decode cX9_hiddenIn 24 = .ok (.bipush 104, 2) := by decide +kernel
theorem dX9_hiddenIn_26 : decode cX9_hiddenIn 26 = .ok (.if_icmp .ne 7, 3) := by decide +kernel
theorem dX9_hiddenIn_29 : decode cX9_hiddenIn 29 = .ok (.iconst 1, 1) := by decide +kernel
theorem dX9_hiddenIn_30 : decode cX9_hiddenIn 30 = .ok (.goto 4, 3) := by decide +kernel
theorem dX9_hiddenIn_33 : decode cX9_hiddenIn 33 = .ok (.iconst 0, 1) := by decide +kernel
theorem dX9_hiddenIn_34 : decode cX9_hiddenIn 34 = .ok (.iadd, 1) := by decide +kernel
theorem dX9_hiddenIn_35 : decode cX9_hiddenIn 35 = .ok (.istore_n 2, 1) := by decide +kernel
theorem dX9_hiddenIn_36 : decode cX9_hiddenIn 36 = .ok (.iinc 3 1, 3) := by decide +kernel
theorem dX9_hiddenIn_39 : decode cX9_hiddenIn 39 = .ok (.goto (-35), 3) := by decide +kernel
theorem dX9_hiddenIn_42 : decode cX9_hiddenIn 42 = .ok (.iload_n 2, 1) := by decide +kernel
theorem dX9_hiddenIn_43 : decode cX9_hiddenIn 43 = .ok (.ireturn, 1) := by decide +kernel
theorem dX9_single_0 : decode cX9_single 0 = .ok (.iload_n 1, 1) := by decide +kernel
theorem dX9_single_1 : decode cX9_single 1 = .ok (.i2l, 1) := by decide +kernel
theorem dX9_single_2 : decode cX9_single 2 = .ok (.lconst 0, 1) := by decide +kernel
theorem dX9_single_3 : decode cX9_single 3 = .ok (.lconst 1, 1) := by decide +kernel
theorem dX9_single_4 : decode cX9_single 4 = .ok (.invokestatic 82, 3) := by decide +kernel
theorem dX9_single_7 : decode cX9_single 7 = .ok (.ifCond .ne 6, 3) := by decide +kernel
theorem dX9_single_10 : decode cX9_single 10 = .ok (.bipush (-2), 2) := by decide +kernel
theorem dX9_single_12 : decode cX9_single 12 = .ok (.ireturn, 1) := by decide +kernel
theorem dX9_single_13 : decode cX9_single 13 = .ok (.bipush (-6), 2) := by decide +kernel
theorem dX9_single_15 : decode cX9_single 15 = .ok (.istore_n 2, 1) := by decide +kernel
theorem dX9_single_16 : decode cX9_single 16 = .ok (.iconst 0, 1) := by decide +kernel
theorem dX9_single_17 : decode cX9_single 17 = .ok (.istore_n 3, 1) := by decide +kernel
theorem dX9_single_18 : decode cX9_single 18 = .ok (.iconst 0, 1) := by decide +kernel
theorem dX9_single_19 : decode cX9_single 19 = .ok (.istore 4, 2) := by decide +kernel
theorem dX9_single_21 : decode cX9_single 21 = .ok (.iload 4, 2) := by decide +kernel
theorem dX9_single_23 : decode cX9_single 23 = .ok (.aload_n 0, 1) := by decide +kernel
theorem dX9_single_24 : decode cX9_single 24 = .ok (.getfield 73, 3) := by decide +kernel
theorem dX9_single_27 : decode cX9_single 27 = .ok (.if_icmp .ge 63, 3) := by decide +kernel
theorem dX9_single_30 : decode cX9_single 30 = .ok (.bipush 10, 2) := by decide +kernel
theorem dX9_single_32 : decode cX9_single 32 = .ok (.aload_n 0, 1) := by decide +kernel
theorem dX9_single_33 : decode cX9_single 33 = .ok (.iload 4, 2) := by decide +kernel
theorem dX9_single_35 : decode cX9_single 35 = .ok (.invokevirtual 116, 3) := by decide +kernel
theorem dX9_single_38 : decode cX9_single 38 = .ok (.imul, 1) := by decide +kernel
theorem dX9_single_39 : decode cX9_single 39 = .ok (.aload_n 0, 1) := by decide +kernel
theorem dX9_single_40 : decode cX9_single 40 = .ok (.iload 4, 2) := by decide +kernel
theorem dX9_single_42 : decode cX9_single 42 = .ok (.invokevirtual 120, 3) := by decide +kernel
theorem dX9_single_45 : decode cX9_single 45 = .ok (.iadd, 1) := by decide +kernel
theorem dX9_single_46 : decode cX9_single 46 = .ok (.istore 5, 2) := by decide +kernel
theorem dX9_single_48 : decode cX9_single 48 = .ok (.aload_n 0, 1) := by decide +kernel
theorem dX9_single_49 : decode cX9_single 49 = .ok (.getfield 76, 3) := by decide +kernel
theorem dX9_single_52 : decode cX9_single 52 = .ok (.ifCond .lt 16, 3) := by decide +kernel
theorem dX9_single_55 : decode cX9_single 55 = .ok (.aload_n 0, 1) := by decide +kernel
theorem dX9_single_56 : decode cX9_single 56 = .ok (.iload 4, 2) := by decide +kernel
theorem dX9_single_58 : decode cX9_single 58 = .ok (.aload_n 0, 1) := by decide +kernel
theorem dX9_single_59 : decode cX9_single 59 = .ok (.getfield 76, 3) := by decide +kernel
theorem dX9_single_62 : decode cX9_single 62 = .ok (.invokevirtual 112, 3) := by decide +kernel
theorem dX9_single_65 : decode cX9_single 65 = .ok (.ifCond .eq 19, 3) := by decide +kernel
theorem dX9_single_68 : decode cX9_single 68 = .ok (.iload_n 2, 1) := by decide +kernel
theorem dX9_single_69 : decode cX9_single 69 = .ok (.ifCond .lt 9, 3) := by decide +kernel
theorem dX9_single_72 : decode cX9_single 72 = .ok (.iload 5, 2) := by decide +kernel
theorem dX9_single_74 : decode cX9_single 74 = .ok (.iload_n 3, 1) := by decide +kernel
theorem dX9_single_75 : decode cX9_single 75 = .ok (.if_icmp .ge 9, 3) := by decide +kernel
theorem dX9_single_78 : decode cX9_single 78 = .ok (.iload 4, 2) := by decide +kernel
theorem dX9_single_80 : decode cX9_single 80 = .ok (.istore_n 2, 1) := by decide +kernel
theorem dX9_single_81 : decode cX9_single 81 = .ok (.iload 5, 2) := by decide +kernel
theorem dX9_single_83 : decode cX9_single 83 = .ok (.istore_n 3, 1) := by decide +kernel
theorem dX9_single_84 : decode cX9_single 84 = .ok (.iinc 4 1, 3) := by decide +kernel
theorem dX9_single_87 : decode cX9_single 87 = .ok (.goto (-66), 3) := by decide +kernel
theorem dX9_single_90 : decode cX9_single 90 = .ok (.iload_n 2, 1) := by decide +kernel
theorem dX9_single_91 : decode cX9_single 91 = .ok (.ifCond .ge 8, 3) := by decide +kernel
theorem dX9_single_94 : decode cX9_single 94 = .ok (.bipush (-6), 2) := by decide +kernel
theorem dX9_single_96 : decode cX9_single 96 = .ok (.goto 15, 3) := by decide +kernel
theorem dX9_single_99 : decode cX9_single 99 = .ok (.iload_n 1, 1) := by decide +kernel
theorem dX9_single_100 : decode cX9_single 100 = .ok (.ifCond .ne 7, 3) := by decide +kernel
theorem dX9_single_103 : decode cX9_single 103 = .ok (.iload_n 2, 1) := by decide +kernel
theorem dX9_single_104 : decode cX9_single 104 = .ok (.goto 7, 3) := by decide +kernel
theorem dX9_single_107 : decode cX9_single 107 = .ok (.iload_n 3, 1) := by decide +kernel
theorem dX9_single_108 : decode cX9_single 108 = .ok (.bipush 10, 2) := by decide +kernel
theorem dX9_single_110 : decode cX9_single 110 = .ok (.idiv, 1) := by decide +kernel
theorem dX9_single_111 : decode cX9_single 111 = .ok (.ireturn, 1) := by decide +kernel
theorem dX9_openIn_0 : decode cX9_openIn 0 = .ok (.iconst 0, 1) := by decide +kernel
theorem dX9_openIn_1 : decode cX9_openIn 1 = .ok (.istore_n 2, 1) := by decide +kernel
theorem dX9_openIn_2 : decode cX9_openIn 2 = .ok (.iconst 0, 1) := by decide +kernel
theorem dX9_openIn_3 : decode cX9_openIn 3 = .ok (.istore_n 3, 1) := by decide +kernel
theorem dX9_openIn_4 : decode cX9_openIn 4 = .ok (.iload_n 3, 1) := by decide +kernel
theorem dX9_openIn_5 : decode cX9_openIn 5 = .ok (.aload_n 0, 1) := by decide +kernel
theorem dX9_openIn_6 : decode cX9_openIn 6 = .ok (.getfield 70, 3) := by decide +kernel
theorem dX9_openIn_9 : decode cX9_openIn 9 = .ok (.if_icmp .ge 28, 3) := by decide +kernel
theorem dX9_openIn_12 : decode cX9_openIn 12 = .ok (.iload_n 2, 1) := by decide +kernel
theorem dX9_openIn_13 : decode cX9_openIn 13 = .ok (.aload_n 0, 1) := by decide +kernel
theorem dX9_openIn_14 : decode cX9_openIn 14 = .ok (.iload_n 1, 1) := by decide +kernel
theorem dX9_openIn_15 : decode cX9_openIn 15 = .ok (.iload_n 3, 1) := by decide +kernel
theorem dX9_openIn_16 : decode cX9_openIn 16 = .ok (.invokevirtual 112, 3) := by decide +kernel
theorem dX9_openIn_19 : decode cX9_openIn 19 = .ok (.ifCond .eq 9, 3) := by decide +kernel
theorem dX9_openIn_22 : decode cX9_openIn 22 = .ok (.iconst 1, 1) := by decide +kernel
theorem dX9_openIn_23 : decode cX9_openIn 23 = .ok (.iload_n 3, 1) := by decide +kernel
theorem dX9_openIn_24 : decode cX9_openIn 24 = .ok (.ishl, 1) := by decide +kernel
theorem dX9_openIn_25 : decode cX9_openIn 25 = .ok (.goto 4, 3) := by decide +kernel
theorem dX9_openIn_28 : decode cX9_openIn 28 = .ok (.iconst 0, 1) := by decide +kernel
theorem dX9_openIn_29 : decode cX9_openIn 29 = .ok (.ior, 1) := by decide +kernel
theorem dX9_openIn_30 : decode cX9_openIn 30 = .ok (.istore_n 2, 1) := by decide +kernel
theorem dX9_openIn_31 : decode cX9_openIn 31 = .ok (.iinc 3 1, 3) := by decide +kernel
theorem dX9_openIn_34 : decode cX9_openIn 34 = .ok (.goto (-30), 3) := by decide +kernel
theorem dX9_openIn_37 : decode cX9_openIn 37 = .ok (.iload_n 2, 1) := by decide +kernel
theorem dX9_openIn_38 : decode cX9_openIn 38 = .ok (.ireturn, 1) := by decide +kernel
theorem dX9_cover_0 : decode cX9_cover 0 = .ok (.bipush (-6), 2) := by decide +kernel
theorem dX9_cover_2 : decode cX9_cover 2 = .ok (.istore_n 1, 1) := by decide +kernel
theorem dX9_cover_3 : decode cX9_cover 3 = .ok (.iconst 0, 1) := by decide +kernel
theorem dX9_cover_4 : decode cX9_cover 4 = .ok (.istore_n 2, 1) := by decide +kernel
theorem dX9_cover_5 : decode cX9_cover 5 = .ok (.iload_n 2, 1) := by decide +kernel
theorem dX9_cover_6 : decode cX9_cover 6 = .ok (.iconst 1, 1) := by decide +kernel
theorem dX9_cover_7 : decode cX9_cover 7 = .ok (.aload_n 0, 1) := by decide +kernel
theorem dX9_cover_8 : decode cX9_cover 8 = .ok (.getfield 73, 3) := by decide +kernel
theorem dX9_cover_11 : decode cX9_cover 11 = .ok (.ishl, 1) := by decide +kernel
theorem dX9_cover_12 : decode cX9_cover 12 = .ok (.if_icmp .ge 97, 3) := by decide +kernel
theorem dX9_cover_15 : decode cX9_cover 15 = .ok (.iconst 0, 1) := by decide +kernel
theorem dX9_cover_16 : decode cX9_cover 16 = .ok (.istore_n 3, 1) := by decide +kernel
theorem dX9_cover_17 : decode cX9_cover 17 = .ok (.iconst 0, 1) := by decide +kernel
theorem dX9_cover_18 : decode cX9_cover 18 = .ok (.istore 4, 2) := by decide +kernel
theorem dX9_cover_20 : decode cX9_cover 20 = .ok (.iload 4, 2) := by decide +kernel
theorem dX9_cover_22 : decode cX9_cover 22 = .ok (.aload_n 0, 1) := by decide +kernel
theorem dX9_cover_23 : decode cX9_cover 23 = .ok (.getfield 73, 3) := by decide +kernel
theorem dX9_cover_26 : decode cX9_cover 26 = .ok (.if_icmp .ge 32, 3) := by decide +kernel
theorem dX9_cover_29 : decode cX9_cover 29 = .ok (.iload_n 3, 1) := by decide +kernel
theorem dX9_cover_30 : decode cX9_cover 30 = .ok (.iload_n 2, 1) := by decide +kernel
theorem dX9_cover_31 : decode cX9_cover 31 = .ok (.iload 4, 2) := by decide +kernel
theorem dX9_cover_33 : decode cX9_cover 33 = .ok (.ishr, 1) := by decide +kernel
theorem dX9_cover_34 : decode cX9_cover 34 = .ok (.iconst 1, 1) := by decide +kernel
theorem dX9_cover_35 : decode cX9_cover 35 = .ok (.iand, 1) := by decide +kernel
theorem dX9_cover_36 : decode cX9_cover 36 = .ok (.iconst 1, 1) := by decide +kernel
theorem dX9_cover_37 : decode cX9_cover 37 = .ok (.if_icmp .ne 12, 3) := by decide +kernel
theorem dX9_cover_40 : decode cX9_cover 40 = .ok (.aload_n 0, 1) := by decide +kernel
theorem dX9_cover_41 : decode cX9_cover 41 = .ok (.iload 4, 2) := by decide +kernel
theorem dX9_cover_43 : decode cX9_cover 43 = .ok (.invokevirtual 123, 3) := by decide +kernel
theorem dX9_cover_46 : decode cX9_cover 46 = .ok (.goto 4, 3) := by decide +kernel
theorem dX9_cover_49 : decode cX9_cover 49 = .ok (.iconst 0, 1) := by decide +kernel
theorem dX9_cover_50 : decode cX9_cover 50 = .ok (.ior, 1) := by decide +kernel
theorem dX9_cover_51 : decode cX9_cover 51 = .ok (.istore_n 3, 1) := by decide +kernel
theorem dX9_cover_52 : decode cX9_cover 52 = .ok (.iinc 4 1, 3) := by decide +kernel
theorem dX9_cover_55 : decode cX9_cover 55 = .ok (.goto (-35), 3) := by decide +kernel
theorem dX9_cover_58 : decode cX9_cover 58 = .ok (.iload_n 3, 1) := by decide +kernel
theorem dX9_cover_59 : decode cX9_cover 59 = .ok (.iconst 1, 1) := by decide +kernel
theorem dX9_cover_60 : decode cX9_cover 60 = .ok (.aload_n 0, 1) := by decide +kernel
theorem dX9_cover_61 : decode cX9_cover 61 = .ok (.getfield 70, 3) := by decide +kernel
theorem dX9_cover_64 : decode cX9_cover 64 = .ok (.ishl, 1) := by decide +kernel
theorem dX9_cover_65 : decode cX9_cover 65 = .ok (.iconst 1, 1) := by decide +kernel
theorem dX9_cover_66 : decode cX9_cover 66 = .ok (.isub, 1) := by decide +kernel
theorem dX9_cover_67 : decode cX9_cover 67 = .ok (.if_icmp .ne 7, 3) := by decide +kernel
theorem dX9_cover_70 : decode cX9_cover 70 = .ok (.iconst 1, 1) := by decide +kernel
theorem dX9_cover_71 : decode cX9_cover 71 = .ok (.goto 4, 3) := by decide +kernel
theorem dX9_cover_74 : decode cX9_cover 74 = .ok (.iconst 0, 1) := by decide +kernel
theorem dX9_cover_75 : decode cX9_cover 75 = .ok (.istore 4, 2) := by decide +kernel
theorem dX9_cover_77 : decode cX9_cover 77 = .ok (.iload 4, 2) := by decide +kernel
theorem dX9_cover_79 : decode cX9_cover 79 = .ok (.ifCond .eq 22, 3) := by decide +kernel
theorem dX9_cover_82 : decode cX9_cover 82 = .ok (.iload_n 1, 1) := by decide +kernel
theorem dX9_cover_83 : decode cX9_cover 83 = .ok (.ifCond .lt 14, 3) := by decide +kernel
theorem dX9_cover_86 : decode cX9_cover 86 = .ok (.iload_n 2, 1) := by decide +kernel
theorem dX9_cover_87 : decode cX9_cover 87 = .ok (.invokestatic 126, 3) := by decide +kernel
theorem dX9_cover_90 : decode cX9_cover 90 = .ok (.iload_n 1, 1) := by decide +kernel
theorem dX9_cover_91 : decode cX9_cover 91 = .ok (.invokestatic 126, 3) := by decide +kernel
theorem dX9_cover_94 : decode cX9_cover 94 = .ok (.if_icmp .ge 7, 3) := by decide +kernel
theorem dX9_cover_97 : decode cX9_cover 97 = .ok (.iload_n 2, 1) := by decide +kernel
theorem dX9_cover_98 : decode cX9_cover 98 = .ok (.goto 4, 3) := by decide +kernel
theorem dX9_cover_101 : decode cX9_cover 101 = .ok (.iload_n 1, 1) := by decide +kernel
theorem dX9_cover_102 : decode cX9_cover 102 = .ok (.istore_n 1, 1) := by decide +kernel
theorem dX9_cover_103 : decode cX9_cover 103 = .ok (.iinc 2 1, 3) := by decide +kernel
theorem dX9_cover_106 : decode cX9_cover 106 = .ok (.goto (-101), 3) := by decide +kernel
theorem dX9_cover_109 : decode cX9_cover 109 = .ok (.iload_n 1, 1) := by decide +kernel
theorem dX9_cover_110 : decode cX9_cover 110 = .ok (.ireturn, 1) := by decide +kernel
theorem dX9_spoils_0 : decode cX9_spoils 0 = .ok (.iload_n 1, 1) := by decide +kernel
theorem dX9_spoils_1 : decode cX9_spoils 1 = .ok (.i2l, 1) := by decide +kernel
theorem dX9_spoils_2 : decode cX9_spoils 2 = .ok (.lconst 0, 1) := by decide +kernel
theorem dX9_spoils_3 : decode cX9_spoils 3 = .ok (.lconst 1, 1) := by decide +kernel
theorem dX9_spoils_4 : decode cX9_spoils 4 = .ok (.invokestatic 82, 3) := by decide +kernel
theorem dX9_spoils_7 : decode cX9_spoils 7 = .ok (.ifCond .ne 6, 3) := by decide +kernel
theorem dX9_spoils_10 : decode cX9_spoils 10 = .ok (.bipush (-2), 2) := by decide +kernel
theorem dX9_spoils_12 : decode cX9_spoils 12 = .ok (.ireturn, 1) := by decide +kernel
theorem dX9_spoils_13 : decode cX9_spoils 13 = .ok (.bipush (-6), 2) := by decide +kernel
theorem dX9_spoils_15 : decode cX9_spoils 15 = .ok (.istore_n 2, 1) := by decide +kernel
theorem dX9_spoils_16 : decode cX9_spoils 16 = .ok (.iconst 0, 1) := by decide +kernel
theorem dX9_spoils_17 : decode cX9_spoils 17 = .ok (.istore_n 3, 1) := by decide +kernel
theorem dX9_spoils_18 : decode cX9_spoils 18 = .ok (.iconst 0, 1) := by decide +kernel
theorem dX9_spoils_19 : decode cX9_spoils 19 = .ok (.istore 4, 2) := by decide +kernel
theorem dX9_spoils_21 : decode cX9_spoils 21 = .ok (.iload 4, 2) := by decide +kernel
theorem dX9_spoils_23 : decode cX9_spoils 23 = .ok (.aload_n 0, 1) := by decide +kernel
theorem dX9_spoils_24 : decode cX9_spoils 24 = .ok (.getfield 70, 3) := by decide +kernel
theorem dX9_spoils_27 : decode cX9_spoils 27 = .ok (.if_icmp .ge 77, 3) := by decide +kernel
theorem dX9_spoils_30 : decode cX9_spoils 30 = .ok (.iconst 0, 1) := by decide +kernel
theorem dX9_spoils_31 : decode cX9_spoils 31 = .ok (.istore 5, 2) := by decide +kernel
theorem dX9_spoils_33 : decode cX9_spoils 33 = .ok (.iconst 0, 1) := by decide +kernel
theorem dX9_spoils_34 : decode cX9_spoils 34 = .ok (.istore 6, 2) := by decide +kernel
theorem dX9_spoils_36 : decode cX9_spoils 36 = .ok (.iload 6, 2) := by decide +kernel
theorem dX9_spoils_38 : decode cX9_spoils 38 = .ok (.aload_n 0, 1) := by decide +kernel
theorem dX9_spoils_39 : decode cX9_spoils 39 = .ok (.getfield 73, 3) := by decide +kernel
theorem dX9_spoils_42 : decode cX9_spoils 42 = .ok (.if_icmp .ge 30, 3) := by decide +kernel
theorem dX9_spoils_45 : decode cX9_spoils 45 = .ok (.iload 5, 2) := by decide +kernel
theorem dX9_spoils_47 : decode cX9_spoils 47 = .ok (.aload_n 0, 1) := by decide +kernel
theorem dX9_spoils_48 : decode cX9_spoils 48 = .ok (.iload 6, 2) := by decide +kernel
theorem dX9_spoils_50 : decode cX9_spoils 50 = .ok (.iload 4, 2) := by decide +kernel
theorem dX9_spoils_52 : decode cX9_spoils 52 = .ok (.invokevirtual 112, 3) := by decide +kernel
theorem dX9_spoils_55 : decode cX9_spoils 55 = .ok (.ifCond .eq 7, 3) := by decide +kernel
theorem dX9_spoils_58 : decode cX9_spoils 58 = .ok (.iconst 0, 1) := by decide +kernel
theorem dX9_spoils_59 : decode cX9_spoils 59 = .ok (.goto 4, 3) := by decide +kernel
theorem dX9_spoils_62 : decode cX9_spoils 62 = .ok (.iconst 1, 1) := by decide +kernel
theorem dX9_spoils_63 : decode cX9_spoils 63 = .ok (.iadd, 1) := by decide +kernel
theorem dX9_spoils_64 : decode cX9_spoils 64 = .ok (.istore 5, 2) := by decide +kernel
theorem dX9_spoils_66 : decode cX9_spoils 66 = .ok (.iinc 6 1, 3) := by decide +kernel
theorem dX9_spoils_69 : decode cX9_spoils 69 = .ok (.goto (-33), 3) := by decide +kernel
theorem dX9_spoils_72 : decode cX9_spoils 72 = .ok (.iload 5, 2) := by decide +kernel
theorem dX9_spoils_74 : decode cX9_spoils 74 = .ok (.iload_n 3, 1) := by decide +kernel
theorem dX9_spoils_75 : decode cX9_spoils 75 = .ok (.if_icmp .le 8, 3) := by decide +kernel
theorem dX9_spoils_78 : decode cX9_spoils 78 = .ok (.iload 4, 2) := by decide +kernel
theorem dX9_spoils_80 : decode cX9_spoils 80 = .ok (.goto 4, 3) := by decide +kernel
theorem dX9_spoils_83 : decode cX9_spoils 83 = .ok (.iload_n 2, 1) := by decide +kernel
theorem dX9_spoils_84 : decode cX9_spoils 84 = .ok (.istore_n 2, 1) := by decide +kernel
theorem dX9_spoils_85 : decode cX9_spoils 85 = .ok (.iload 5, 2) := by decide +kernel
theorem dX9_spoils_87 : decode cX9_spoils 87 = .ok (.iload_n 3, 1) := by decide +kernel
theorem dX9_spoils_88 : decode cX9_spoils 88 = .ok (.if_icmp .le 8, 3) := by decide +kernel
theorem dX9_spoils_91 : decode cX9_spoils 91 = .ok (.iload 5, 2) := by decide +kernel
theorem dX9_spoils_93 : decode cX9_spoils 93 = .ok (.goto 4, 3) := by decide +kernel
theorem dX9_spoils_96 : decode cX9_spoils 96 = .ok (.iload_n 3, 1) := by decide +kernel
theorem dX9_spoils_97 : decode cX9_spoils 97 = .ok (.istore_n 3, 1) := by decide +kernel
theorem dX9_spoils_98 : decode cX9_spoils 98 = .ok (.iinc 4 1, 3) := by decide +kernel
theorem dX9_spoils_101 : decode cX9_spoils 101 = .ok (.goto (-80), 3) := by decide +kernel
theorem dX9_spoils_104 : decode cX9_spoils 104 = .ok (.iload_n 1, 1) := by decide +kernel
theorem dX9_spoils_105 : decode cX9_spoils 105 = .ok (.ifCond .ne 7, 3) := by decide +kernel
theorem dX9_spoils_108 : decode cX9_spoils 108 = .ok (.iload_n 2, 1) := by decide +kernel
theorem dX9_spoils_109 : decode cX9_spoils 109 = .ok (.goto 4, 3) := by decide +kernel
theorem dX9_spoils_112 : decode cX9_spoils 112 = .ok (.iload_n 3, 1) := by decide +kernel
theorem dX9_spoils_113 : decode cX9_spoils 113 = .ok (.ireturn, 1) := by decide +kernel
theorem dX9_hands_0 : decode cX9_hands 0 = .ok (.iload_n 1, 1) := by decide +kernel
theorem dX9_hands_1 : decode cX9_hands 1 = .ok (.i2l, 1) := by decide +kernel
theorem dX9_hands_2 : decode cX9_hands 2 = .ok (.lconst 0, 1) := by decide +kernel
theorem dX9_hands_3 : decode cX9_hands 3 = .ok (.iconst 1, 1) := by decide +kernel
theorem dX9_hands_4 : decode cX9_hands 4 = .ok (.aload_n 0, 1) := by decide +kernel
theorem dX9_hands_5 : decode cX9_hands 5 = .ok (.getfield 70, 3) := by decide +kernel
theorem dX9_hands_8 : decode cX9_hands 8 = .ok (.iconst 1, 1) := by decide +kernel
theorem dX9_hands_9 : decode cX9_hands 9 = .ok (.isub, 1) := by decide +kernel
theorem dX9_hands_10 : decode cX9_hands 10 = .ok (.ishl, 1) := by decide +kernel
theorem dX9_hands_11 : decode cX9_hands 11 = .ok (.iconst 1, 1) := by decide +kernel
theorem dX9_hands_12 : decode cX9_hands 12 = .ok (.isub, 1) := by decide +kernel
theorem dX9_hands_13 : decode cX9_hands 13 = .ok (.i2l, 1) := by decide +kernel
theorem dX9_hands_14 : decode cX9_hands 14 = .ok (.invokestatic 82, 3) := by decide +kernel
theorem dX9_hands_17 : decode cX9_hands 17 = .ok (.ifCond .ne 6, 3) := by decide +kernel
theorem dX9_hands_20 : decode cX9_hands 20 = .ok (.bipush (-2), 2) := by decide +kernel
theorem dX9_hands_22 : decode cX9_hands 22 = .ok (.ireturn, 1) := by decide +kernel
theorem dX9_hands_23 : decode cX9_hands 23 = .ok (.aload_n 0, 1) := by decide +kernel
theorem dX9_hands_24 : decode cX9_hands 24 = .ok (.getfield 79, 3) := by decide +kernel
theorem dX9_hands_27 : decode cX9_hands 27 = .ok (.istore_n 2, 1) := by decide +kernel
theorem dX9_hands_28 : decode cX9_hands 28 = .ok (.aload_n 0, 1) := by decide +kernel
theorem dX9_hands_29 : decode cX9_hands 29 = .ok (.iload_n 1, 1) := by decide +kernel
theorem dX9_hands_30 : decode cX9_hands 30 = .ok (.putfield 79, 3) := by decide +kernel
theorem dX9_hands_33 : decode cX9_hands 33 = .ok (.iload_n 2, 1) := by decide +kernel
theorem dX9_hands_34 : decode cX9_hands 34 = .ok (.ireturn, 1) := by decide +kernel
theorem dX9_cutsFrom_0 : decode cX9_cutsFrom 0 = .ok (.aload_n 0, 1) := by decide +kernel
theorem dX9_cutsFrom_1 : decode cX9_cutsFrom 1 = .ok (.iload_n 2, 1) := by decide +kernel
theorem dX9_cutsFrom_2 : decode cX9_cutsFrom 2 = .ok (.iload_n 1, 1) := by decide +kernel
theorem dX9_cutsFrom_3 : decode cX9_cutsFrom 3 = .ok (.invokevirtual 112, 3) := by decide +kernel
theorem dX9_cutsFrom_6 : decode cX9_cutsFrom 6 = .ok (.ifCond .ne 7, 3) := by decide +kernel
theorem dX9_cutsFrom_9 : decode cX9_cutsFrom 9 = .ok (.sipush 1000, 3) := by decide +kernel
theorem dX9_cutsFrom_12 : decode cX9_cutsFrom 12 = .ok (.ireturn, 1) := by decide +kernel
theorem dX9_cutsFrom_13 : decode cX9_cutsFrom 13 = .ok (.iload_n 1, 1) := by decide +kernel
theorem dX9_cutsFrom_14 : decode cX9_cutsFrom 14 = .ok (.aload_n 0, 1) := by decide +kernel
theorem dX9_cutsFrom_15 : decode cX9_cutsFrom 15 = .ok (.getfield 70, 3) := by decide +kernel
theorem dX9_cutsFrom_18 : decode cX9_cutsFrom 18 = .ok (.iconst 1, 1) := by decide +kernel
theorem dX9_cutsFrom_19 : decode cX9_cutsFrom 19 = .ok (.isub, 1) := by decide +kernel
theorem dX9_cutsFrom_20 : decode cX9_cutsFrom 20 = .ok (.if_icmp .ne 5, 3) := by decide +kernel
theorem dX9_cutsFrom_23 : decode cX9_cutsFrom 23 = .ok (.iconst 0, 1) := by decide +kernel
theorem dX9_cutsFrom_24 : decode cX9_cutsFrom 24 = .ok (.ireturn, 1) := by decide +kernel
theorem dX9_cutsFrom_25 : decode cX9_cutsFrom 25 = .ok (.sipush 1000, 3) := by decide +kernel
theorem dX9_cutsFrom_28 : decode cX9_cutsFrom 28 = .ok (.istore_n 3, 1) := by decide +kernel
theorem dX9_cutsFrom_29 : decode cX9_cutsFrom 29 = .ok (.iconst 0, 1) := by decide +kernel
theorem dX9_cutsFrom_30 : decode cX9_cutsFrom 30 = .ok (.istore 4, 2) := by decide +kernel
theorem dX9_cutsFrom_32 : decode cX9_cutsFrom 32 = .ok (.iload 4, 2) := by decide +kernel
theorem dX9_cutsFrom_34 : decode cX9_cutsFrom 34 = .ok (.aload_n 0, 1) := by decide +kernel
theorem dX9_cutsFrom_35 : decode cX9_cutsFrom 35 = .ok (.getfield 73, 3) := by decide +kernel
theorem dX9_cutsFrom_38 : decode cX9_cutsFrom 38 = .ok (.if_icmp .ge 79, 3) := by decide +kernel
theorem dX9_cutsFrom_41 : decode cX9_cutsFrom 41 = .ok (.iload 4, 2) := by decide +kernel
theorem dX9_cutsFrom_43 : decode cX9_cutsFrom 43 = .ok (.iload_n 2, 1) := by decide +kernel
theorem dX9_cutsFrom_44 : decode cX9_cutsFrom 44 = .ok (.if_icmp .eq 14, 3) := by decide +kernel
theorem dX9_cutsFrom_47 : decode cX9_cutsFrom 47 = .ok (.aload_n 0, 1) := by decide +kernel
theorem dX9_cutsFrom_48 : decode cX9_cutsFrom 48 = .ok (.getfield 79, 3) := by decide +kernel
theorem dX9_cutsFrom_51 : decode cX9_cutsFrom 51 = .ok (.iload_n 1, 1) := by decide +kernel
theorem dX9_cutsFrom_52 : decode cX9_cutsFrom 52 = .ok (.ishr, 1) := by decide +kernel
theorem dX9_cutsFrom_53 : decode cX9_cutsFrom 53 = .ok (.iconst 1, 1) := by decide +kernel
theorem dX9_cutsFrom_54 : decode cX9_cutsFrom 54 = .ok (.iand, 1) := by decide +kernel
theorem dX9_cutsFrom_55 : decode cX9_cutsFrom 55 = .ok (.ifCond .ne 7, 3) := by decide +kernel
theorem dX9_cutsFrom_58 : decode cX9_cutsFrom 58 = .ok (.iconst 1, 1) := by decide +kernel
theorem dX9_cutsFrom_59 : decode cX9_cutsFrom 59 = .ok (.goto 4, 3) := by decide +kernel
theorem dX9_cutsFrom_62 : decode cX9_cutsFrom 62 = .ok (.iconst 0, 1) := by decide +kernel
theorem dX9_cutsFrom_63 : decode cX9_cutsFrom 63 = .ok (.istore 5, 2) := by decide +kernel
theorem dX9_cutsFrom_65 : decode cX9_cutsFrom 65 = .ok (.aload_n 0, 1) := by decide +kernel
theorem dX9_cutsFrom_66 : decode cX9_cutsFrom 66 = .ok (.getfield 34, 3) := by decide +kernel
theorem dX9_cutsFrom_69 : decode cX9_cutsFrom 69 = .ok (.bipush 10, 2) := by decide +kernel
theorem dX9_cutsFrom_71 : decode cX9_cutsFrom 71 = .ok (.iload_n 1, 1) := by decide +kernel
theorem dX9_cutsFrom_72 : decode cX9_cutsFrom 72 = .ok (.iconst 1, 1) := by decide +kernel
theorem dX9_cutsFrom_73 : decode cX9_cutsFrom 73 = .ok (.iadd, 1) := by decide +kernel
theorem dX9_cutsFrom_74 : decode cX9_cutsFrom 74 = .ok (.imul, 1) := by decide +kernel
theorem dX9_cutsFrom_75 : decode cX9_cutsFrom 75 = .ok (.iload 4, 2) := by decide +kernel
theorem dX9_cutsFrom_77 : decode cX9_cutsFrom 77 = .ok (.iadd, 1) := by decide +kernel
theorem dX9_cutsFrom_78 : decode cX9_cutsFrom 78 = .ok (.iaload, 1) := by decide +kernel
theorem dX9_cutsFrom_79 : decode cX9_cutsFrom 79 = .ok (.iload 4, 2) := by decide +kernel
theorem dX9_cutsFrom_81 : decode cX9_cutsFrom 81 = .ok (.iload_n 2, 1) := by decide +kernel
theorem dX9_cutsFrom_82 : decode cX9_cutsFrom 82 = .ok (.if_icmp .ne 7, 3) := by decide +kernel
theorem dX9_cutsFrom_85 : decode cX9_cutsFrom 85 = .ok (.iconst 0, 1) := by decide +kernel
theorem dX9_cutsFrom_86 : decode cX9_cutsFrom 86 = .ok (.goto 4, 3) := by decide +kernel
theorem dX9_cutsFrom_89 : decode cX9_cutsFrom 89 = .ok (.iconst 1, 1) := by decide +kernel
theorem dX9_cutsFrom_90 : decode cX9_cutsFrom 90 = .ok (.iadd, 1) := by decide +kernel
theorem dX9_cutsFrom_91 : decode cX9_cutsFrom 91 = .ok (.istore 6, 2) := by decide +kernel
theorem dX9_cutsFrom_93 : decode cX9_cutsFrom 93 = .ok (.iload 5, 2) := by decide +kernel
theorem dX9_cutsFrom_95 : decode cX9_cutsFrom 95 = .ok (.ifCond .eq 14, 3) := by decide +kernel
theorem dX9_cutsFrom_98 : decode cX9_cutsFrom 98 = .ok (.iload 6, 2) := by decide +kernel
theorem dX9_cutsFrom_100 : decode cX9_cutsFrom 100 = .ok (.iload_n 3, 1) := by decide +kernel
theorem dX9_cutsFrom_101 : decode cX9_cutsFrom 101 = .ok (.if_icmp .ge 8, 3) := by decide +kernel
theorem dX9_cutsFrom_104 : decode cX9_cutsFrom 104 = .ok (.iload 6, 2) := by decide +kernel
theorem dX9_cutsFrom_106 : decode cX9_cutsFrom 106 = .ok (.goto 4, 3) := by decide +kernel
theorem dX9_cutsFrom_109 : decode cX9_cutsFrom 109 = .ok (.iload_n 3, 1) := by decide +kernel
theorem dX9_cutsFrom_110 : decode cX9_cutsFrom 110 = .ok (.istore_n 3, 1) := by decide +kernel
theorem dX9_cutsFrom_111 : decode cX9_cutsFrom 111 = .ok (.iinc 4 1, 3) := by decide +kernel
theorem dX9_cutsFrom_114 : decode cX9_cutsFrom 114 = .ok (.goto (-82), 3) := by decide +kernel
theorem dX9_cutsFrom_117 : decode cX9_cutsFrom 117 = .ok (.iload_n 3, 1) := by decide +kernel
theorem dX9_cutsFrom_118 : decode cX9_cutsFrom 118 = .ok (.ireturn, 1) := by decide +kernel
theorem dX9_findCuts_0 : decode cX9_findCuts 0 = .ok (.aload_n 0, 1) := by decide +kernel
theorem dX9_findCuts_1 : decode cX9_findCuts 1 = .ok (.getfield 70, 3) := by decide +kernel
theorem dX9_findCuts_4 : decode cX9_findCuts 4 = .ok (.iconst 1, 1) := by decide +kernel
theorem dX9_findCuts_5 : decode cX9_findCuts 5 = .ok (.isub, 1) := by decide +kernel
theorem dX9_findCuts_6 : decode cX9_findCuts 6 = .ok (.istore_n 1, 1) := by decide +kernel
theorem dX9_findCuts_7 : decode cX9_findCuts 7 = .ok (.iload_n 1, 1) := by decide +kernel
theorem dX9_findCuts_8 : decode cX9_findCuts 8 = .ok (.ifCond .lt 42, 3) := by decide +kernel
theorem dX9_findCuts_11 : decode cX9_findCuts 11 = .ok (.iconst 0, 1) := by decide +kernel
theorem dX9_findCuts_12 : decode cX9_findCuts 12 = .ok (.istore_n 2, 1) := by decide +kernel
theorem dX9_findCuts_13 : decode cX9_findCuts 13 = .ok (.iload_n 2, 1) := by decide +kernel
theorem dX9_findCuts_14 : decode cX9_findCuts 14 = .ok (.aload_n 0, 1) := by decide +kernel
theorem dX9_findCuts_15 : decode cX9_findCuts 15 = .ok (.getfield 73, 3) := by decide +kernel
theorem dX9_findCuts_18 : decode cX9_findCuts 18 = .ok (.if_icmp .ge 26, 3) := by decide +kernel
theorem dX9_findCuts_21 : decode cX9_findCuts 21 = .ok (.aload_n 0, 1) := by decide +kernel
theorem dX9_findCuts_22 : decode cX9_findCuts 22 = .ok (.getfield 34, 3) := by decide +kernel
theorem dX9_findCuts_25 : decode cX9_findCuts 25 = .ok (.bipush 10, 2) := by decide +kernel
theorem dX9_findCuts_27 : decode cX9_findCuts 27 = .ok (.iload_n 1, 1) := by decide +kernel
theorem dX9_findCuts_28 : decode cX9_findCuts 28 = .ok (.imul, 1) := by decide +kernel
theorem dX9_findCuts_29 : decode cX9_findCuts 29 = .ok (.iload_n 2, 1) := by decide +kernel
theorem dX9_findCuts_30 : decode cX9_findCuts 30 = .ok (.iadd, 1) := by decide +kernel
theorem dX9_findCuts_31 : decode cX9_findCuts 31 = .ok (.aload_n 0, 1) := by decide +kernel
theorem dX9_findCuts_32 : decode cX9_findCuts 32 = .ok (.iload_n 1, 1) := by decide +kernel
theorem dX9_findCuts_33 : decode cX9_findCuts 33 = .ok (.iload_n 2, 1) := by decide +kernel
theorem dX9_findCuts_34 : decode cX9_findCuts 34 = .ok (.invokevirtual 129, 3) := by decide +kernel
theorem dX9_findCuts_37 : decode cX9_findCuts 37 = .ok (.iastore, 1) := by decide +kernel
theorem dX9_findCuts_38 : decode cX9_findCuts 38 = .ok (.iinc 2 1, 3) := by decide +kernel
theorem dX9_findCuts_41 : decode cX9_findCuts 41 = .ok (.goto (-28), 3) := by decide +kernel
theorem dX9_findCuts_44 : decode cX9_findCuts 44 = .ok (.iinc 1 (-1), 3) := by decide +kernel
theorem dX9_findCuts_47 : decode cX9_findCuts 47 = .ok (.goto (-40), 3) := by decide +kernel
theorem dX9_findCuts_50 : decode cX9_findCuts 50 = .ok (.return_, 1) := by decide +kernel
theorem dX9_fewestCuts_0 : decode cX9_fewestCuts 0 = .ok (.sipush 1000, 3) := by decide +kernel
theorem dX9_fewestCuts_3 : decode cX9_fewestCuts 3 = .ok (.istore_n 1, 1) := by decide +kernel
theorem dX9_fewestCuts_4 : decode cX9_fewestCuts 4 = .ok (.iconst 0, 1) := by decide +kernel
theorem dX9_fewestCuts_5 : decode cX9_fewestCuts 5 = .ok (.istore_n 2, 1) := by decide +kernel
theorem dX9_fewestCuts_6 : decode cX9_fewestCuts 6 = .ok (.iload_n 2, 1) := by decide +kernel
theorem dX9_fewestCuts_7 : decode cX9_fewestCuts 7 = .ok (.aload_n 0, 1) := by decide +kernel
theorem dX9_fewestCuts_8 : decode cX9_fewestCuts 8 = .ok (.getfield 73, 3) := by decide +kernel
theorem dX9_fewestCuts_11 : decode cX9_fewestCuts 11 = .ok (.if_icmp .ge 30, 3) := by decide +kernel
theorem dX9_fewestCuts_14 : decode cX9_fewestCuts 14 = .ok (.aload_n 0, 1) := by decide +kernel
theorem dX9_fewestCuts_15 : decode cX9_fewestCuts 15 = .ok (.getfield 34, 3) := by decide +kernel
theorem dX9_fewestCuts_18 : decode cX9_fewestCuts 18 = .ok (.iload_n 2, 1) := by decide +kernel
theorem dX9_fewestCuts_19 : decode cX9_fewestCuts 19 = .ok (.iaload, 1) := by decide +kernel
theorem dX9_fewestCuts_20 : decode cX9_fewestCuts 20 = .ok (.iload_n 1, 1) := by decide +kernel
theorem dX9_fewestCuts_21 : decode cX9_fewestCuts 21 = .ok (.if_icmp .ge 12, 3) := by decide +kernel
theorem dX9_fewestCuts_24 : decode cX9_fewestCuts 24 = .ok (.aload_n 0, 1) := by decide +kernel
theorem dX9_fewestCuts_25 : decode cX9_fewestCuts 25 = .ok (.getfield 34, 3) := by decide +kernel
theorem dX9_fewestCuts_28 : decode cX9_fewestCuts 28 = .ok (.iload_n 2, 1) := by decide +kernel
theorem dX9_fewestCuts_29 : decode cX9_fewestCuts 29 = .ok (.iaload, 1) := by decide +kernel
theorem dX9_fewestCuts_30 : decode cX9_fewestCuts 30 = .ok (.goto 4, 3) := by decide +kernel
end
section
theorem dX9_fewestCuts_33 : decode cX9_fewestCuts 33 = .ok (.iload_n 1, 1) := by decide +kernel
theorem dX9_fewestCuts_34 : decode cX9_fewestCuts 34 = .ok (.istore_n 1, 1) := by decide +kernel
theorem dX9_fewestCuts_35 : decode cX9_fewestCuts 35 = .ok (.iinc 2 1, 3) := by decide +kernel
theorem dX9_fewestCuts_38 : decode cX9_fewestCuts 38 = .ok (.goto (-32), 3) := by decide +kernel
theorem dX9_fewestCuts_41 : decode cX9_fewestCuts 41 = .ok (.iload_n 1, 1) := by decide +kernel
theorem dX9_fewestCuts_42 : decode cX9_fewestCuts 42 = .ok (.ireturn, 1) := by decide +kernel
theorem dX9_heads_0 : decode cX9_heads 0 = .ok (.aload_n 0, 1) := by decide +kernel
theorem dX9_heads_1 : decode cX9_heads 1 = .ok (.invokevirtual 133, 3) := by decide +kernel
theorem dX9_heads_4 : decode cX9_heads 4 = .ok (.aload_n 0, 1) := by decide +kernel
theorem dX9_heads_5 : decode cX9_heads 5 = .ok (.invokevirtual 136, 3) := by decide +kernel
theorem dX9_heads_8 : decode cX9_heads 8 = .ok (.istore_n 2, 1) := by decide +kernel
theorem dX9_heads_9 : decode cX9_heads 9 = .ok (.iload_n 2, 1) := by decide +kernel
theorem dX9_heads_10 : decode cX9_heads 10 = .ok (.sipush 1000, 3) := by decide +kernel
theorem dX9_heads_13 : decode cX9_heads 13 = .ok (.if_icmp .lt 6, 3) := by decide +kernel
theorem dX9_heads_16 : decode cX9_heads 16 = .ok (.bipush (-6), 2) := by decide +kernel
theorem dX9_heads_18 : decode cX9_heads 18 = .ok (.ireturn, 1) := by decide +kernel
theorem dX9_heads_19 : decode cX9_heads 19 = .ok (.iload_n 1, 1) := by decide +kernel
theorem dX9_heads_20 : decode cX9_heads 20 = .ok (.iconst (-1), 1) := by decide +kernel
theorem dX9_heads_21 : decode cX9_heads 21 = .ok (.if_icmp .ne 5, 3) := by decide +kernel
theorem dX9_heads_24 : decode cX9_heads 24 = .ok (.iload_n 2, 1) := by decide +kernel
theorem dX9_heads_25 : decode cX9_heads 25 = .ok (.ireturn, 1) := by decide +kernel
theorem dX9_heads_26 : decode cX9_heads 26 = .ok (.aload_n 0, 1) := by decide +kernel
theorem dX9_heads_27 : decode cX9_heads 27 = .ok (.iload_n 1, 1) := by decide +kernel
theorem dX9_heads_28 : decode cX9_heads 28 = .ok (.invokevirtual 88, 3) := by decide +kernel
theorem dX9_heads_31 : decode cX9_heads 31 = .ok (.ifCond .ne 6, 3) := by decide +kernel
theorem dX9_heads_34 : decode cX9_heads 34 = .ok (.bipush (-6), 2) := by decide +kernel
theorem dX9_heads_36 : decode cX9_heads 36 = .ok (.ireturn, 1) := by decide +kernel
theorem dX9_heads_37 : decode cX9_heads 37 = .ok (.bipush (-6), 2) := by decide +kernel
theorem dX9_heads_39 : decode cX9_heads 39 = .ok (.istore_n 3, 1) := by decide +kernel
theorem dX9_heads_40 : decode cX9_heads 40 = .ok (.iconst 0, 1) := by decide +kernel
theorem dX9_heads_41 : decode cX9_heads 41 = .ok (.istore 4, 2) := by decide +kernel
theorem dX9_heads_43 : decode cX9_heads 43 = .ok (.iload 4, 2) := by decide +kernel
theorem dX9_heads_45 : decode cX9_heads 45 = .ok (.iload_n 1, 1) := by decide +kernel
theorem dX9_heads_46 : decode cX9_heads 46 = .ok (.if_icmp .gt 52, 3) := by decide +kernel
theorem dX9_heads_49 : decode cX9_heads 49 = .ok (.iconst 0, 1) := by decide +kernel
theorem dX9_heads_50 : decode cX9_heads 50 = .ok (.istore 5, 2) := by decide +kernel
theorem dX9_heads_52 : decode cX9_heads 52 = .ok (.aload_n 0, 1) := by decide +kernel
theorem dX9_heads_53 : decode cX9_heads 53 = .ok (.iload 4, 2) := by decide +kernel
theorem dX9_heads_55 : decode cX9_heads 55 = .ok (.iload 5, 2) := by decide +kernel
theorem dX9_heads_57 : decode cX9_heads 57 = .ok (.iload_n 3, 1) := by decide +kernel
theorem dX9_heads_58 : decode cX9_heads 58 = .ok (.iload_n 2, 1) := by decide +kernel
theorem dX9_heads_59 : decode cX9_heads 59 = .ok (.invokevirtual 139, 3) := by decide +kernel
theorem dX9_heads_62 : decode cX9_heads 62 = .ok (.ifCond .ne 9, 3) := by decide +kernel
theorem dX9_heads_65 : decode cX9_heads 65 = .ok (.iinc 5 1, 3) := by decide +kernel
theorem dX9_heads_68 : decode cX9_heads 68 = .ok (.goto (-16), 3) := by decide +kernel
theorem dX9_heads_71 : decode cX9_heads 71 = .ok (.iload_n 2, 1) := by decide +kernel
theorem dX9_heads_72 : decode cX9_heads 72 = .ok (.iload_n 3, 1) := by decide +kernel
theorem dX9_heads_73 : decode cX9_heads 73 = .ok (.ifCond .lt 13, 3) := by decide +kernel
theorem dX9_heads_76 : decode cX9_heads 76 = .ok (.iload 5, 2) := by decide +kernel
theorem dX9_heads_78 : decode cX9_heads 78 = .ok (.iload_n 3, 1) := by decide +kernel
theorem dX9_heads_79 : decode cX9_heads 79 = .ok (.if_icmp .eq 7, 3) := by decide +kernel
theorem dX9_heads_82 : decode cX9_heads 82 = .ok (.iconst 1, 1) := by decide +kernel
theorem dX9_heads_83 : decode cX9_heads 83 = .ok (.goto 4, 3) := by decide +kernel
theorem dX9_heads_86 : decode cX9_heads 86 = .ok (.iconst 0, 1) := by decide +kernel
theorem dX9_heads_87 : decode cX9_heads 87 = .ok (.isub, 1) := by decide +kernel
theorem dX9_heads_88 : decode cX9_heads 88 = .ok (.istore_n 2, 1) := by decide +kernel
theorem dX9_heads_89 : decode cX9_heads 89 = .ok (.iload 5, 2) := by decide +kernel
theorem dX9_heads_91 : decode cX9_heads 91 = .ok (.istore_n 3, 1) := by decide +kernel
theorem dX9_heads_92 : decode cX9_heads 92 = .ok (.iinc 4 1, 3) := by decide +kernel
theorem dX9_heads_95 : decode cX9_heads 95 = .ok (.goto (-52), 3) := by decide +kernel
theorem dX9_heads_98 : decode cX9_heads 98 = .ok (.iload_n 3, 1) := by decide +kernel
theorem dX9_heads_99 : decode cX9_heads 99 = .ok (.ireturn, 1) := by decide +kernel
theorem dX9_goesOn_0 : decode cX9_goesOn 0 = .ok (.iload_n 3, 1) := by decide +kernel
theorem dX9_goesOn_1 : decode cX9_goesOn 1 = .ok (.ifCond .lt 12, 3) := by decide +kernel
theorem dX9_goesOn_4 : decode cX9_goesOn 4 = .ok (.iload_n 2, 1) := by decide +kernel
theorem dX9_goesOn_5 : decode cX9_goesOn 5 = .ok (.iload_n 3, 1) := by decide +kernel
theorem dX9_goesOn_6 : decode cX9_goesOn 6 = .ok (.if_icmp .eq 7, 3) := by decide +kernel
theorem dX9_goesOn_9 : decode cX9_goesOn 9 = .ok (.iconst 1, 1) := by decide +kernel
theorem dX9_goesOn_10 : decode cX9_goesOn 10 = .ok (.goto 4, 3) := by decide +kernel
theorem dX9_goesOn_13 : decode cX9_goesOn 13 = .ok (.iconst 0, 1) := by decide +kernel
theorem dX9_goesOn_14 : decode cX9_goesOn 14 = .ok (.istore 5, 2) := by decide +kernel
theorem dX9_goesOn_16 : decode cX9_goesOn 16 = .ok (.iload 5, 2) := by decide +kernel
theorem dX9_goesOn_18 : decode cX9_goesOn 18 = .ok (.ifCond .eq 16, 3) := by decide +kernel
theorem dX9_goesOn_21 : decode cX9_goesOn 21 = .ok (.aload_n 0, 1) := by decide +kernel
theorem dX9_goesOn_22 : decode cX9_goesOn 22 = .ok (.getfield 79, 3) := by decide +kernel
theorem dX9_goesOn_25 : decode cX9_goesOn 25 = .ok (.iload_n 1, 1) := by decide +kernel
theorem dX9_goesOn_26 : decode cX9_goesOn 26 = .ok (.iconst 1, 1) := by decide +kernel
theorem dX9_goesOn_27 : decode cX9_goesOn 27 = .ok (.isub, 1) := by decide +kernel
theorem dX9_goesOn_28 : decode cX9_goesOn 28 = .ok (.ishr, 1) := by decide +kernel
theorem dX9_goesOn_29 : decode cX9_goesOn 29 = .ok (.iconst 1, 1) := by decide +kernel
theorem dX9_goesOn_30 : decode cX9_goesOn 30 = .ok (.iand, 1) := by decide +kernel
theorem dX9_goesOn_31 : decode cX9_goesOn 31 = .ok (.ifCond .ne 7, 3) := by decide +kernel
theorem dX9_goesOn_34 : decode cX9_goesOn 34 = .ok (.iconst 1, 1) := by decide +kernel
theorem dX9_goesOn_35 : decode cX9_goesOn 35 = .ok (.goto 4, 3) := by decide +kernel
theorem dX9_goesOn_38 : decode cX9_goesOn 38 = .ok (.iconst 0, 1) := by decide +kernel
theorem dX9_goesOn_39 : decode cX9_goesOn 39 = .ok (.istore 6, 2) := by decide +kernel
theorem dX9_goesOn_41 : decode cX9_goesOn 41 = .ok (.iload 6, 2) := by decide +kernel
theorem dX9_goesOn_43 : decode cX9_goesOn 43 = .ok (.ifCond .eq 34, 3) := by decide +kernel
theorem dX9_goesOn_46 : decode cX9_goesOn 46 = .ok (.aload_n 0, 1) := by decide +kernel
theorem dX9_goesOn_47 : decode cX9_goesOn 47 = .ok (.getfield 34, 3) := by decide +kernel
theorem dX9_goesOn_50 : decode cX9_goesOn 50 = .ok (.bipush 10, 2) := by decide +kernel
theorem dX9_goesOn_52 : decode cX9_goesOn 52 = .ok (.iload_n 1, 1) := by decide +kernel
theorem dX9_goesOn_53 : decode cX9_goesOn 53 = .ok (.imul, 1) := by decide +kernel
theorem dX9_goesOn_54 : decode cX9_goesOn 54 = .ok (.iload_n 2, 1) := by decide +kernel
theorem dX9_goesOn_55 : decode cX9_goesOn 55 = .ok (.iadd, 1) := by decide +kernel
theorem dX9_goesOn_56 : decode cX9_goesOn 56 = .ok (.iaload, 1) := by decide +kernel
theorem dX9_goesOn_57 : decode cX9_goesOn 57 = .ok (.iload 5, 2) := by decide +kernel
theorem dX9_goesOn_59 : decode cX9_goesOn 59 = .ok (.ifCond .eq 7, 3) := by decide +kernel
theorem dX9_goesOn_62 : decode cX9_goesOn 62 = .ok (.iconst 1, 1) := by decide +kernel
theorem dX9_goesOn_63 : decode cX9_goesOn 63 = .ok (.goto 4, 3) := by decide +kernel
theorem dX9_goesOn_66 : decode cX9_goesOn 66 = .ok (.iconst 0, 1) := by decide +kernel
theorem dX9_goesOn_67 : decode cX9_goesOn 67 = .ok (.iadd, 1) := by decide +kernel
theorem dX9_goesOn_68 : decode cX9_goesOn 68 = .ok (.iload 4, 2) := by decide +kernel
theorem dX9_goesOn_70 : decode cX9_goesOn 70 = .ok (.if_icmp .ne 7, 3) := by decide +kernel
theorem dX9_goesOn_73 : decode cX9_goesOn 73 = .ok (.iconst 1, 1) := by decide +kernel
theorem dX9_goesOn_74 : decode cX9_goesOn 74 = .ok (.goto 4, 3) := by decide +kernel
theorem dX9_goesOn_77 : decode cX9_goesOn 77 = .ok (.iconst 0, 1) := by decide +kernel
theorem dX9_goesOn_78 : decode cX9_goesOn 78 = .ok (.ireturn, 1) := by decide +kernel
theorem dX9_left_0 : decode cX9_left 0 = .ok (.aload_n 0, 1) := by decide +kernel
theorem dX9_left_1 : decode cX9_left 1 = .ok (.getfield 73, 3) := by decide +kernel
theorem dX9_left_4 : decode cX9_left 4 = .ok (.ifCond .ne 6, 3) := by decide +kernel
theorem dX9_left_7 : decode cX9_left 7 = .ok (.bipush (-6), 2) := by decide +kernel
theorem dX9_left_9 : decode cX9_left 9 = .ok (.ireturn, 1) := by decide +kernel
theorem dX9_left_10 : decode cX9_left 10 = .ok (.iconst 0, 1) := by decide +kernel
theorem dX9_left_11 : decode cX9_left 11 = .ok (.istore_n 1, 1) := by decide +kernel
theorem dX9_left_12 : decode cX9_left 12 = .ok (.iconst 0, 1) := by decide +kernel
theorem dX9_left_13 : decode cX9_left 13 = .ok (.istore_n 2, 1) := by decide +kernel
theorem dX9_left_14 : decode cX9_left 14 = .ok (.iconst 0, 1) := by decide +kernel
theorem dX9_left_15 : decode cX9_left 15 = .ok (.istore_n 3, 1) := by decide +kernel
theorem dX9_left_16 : decode cX9_left 16 = .ok (.iload_n 3, 1) := by decide +kernel
theorem dX9_left_17 : decode cX9_left 17 = .ok (.aload_n 0, 1) := by decide +kernel
theorem dX9_left_18 : decode cX9_left 18 = .ok (.getfield 70, 3) := by decide +kernel
theorem dX9_left_21 : decode cX9_left 21 = .ok (.if_icmp .ge 55, 3) := by decide +kernel
theorem dX9_left_24 : decode cX9_left 24 = .ok (.iload_n 3, 1) := by decide +kernel
theorem dX9_left_25 : decode cX9_left 25 = .ok (.aload_n 0, 1) := by decide +kernel
theorem dX9_left_26 : decode cX9_left 26 = .ok (.getfield 70, 3) := by decide +kernel
theorem dX9_left_29 : decode cX9_left 29 = .ok (.iconst 1, 1) := by decide +kernel
theorem dX9_left_30 : decode cX9_left 30 = .ok (.isub, 1) := by decide +kernel
theorem dX9_left_31 : decode cX9_left 31 = .ok (.if_icmp .eq 14, 3) := by decide +kernel
theorem dX9_left_34 : decode cX9_left 34 = .ok (.aload_n 0, 1) := by decide +kernel
theorem dX9_left_35 : decode cX9_left 35 = .ok (.getfield 79, 3) := by decide +kernel
theorem dX9_left_38 : decode cX9_left 38 = .ok (.iload_n 3, 1) := by decide +kernel
theorem dX9_left_39 : decode cX9_left 39 = .ok (.ishr, 1) := by decide +kernel
theorem dX9_left_40 : decode cX9_left 40 = .ok (.iconst 1, 1) := by decide +kernel
theorem dX9_left_41 : decode cX9_left 41 = .ok (.iand, 1) := by decide +kernel
theorem dX9_left_42 : decode cX9_left 42 = .ok (.ifCond .ne 7, 3) := by decide +kernel
theorem dX9_left_45 : decode cX9_left 45 = .ok (.iconst 1, 1) := by decide +kernel
theorem dX9_left_46 : decode cX9_left 46 = .ok (.goto 4, 3) := by decide +kernel
theorem dX9_left_49 : decode cX9_left 49 = .ok (.iconst 0, 1) := by decide +kernel
theorem dX9_left_50 : decode cX9_left 50 = .ok (.istore 4, 2) := by decide +kernel
theorem dX9_left_52 : decode cX9_left 52 = .ok (.iload 4, 2) := by decide +kernel
theorem dX9_left_54 : decode cX9_left 54 = .ok (.ifCond .eq 16, 3) := by decide +kernel
theorem dX9_left_57 : decode cX9_left 57 = .ok (.iload_n 1, 1) := by decide +kernel
theorem dX9_left_58 : decode cX9_left 58 = .ok (.aload_n 0, 1) := by decide +kernel
theorem dX9_left_59 : decode cX9_left 59 = .ok (.iload_n 2, 1) := by decide +kernel
theorem dX9_left_60 : decode cX9_left 60 = .ok (.iload_n 3, 1) := by decide +kernel
theorem dX9_left_61 : decode cX9_left 61 = .ok (.invokevirtual 143, 3) := by decide +kernel
theorem dX9_left_64 : decode cX9_left 64 = .ok (.iadd, 1) := by decide +kernel
theorem dX9_left_65 : decode cX9_left 65 = .ok (.istore_n 1, 1) := by decide +kernel
theorem dX9_left_66 : decode cX9_left 66 = .ok (.iload_n 3, 1) := by decide +kernel
theorem dX9_left_67 : decode cX9_left 67 = .ok (.iconst 1, 1) := by decide +kernel
theorem dX9_left_68 : decode cX9_left 68 = .ok (.iadd, 1) := by decide +kernel
theorem dX9_left_69 : decode cX9_left 69 = .ok (.istore_n 2, 1) := by decide +kernel
theorem dX9_left_70 : decode cX9_left 70 = .ok (.iinc 3 1, 3) := by decide +kernel
theorem dX9_left_73 : decode cX9_left 73 = .ok (.goto (-57), 3) := by decide +kernel
theorem dX9_left_76 : decode cX9_left 76 = .ok (.iload_n 1, 1) := by decide +kernel
theorem dX9_left_77 : decode cX9_left 77 = .ok (.ireturn, 1) := by decide +kernel
theorem dX9_fewestBad_0 : decode cX9_fewestBad 0 = .ok (.sipush 1000, 3) := by decide +kernel
theorem dX9_fewestBad_3 : decode cX9_fewestBad 3 = .ok (.istore_n 3, 1) := by decide +kernel
theorem dX9_fewestBad_4 : decode cX9_fewestBad 4 = .ok (.iconst 0, 1) := by decide +kernel
theorem dX9_fewestBad_5 : decode cX9_fewestBad 5 = .ok (.istore 4, 2) := by decide +kernel
theorem dX9_fewestBad_7 : decode cX9_fewestBad 7 = .ok (.iload 4, 2) := by decide +kernel
theorem dX9_fewestBad_9 : decode cX9_fewestBad 9 = .ok (.aload_n 0, 1) := by decide +kernel
theorem dX9_fewestBad_10 : decode cX9_fewestBad 10 = .ok (.getfield 73, 3) := by decide +kernel
theorem dX9_fewestBad_13 : decode cX9_fewestBad 13 = .ok (.if_icmp .ge 61, 3) := by decide +kernel
theorem dX9_fewestBad_16 : decode cX9_fewestBad 16 = .ok (.iconst 0, 1) := by decide +kernel
theorem dX9_fewestBad_17 : decode cX9_fewestBad 17 = .ok (.istore 5, 2) := by decide +kernel
theorem dX9_fewestBad_19 : decode cX9_fewestBad 19 = .ok (.iload_n 1, 1) := by decide +kernel
theorem dX9_fewestBad_20 : decode cX9_fewestBad 20 = .ok (.istore 6, 2) := by decide +kernel
theorem dX9_fewestBad_22 : decode cX9_fewestBad 22 = .ok (.iload 6, 2) := by decide +kernel
theorem dX9_fewestBad_24 : decode cX9_fewestBad 24 = .ok (.iload_n 2, 1) := by decide +kernel
theorem dX9_fewestBad_25 : decode cX9_fewestBad 25 = .ok (.if_icmp .gt 30, 3) := by decide +kernel
theorem dX9_fewestBad_28 : decode cX9_fewestBad 28 = .ok (.iload 5, 2) := by decide +kernel
theorem dX9_fewestBad_30 : decode cX9_fewestBad 30 = .ok (.aload_n 0, 1) := by decide +kernel
theorem dX9_fewestBad_31 : decode cX9_fewestBad 31 = .ok (.iload 4, 2) := by decide +kernel
theorem dX9_fewestBad_33 : decode cX9_fewestBad 33 = .ok (.iload 6, 2) := by decide +kernel
theorem dX9_fewestBad_35 : decode cX9_fewestBad 35 = .ok (.invokevirtual 112, 3) := by decide +kernel
theorem dX9_fewestBad_38 : decode cX9_fewestBad 38 = .ok (.ifCond .eq 7, 3) := by decide +kernel
theorem dX9_fewestBad_41 : decode cX9_fewestBad 41 = .ok (.iconst 0, 1) := by decide +kernel
theorem dX9_fewestBad_42 : decode cX9_fewestBad 42 = .ok (.goto 4, 3) := by decide +kernel
theorem dX9_fewestBad_45 : decode cX9_fewestBad 45 = .ok (.iconst 1, 1) := by decide +kernel
theorem dX9_fewestBad_46 : decode cX9_fewestBad 46 = .ok (.iadd, 1) := by decide +kernel
theorem dX9_fewestBad_47 : decode cX9_fewestBad 47 = .ok (.istore 5, 2) := by decide +kernel
theorem dX9_fewestBad_49 : decode cX9_fewestBad 49 = .ok (.iinc 6 1, 3) := by decide +kernel
theorem dX9_fewestBad_52 : decode cX9_fewestBad 52 = .ok (.goto (-30), 3) := by decide +kernel
theorem dX9_fewestBad_55 : decode cX9_fewestBad 55 = .ok (.iload 5, 2) := by decide +kernel
theorem dX9_fewestBad_57 : decode cX9_fewestBad 57 = .ok (.iload_n 3, 1) := by decide +kernel
theorem dX9_fewestBad_58 : decode cX9_fewestBad 58 = .ok (.if_icmp .ge 8, 3) := by decide +kernel
theorem dX9_fewestBad_61 : decode cX9_fewestBad 61 = .ok (.iload 5, 2) := by decide +kernel
theorem dX9_fewestBad_63 : decode cX9_fewestBad 63 = .ok (.goto 4, 3) := by decide +kernel
theorem dX9_fewestBad_66 : decode cX9_fewestBad 66 = .ok (.iload_n 3, 1) := by decide +kernel
theorem dX9_fewestBad_67 : decode cX9_fewestBad 67 = .ok (.istore_n 3, 1) := by decide +kernel
theorem dX9_fewestBad_68 : decode cX9_fewestBad 68 = .ok (.iinc 4 1, 3) := by decide +kernel
theorem dX9_fewestBad_71 : decode cX9_fewestBad 71 = .ok (.goto (-64), 3) := by decide +kernel
theorem dX9_fewestBad_74 : decode cX9_fewestBad 74 = .ok (.iload_n 3, 1) := by decide +kernel
theorem dX9_fewestBad_75 : decode cX9_fewestBad 75 = .ok (.ireturn, 1) := by decide +kernel
theorem dX9_blink_0 : decode cX9_blink 0 = .ok (.aload_n 0, 1) := by decide +kernel
theorem dX9_blink_1 : decode cX9_blink 1 = .ok (.iload_n 1, 1) := by decide +kernel
theorem dX9_blink_2 : decode cX9_blink 2 = .ok (.invokevirtual 88, 3) := by decide +kernel
theorem dX9_blink_5 : decode cX9_blink 5 = .ok (.ifCond .ne 5, 3) := by decide +kernel
theorem dX9_blink_8 : decode cX9_blink 8 = .ok (.iconst (-1), 1) := by decide +kernel
theorem dX9_blink_9 : decode cX9_blink 9 = .ok (.ireturn, 1) := by decide +kernel
theorem dX9_blink_10 : decode cX9_blink 10 = .ok (.iload_n 2, 1) := by decide +kernel
theorem dX9_blink_11 : decode cX9_blink 11 = .ok (.ifCond .ne 35, 3) := by decide +kernel
theorem dX9_blink_14 : decode cX9_blink 14 = .ok (.iload_n 3, 1) := by decide +kernel
theorem dX9_blink_15 : decode cX9_blink 15 = .ok (.i2l, 1) := by decide +kernel
theorem dX9_blink_16 : decode cX9_blink 16 = .ok (.aload_n 0, 1) := by decide +kernel
theorem dX9_blink_17 : decode cX9_blink 17 = .ok (.getfield 16, 3) := by decide +kernel
theorem dX9_blink_20 : decode cX9_blink 20 = .ok (.iload_n 1, 1) := by decide +kernel
theorem dX9_blink_21 : decode cX9_blink 21 = .ok (.iaload, 1) := by decide +kernel
theorem dX9_blink_22 : decode cX9_blink 22 = .ok (.iconst 1, 1) := by decide +kernel
theorem dX9_blink_23 : decode cX9_blink 23 = .ok (.if_icmp .le 13, 3) := by decide +kernel
theorem dX9_blink_26 : decode cX9_blink 26 = .ok (.aload_n 0, 1) := by decide +kernel
theorem dX9_blink_27 : decode cX9_blink 27 = .ok (.getfield 16, 3) := by decide +kernel
theorem dX9_blink_30 : decode cX9_blink 30 = .ok (.iload_n 1, 1) := by decide +kernel
theorem dX9_blink_31 : decode cX9_blink 31 = .ok (.iaload, 1) := by decide +kernel
theorem dX9_blink_32 : decode cX9_blink 32 = .ok (.i2l, 1) := by decide +kernel
theorem dX9_blink_33 : decode cX9_blink 33 = .ok (.goto 4, 3) := by decide +kernel
theorem dX9_blink_36 : decode cX9_blink 36 = .ok (.lconst 1, 1) := by decide +kernel
theorem dX9_blink_37 : decode cX9_blink 37 = .ok (.ldc2_w 146, 3) := by decide +kernel
theorem dX9_blink_40 : decode cX9_blink 40 = .ok (.invokestatic 82, 3) := by decide +kernel
theorem dX9_blink_43 : decode cX9_blink 43 = .ok (.goto 46, 3) := by decide +kernel
theorem dX9_blink_46 : decode cX9_blink 46 = .ok (.iload_n 2, 1) := by decide +kernel
theorem dX9_blink_47 : decode cX9_blink 47 = .ok (.iconst 1, 1) := by decide +kernel
theorem dX9_blink_48 : decode cX9_blink 48 = .ok (.if_icmp .ne 19, 3) := by decide +kernel
theorem dX9_blink_51 : decode cX9_blink 51 = .ok (.iload_n 3, 1) := by decide +kernel
theorem dX9_blink_52 : decode cX9_blink 52 = .ok (.i2l, 1) := by decide +kernel
theorem dX9_blink_53 : decode cX9_blink 53 = .ok (.lconst 0, 1) := by decide +kernel
theorem dX9_blink_54 : decode cX9_blink 54 = .ok (.aload_n 0, 1) := by decide +kernel
theorem dX9_blink_55 : decode cX9_blink 55 = .ok (.getfield 13, 3) := by decide +kernel
theorem dX9_blink_58 : decode cX9_blink 58 = .ok (.iload_n 1, 1) := by decide +kernel
theorem dX9_blink_59 : decode cX9_blink 59 = .ok (.iaload, 1) := by decide +kernel
theorem dX9_blink_60 : decode cX9_blink 60 = .ok (.i2l, 1) := by decide +kernel
theorem dX9_blink_61 : decode cX9_blink 61 = .ok (.invokestatic 82, 3) := by decide +kernel
theorem dX9_blink_64 : decode cX9_blink 64 = .ok (.goto 25, 3) := by decide +kernel
theorem dX9_blink_67 : decode cX9_blink 67 = .ok (.iload_n 2, 1) := by decide +kernel
theorem dX9_blink_68 : decode cX9_blink 68 = .ok (.iconst 2, 1) := by decide +kernel
theorem dX9_blink_69 : decode cX9_blink 69 = .ok (.if_icmp .ne 19, 3) := by decide +kernel
theorem dX9_blink_72 : decode cX9_blink 72 = .ok (.iload_n 3, 1) := by decide +kernel
theorem dX9_blink_73 : decode cX9_blink 73 = .ok (.i2l, 1) := by decide +kernel
theorem dX9_blink_74 : decode cX9_blink 74 = .ok (.lconst 0, 1) := by decide +kernel
theorem dX9_blink_75 : decode cX9_blink 75 = .ok (.ldc2_w 148, 3) := by decide +kernel
theorem dX9_blink_78 : decode cX9_blink 78 = .ok (.invokestatic 82, 3) := by decide +kernel
theorem dX9_blink_81 : decode cX9_blink 81 = .ok (.ifCond .eq 7, 3) := by decide +kernel
theorem dX9_blink_84 : decode cX9_blink 84 = .ok (.iconst 1, 1) := by decide +kernel
theorem dX9_blink_85 : decode cX9_blink 85 = .ok (.goto 4, 3) := by decide +kernel
theorem dX9_blink_88 : decode cX9_blink 88 = .ok (.iconst 0, 1) := by decide +kernel
theorem dX9_blink_89 : decode cX9_blink 89 = .ok (.istore 4, 2) := by decide +kernel
theorem dX9_blink_91 : decode cX9_blink 91 = .ok (.iload 4, 2) := by decide +kernel
theorem dX9_blink_93 : decode cX9_blink 93 = .ok (.ifCond .ne 6, 3) := by decide +kernel
theorem dX9_blink_96 : decode cX9_blink 96 = .ok (.bipush (-2), 2) := by decide +kernel
theorem dX9_blink_98 : decode cX9_blink 98 = .ok (.ireturn, 1) := by decide +kernel
theorem dX9_blink_99 : decode cX9_blink 99 = .ok (.iload_n 2, 1) := by decide +kernel
theorem dX9_blink_100 : decode cX9_blink 100 = .ok (.ifCond .ne 12, 3) := by decide +kernel
theorem dX9_blink_103 : decode cX9_blink 103 = .ok (.aload_n 0, 1) := by decide +kernel
theorem dX9_blink_104 : decode cX9_blink 104 = .ok (.getfield 13, 3) := by decide +kernel
theorem dX9_blink_107 : decode cX9_blink 107 = .ok (.iload_n 1, 1) := by decide +kernel
theorem dX9_blink_108 : decode cX9_blink 108 = .ok (.iaload, 1) := by decide +kernel
theorem dX9_blink_109 : decode cX9_blink 109 = .ok (.goto 23, 3) := by decide +kernel
theorem dX9_blink_112 : decode cX9_blink 112 = .ok (.iload_n 2, 1) := by decide +kernel
theorem dX9_blink_113 : decode cX9_blink 113 = .ok (.iconst 1, 1) := by decide +kernel
theorem dX9_blink_114 : decode cX9_blink 114 = .ok (.if_icmp .ne 12, 3) := by decide +kernel
theorem dX9_blink_117 : decode cX9_blink 117 = .ok (.aload_n 0, 1) := by decide +kernel
theorem dX9_blink_118 : decode cX9_blink 118 = .ok (.getfield 16, 3) := by decide +kernel
theorem dX9_blink_121 : decode cX9_blink 121 = .ok (.iload_n 1, 1) := by decide +kernel
theorem dX9_blink_122 : decode cX9_blink 122 = .ok (.iaload, 1) := by decide +kernel
theorem dX9_blink_123 : decode cX9_blink 123 = .ok (.goto 9, 3) := by decide +kernel
theorem dX9_blink_126 : decode cX9_blink 126 = .ok (.aload_n 0, 1) := by decide +kernel
theorem dX9_blink_127 : decode cX9_blink 127 = .ok (.getfield 19, 3) := by decide +kernel
theorem dX9_blink_130 : decode cX9_blink 130 = .ok (.iload_n 1, 1) := by decide +kernel
theorem dX9_blink_131 : decode cX9_blink 131 = .ok (.iaload, 1) := by decide +kernel
theorem dX9_blink_132 : decode cX9_blink 132 = .ok (.istore 5, 2) := by decide +kernel
theorem dX9_blink_134 : decode cX9_blink 134 = .ok (.aload_n 0, 1) := by decide +kernel
theorem dX9_blink_135 : decode cX9_blink 135 = .ok (.getfield 13, 3) := by decide +kernel
theorem dX9_blink_138 : decode cX9_blink 138 = .ok (.iload_n 1, 1) := by decide +kernel
theorem dX9_blink_139 : decode cX9_blink 139 = .ok (.iload_n 2, 1) := by decide +kernel
theorem dX9_blink_140 : decode cX9_blink 140 = .ok (.ifCond .ne 7, 3) := by decide +kernel
theorem dX9_blink_143 : decode cX9_blink 143 = .ok (.iload_n 3, 1) := by decide +kernel
theorem dX9_blink_144 : decode cX9_blink 144 = .ok (.goto 9, 3) := by decide +kernel
theorem dX9_blink_147 : decode cX9_blink 147 = .ok (.aload_n 0, 1) := by decide +kernel
theorem dX9_blink_148 : decode cX9_blink 148 = .ok (.getfield 13, 3) := by decide +kernel
theorem dX9_blink_151 : decode cX9_blink 151 = .ok (.iload_n 1, 1) := by decide +kernel
theorem dX9_blink_152 : decode cX9_blink 152 = .ok (.iaload, 1) := by decide +kernel
theorem dX9_blink_153 : decode cX9_blink 153 = .ok (.iastore, 1) := by decide +kernel
theorem dX9_blink_154 : decode cX9_blink 154 = .ok (.aload_n 0, 1) := by decide +kernel
theorem dX9_blink_155 : decode cX9_blink 155 = .ok (.getfield 16, 3) := by decide +kernel
theorem dX9_blink_158 : decode cX9_blink 158 = .ok (.iload_n 1, 1) := by decide +kernel
theorem dX9_blink_159 : decode cX9_blink 159 = .ok (.iload_n 2, 1) := by decide +kernel
theorem dX9_blink_160 : decode cX9_blink 160 = .ok (.iconst 1, 1) := by decide +kernel
theorem dX9_blink_161 : decode cX9_blink 161 = .ok (.if_icmp .ne 7, 3) := by decide +kernel
theorem dX9_blink_164 : decode cX9_blink 164 = .ok (.iload_n 3, 1) := by decide +kernel
theorem dX9_blink_165 : decode cX9_blink 165 = .ok (.goto 9, 3) := by decide +kernel
theorem dX9_blink_168 : decode cX9_blink 168 = .ok (.aload_n 0, 1) := by decide +kernel
theorem dX9_blink_169 : decode cX9_blink 169 = .ok (.getfield 16, 3) := by decide +kernel
theorem dX9_blink_172 : decode cX9_blink 172 = .ok (.iload_n 1, 1) := by decide +kernel
theorem dX9_blink_173 : decode cX9_blink 173 = .ok (.iaload, 1) := by decide +kernel
theorem dX9_blink_174 : decode cX9_blink 174 = .ok (.iastore, 1) := by decide +kernel
theorem dX9_blink_175 : decode cX9_blink 175 = .ok (.aload_n 0, 1) := by decide +kernel
theorem dX9_blink_176 : decode cX9_blink 176 = .ok (.getfield 19, 3) := by decide +kernel
theorem dX9_blink_179 : decode cX9_blink 179 = .ok (.iload_n 1, 1) := by decide +kernel
theorem dX9_blink_180 : decode cX9_blink 180 = .ok (.iload_n 2, 1) := by decide +kernel
theorem dX9_blink_181 : decode cX9_blink 181 = .ok (.iconst 2, 1) := by decide +kernel
theorem dX9_blink_182 : decode cX9_blink 182 = .ok (.if_icmp .ne 7, 3) := by decide +kernel
theorem dX9_blink_185 : decode cX9_blink 185 = .ok (.iload_n 3, 1) := by decide +kernel
theorem dX9_blink_186 : decode cX9_blink 186 = .ok (.goto 9, 3) := by decide +kernel
theorem dX9_blink_189 : decode cX9_blink 189 = .ok (.aload_n 0, 1) := by decide +kernel
theorem dX9_blink_190 : decode cX9_blink 190 = .ok (.getfield 19, 3) := by decide +kernel
theorem dX9_blink_193 : decode cX9_blink 193 = .ok (.iload_n 1, 1) := by decide +kernel
theorem dX9_blink_194 : decode cX9_blink 194 = .ok (.iaload, 1) := by decide +kernel
theorem dX9_blink_195 : decode cX9_blink 195 = .ok (.iastore, 1) := by decide +kernel
theorem dX9_blink_196 : decode cX9_blink 196 = .ok (.iload 5, 2) := by decide +kernel
theorem dX9_blink_198 : decode cX9_blink 198 = .ok (.ireturn, 1) := by decide +kernel
theorem dX9_flash_0 : decode cX9_flash 0 = .ok (.iload_n 1, 1) := by decide +kernel
theorem dX9_flash_1 : decode cX9_flash 1 = .ok (.i2l, 1) := by decide +kernel
theorem dX9_flash_2 : decode cX9_flash 2 = .ok (.ldc2_w 150, 3) := by decide +kernel
theorem dX9_flash_5 : decode cX9_flash 5 = .ok (.ldc2_w 152, 3) := by decide +kernel
theorem dX9_flash_8 : decode cX9_flash 8 = .ok (.invokestatic 82, 3) := by decide +kernel
theorem dX9_flash_11 : decode cX9_flash 11 = .ok (.ifCond .ne 6, 3) := by decide +kernel
theorem dX9_flash_14 : decode cX9_flash 14 = .ok (.bipush (-2), 2) := by decide +kernel
theorem dX9_flash_16 : decode cX9_flash 16 = .ok (.ireturn, 1) := by decide +kernel
theorem dX9_flash_17 : decode cX9_flash 17 = .ok (.aload_n 0, 1) := by decide +kernel
theorem dX9_flash_18 : decode cX9_flash 18 = .ok (.getfield 63, 3) := by decide +kernel
theorem dX9_flash_21 : decode cX9_flash 21 = .ok (.istore_n 2, 1) := by decide +kernel
theorem dX9_flash_22 : decode cX9_flash 22 = .ok (.aload_n 0, 1) := by decide +kernel
theorem dX9_flash_23 : decode cX9_flash 23 = .ok (.iload_n 1, 1) := by decide +kernel
theorem dX9_flash_24 : decode cX9_flash 24 = .ok (.putfield 63, 3) := by decide +kernel
theorem dX9_flash_27 : decode cX9_flash 27 = .ok (.iload_n 2, 1) := by decide +kernel
theorem dX9_flash_28 : decode cX9_flash 28 = .ok (.ireturn, 1) := by decide +kernel
theorem dX9_openAt_0 : decode cX9_openAt 0 = .ok (.iconst 0, 1) := by decide +kernel
theorem dX9_openAt_1 : decode cX9_openAt 1 = .ok (.istore_n 2, 1) := by decide +kernel
theorem dX9_openAt_2 : decode cX9_openAt 2 = .ok (.aload_n 0, 1) := by decide +kernel
theorem dX9_openAt_3 : decode cX9_openAt 3 = .ok (.getfield 63, 3) := by decide +kernel
theorem dX9_openAt_6 : decode cX9_openAt 6 = .ok (.ifCond .lt 29, 3) := by decide +kernel
theorem dX9_openAt_9 : decode cX9_openAt 9 = .ok (.iload_n 1, 1) := by decide +kernel
theorem dX9_openAt_10 : decode cX9_openAt 10 = .ok (.i2l, 1) := by decide +kernel
theorem dX9_openAt_11 : decode cX9_openAt 11 = .ok (.aload_n 0, 1) := by decide +kernel
theorem dX9_openAt_12 : decode cX9_openAt 12 = .ok (.getfield 63, 3) := by decide +kernel
theorem dX9_openAt_15 : decode cX9_openAt 15 = .ok (.iconst 1, 1) := by decide +kernel
theorem dX9_openAt_16 : decode cX9_openAt 16 = .ok (.iadd, 1) := by decide +kernel
theorem dX9_openAt_17 : decode cX9_openAt 17 = .ok (.i2l, 1) := by decide +kernel
theorem dX9_openAt_18 : decode cX9_openAt 18 = .ok (.aload_n 0, 1) := by decide +kernel
theorem dX9_openAt_19 : decode cX9_openAt 19 = .ok (.getfield 63, 3) := by decide +kernel
theorem dX9_openAt_22 : decode cX9_openAt 22 = .ok (.iconst 2, 1) := by decide +kernel
theorem dX9_openAt_23 : decode cX9_openAt 23 = .ok (.iadd, 1) := by decide +kernel
theorem dX9_openAt_24 : decode cX9_openAt 24 = .ok (.i2l, 1) := by decide +kernel
theorem dX9_openAt_25 : decode cX9_openAt 25 = .ok (.invokestatic 82, 3) := by decide +kernel
theorem dX9_openAt_28 : decode cX9_openAt 28 = .ok (.ifCond .eq 7, 3) := by decide +kernel
theorem dX9_openAt_31 : decode cX9_openAt 31 = .ok (.iconst 1, 1) := by decide +kernel
theorem dX9_openAt_32 : decode cX9_openAt 32 = .ok (.goto 4, 3) := by decide +kernel
theorem dX9_openAt_35 : decode cX9_openAt 35 = .ok (.iconst 0, 1) := by decide +kernel
theorem dX9_openAt_36 : decode cX9_openAt 36 = .ok (.istore_n 3, 1) := by decide +kernel
theorem dX9_openAt_37 : decode cX9_openAt 37 = .ok (.iconst 0, 1) := by decide +kernel
theorem dX9_openAt_38 : decode cX9_openAt 38 = .ok (.istore 4, 2) := by decide +kernel
theorem dX9_openAt_40 : decode cX9_openAt 40 = .ok (.iload 4, 2) := by decide +kernel
theorem dX9_openAt_42 : decode cX9_openAt 42 = .ok (.aload_n 0, 1) := by decide +kernel
theorem dX9_openAt_43 : decode cX9_openAt 43 = .ok (.getfield 70, 3) := by decide +kernel
theorem dX9_openAt_46 : decode cX9_openAt 46 = .ok (.if_icmp .ge 63, 3) := by decide +kernel
theorem dX9_openAt_49 : decode cX9_openAt 49 = .ok (.iload_n 3, 1) := by decide +kernel
theorem dX9_openAt_50 : decode cX9_openAt 50 = .ok (.ifCond .ne 34, 3) := by decide +kernel
theorem dX9_openAt_53 : decode cX9_openAt 53 = .ok (.iload_n 1, 1) := by decide +kernel
theorem dX9_openAt_54 : decode cX9_openAt 54 = .ok (.aload_n 0, 1) := by decide +kernel
theorem dX9_openAt_55 : decode cX9_openAt 55 = .ok (.getfield 19, 3) := by decide +kernel
theorem dX9_openAt_58 : decode cX9_openAt 58 = .ok (.iload 4, 2) := by decide +kernel
theorem dX9_openAt_60 : decode cX9_openAt 60 = .ok (.iaload, 1) := by decide +kernel
theorem dX9_openAt_61 : decode cX9_openAt 61 = .ok (.iadd, 1) := by decide +kernel
theorem dX9_openAt_62 : decode cX9_openAt 62 = .ok (.aload_n 0, 1) := by decide +kernel
theorem dX9_openAt_63 : decode cX9_openAt 63 = .ok (.getfield 13, 3) := by decide +kernel
theorem dX9_openAt_66 : decode cX9_openAt 66 = .ok (.iload 4, 2) := by decide +kernel
theorem dX9_openAt_68 : decode cX9_openAt 68 = .ok (.iaload, 1) := by decide +kernel
theorem dX9_openAt_69 : decode cX9_openAt 69 = .ok (.irem, 1) := by decide +kernel
theorem dX9_openAt_70 : decode cX9_openAt 70 = .ok (.aload_n 0, 1) := by decide +kernel
theorem dX9_openAt_71 : decode cX9_openAt 71 = .ok (.getfield 16, 3) := by decide +kernel
theorem dX9_openAt_74 : decode cX9_openAt 74 = .ok (.iload 4, 2) := by decide +kernel
theorem dX9_openAt_76 : decode cX9_openAt 76 = .ok (.iaload, 1) := by decide +kernel
theorem dX9_openAt_77 : decode cX9_openAt 77 = .ok (.if_icmp .lt 7, 3) := by decide +kernel
theorem dX9_openAt_80 : decode cX9_openAt 80 = .ok (.iconst 1, 1) := by decide +kernel
theorem dX9_openAt_81 : decode cX9_openAt 81 = .ok (.goto 4, 3) := by decide +kernel
theorem dX9_openAt_84 : decode cX9_openAt 84 = .ok (.iconst 0, 1) := by decide +kernel
theorem dX9_openAt_85 : decode cX9_openAt 85 = .ok (.istore 5, 2) := by decide +kernel
theorem dX9_openAt_87 : decode cX9_openAt 87 = .ok (.iload_n 2, 1) := by decide +kernel
theorem dX9_openAt_88 : decode cX9_openAt 88 = .ok (.iload 5, 2) := by decide +kernel
theorem dX9_openAt_90 : decode cX9_openAt 90 = .ok (.ifCond .eq 10, 3) := by decide +kernel
theorem dX9_openAt_93 : decode cX9_openAt 93 = .ok (.iconst 1, 1) := by decide +kernel
theorem dX9_openAt_94 : decode cX9_openAt 94 = .ok (.iload 4, 2) := by decide +kernel
theorem dX9_openAt_96 : decode cX9_openAt 96 = .ok (.ishl, 1) := by decide +kernel
theorem dX9_openAt_97 : decode cX9_openAt 97 = .ok (.goto 4, 3) := by decide +kernel
theorem dX9_openAt_100 : decode cX9_openAt 100 = .ok (.iconst 0, 1) := by decide +kernel
theorem dX9_openAt_101 : decode cX9_openAt 101 = .ok (.ior, 1) := by decide +kernel
theorem dX9_openAt_102 : decode cX9_openAt 102 = .ok (.istore_n 2, 1) := by decide +kernel
theorem dX9_openAt_103 : decode cX9_openAt 103 = .ok (.iinc 4 1, 3) := by decide +kernel
theorem dX9_openAt_106 : decode cX9_openAt 106 = .ok (.goto (-66), 3) := by decide +kernel
theorem dX9_openAt_109 : decode cX9_openAt 109 = .ok (.iload_n 2, 1) := by decide +kernel
theorem dX9_openAt_110 : decode cX9_openAt 110 = .ok (.ireturn, 1) := by decide +kernel
theorem dX9_open_0 : decode cX9_open 0 = .ok (.iload_n 1, 1) := by decide +kernel
theorem dX9_open_1 : decode cX9_open 1 = .ok (.i2l, 1) := by decide +kernel
theorem dX9_open_2 : decode cX9_open 2 = .ok (.lconst 0, 1) := by decide +kernel
theorem dX9_open_3 : decode cX9_open 3 = .ok (.ldc2_w 152, 3) := by decide +kernel
theorem dX9_open_6 : decode cX9_open 6 = .ok (.invokestatic 82, 3) := by decide +kernel
theorem dX9_open_9 : decode cX9_open 9 = .ok (.ifCond .eq 11, 3) := by decide +kernel
theorem dX9_open_12 : decode cX9_open 12 = .ok (.aload_n 0, 1) := by decide +kernel
theorem dX9_open_13 : decode cX9_open 13 = .ok (.iload_n 1, 1) := by decide +kernel
theorem dX9_open_14 : decode cX9_open 14 = .ok (.invokevirtual 154, 3) := by decide +kernel
theorem dX9_open_17 : decode cX9_open 17 = .ok (.goto 5, 3) := by decide +kernel
theorem dX9_open_20 : decode cX9_open 20 = .ok (.bipush (-2), 2) := by decide +kernel
theorem dX9_open_22 : decode cX9_open 22 = .ok (.ireturn, 1) := by decide +kernel
theorem dX9_fire_0 : decode cX9_fire 0 = .ok (.iload_n 1, 1) := by decide +kernel
theorem dX9_fire_1 : decode cX9_fire 1 = .ok (.i2l, 1) := by decide +kernel
theorem dX9_fire_2 : decode cX9_fire 2 = .ok (.lconst 0, 1) := by decide +kernel
theorem dX9_fire_3 : decode cX9_fire 3 = .ok (.ldc2_w 152, 3) := by decide +kernel
theorem dX9_fire_6 : decode cX9_fire 6 = .ok (.invokestatic 82, 3) := by decide +kernel
theorem dX9_fire_9 : decode cX9_fire 9 = .ok (.ifCond .eq 28, 3) := by decide +kernel
theorem dX9_fire_12 : decode cX9_fire 12 = .ok (.iload_n 2, 1) := by decide +kernel
theorem dX9_fire_13 : decode cX9_fire 13 = .ok (.i2l, 1) := by decide +kernel
theorem dX9_fire_14 : decode cX9_fire 14 = .ok (.iload_n 1, 1) := by decide +kernel
theorem dX9_fire_15 : decode cX9_fire 15 = .ok (.i2l, 1) := by decide +kernel
theorem dX9_fire_16 : decode cX9_fire 16 = .ok (.ldc2_w 152, 3) := by decide +kernel
theorem dX9_fire_19 : decode cX9_fire 19 = .ok (.invokestatic 82, 3) := by decide +kernel
theorem dX9_fire_22 : decode cX9_fire 22 = .ok (.ifCond .eq 15, 3) := by decide +kernel
theorem dX9_fire_25 : decode cX9_fire 25 = .ok (.iload_n 3, 1) := by decide +kernel
theorem dX9_fire_26 : decode cX9_fire 26 = .ok (.i2l, 1) := by decide +kernel
theorem dX9_fire_27 : decode cX9_fire 27 = .ok (.lconst 0, 1) := by decide +kernel
theorem dX9_fire_28 : decode cX9_fire 28 = .ok (.ldc2_w 157, 3) := by decide +kernel
theorem dX9_fire_31 : decode cX9_fire 31 = .ok (.invokestatic 82, 3) := by decide +kernel
theorem dX9_fire_34 : decode cX9_fire 34 = .ok (.ifCond .ne 6, 3) := by decide +kernel
theorem dX9_fire_37 : decode cX9_fire 37 = .ok (.bipush (-2), 2) := by decide +kernel
theorem dX9_fire_39 : decode cX9_fire 39 = .ok (.ireturn, 1) := by decide +kernel
theorem dX9_fire_40 : decode cX9_fire 40 = .ok (.bipush (-6), 2) := by decide +kernel
theorem dX9_fire_42 : decode cX9_fire 42 = .ok (.istore 4, 2) := by decide +kernel
theorem dX9_fire_44 : decode cX9_fire 44 = .ok (.iconst (-1), 1) := by decide +kernel
theorem dX9_fire_45 : decode cX9_fire 45 = .ok (.istore 5, 2) := by decide +kernel
theorem dX9_fire_47 : decode cX9_fire 47 = .ok (.iconst 0, 1) := by decide +kernel
theorem dX9_fire_48 : decode cX9_fire 48 = .ok (.istore 6, 2) := by decide +kernel
theorem dX9_fire_50 : decode cX9_fire 50 = .ok (.iload_n 1, 1) := by decide +kernel
theorem dX9_fire_51 : decode cX9_fire 51 = .ok (.istore 7, 2) := by decide +kernel
theorem dX9_fire_53 : decode cX9_fire 53 = .ok (.iload 7, 2) := by decide +kernel
theorem dX9_fire_55 : decode cX9_fire 55 = .ok (.iload_n 2, 1) := by decide +kernel
theorem dX9_fire_56 : decode cX9_fire 56 = .ok (.if_icmp .gt 71, 3) := by decide +kernel
theorem dX9_fire_59 : decode cX9_fire 59 = .ok (.aload_n 0, 1) := by decide +kernel
theorem dX9_fire_60 : decode cX9_fire 60 = .ok (.iload 7, 2) := by decide +kernel
theorem dX9_fire_62 : decode cX9_fire 62 = .ok (.invokevirtual 154, 3) := by decide +kernel
theorem dX9_fire_65 : decode cX9_fire 65 = .ok (.invokestatic 126, 3) := by decide +kernel
theorem dX9_fire_68 : decode cX9_fire 68 = .ok (.istore 8, 2) := by decide +kernel
theorem dX9_fire_70 : decode cX9_fire 70 = .ok (.iload 8, 2) := by decide +kernel
theorem dX9_fire_72 : decode cX9_fire 72 = .ok (.iload 5, 2) := by decide +kernel
theorem dX9_fire_74 : decode cX9_fire 74 = .ok (.if_icmp .le 8, 3) := by decide +kernel
theorem dX9_fire_77 : decode cX9_fire 77 = .ok (.iload 7, 2) := by decide +kernel
theorem dX9_fire_79 : decode cX9_fire 79 = .ok (.goto 5, 3) := by decide +kernel
theorem dX9_fire_82 : decode cX9_fire 82 = .ok (.iload 4, 2) := by decide +kernel
theorem dX9_fire_84 : decode cX9_fire 84 = .ok (.istore 4, 2) := by decide +kernel
theorem dX9_fire_86 : decode cX9_fire 86 = .ok (.iload 8, 2) := by decide +kernel
theorem dX9_fire_88 : decode cX9_fire 88 = .ok (.iload 5, 2) := by decide +kernel
theorem dX9_fire_90 : decode cX9_fire 90 = .ok (.if_icmp .le 8, 3) := by decide +kernel
theorem dX9_fire_93 : decode cX9_fire 93 = .ok (.iload 8, 2) := by decide +kernel
theorem dX9_fire_95 : decode cX9_fire 95 = .ok (.goto 5, 3) := by decide +kernel
theorem dX9_fire_98 : decode cX9_fire 98 = .ok (.iload 5, 2) := by decide +kernel
theorem dX9_fire_100 : decode cX9_fire 100 = .ok (.istore 5, 2) := by decide +kernel
theorem dX9_fire_102 : decode cX9_fire 102 = .ok (.iload 6, 2) := by decide +kernel
theorem dX9_fire_104 : decode cX9_fire 104 = .ok (.iload 8, 2) := by decide +kernel
theorem dX9_fire_106 : decode cX9_fire 106 = .ok (.aload_n 0, 1) := by decide +kernel
theorem dX9_fire_107 : decode cX9_fire 107 = .ok (.getfield 70, 3) := by decide +kernel
theorem dX9_fire_110 : decode cX9_fire 110 = .ok (.if_icmp .ne 7, 3) := by decide +kernel
theorem dX9_fire_113 : decode cX9_fire 113 = .ok (.iconst 1, 1) := by decide +kernel
theorem dX9_fire_114 : decode cX9_fire 114 = .ok (.goto 4, 3) := by decide +kernel
theorem dX9_fire_117 : decode cX9_fire 117 = .ok (.iconst 0, 1) := by decide +kernel
theorem dX9_fire_118 : decode cX9_fire 118 = .ok (.iadd, 1) := by decide +kernel
theorem dX9_fire_119 : decode cX9_fire 119 = .ok (.istore 6, 2) := by decide +kernel
theorem dX9_fire_121 : decode cX9_fire 121 = .ok (.iinc 7 1, 3) := by decide +kernel
theorem dX9_fire_124 : decode cX9_fire 124 = .ok (.goto (-71), 3) := by decide +kernel
theorem dX9_fire_127 : decode cX9_fire 127 = .ok (.iload_n 3, 1) := by decide +kernel
theorem dX9_fire_128 : decode cX9_fire 128 = .ok (.ifCond .ne 8, 3) := by decide +kernel
theorem dX9_fire_131 : decode cX9_fire 131 = .ok (.iload 4, 2) := by decide +kernel
theorem dX9_fire_133 : decode cX9_fire 133 = .ok (.goto 15, 3) := by decide +kernel
theorem dX9_fire_136 : decode cX9_fire 136 = .ok (.iload_n 3, 1) := by decide +kernel
theorem dX9_fire_137 : decode cX9_fire 137 = .ok (.iconst 1, 1) := by decide +kernel
theorem dX9_fire_138 : decode cX9_fire 138 = .ok (.if_icmp .ne 8, 3) := by decide +kernel
theorem dX9_fire_141 : decode cX9_fire 141 = .ok (.iload 5, 2) := by decide +kernel
theorem dX9_fire_143 : decode cX9_fire 143 = .ok (.goto 5, 3) := by decide +kernel
theorem dX9_fire_146 : decode cX9_fire 146 = .ok (.iload 6, 2) := by decide +kernel
theorem dX9_fire_148 : decode cX9_fire 148 = .ok (.ireturn, 1) := by decide +kernel
theorem dX9_bad_0 : decode cX9_bad 0 = .ok (.iload_n 1, 1) := by decide +kernel
theorem dX9_bad_1 : decode cX9_bad 1 = .ok (.iconst (-1), 1) := by decide +kernel
theorem dX9_bad_2 : decode cX9_bad 2 = .ok (.if_icmp .eq 13, 3) := by decide +kernel
theorem dX9_bad_5 : decode cX9_bad 5 = .ok (.aload_n 0, 1) := by decide +kernel
theorem dX9_bad_6 : decode cX9_bad 6 = .ok (.iload_n 1, 1) := by decide +kernel
theorem dX9_bad_7 : decode cX9_bad 7 = .ok (.invokevirtual 88, 3) := by decide +kernel
theorem dX9_bad_10 : decode cX9_bad 10 = .ok (.ifCond .ne 5, 3) := by decide +kernel
theorem dX9_bad_13 : decode cX9_bad 13 = .ok (.iconst (-1), 1) := by decide +kernel
theorem dX9_bad_14 : decode cX9_bad 14 = .ok (.ireturn, 1) := by decide +kernel
theorem dX9_bad_15 : decode cX9_bad 15 = .ok (.iload_n 2, 1) := by decide +kernel
theorem dX9_bad_16 : decode cX9_bad 16 = .ok (.i2l, 1) := by decide +kernel
theorem dX9_bad_17 : decode cX9_bad 17 = .ok (.lconst 0, 1) := by decide +kernel
theorem dX9_bad_18 : decode cX9_bad 18 = .ok (.iload_n 1, 1) := by decide +kernel
theorem dX9_bad_19 : decode cX9_bad 19 = .ok (.iconst (-1), 1) := by decide +kernel
theorem dX9_bad_20 : decode cX9_bad 20 = .ok (.if_icmp .ne 9, 3) := by decide +kernel
theorem dX9_bad_23 : decode cX9_bad 23 = .ok (.ldc2_w 159, 3) := by decide +kernel
theorem dX9_bad_26 : decode cX9_bad 26 = .ok (.goto 6, 3) := by decide +kernel
theorem dX9_bad_29 : decode cX9_bad 29 = .ok (.ldc2_w 161, 3) := by decide +kernel
theorem dX9_bad_32 : decode cX9_bad 32 = .ok (.invokestatic 82, 3) := by decide +kernel
theorem dX9_bad_35 : decode cX9_bad 35 = .ok (.ifCond .ne 6, 3) := by decide +kernel
theorem dX9_bad_38 : decode cX9_bad 38 = .ok (.bipush (-2), 2) := by decide +kernel
theorem dX9_bad_40 : decode cX9_bad 40 = .ok (.ireturn, 1) := by decide +kernel
theorem dX9_bad_41 : decode cX9_bad 41 = .ok (.iload_n 1, 1) := by decide +kernel
theorem dX9_bad_42 : decode cX9_bad 42 = .ok (.iconst (-1), 1) := by decide +kernel
theorem dX9_bad_43 : decode cX9_bad 43 = .ok (.if_icmp .ne 10, 3) := by decide +kernel
theorem dX9_bad_46 : decode cX9_bad 46 = .ok (.aload_n 0, 1) := by decide +kernel
theorem dX9_bad_47 : decode cX9_bad 47 = .ok (.getfield 50, 3) := by decide +kernel
theorem dX9_bad_50 : decode cX9_bad 50 = .ok (.goto 9, 3) := by decide +kernel
theorem dX9_bad_53 : decode cX9_bad 53 = .ok (.aload_n 0, 1) := by decide +kernel
theorem dX9_bad_54 : decode cX9_bad 54 = .ok (.getfield 22, 3) := by decide +kernel
theorem dX9_bad_57 : decode cX9_bad 57 = .ok (.iload_n 1, 1) := by decide +kernel
theorem dX9_bad_58 : decode cX9_bad 58 = .ok (.iaload, 1) := by decide +kernel
theorem dX9_bad_59 : decode cX9_bad 59 = .ok (.istore_n 3, 1) := by decide +kernel
theorem dX9_bad_60 : decode cX9_bad 60 = .ok (.iload_n 1, 1) := by decide +kernel
theorem dX9_bad_61 : decode cX9_bad 61 = .ok (.iconst (-1), 1) := by decide +kernel
theorem dX9_bad_62 : decode cX9_bad 62 = .ok (.if_icmp .ne 11, 3) := by decide +kernel
theorem dX9_bad_65 : decode cX9_bad 65 = .ok (.aload_n 0, 1) := by decide +kernel
theorem dX9_bad_66 : decode cX9_bad 66 = .ok (.iload_n 2, 1) := by decide +kernel
theorem dX9_bad_67 : decode cX9_bad 67 = .ok (.putfield 50, 3) := by decide +kernel
theorem dX9_bad_70 : decode cX9_bad 70 = .ok (.goto 10, 3) := by decide +kernel
theorem dX9_bad_73 : decode cX9_bad 73 = .ok (.aload_n 0, 1) := by decide +kernel
theorem dX9_bad_74 : decode cX9_bad 74 = .ok (.getfield 22, 3) := by decide +kernel
theorem dX9_bad_77 : decode cX9_bad 77 = .ok (.iload_n 1, 1) := by decide +kernel
theorem dX9_bad_78 : decode cX9_bad 78 = .ok (.iload_n 2, 1) := by decide +kernel
theorem dX9_bad_79 : decode cX9_bad 79 = .ok (.iastore, 1) := by decide +kernel
theorem dX9_bad_80 : decode cX9_bad 80 = .ok (.iload_n 3, 1) := by decide +kernel
theorem dX9_bad_81 : decode cX9_bad 81 = .ok (.ireturn, 1) := by decide +kernel
theorem dX9_quartersOf_0 : decode cX9_quartersOf 0 = .ok (.iload_n 2, 1) := by decide +kernel
theorem dX9_quartersOf_1 : decode cX9_quartersOf 1 = .ok (.aload_n 0, 1) := by decide +kernel
theorem dX9_quartersOf_2 : decode cX9_quartersOf 2 = .ok (.getfield 50, 3) := by decide +kernel
theorem dX9_quartersOf_5 : decode cX9_quartersOf 5 = .ok (.if_icmp .lt 14, 3) := by decide +kernel
theorem dX9_quartersOf_8 : decode cX9_quartersOf 8 = .ok (.aload_n 0, 1) := by decide +kernel
theorem dX9_quartersOf_9 : decode cX9_quartersOf 9 = .ok (.getfield 22, 3) := by decide +kernel
theorem dX9_quartersOf_12 : decode cX9_quartersOf 12 = .ok (.iload_n 1, 1) := by decide +kernel
theorem dX9_quartersOf_13 : decode cX9_quartersOf 13 = .ok (.iaload, 1) := by decide +kernel
theorem dX9_quartersOf_14 : decode cX9_quartersOf 14 = .ok (.iconst 1, 1) := by decide +kernel
theorem dX9_quartersOf_15 : decode cX9_quartersOf 15 = .ok (.iadd, 1) := by decide +kernel
theorem dX9_quartersOf_16 : decode cX9_quartersOf 16 = .ok (.goto 9, 3) := by decide +kernel
theorem dX9_quartersOf_19 : decode cX9_quartersOf 19 = .ok (.aload_n 0, 1) := by decide +kernel
theorem dX9_quartersOf_20 : decode cX9_quartersOf 20 = .ok (.getfield 22, 3) := by decide +kernel
theorem dX9_quartersOf_23 : decode cX9_quartersOf 23 = .ok (.iload_n 1, 1) := by decide +kernel
theorem dX9_quartersOf_24 : decode cX9_quartersOf 24 = .ok (.iaload, 1) := by decide +kernel
theorem dX9_quartersOf_25 : decode cX9_quartersOf 25 = .ok (.istore_n 3, 1) := by decide +kernel
theorem dX9_quartersOf_26 : decode cX9_quartersOf 26 = .ok (.iload_n 3, 1) := by decide +kernel
theorem dX9_quartersOf_27 : decode cX9_quartersOf 27 = .ok (.iconst 4, 1) := by decide +kernel
theorem dX9_quartersOf_28 : decode cX9_quartersOf 28 = .ok (.if_icmp .le 7, 3) := by decide +kernel
theorem dX9_quartersOf_31 : decode cX9_quartersOf 31 = .ok (.iconst 4, 1) := by decide +kernel
theorem dX9_quartersOf_32 : decode cX9_quartersOf 32 = .ok (.goto 4, 3) := by decide +kernel
theorem dX9_quartersOf_35 : decode cX9_quartersOf 35 = .ok (.iload_n 3, 1) := by decide +kernel
theorem dX9_quartersOf_36 : decode cX9_quartersOf 36 = .ok (.ireturn, 1) := by decide +kernel
theorem dX9_allOpen_0 : decode cX9_allOpen 0 = .ok (.lconst 1, 1) := by decide +kernel
theorem dX9_allOpen_1 : decode cX9_allOpen 1 = .ok (.lstore_n 2, 1) := by decide +kernel
theorem dX9_allOpen_2 : decode cX9_allOpen 2 = .ok (.iconst 0, 1) := by decide +kernel
theorem dX9_allOpen_3 : decode cX9_allOpen 3 = .ok (.istore 4, 2) := by decide +kernel
theorem dX9_allOpen_5 : decode cX9_allOpen 5 = .ok (.iload 4, 2) := by decide +kernel
theorem dX9_allOpen_7 : decode cX9_allOpen 7 = .ok (.aload_n 0, 1) := by decide +kernel
theorem dX9_allOpen_8 : decode cX9_allOpen 8 = .ok (.getfield 70, 3) := by decide +kernel
theorem dX9_allOpen_11 : decode cX9_allOpen 11 = .ok (.if_icmp .ge 22, 3) := by decide +kernel
theorem dX9_allOpen_14 : decode cX9_allOpen 14 = .ok (.lload_n 2, 1) := by decide +kernel
theorem dX9_allOpen_15 : decode cX9_allOpen 15 = .ok (.iconst 4, 1) := by decide +kernel
theorem dX9_allOpen_16 : decode cX9_allOpen 16 = .ok (.aload_n 0, 1) := by decide +kernel
theorem dX9_allOpen_17 : decode cX9_allOpen 17 = .ok (.iload 4, 2) := by decide +kernel
theorem dX9_allOpen_19 : decode cX9_allOpen 19 = .ok (.iload_n 1, 1) := by decide +kernel
theorem dX9_allOpen_20 : decode cX9_allOpen 20 = .ok (.invokevirtual 163, 3) := by decide +kernel
theorem dX9_allOpen_23 : decode cX9_allOpen 23 = .ok (.isub, 1) := by decide +kernel
theorem dX9_allOpen_24 : decode cX9_allOpen 24 = .ok (.i2l, 1) := by decide +kernel
theorem dX9_allOpen_25 : decode cX9_allOpen 25 = .ok (.lmul, 1) := by decide +kernel
theorem dX9_allOpen_26 : decode cX9_allOpen 26 = .ok (.lstore_n 2, 1) := by decide +kernel
theorem dX9_allOpen_27 : decode cX9_allOpen 27 = .ok (.iinc 4 1, 3) := by decide +kernel
theorem dX9_allOpen_30 : decode cX9_allOpen 30 = .ok (.goto (-25), 3) := by decide +kernel
theorem dX9_allOpen_33 : decode cX9_allOpen 33 = .ok (.lload_n 2, 1) := by decide +kernel
theorem dX9_allOpen_34 : decode cX9_allOpen 34 = .ok (.lreturn, 1) := by decide +kernel
theorem dX9_lowest_0 : decode cX9_lowest 0 = .ok (.lload_n 2, 1) := by decide +kernel
theorem dX9_lowest_1 : decode cX9_lowest 1 = .ok (.lstore 5, 2) := by decide +kernel
theorem dX9_lowest_3 : decode cX9_lowest 3 = .ok (.lload_n 0, 1) := by decide +kernel
theorem dX9_lowest_4 : decode cX9_lowest 4 = .ok (.lstore 7, 2) := by decide +kernel
theorem dX9_lowest_6 : decode cX9_lowest 6 = .ok (.lload 7, 2) := by decide +kernel
theorem dX9_lowest_8 : decode cX9_lowest 8 = .ok (.lconst 0, 1) := by decide +kernel
theorem dX9_lowest_9 : decode cX9_lowest 9 = .ok (.lcmp, 1) := by decide +kernel
theorem dX9_lowest_10 : decode cX9_lowest 10 = .ok (.ifCond .eq 21, 3) := by decide +kernel
theorem dX9_lowest_13 : decode cX9_lowest 13 = .ok (.lload 5, 2) := by decide +kernel
theorem dX9_lowest_15 : decode cX9_lowest 15 = .ok (.lload 7, 2) := by decide +kernel
theorem dX9_lowest_17 : decode cX9_lowest 17 = .ok (.lrem, 1) := by decide +kernel
theorem dX9_lowest_18 : decode cX9_lowest 18 = .ok (.lstore 9, 2) := by decide +kernel
theorem dX9_lowest_20 : decode cX9_lowest 20 = .ok (.lload 7, 2) := by decide +kernel
theorem dX9_lowest_22 : decode cX9_lowest 22 = .ok (.lstore 5, 2) := by decide +kernel
theorem dX9_lowest_24 : decode cX9_lowest 24 = .ok (.lload 9, 2) := by decide +kernel
theorem dX9_lowest_26 : decode cX9_lowest 26 = .ok (.lstore 7, 2) := by decide +kernel
theorem dX9_lowest_28 : decode cX9_lowest 28 = .ok (.goto (-22), 3) := by decide +kernel
theorem dX9_lowest_31 : decode cX9_lowest 31 = .ok (.iload 4, 2) := by decide +kernel
theorem dX9_lowest_33 : decode cX9_lowest 33 = .ok (.ifCond .ne 10, 3) := by decide +kernel
theorem dX9_lowest_36 : decode cX9_lowest 36 = .ok (.lload_n 0, 1) := by decide +kernel
theorem dX9_lowest_37 : decode cX9_lowest 37 = .ok (.lload 5, 2) := by decide +kernel
theorem dX9_lowest_39 : decode cX9_lowest 39 = .ok (.ldiv, 1) := by decide +kernel
theorem dX9_lowest_40 : decode cX9_lowest 40 = .ok (.goto 7, 3) := by decide +kernel
theorem dX9_lowest_43 : decode cX9_lowest 43 = .ok (.lload_n 2, 1) := by decide +kernel
theorem dX9_lowest_44 : decode cX9_lowest 44 = .ok (.lload 5, 2) := by decide +kernel
theorem dX9_lowest_46 : decode cX9_lowest 46 = .ok (.ldiv, 1) := by decide +kernel
theorem dX9_lowest_47 : decode cX9_lowest 47 = .ok (.lreturn, 1) := by decide +kernel
theorem dX9_likely_0 : decode cX9_likely 0 = .ok (.iload_n 1, 1) := by decide +kernel
theorem dX9_likely_1 : decode cX9_likely 1 = .ok (.i2l, 1) := by decide +kernel
theorem dX9_likely_2 : decode cX9_likely 2 = .ok (.lconst 0, 1) := by decide +kernel
theorem dX9_likely_3 : decode cX9_likely 3 = .ok (.ldc2_w 159, 3) := by decide +kernel
theorem dX9_likely_6 : decode cX9_likely 6 = .ok (.invokestatic 82, 3) := by decide +kernel
theorem dX9_likely_9 : decode cX9_likely 9 = .ok (.ifCond .eq 13, 3) := by decide +kernel
theorem dX9_likely_12 : decode cX9_likely 12 = .ok (.iload_n 2, 1) := by decide +kernel
theorem dX9_likely_13 : decode cX9_likely 13 = .ok (.i2l, 1) := by decide +kernel
theorem dX9_likely_14 : decode cX9_likely 14 = .ok (.lconst 0, 1) := by decide +kernel
theorem dX9_likely_15 : decode cX9_likely 15 = .ok (.lconst 1, 1) := by decide +kernel
theorem dX9_likely_16 : decode cX9_likely 16 = .ok (.invokestatic 82, 3) := by decide +kernel
theorem dX9_likely_19 : decode cX9_likely 19 = .ok (.ifCond .ne 7, 3) := by decide +kernel
theorem dX9_likely_22 : decode cX9_likely 22 = .ok (.ldc2_w 166, 3) := by decide +kernel
theorem dX9_likely_25 : decode cX9_likely 25 = .ok (.lreturn, 1) := by decide +kernel
theorem dX9_likely_26 : decode cX9_likely 26 = .ok (.aload_n 0, 1) := by decide +kernel
theorem dX9_likely_27 : decode cX9_likely 27 = .ok (.iload_n 1, 1) := by decide +kernel
theorem dX9_likely_28 : decode cX9_likely 28 = .ok (.invokevirtual 168, 3) := by decide +kernel
theorem dX9_likely_31 : decode cX9_likely 31 = .ok (.lconst 1, 1) := by decide +kernel
theorem dX9_likely_32 : decode cX9_likely 32 = .ok (.iconst 2, 1) := by decide +kernel
theorem dX9_likely_33 : decode cX9_likely 33 = .ok (.aload_n 0, 1) := by decide +kernel
theorem dX9_likely_34 : decode cX9_likely 34 = .ok (.getfield 70, 3) := by decide +kernel
theorem dX9_likely_37 : decode cX9_likely 37 = .ok (.imul, 1) := by decide +kernel
end
section
theorem dX9_likely_38 : decode cX9_likely 38 = .ok (.lshl, 1) := by decide +kernel
theorem dX9_likely_39 : decode cX9_likely 39 = .ok (.iload_n 2, 1) := by decide +kernel
theorem dX9_likely_40 : decode cX9_likely 40 = .ok (.invokestatic 172, 3) := by decide +kernel
theorem dX9_likely_43 : decode cX9_likely 43 = .ok (.lreturn, 1) := by decide +kernel
theorem dX9_noneOf_0 : decode cX9_noneOf 0 = .ok (.lconst 1, 1) := by decide +kernel
theorem dX9_noneOf_1 : decode cX9_noneOf 1 = .ok (.lstore_n 2, 1) := by decide +kernel
theorem dX9_noneOf_2 : decode cX9_noneOf 2 = .ok (.iconst 0, 1) := by decide +kernel
theorem dX9_noneOf_3 : decode cX9_noneOf 3 = .ok (.istore 4, 2) := by decide +kernel
theorem dX9_noneOf_5 : decode cX9_noneOf 5 = .ok (.iload 4, 2) := by decide +kernel
theorem dX9_noneOf_7 : decode cX9_noneOf 7 = .ok (.iload_n 1, 1) := by decide +kernel
theorem dX9_noneOf_8 : decode cX9_noneOf 8 = .ok (.if_icmp .ge 27, 3) := by decide +kernel
theorem dX9_noneOf_11 : decode cX9_noneOf 11 = .ok (.lload_n 2, 1) := by decide +kernel
theorem dX9_noneOf_12 : decode cX9_noneOf 12 = .ok (.lconst 1, 1) := by decide +kernel
theorem dX9_noneOf_13 : decode cX9_noneOf 13 = .ok (.iconst 2, 1) := by decide +kernel
theorem dX9_noneOf_14 : decode cX9_noneOf 14 = .ok (.aload_n 0, 1) := by decide +kernel
theorem dX9_noneOf_15 : decode cX9_noneOf 15 = .ok (.getfield 70, 3) := by decide +kernel
theorem dX9_noneOf_18 : decode cX9_noneOf 18 = .ok (.imul, 1) := by decide +kernel
theorem dX9_noneOf_19 : decode cX9_noneOf 19 = .ok (.lshl, 1) := by decide +kernel
theorem dX9_noneOf_20 : decode cX9_noneOf 20 = .ok (.aload_n 0, 1) := by decide +kernel
theorem dX9_noneOf_21 : decode cX9_noneOf 21 = .ok (.iload 4, 2) := by decide +kernel
theorem dX9_noneOf_23 : decode cX9_noneOf 23 = .ok (.invokevirtual 168, 3) := by decide +kernel
theorem dX9_noneOf_26 : decode cX9_noneOf 26 = .ok (.lsub, 1) := by decide +kernel
theorem dX9_noneOf_27 : decode cX9_noneOf 27 = .ok (.lmul, 1) := by decide +kernel
theorem dX9_noneOf_28 : decode cX9_noneOf 28 = .ok (.lstore_n 2, 1) := by decide +kernel
theorem dX9_noneOf_29 : decode cX9_noneOf 29 = .ok (.iinc 4 1, 3) := by decide +kernel
theorem dX9_noneOf_32 : decode cX9_noneOf 32 = .ok (.goto (-27), 3) := by decide +kernel
theorem dX9_noneOf_35 : decode cX9_noneOf 35 = .ok (.lload_n 2, 1) := by decide +kernel
theorem dX9_noneOf_36 : decode cX9_noneOf 36 = .ok (.lreturn, 1) := by decide +kernel
theorem dX9_one_0 : decode cX9_one 0 = .ok (.iload_n 1, 1) := by decide +kernel
theorem dX9_one_1 : decode cX9_one 1 = .ok (.i2l, 1) := by decide +kernel
theorem dX9_one_2 : decode cX9_one 2 = .ok (.lconst 1, 1) := by decide +kernel
theorem dX9_one_3 : decode cX9_one 3 = .ok (.ldc2_w 176, 3) := by decide +kernel
theorem dX9_one_6 : decode cX9_one 6 = .ok (.invokestatic 82, 3) := by decide +kernel
theorem dX9_one_9 : decode cX9_one 9 = .ok (.ifCond .eq 13, 3) := by decide +kernel
theorem dX9_one_12 : decode cX9_one 12 = .ok (.iload_n 2, 1) := by decide +kernel
theorem dX9_one_13 : decode cX9_one 13 = .ok (.i2l, 1) := by decide +kernel
theorem dX9_one_14 : decode cX9_one 14 = .ok (.lconst 0, 1) := by decide +kernel
theorem dX9_one_15 : decode cX9_one 15 = .ok (.lconst 1, 1) := by decide +kernel
theorem dX9_one_16 : decode cX9_one 16 = .ok (.invokestatic 82, 3) := by decide +kernel
theorem dX9_one_19 : decode cX9_one 19 = .ok (.ifCond .ne 7, 3) := by decide +kernel
theorem dX9_one_22 : decode cX9_one 22 = .ok (.ldc2_w 166, 3) := by decide +kernel
theorem dX9_one_25 : decode cX9_one 25 = .ok (.lreturn, 1) := by decide +kernel
theorem dX9_one_26 : decode cX9_one 26 = .ok (.lconst 1, 1) := by decide +kernel
theorem dX9_one_27 : decode cX9_one 27 = .ok (.iconst 2, 1) := by decide +kernel
theorem dX9_one_28 : decode cX9_one 28 = .ok (.aload_n 0, 1) := by decide +kernel
theorem dX9_one_29 : decode cX9_one 29 = .ok (.getfield 70, 3) := by decide +kernel
theorem dX9_one_32 : decode cX9_one 32 = .ok (.imul, 1) := by decide +kernel
theorem dX9_one_33 : decode cX9_one 33 = .ok (.iload_n 1, 1) := by decide +kernel
theorem dX9_one_34 : decode cX9_one 34 = .ok (.imul, 1) := by decide +kernel
theorem dX9_one_35 : decode cX9_one 35 = .ok (.lshl, 1) := by decide +kernel
theorem dX9_one_36 : decode cX9_one 36 = .ok (.lstore_n 3, 1) := by decide +kernel
theorem dX9_one_37 : decode cX9_one 37 = .ok (.lload_n 3, 1) := by decide +kernel
theorem dX9_one_38 : decode cX9_one 38 = .ok (.aload_n 0, 1) := by decide +kernel
theorem dX9_one_39 : decode cX9_one 39 = .ok (.iload_n 1, 1) := by decide +kernel
theorem dX9_one_40 : decode cX9_one 40 = .ok (.invokevirtual 178, 3) := by decide +kernel
theorem dX9_one_43 : decode cX9_one 43 = .ok (.lsub, 1) := by decide +kernel
theorem dX9_one_44 : decode cX9_one 44 = .ok (.lload_n 3, 1) := by decide +kernel
theorem dX9_one_45 : decode cX9_one 45 = .ok (.iload_n 2, 1) := by decide +kernel
theorem dX9_one_46 : decode cX9_one 46 = .ok (.invokestatic 172, 3) := by decide +kernel
theorem dX9_one_49 : decode cX9_one 49 = .ok (.lreturn, 1) := by decide +kernel
theorem dX9_many_0 : decode cX9_many 0 = .ok (.iload_n 2, 1) := by decide +kernel
theorem dX9_many_1 : decode cX9_many 1 = .ok (.i2l, 1) := by decide +kernel
theorem dX9_many_2 : decode cX9_many 2 = .ok (.lconst 1, 1) := by decide +kernel
theorem dX9_many_3 : decode cX9_many 3 = .ok (.ldc2_w 181, 3) := by decide +kernel
theorem dX9_many_6 : decode cX9_many 6 = .ok (.invokestatic 82, 3) := by decide +kernel
theorem dX9_many_9 : decode cX9_many 9 = .ok (.ifCond .eq 14, 3) := by decide +kernel
theorem dX9_many_12 : decode cX9_many 12 = .ok (.iload_n 1, 1) := by decide +kernel
theorem dX9_many_13 : decode cX9_many 13 = .ok (.i2l, 1) := by decide +kernel
theorem dX9_many_14 : decode cX9_many 14 = .ok (.lconst 0, 1) := by decide +kernel
theorem dX9_many_15 : decode cX9_many 15 = .ok (.iload_n 2, 1) := by decide +kernel
theorem dX9_many_16 : decode cX9_many 16 = .ok (.i2l, 1) := by decide +kernel
theorem dX9_many_17 : decode cX9_many 17 = .ok (.invokestatic 82, 3) := by decide +kernel
theorem dX9_many_20 : decode cX9_many 20 = .ok (.ifCond .ne 6, 3) := by decide +kernel
theorem dX9_many_23 : decode cX9_many 23 = .ok (.bipush (-2), 2) := by decide +kernel
theorem dX9_many_25 : decode cX9_many 25 = .ok (.ireturn, 1) := by decide +kernel
theorem dX9_many_26 : decode cX9_many 26 = .ok (.iconst 1, 1) := by decide +kernel
theorem dX9_many_27 : decode cX9_many 27 = .ok (.istore_n 3, 1) := by decide +kernel
theorem dX9_many_28 : decode cX9_many 28 = .ok (.iload_n 3, 1) := by decide +kernel
theorem dX9_many_29 : decode cX9_many 29 = .ok (.iconst 4, 1) := by decide +kernel
theorem dX9_many_30 : decode cX9_many 30 = .ok (.if_icmp .ge 43, 3) := by decide +kernel
theorem dX9_many_33 : decode cX9_many 33 = .ok (.lconst 1, 1) := by decide +kernel
theorem dX9_many_34 : decode cX9_many 34 = .ok (.iconst 2, 1) := by decide +kernel
theorem dX9_many_35 : decode cX9_many 35 = .ok (.aload_n 0, 1) := by decide +kernel
theorem dX9_many_36 : decode cX9_many 36 = .ok (.getfield 70, 3) := by decide +kernel
theorem dX9_many_39 : decode cX9_many 39 = .ok (.imul, 1) := by decide +kernel
theorem dX9_many_40 : decode cX9_many 40 = .ok (.iload_n 3, 1) := by decide +kernel
theorem dX9_many_41 : decode cX9_many 41 = .ok (.imul, 1) := by decide +kernel
theorem dX9_many_42 : decode cX9_many 42 = .ok (.lshl, 1) := by decide +kernel
theorem dX9_many_43 : decode cX9_many 43 = .ok (.lstore 4, 2) := by decide +kernel
theorem dX9_many_45 : decode cX9_many 45 = .ok (.lload 4, 2) := by decide +kernel
theorem dX9_many_47 : decode cX9_many 47 = .ok (.aload_n 0, 1) := by decide +kernel
theorem dX9_many_48 : decode cX9_many 48 = .ok (.iload_n 3, 1) := by decide +kernel
theorem dX9_many_49 : decode cX9_many 49 = .ok (.invokevirtual 178, 3) := by decide +kernel
theorem dX9_many_52 : decode cX9_many 52 = .ok (.lsub, 1) := by decide +kernel
theorem dX9_many_53 : decode cX9_many 53 = .ok (.iload_n 2, 1) := by decide +kernel
theorem dX9_many_54 : decode cX9_many 54 = .ok (.i2l, 1) := by decide +kernel
theorem dX9_many_55 : decode cX9_many 55 = .ok (.lmul, 1) := by decide +kernel
theorem dX9_many_56 : decode cX9_many 56 = .ok (.iload_n 1, 1) := by decide +kernel
theorem dX9_many_57 : decode cX9_many 57 = .ok (.i2l, 1) := by decide +kernel
theorem dX9_many_58 : decode cX9_many 58 = .ok (.lload 4, 2) := by decide +kernel
theorem dX9_many_60 : decode cX9_many 60 = .ok (.lmul, 1) := by decide +kernel
theorem dX9_many_61 : decode cX9_many 61 = .ok (.lcmp, 1) := by decide +kernel
theorem dX9_many_62 : decode cX9_many 62 = .ok (.ifCond .lt 5, 3) := by decide +kernel
theorem dX9_many_65 : decode cX9_many 65 = .ok (.iload_n 3, 1) := by decide +kernel
theorem dX9_many_66 : decode cX9_many 66 = .ok (.ireturn, 1) := by decide +kernel
theorem dX9_many_67 : decode cX9_many 67 = .ok (.iinc 3 1, 3) := by decide +kernel
theorem dX9_many_70 : decode cX9_many 70 = .ok (.goto (-42), 3) := by decide +kernel
theorem dX9_many_73 : decode cX9_many 73 = .ok (.bipush (-6), 2) := by decide +kernel
theorem dX9_many_75 : decode cX9_many 75 = .ok (.ireturn, 1) := by decide +kernel
theorem dX9_shoot_0 : decode cX9_shoot 0 = .ok (.iload_n 1, 1) := by decide +kernel
theorem dX9_shoot_1 : decode cX9_shoot 1 = .ok (.i2l, 1) := by decide +kernel
theorem dX9_shoot_2 : decode cX9_shoot 2 = .ok (.lconst 0, 1) := by decide +kernel
theorem dX9_shoot_3 : decode cX9_shoot 3 = .ok (.ldc2_w 183, 3) := by decide +kernel
theorem dX9_shoot_6 : decode cX9_shoot 6 = .ok (.invokestatic 82, 3) := by decide +kernel
theorem dX9_shoot_9 : decode cX9_shoot 9 = .ok (.ifCond .eq 25, 3) := by decide +kernel
theorem dX9_shoot_12 : decode cX9_shoot 12 = .ok (.iload_n 2, 1) := by decide +kernel
theorem dX9_shoot_13 : decode cX9_shoot 13 = .ok (.i2l, 1) := by decide +kernel
theorem dX9_shoot_14 : decode cX9_shoot 14 = .ok (.lconst 1, 1) := by decide +kernel
theorem dX9_shoot_15 : decode cX9_shoot 15 = .ok (.ldc2_w 185, 3) := by decide +kernel
theorem dX9_shoot_18 : decode cX9_shoot 18 = .ok (.invokestatic 82, 3) := by decide +kernel
theorem dX9_shoot_21 : decode cX9_shoot 21 = .ok (.ifCond .eq 13, 3) := by decide +kernel
theorem dX9_shoot_24 : decode cX9_shoot 24 = .ok (.iload_n 3, 1) := by decide +kernel
theorem dX9_shoot_25 : decode cX9_shoot 25 = .ok (.i2l, 1) := by decide +kernel
theorem dX9_shoot_26 : decode cX9_shoot 26 = .ok (.lconst 0, 1) := by decide +kernel
theorem dX9_shoot_27 : decode cX9_shoot 27 = .ok (.lconst 1, 1) := by decide +kernel
theorem dX9_shoot_28 : decode cX9_shoot 28 = .ok (.invokestatic 82, 3) := by decide +kernel
theorem dX9_shoot_31 : decode cX9_shoot 31 = .ok (.ifCond .ne 6, 3) := by decide +kernel
theorem dX9_shoot_34 : decode cX9_shoot 34 = .ok (.bipush (-2), 2) := by decide +kernel
theorem dX9_shoot_36 : decode cX9_shoot 36 = .ok (.ireturn, 1) := by decide +kernel
theorem dX9_shoot_37 : decode cX9_shoot 37 = .ok (.iload_n 1, 1) := by decide +kernel
theorem dX9_shoot_38 : decode cX9_shoot 38 = .ok (.istore 4, 2) := by decide +kernel
theorem dX9_shoot_40 : decode cX9_shoot 40 = .ok (.bipush (-6), 2) := by decide +kernel
theorem dX9_shoot_42 : decode cX9_shoot 42 = .ok (.istore 5, 2) := by decide +kernel
theorem dX9_shoot_44 : decode cX9_shoot 44 = .ok (.iconst 0, 1) := by decide +kernel
theorem dX9_shoot_45 : decode cX9_shoot 45 = .ok (.istore 6, 2) := by decide +kernel
theorem dX9_shoot_47 : decode cX9_shoot 47 = .ok (.iconst 0, 1) := by decide +kernel
theorem dX9_shoot_48 : decode cX9_shoot 48 = .ok (.istore 7, 2) := by decide +kernel
theorem dX9_shoot_50 : decode cX9_shoot 50 = .ok (.iload 7, 2) := by decide +kernel
theorem dX9_shoot_52 : decode cX9_shoot 52 = .ok (.iload_n 2, 1) := by decide +kernel
theorem dX9_shoot_53 : decode cX9_shoot 53 = .ok (.if_icmp .ge 109, 3) := by decide +kernel
theorem dX9_shoot_56 : decode cX9_shoot 56 = .ok (.iconst 1, 1) := by decide +kernel
theorem dX9_shoot_57 : decode cX9_shoot 57 = .ok (.istore 8, 2) := by decide +kernel
theorem dX9_shoot_59 : decode cX9_shoot 59 = .ok (.iconst 0, 1) := by decide +kernel
theorem dX9_shoot_60 : decode cX9_shoot 60 = .ok (.istore 9, 2) := by decide +kernel
theorem dX9_shoot_62 : decode cX9_shoot 62 = .ok (.iload 9, 2) := by decide +kernel
theorem dX9_shoot_64 : decode cX9_shoot 64 = .ok (.aload_n 0, 1) := by decide +kernel
theorem dX9_shoot_65 : decode cX9_shoot 65 = .ok (.getfield 70, 3) := by decide +kernel
theorem dX9_shoot_68 : decode cX9_shoot 68 = .ok (.if_icmp .ge 54, 3) := by decide +kernel
theorem dX9_shoot_71 : decode cX9_shoot 71 = .ok (.ldc2_w 187, 3) := by decide +kernel
theorem dX9_shoot_74 : decode cX9_shoot 74 = .ok (.iload 4, 2) := by decide +kernel
theorem dX9_shoot_76 : decode cX9_shoot 76 = .ok (.i2l, 1) := by decide +kernel
theorem dX9_shoot_77 : decode cX9_shoot 77 = .ok (.lmul, 1) := by decide +kernel
theorem dX9_shoot_78 : decode cX9_shoot 78 = .ok (.ldc2_w 189, 3) := by decide +kernel
theorem dX9_shoot_81 : decode cX9_shoot 81 = .ok (.ladd, 1) := by decide +kernel
theorem dX9_shoot_82 : decode cX9_shoot 82 = .ok (.ldc2_w 191, 3) := by decide +kernel
theorem dX9_shoot_85 : decode cX9_shoot 85 = .ok (.lrem, 1) := by decide +kernel
theorem dX9_shoot_86 : decode cX9_shoot 86 = .ok (.l2i, 1) := by decide +kernel
theorem dX9_shoot_87 : decode cX9_shoot 87 = .ok (.istore 4, 2) := by decide +kernel
theorem dX9_shoot_89 : decode cX9_shoot 89 = .ok (.iload 8, 2) := by decide +kernel
theorem dX9_shoot_91 : decode cX9_shoot 91 = .ok (.ifCond .eq 22, 3) := by decide +kernel
theorem dX9_shoot_94 : decode cX9_shoot 94 = .ok (.iload 4, 2) := by decide +kernel
theorem dX9_shoot_96 : decode cX9_shoot 96 = .ok (.iconst 4, 1) := by decide +kernel
theorem dX9_shoot_97 : decode cX9_shoot 97 = .ok (.irem, 1) := by decide +kernel
theorem dX9_shoot_98 : decode cX9_shoot 98 = .ok (.aload_n 0, 1) := by decide +kernel
theorem dX9_shoot_99 : decode cX9_shoot 99 = .ok (.iload 9, 2) := by decide +kernel
theorem dX9_shoot_101 : decode cX9_shoot 101 = .ok (.iload 7, 2) := by decide +kernel
theorem dX9_shoot_103 : decode cX9_shoot 103 = .ok (.invokevirtual 163, 3) := by decide +kernel
theorem dX9_shoot_106 : decode cX9_shoot 106 = .ok (.if_icmp .lt 7, 3) := by decide +kernel
theorem dX9_shoot_109 : decode cX9_shoot 109 = .ok (.iconst 1, 1) := by decide +kernel
theorem dX9_shoot_110 : decode cX9_shoot 110 = .ok (.goto 4, 3) := by decide +kernel
theorem dX9_shoot_113 : decode cX9_shoot 113 = .ok (.iconst 0, 1) := by decide +kernel
theorem dX9_shoot_114 : decode cX9_shoot 114 = .ok (.istore 8, 2) := by decide +kernel
theorem dX9_shoot_116 : decode cX9_shoot 116 = .ok (.iinc 9 1, 3) := by decide +kernel
theorem dX9_shoot_119 : decode cX9_shoot 119 = .ok (.goto (-57), 3) := by decide +kernel
theorem dX9_shoot_122 : decode cX9_shoot 122 = .ok (.iload 8, 2) := by decide +kernel
theorem dX9_shoot_124 : decode cX9_shoot 124 = .ok (.ifCond .eq 13, 3) := by decide +kernel
theorem dX9_shoot_127 : decode cX9_shoot 127 = .ok (.iload 5, 2) := by decide +kernel
theorem dX9_shoot_129 : decode cX9_shoot 129 = .ok (.ifCond .ge 8, 3) := by decide +kernel
theorem dX9_shoot_132 : decode cX9_shoot 132 = .ok (.iload 7, 2) := by decide +kernel
theorem dX9_shoot_134 : decode cX9_shoot 134 = .ok (.goto 5, 3) := by decide +kernel
theorem dX9_shoot_137 : decode cX9_shoot 137 = .ok (.iload 5, 2) := by decide +kernel
theorem dX9_shoot_139 : decode cX9_shoot 139 = .ok (.istore 5, 2) := by decide +kernel
theorem dX9_shoot_141 : decode cX9_shoot 141 = .ok (.iload 6, 2) := by decide +kernel
theorem dX9_shoot_143 : decode cX9_shoot 143 = .ok (.iload 8, 2) := by decide +kernel
theorem dX9_shoot_145 : decode cX9_shoot 145 = .ok (.ifCond .eq 7, 3) := by decide +kernel
theorem dX9_shoot_148 : decode cX9_shoot 148 = .ok (.iconst 1, 1) := by decide +kernel
theorem dX9_shoot_149 : decode cX9_shoot 149 = .ok (.goto 4, 3) := by decide +kernel
theorem dX9_shoot_152 : decode cX9_shoot 152 = .ok (.iconst 0, 1) := by decide +kernel
theorem dX9_shoot_153 : decode cX9_shoot 153 = .ok (.iadd, 1) := by decide +kernel
theorem dX9_shoot_154 : decode cX9_shoot 154 = .ok (.istore 6, 2) := by decide +kernel
theorem dX9_shoot_156 : decode cX9_shoot 156 = .ok (.iinc 7 1, 3) := by decide +kernel
theorem dX9_shoot_159 : decode cX9_shoot 159 = .ok (.goto (-109), 3) := by decide +kernel
theorem dX9_shoot_162 : decode cX9_shoot 162 = .ok (.iload_n 3, 1) := by decide +kernel
theorem dX9_shoot_163 : decode cX9_shoot 163 = .ok (.ifCond .ne 8, 3) := by decide +kernel
theorem dX9_shoot_166 : decode cX9_shoot 166 = .ok (.iload 5, 2) := by decide +kernel
theorem dX9_shoot_168 : decode cX9_shoot 168 = .ok (.goto 5, 3) := by decide +kernel
theorem dX9_shoot_171 : decode cX9_shoot 171 = .ok (.iload 6, 2) := by decide +kernel
theorem dX9_shoot_173 : decode cX9_shoot 173 = .ok (.ireturn, 1) := by decide +kernel
theorem dX9_stair_0 : decode cX9_stair 0 = .ok (.iload_n 1, 1) := by decide +kernel
theorem dX9_stair_1 : decode cX9_stair 1 = .ok (.i2l, 1) := by decide +kernel
theorem dX9_stair_2 : decode cX9_stair 2 = .ok (.lconst 1, 1) := by decide +kernel
theorem dX9_stair_3 : decode cX9_stair 3 = .ok (.ldc2_w 176, 3) := by decide +kernel
theorem dX9_stair_6 : decode cX9_stair 6 = .ok (.invokestatic 82, 3) := by decide +kernel
theorem dX9_stair_9 : decode cX9_stair 9 = .ok (.ifCond .eq 23, 3) := by decide +kernel
theorem dX9_stair_12 : decode cX9_stair 12 = .ok (.iload_n 2, 1) := by decide +kernel
theorem dX9_stair_13 : decode cX9_stair 13 = .ok (.i2l, 1) := by decide +kernel
theorem dX9_stair_14 : decode cX9_stair 14 = .ok (.lconst 1, 1) := by decide +kernel
theorem dX9_stair_15 : decode cX9_stair 15 = .ok (.ldc2_w 161, 3) := by decide +kernel
theorem dX9_stair_18 : decode cX9_stair 18 = .ok (.invokestatic 82, 3) := by decide +kernel
theorem dX9_stair_21 : decode cX9_stair 21 = .ok (.ifCond .eq 11, 3) := by decide +kernel
theorem dX9_stair_24 : decode cX9_stair 24 = .ok (.iload_n 1, 1) := by decide +kernel
theorem dX9_stair_25 : decode cX9_stair 25 = .ok (.iload_n 2, 1) := by decide +kernel
theorem dX9_stair_26 : decode cX9_stair 26 = .ok (.imul, 1) := by decide +kernel
theorem dX9_stair_27 : decode cX9_stair 27 = .ok (.bipush 8, 2) := by decide +kernel
theorem dX9_stair_29 : decode cX9_stair 29 = .ok (.if_icmp .le 6, 3) := by decide +kernel
theorem dX9_stair_32 : decode cX9_stair 32 = .ok (.bipush (-2), 2) := by decide +kernel
theorem dX9_stair_34 : decode cX9_stair 34 = .ok (.ireturn, 1) := by decide +kernel
theorem dX9_stair_35 : decode cX9_stair 35 = .ok (.aload_n 0, 1) := by decide +kernel
theorem dX9_stair_36 : decode cX9_stair 36 = .ok (.iload_n 1, 1) := by decide +kernel
theorem dX9_stair_37 : decode cX9_stair 37 = .ok (.putfield 54, 3) := by decide +kernel
theorem dX9_stair_40 : decode cX9_stair 40 = .ok (.aload_n 0, 1) := by decide +kernel
theorem dX9_stair_41 : decode cX9_stair 41 = .ok (.iload_n 2, 1) := by decide +kernel
theorem dX9_stair_42 : decode cX9_stair 42 = .ok (.putfield 57, 3) := by decide +kernel
theorem dX9_stair_45 : decode cX9_stair 45 = .ok (.iload_n 1, 1) := by decide +kernel
theorem dX9_stair_46 : decode cX9_stair 46 = .ok (.iload_n 2, 1) := by decide +kernel
theorem dX9_stair_47 : decode cX9_stair 47 = .ok (.imul, 1) := by decide +kernel
theorem dX9_stair_48 : decode cX9_stair 48 = .ok (.ireturn, 1) := by decide +kernel
theorem dX9_tall_0 : decode cX9_tall 0 = .ok (.iload_n 1, 1) := by decide +kernel
theorem dX9_tall_1 : decode cX9_tall 1 = .ok (.iconst (-1), 1) := by decide +kernel
theorem dX9_tall_2 : decode cX9_tall 2 = .ok (.if_icmp .eq 13, 3) := by decide +kernel
theorem dX9_tall_5 : decode cX9_tall 5 = .ok (.aload_n 0, 1) := by decide +kernel
theorem dX9_tall_6 : decode cX9_tall 6 = .ok (.iload_n 1, 1) := by decide +kernel
theorem dX9_tall_7 : decode cX9_tall 7 = .ok (.invokevirtual 88, 3) := by decide +kernel
theorem dX9_tall_10 : decode cX9_tall 10 = .ok (.ifCond .ne 5, 3) := by decide +kernel
theorem dX9_tall_13 : decode cX9_tall 13 = .ok (.iconst (-1), 1) := by decide +kernel
theorem dX9_tall_14 : decode cX9_tall 14 = .ok (.ireturn, 1) := by decide +kernel
theorem dX9_tall_15 : decode cX9_tall 15 = .ok (.iload_n 2, 1) := by decide +kernel
theorem dX9_tall_16 : decode cX9_tall 16 = .ok (.i2l, 1) := by decide +kernel
theorem dX9_tall_17 : decode cX9_tall 17 = .ok (.lconst 0, 1) := by decide +kernel
theorem dX9_tall_18 : decode cX9_tall 18 = .ok (.iload_n 1, 1) := by decide +kernel
theorem dX9_tall_19 : decode cX9_tall 19 = .ok (.iconst (-1), 1) := by decide +kernel
theorem dX9_tall_20 : decode cX9_tall 20 = .ok (.if_icmp .ne 9, 3) := by decide +kernel
theorem dX9_tall_23 : decode cX9_tall 23 = .ok (.ldc2_w 193, 3) := by decide +kernel
theorem dX9_tall_26 : decode cX9_tall 26 = .ok (.goto 6, 3) := by decide +kernel
theorem dX9_tall_29 : decode cX9_tall 29 = .ok (.ldc2_w 195, 3) := by decide +kernel
theorem dX9_tall_32 : decode cX9_tall 32 = .ok (.invokestatic 82, 3) := by decide +kernel
theorem dX9_tall_35 : decode cX9_tall 35 = .ok (.ifCond .ne 6, 3) := by decide +kernel
theorem dX9_tall_38 : decode cX9_tall 38 = .ok (.bipush (-2), 2) := by decide +kernel
theorem dX9_tall_40 : decode cX9_tall 40 = .ok (.ireturn, 1) := by decide +kernel
theorem dX9_tall_41 : decode cX9_tall 41 = .ok (.iload_n 1, 1) := by decide +kernel
theorem dX9_tall_42 : decode cX9_tall 42 = .ok (.iconst (-1), 1) := by decide +kernel
theorem dX9_tall_43 : decode cX9_tall 43 = .ok (.if_icmp .ne 10, 3) := by decide +kernel
theorem dX9_tall_46 : decode cX9_tall 46 = .ok (.aload_n 0, 1) := by decide +kernel
theorem dX9_tall_47 : decode cX9_tall 47 = .ok (.getfield 60, 3) := by decide +kernel
theorem dX9_tall_50 : decode cX9_tall 50 = .ok (.goto 9, 3) := by decide +kernel
theorem dX9_tall_53 : decode cX9_tall 53 = .ok (.aload_n 0, 1) := by decide +kernel
theorem dX9_tall_54 : decode cX9_tall 54 = .ok (.getfield 25, 3) := by decide +kernel
theorem dX9_tall_57 : decode cX9_tall 57 = .ok (.iload_n 1, 1) := by decide +kernel
theorem dX9_tall_58 : decode cX9_tall 58 = .ok (.iaload, 1) := by decide +kernel
theorem dX9_tall_59 : decode cX9_tall 59 = .ok (.istore_n 3, 1) := by decide +kernel
theorem dX9_tall_60 : decode cX9_tall 60 = .ok (.iload_n 1, 1) := by decide +kernel
theorem dX9_tall_61 : decode cX9_tall 61 = .ok (.iconst (-1), 1) := by decide +kernel
theorem dX9_tall_62 : decode cX9_tall 62 = .ok (.if_icmp .ne 11, 3) := by decide +kernel
theorem dX9_tall_65 : decode cX9_tall 65 = .ok (.aload_n 0, 1) := by decide +kernel
theorem dX9_tall_66 : decode cX9_tall 66 = .ok (.iload_n 2, 1) := by decide +kernel
theorem dX9_tall_67 : decode cX9_tall 67 = .ok (.putfield 60, 3) := by decide +kernel
theorem dX9_tall_70 : decode cX9_tall 70 = .ok (.goto 10, 3) := by decide +kernel
theorem dX9_tall_73 : decode cX9_tall 73 = .ok (.aload_n 0, 1) := by decide +kernel
theorem dX9_tall_74 : decode cX9_tall 74 = .ok (.getfield 25, 3) := by decide +kernel
theorem dX9_tall_77 : decode cX9_tall 77 = .ok (.iload_n 1, 1) := by decide +kernel
theorem dX9_tall_78 : decode cX9_tall 78 = .ok (.iload_n 2, 1) := by decide +kernel
theorem dX9_tall_79 : decode cX9_tall 79 = .ok (.iastore, 1) := by decide +kernel
theorem dX9_tall_80 : decode cX9_tall 80 = .ok (.iload_n 3, 1) := by decide +kernel
theorem dX9_tall_81 : decode cX9_tall 81 = .ok (.ireturn, 1) := by decide +kernel
theorem dX9_pair_0 : decode cX9_pair 0 = .ok (.aload_n 0, 1) := by decide +kernel
theorem dX9_pair_1 : decode cX9_pair 1 = .ok (.iload_n 1, 1) := by decide +kernel
theorem dX9_pair_2 : decode cX9_pair 2 = .ok (.invokevirtual 88, 3) := by decide +kernel
theorem dX9_pair_5 : decode cX9_pair 5 = .ok (.ifCond .eq 16, 3) := by decide +kernel
theorem dX9_pair_8 : decode cX9_pair 8 = .ok (.aload_n 0, 1) := by decide +kernel
theorem dX9_pair_9 : decode cX9_pair 9 = .ok (.iload_n 2, 1) := by decide +kernel
theorem dX9_pair_10 : decode cX9_pair 10 = .ok (.invokevirtual 88, 3) := by decide +kernel
theorem dX9_pair_13 : decode cX9_pair 13 = .ok (.ifCond .eq 8, 3) := by decide +kernel
theorem dX9_pair_16 : decode cX9_pair 16 = .ok (.iload_n 1, 1) := by decide +kernel
theorem dX9_pair_17 : decode cX9_pair 17 = .ok (.iload_n 2, 1) := by decide +kernel
theorem dX9_pair_18 : decode cX9_pair 18 = .ok (.if_icmp .ne 5, 3) := by decide +kernel
theorem dX9_pair_21 : decode cX9_pair 21 = .ok (.iconst (-1), 1) := by decide +kernel
theorem dX9_pair_22 : decode cX9_pair 22 = .ok (.ireturn, 1) := by decide +kernel
theorem dX9_pair_23 : decode cX9_pair 23 = .ok (.iload_n 3, 1) := by decide +kernel
theorem dX9_pair_24 : decode cX9_pair 24 = .ok (.i2l, 1) := by decide +kernel
theorem dX9_pair_25 : decode cX9_pair 25 = .ok (.lconst 0, 1) := by decide +kernel
theorem dX9_pair_26 : decode cX9_pair 26 = .ok (.ldc2_w 157, 3) := by decide +kernel
theorem dX9_pair_29 : decode cX9_pair 29 = .ok (.invokestatic 82, 3) := by decide +kernel
theorem dX9_pair_32 : decode cX9_pair 32 = .ok (.ifCond .ne 6, 3) := by decide +kernel
theorem dX9_pair_35 : decode cX9_pair 35 = .ok (.bipush (-2), 2) := by decide +kernel
theorem dX9_pair_37 : decode cX9_pair 37 = .ok (.ireturn, 1) := by decide +kernel
theorem dX9_pair_38 : decode cX9_pair 38 = .ok (.aload_n 0, 1) := by decide +kernel
theorem dX9_pair_39 : decode cX9_pair 39 = .ok (.getfield 28, 3) := by decide +kernel
theorem dX9_pair_42 : decode cX9_pair 42 = .ok (.bipush 8, 2) := by decide +kernel
theorem dX9_pair_44 : decode cX9_pair 44 = .ok (.iload_n 1, 1) := by decide +kernel
theorem dX9_pair_45 : decode cX9_pair 45 = .ok (.imul, 1) := by decide +kernel
theorem dX9_pair_46 : decode cX9_pair 46 = .ok (.iload_n 2, 1) := by decide +kernel
theorem dX9_pair_47 : decode cX9_pair 47 = .ok (.iadd, 1) := by decide +kernel
theorem dX9_pair_48 : decode cX9_pair 48 = .ok (.iaload, 1) := by decide +kernel
theorem dX9_pair_49 : decode cX9_pair 49 = .ok (.istore 4, 2) := by decide +kernel
theorem dX9_pair_51 : decode cX9_pair 51 = .ok (.aload_n 0, 1) := by decide +kernel
theorem dX9_pair_52 : decode cX9_pair 52 = .ok (.getfield 28, 3) := by decide +kernel
theorem dX9_pair_55 : decode cX9_pair 55 = .ok (.bipush 8, 2) := by decide +kernel
theorem dX9_pair_57 : decode cX9_pair 57 = .ok (.iload_n 1, 1) := by decide +kernel
theorem dX9_pair_58 : decode cX9_pair 58 = .ok (.imul, 1) := by decide +kernel
theorem dX9_pair_59 : decode cX9_pair 59 = .ok (.iload_n 2, 1) := by decide +kernel
theorem dX9_pair_60 : decode cX9_pair 60 = .ok (.iadd, 1) := by decide +kernel
theorem dX9_pair_61 : decode cX9_pair 61 = .ok (.iload_n 3, 1) := by decide +kernel
theorem dX9_pair_62 : decode cX9_pair 62 = .ok (.iastore, 1) := by decide +kernel
theorem dX9_pair_63 : decode cX9_pair 63 = .ok (.aload_n 0, 1) := by decide +kernel
theorem dX9_pair_64 : decode cX9_pair 64 = .ok (.getfield 28, 3) := by decide +kernel
theorem dX9_pair_67 : decode cX9_pair 67 = .ok (.bipush 8, 2) := by decide +kernel
theorem dX9_pair_69 : decode cX9_pair 69 = .ok (.iload_n 2, 1) := by decide +kernel
theorem dX9_pair_70 : decode cX9_pair 70 = .ok (.imul, 1) := by decide +kernel
theorem dX9_pair_71 : decode cX9_pair 71 = .ok (.iload_n 1, 1) := by decide +kernel
theorem dX9_pair_72 : decode cX9_pair 72 = .ok (.iadd, 1) := by decide +kernel
theorem dX9_pair_73 : decode cX9_pair 73 = .ok (.iload_n 3, 1) := by decide +kernel
theorem dX9_pair_74 : decode cX9_pair 74 = .ok (.iastore, 1) := by decide +kernel
theorem dX9_pair_75 : decode cX9_pair 75 = .ok (.iload 4, 2) := by decide +kernel
theorem dX9_pair_77 : decode cX9_pair 77 = .ok (.ireturn, 1) := by decide +kernel
theorem dX9_heightOf_0 : decode cX9_heightOf 0 = .ok (.aload_n 0, 1) := by decide +kernel
theorem dX9_heightOf_1 : decode cX9_heightOf 1 = .ok (.getfield 25, 3) := by decide +kernel
theorem dX9_heightOf_4 : decode cX9_heightOf 4 = .ok (.iload_n 1, 1) := by decide +kernel
theorem dX9_heightOf_5 : decode cX9_heightOf 5 = .ok (.iaload, 1) := by decide +kernel
theorem dX9_heightOf_6 : decode cX9_heightOf 6 = .ok (.aload_n 0, 1) := by decide +kernel
theorem dX9_heightOf_7 : decode cX9_heightOf 7 = .ok (.getfield 60, 3) := by decide +kernel
theorem dX9_heightOf_10 : decode cX9_heightOf 10 = .ok (.aload_n 0, 1) := by decide +kernel
theorem dX9_heightOf_11 : decode cX9_heightOf 11 = .ok (.getfield 37, 3) := by decide +kernel
theorem dX9_heightOf_14 : decode cX9_heightOf 14 = .ok (.iload_n 1, 1) := by decide +kernel
theorem dX9_heightOf_15 : decode cX9_heightOf 15 = .ok (.iaload, 1) := by decide +kernel
theorem dX9_heightOf_16 : decode cX9_heightOf 16 = .ok (.aload_n 0, 1) := by decide +kernel
theorem dX9_heightOf_17 : decode cX9_heightOf 17 = .ok (.getfield 57, 3) := by decide +kernel
theorem dX9_heightOf_20 : decode cX9_heightOf 20 = .ok (.idiv, 1) := by decide +kernel
theorem dX9_heightOf_21 : decode cX9_heightOf 21 = .ok (.imul, 1) := by decide +kernel
theorem dX9_heightOf_22 : decode cX9_heightOf 22 = .ok (.iadd, 1) := by decide +kernel
theorem dX9_heightOf_23 : decode cX9_heightOf 23 = .ok (.ireturn, 1) := by decide +kernel
theorem dX9_isHidden_0 : decode cX9_isHidden 0 = .ok (.aload_n 0, 1) := by decide +kernel
theorem dX9_isHidden_1 : decode cX9_isHidden 1 = .ok (.getfield 37, 3) := by decide +kernel
theorem dX9_isHidden_4 : decode cX9_isHidden 4 = .ok (.iload_n 1, 1) := by decide +kernel
theorem dX9_isHidden_5 : decode cX9_isHidden 5 = .ok (.iaload, 1) := by decide +kernel
theorem dX9_isHidden_6 : decode cX9_isHidden 6 = .ok (.aload_n 0, 1) := by decide +kernel
theorem dX9_isHidden_7 : decode cX9_isHidden 7 = .ok (.getfield 57, 3) := by decide +kernel
theorem dX9_isHidden_10 : decode cX9_isHidden 10 = .ok (.irem, 1) := by decide +kernel
theorem dX9_isHidden_11 : decode cX9_isHidden 11 = .ok (.aload_n 0, 1) := by decide +kernel
theorem dX9_isHidden_12 : decode cX9_isHidden 12 = .ok (.getfield 37, 3) := by decide +kernel
theorem dX9_isHidden_15 : decode cX9_isHidden 15 = .ok (.iload_n 2, 1) := by decide +kernel
theorem dX9_isHidden_16 : decode cX9_isHidden 16 = .ok (.iaload, 1) := by decide +kernel
theorem dX9_isHidden_17 : decode cX9_isHidden 17 = .ok (.aload_n 0, 1) := by decide +kernel
theorem dX9_isHidden_18 : decode cX9_isHidden 18 = .ok (.getfield 57, 3) := by decide +kernel
theorem dX9_isHidden_21 : decode cX9_isHidden 21 = .ok (.irem, 1) := by decide +kernel
theorem dX9_isHidden_22 : decode cX9_isHidden 22 = .ok (.if_icmp .ne 45, 3) := by decide +kernel
theorem dX9_isHidden_25 : decode cX9_isHidden 25 = .ok (.aload_n 0, 1) := by decide +kernel
theorem dX9_isHidden_26 : decode cX9_isHidden 26 = .ok (.getfield 37, 3) := by decide +kernel
theorem dX9_isHidden_29 : decode cX9_isHidden 29 = .ok (.iload_n 2, 1) := by decide +kernel
theorem dX9_isHidden_30 : decode cX9_isHidden 30 = .ok (.iaload, 1) := by decide +kernel
theorem dX9_isHidden_31 : decode cX9_isHidden 31 = .ok (.aload_n 0, 1) := by decide +kernel
theorem dX9_isHidden_32 : decode cX9_isHidden 32 = .ok (.getfield 57, 3) := by decide +kernel
theorem dX9_isHidden_35 : decode cX9_isHidden 35 = .ok (.idiv, 1) := by decide +kernel
theorem dX9_isHidden_36 : decode cX9_isHidden 36 = .ok (.aload_n 0, 1) := by decide +kernel
theorem dX9_isHidden_37 : decode cX9_isHidden 37 = .ok (.getfield 37, 3) := by decide +kernel
theorem dX9_isHidden_40 : decode cX9_isHidden 40 = .ok (.iload_n 1, 1) := by decide +kernel
theorem dX9_isHidden_41 : decode cX9_isHidden 41 = .ok (.iaload, 1) := by decide +kernel
theorem dX9_isHidden_42 : decode cX9_isHidden 42 = .ok (.aload_n 0, 1) := by decide +kernel
theorem dX9_isHidden_43 : decode cX9_isHidden 43 = .ok (.getfield 57, 3) := by decide +kernel
theorem dX9_isHidden_46 : decode cX9_isHidden 46 = .ok (.idiv, 1) := by decide +kernel
theorem dX9_isHidden_47 : decode cX9_isHidden 47 = .ok (.if_icmp .ge 20, 3) := by decide +kernel
theorem dX9_isHidden_50 : decode cX9_isHidden 50 = .ok (.aload_n 0, 1) := by decide +kernel
theorem dX9_isHidden_51 : decode cX9_isHidden 51 = .ok (.iload_n 1, 1) := by decide +kernel
theorem dX9_isHidden_52 : decode cX9_isHidden 52 = .ok (.invokevirtual 197, 3) := by decide +kernel
theorem dX9_isHidden_55 : decode cX9_isHidden 55 = .ok (.aload_n 0, 1) := by decide +kernel
theorem dX9_isHidden_56 : decode cX9_isHidden 56 = .ok (.iload_n 2, 1) := by decide +kernel
theorem dX9_isHidden_57 : decode cX9_isHidden 57 = .ok (.invokevirtual 197, 3) := by decide +kernel
theorem dX9_isHidden_60 : decode cX9_isHidden 60 = .ok (.if_icmp .gt 7, 3) := by decide +kernel
theorem dX9_isHidden_63 : decode cX9_isHidden 63 = .ok (.iconst 1, 1) := by decide +kernel
theorem dX9_isHidden_64 : decode cX9_isHidden 64 = .ok (.goto 4, 3) := by decide +kernel
theorem dX9_isHidden_67 : decode cX9_isHidden 67 = .ok (.iconst 0, 1) := by decide +kernel
theorem dX9_isHidden_68 : decode cX9_isHidden 68 = .ok (.ireturn, 1) := by decide +kernel
theorem dX9_areBeside_0 : decode cX9_areBeside 0 = .ok (.aload_n 0, 1) := by decide +kernel
theorem dX9_areBeside_1 : decode cX9_areBeside 1 = .ok (.getfield 37, 3) := by decide +kernel
theorem dX9_areBeside_4 : decode cX9_areBeside 4 = .ok (.iload_n 1, 1) := by decide +kernel
theorem dX9_areBeside_5 : decode cX9_areBeside 5 = .ok (.iaload, 1) := by decide +kernel
theorem dX9_areBeside_6 : decode cX9_areBeside 6 = .ok (.aload_n 0, 1) := by decide +kernel
theorem dX9_areBeside_7 : decode cX9_areBeside 7 = .ok (.getfield 57, 3) := by decide +kernel
theorem dX9_areBeside_10 : decode cX9_areBeside 10 = .ok (.irem, 1) := by decide +kernel
theorem dX9_areBeside_11 : decode cX9_areBeside 11 = .ok (.aload_n 0, 1) := by decide +kernel
theorem dX9_areBeside_12 : decode cX9_areBeside 12 = .ok (.getfield 37, 3) := by decide +kernel
theorem dX9_areBeside_15 : decode cX9_areBeside 15 = .ok (.iload_n 2, 1) := by decide +kernel
theorem dX9_areBeside_16 : decode cX9_areBeside 16 = .ok (.iaload, 1) := by decide +kernel
theorem dX9_areBeside_17 : decode cX9_areBeside 17 = .ok (.aload_n 0, 1) := by decide +kernel
theorem dX9_areBeside_18 : decode cX9_areBeside 18 = .ok (.getfield 57, 3) := by decide +kernel
theorem dX9_areBeside_21 : decode cX9_areBeside 21 = .ok (.irem, 1) := by decide +kernel
theorem dX9_areBeside_22 : decode cX9_areBeside 22 = .ok (.isub, 1) := by decide +kernel
theorem dX9_areBeside_23 : decode cX9_areBeside 23 = .ok (.istore_n 3, 1) := by decide +kernel
theorem dX9_areBeside_24 : decode cX9_areBeside 24 = .ok (.aload_n 0, 1) := by decide +kernel
theorem dX9_areBeside_25 : decode cX9_areBeside 25 = .ok (.getfield 37, 3) := by decide +kernel
theorem dX9_areBeside_28 : decode cX9_areBeside 28 = .ok (.iload_n 1, 1) := by decide +kernel
theorem dX9_areBeside_29 : decode cX9_areBeside 29 = .ok (.iaload, 1) := by decide +kernel
theorem dX9_areBeside_30 : decode cX9_areBeside 30 = .ok (.aload_n 0, 1) := by decide +kernel
theorem dX9_areBeside_31 : decode cX9_areBeside 31 = .ok (.getfield 57, 3) := by decide +kernel
theorem dX9_areBeside_34 : decode cX9_areBeside 34 = .ok (.idiv, 1) := by decide +kernel
theorem dX9_areBeside_35 : decode cX9_areBeside 35 = .ok (.aload_n 0, 1) := by decide +kernel
theorem dX9_areBeside_36 : decode cX9_areBeside 36 = .ok (.getfield 37, 3) := by decide +kernel
theorem dX9_areBeside_39 : decode cX9_areBeside 39 = .ok (.iload_n 2, 1) := by decide +kernel
theorem dX9_areBeside_40 : decode cX9_areBeside 40 = .ok (.iaload, 1) := by decide +kernel
theorem dX9_areBeside_41 : decode cX9_areBeside 41 = .ok (.aload_n 0, 1) := by decide +kernel
theorem dX9_areBeside_42 : decode cX9_areBeside 42 = .ok (.getfield 57, 3) := by decide +kernel
theorem dX9_areBeside_45 : decode cX9_areBeside 45 = .ok (.idiv, 1) := by decide +kernel
theorem dX9_areBeside_46 : decode cX9_areBeside 46 = .ok (.isub, 1) := by decide +kernel
theorem dX9_areBeside_47 : decode cX9_areBeside 47 = .ok (.istore 4, 2) := by decide +kernel
theorem dX9_areBeside_49 : decode cX9_areBeside 49 = .ok (.iload_n 3, 1) := by decide +kernel
theorem dX9_areBeside_50 : decode cX9_areBeside 50 = .ok (.iload_n 3, 1) := by decide +kernel
theorem dX9_areBeside_51 : decode cX9_areBeside 51 = .ok (.imul, 1) := by decide +kernel
theorem dX9_areBeside_52 : decode cX9_areBeside 52 = .ok (.iload 4, 2) := by decide +kernel
theorem dX9_areBeside_54 : decode cX9_areBeside 54 = .ok (.iload 4, 2) := by decide +kernel
theorem dX9_areBeside_56 : decode cX9_areBeside 56 = .ok (.imul, 1) := by decide +kernel
theorem dX9_areBeside_57 : decode cX9_areBeside 57 = .ok (.iadd, 1) := by decide +kernel
theorem dX9_areBeside_58 : decode cX9_areBeside 58 = .ok (.iconst 1, 1) := by decide +kernel
theorem dX9_areBeside_59 : decode cX9_areBeside 59 = .ok (.if_icmp .ne 7, 3) := by decide +kernel
theorem dX9_areBeside_62 : decode cX9_areBeside 62 = .ok (.iconst 1, 1) := by decide +kernel
theorem dX9_areBeside_63 : decode cX9_areBeside 63 = .ok (.goto 4, 3) := by decide +kernel
theorem dX9_areBeside_66 : decode cX9_areBeside 66 = .ok (.iconst 0, 1) := by decide +kernel
theorem dX9_areBeside_67 : decode cX9_areBeside 67 = .ok (.ireturn, 1) := by decide +kernel
theorem dX9_wrongWith_0 : decode cX9_wrongWith 0 = .ok (.bipush (-6), 2) := by decide +kernel
theorem dX9_wrongWith_2 : decode cX9_wrongWith 2 = .ok (.istore_n 2, 1) := by decide +kernel
theorem dX9_wrongWith_3 : decode cX9_wrongWith 3 = .ok (.iconst 0, 1) := by decide +kernel
theorem dX9_wrongWith_4 : decode cX9_wrongWith 4 = .ok (.istore_n 3, 1) := by decide +kernel
theorem dX9_wrongWith_5 : decode cX9_wrongWith 5 = .ok (.iload_n 3, 1) := by decide +kernel
theorem dX9_wrongWith_6 : decode cX9_wrongWith 6 = .ok (.aload_n 0, 1) := by decide +kernel
theorem dX9_wrongWith_7 : decode cX9_wrongWith 7 = .ok (.getfield 70, 3) := by decide +kernel
theorem dX9_wrongWith_10 : decode cX9_wrongWith 10 = .ok (.if_icmp .ge 104, 3) := by decide +kernel
theorem dX9_wrongWith_13 : decode cX9_wrongWith 13 = .ok (.iload_n 3, 1) := by decide +kernel
theorem dX9_wrongWith_14 : decode cX9_wrongWith 14 = .ok (.iload_n 1, 1) := by decide +kernel
theorem dX9_wrongWith_15 : decode cX9_wrongWith 15 = .ok (.if_icmp .eq 93, 3) := by decide +kernel
theorem dX9_wrongWith_18 : decode cX9_wrongWith 18 = .ok (.aload_n 0, 1) := by decide +kernel
theorem dX9_wrongWith_19 : decode cX9_wrongWith 19 = .ok (.getfield 28, 3) := by decide +kernel
theorem dX9_wrongWith_22 : decode cX9_wrongWith 22 = .ok (.bipush 8, 2) := by decide +kernel
theorem dX9_wrongWith_24 : decode cX9_wrongWith 24 = .ok (.iload_n 1, 1) := by decide +kernel
theorem dX9_wrongWith_25 : decode cX9_wrongWith 25 = .ok (.imul, 1) := by decide +kernel
theorem dX9_wrongWith_26 : decode cX9_wrongWith 26 = .ok (.iload_n 3, 1) := by decide +kernel
theorem dX9_wrongWith_27 : decode cX9_wrongWith 27 = .ok (.iadd, 1) := by decide +kernel
theorem dX9_wrongWith_28 : decode cX9_wrongWith 28 = .ok (.iaload, 1) := by decide +kernel
theorem dX9_wrongWith_29 : decode cX9_wrongWith 29 = .ok (.istore 4, 2) := by decide +kernel
theorem dX9_wrongWith_31 : decode cX9_wrongWith 31 = .ok (.aload_n 0, 1) := by decide +kernel
theorem dX9_wrongWith_32 : decode cX9_wrongWith 32 = .ok (.iload_n 1, 1) := by decide +kernel
theorem dX9_wrongWith_33 : decode cX9_wrongWith 33 = .ok (.iload_n 3, 1) := by decide +kernel
theorem dX9_wrongWith_34 : decode cX9_wrongWith 34 = .ok (.invokevirtual 200, 3) := by decide +kernel
theorem dX9_wrongWith_37 : decode cX9_wrongWith 37 = .ok (.ifCond .eq 7, 3) := by decide +kernel
theorem dX9_wrongWith_40 : decode cX9_wrongWith 40 = .ok (.iconst 1, 1) := by decide +kernel
theorem dX9_wrongWith_41 : decode cX9_wrongWith 41 = .ok (.goto 43, 3) := by decide +kernel
theorem dX9_wrongWith_44 : decode cX9_wrongWith 44 = .ok (.iload 4, 2) := by decide +kernel
theorem dX9_wrongWith_46 : decode cX9_wrongWith 46 = .ok (.iconst 1, 1) := by decide +kernel
theorem dX9_wrongWith_47 : decode cX9_wrongWith 47 = .ok (.if_icmp .ne 16, 3) := by decide +kernel
theorem dX9_wrongWith_50 : decode cX9_wrongWith 50 = .ok (.aload_n 0, 1) := by decide +kernel
theorem dX9_wrongWith_51 : decode cX9_wrongWith 51 = .ok (.iload_n 1, 1) := by decide +kernel
theorem dX9_wrongWith_52 : decode cX9_wrongWith 52 = .ok (.iload_n 3, 1) := by decide +kernel
theorem dX9_wrongWith_53 : decode cX9_wrongWith 53 = .ok (.invokevirtual 203, 3) := by decide +kernel
theorem dX9_wrongWith_56 : decode cX9_wrongWith 56 = .ok (.ifCond .eq 7, 3) := by decide +kernel
theorem dX9_wrongWith_59 : decode cX9_wrongWith 59 = .ok (.iconst 2, 1) := by decide +kernel
theorem dX9_wrongWith_60 : decode cX9_wrongWith 60 = .ok (.goto 24, 3) := by decide +kernel
theorem dX9_wrongWith_63 : decode cX9_wrongWith 63 = .ok (.iload 4, 2) := by decide +kernel
theorem dX9_wrongWith_65 : decode cX9_wrongWith 65 = .ok (.iconst 2, 1) := by decide +kernel
theorem dX9_wrongWith_66 : decode cX9_wrongWith 66 = .ok (.if_icmp .ne 16, 3) := by decide +kernel
theorem dX9_wrongWith_69 : decode cX9_wrongWith 69 = .ok (.aload_n 0, 1) := by decide +kernel
theorem dX9_wrongWith_70 : decode cX9_wrongWith 70 = .ok (.iload_n 1, 1) := by decide +kernel
theorem dX9_wrongWith_71 : decode cX9_wrongWith 71 = .ok (.iload_n 3, 1) := by decide +kernel
theorem dX9_wrongWith_72 : decode cX9_wrongWith 72 = .ok (.invokevirtual 203, 3) := by decide +kernel
theorem dX9_wrongWith_75 : decode cX9_wrongWith 75 = .ok (.ifCond .ne 7, 3) := by decide +kernel
theorem dX9_wrongWith_78 : decode cX9_wrongWith 78 = .ok (.iconst 3, 1) := by decide +kernel
theorem dX9_wrongWith_79 : decode cX9_wrongWith 79 = .ok (.goto 5, 3) := by decide +kernel
theorem dX9_wrongWith_82 : decode cX9_wrongWith 82 = .ok (.bipush (-6), 2) := by decide +kernel
theorem dX9_wrongWith_84 : decode cX9_wrongWith 84 = .ok (.istore 5, 2) := by decide +kernel
theorem dX9_wrongWith_86 : decode cX9_wrongWith 86 = .ok (.iload 5, 2) := by decide +kernel
theorem dX9_wrongWith_88 : decode cX9_wrongWith 88 = .ok (.ifCond .lt 18, 3) := by decide +kernel
theorem dX9_wrongWith_91 : decode cX9_wrongWith 91 = .ok (.iload_n 2, 1) := by decide +kernel
theorem dX9_wrongWith_92 : decode cX9_wrongWith 92 = .ok (.ifCond .lt 9, 3) := by decide +kernel
theorem dX9_wrongWith_95 : decode cX9_wrongWith 95 = .ok (.iload 5, 2) := by decide +kernel
theorem dX9_wrongWith_97 : decode cX9_wrongWith 97 = .ok (.iload_n 2, 1) := by decide +kernel
theorem dX9_wrongWith_98 : decode cX9_wrongWith 98 = .ok (.if_icmp .ge 8, 3) := by decide +kernel
theorem dX9_wrongWith_101 : decode cX9_wrongWith 101 = .ok (.iload 5, 2) := by decide +kernel
theorem dX9_wrongWith_103 : decode cX9_wrongWith 103 = .ok (.goto 4, 3) := by decide +kernel
theorem dX9_wrongWith_106 : decode cX9_wrongWith 106 = .ok (.iload_n 2, 1) := by decide +kernel
theorem dX9_wrongWith_107 : decode cX9_wrongWith 107 = .ok (.istore_n 2, 1) := by decide +kernel
theorem dX9_wrongWith_108 : decode cX9_wrongWith 108 = .ok (.iinc 3 1, 3) := by decide +kernel
theorem dX9_wrongWith_111 : decode cX9_wrongWith 111 = .ok (.goto (-106), 3) := by decide +kernel
theorem dX9_wrongWith_114 : decode cX9_wrongWith 114 = .ok (.iload_n 2, 1) := by decide +kernel
theorem dX9_wrongWith_115 : decode cX9_wrongWith 115 = .ok (.ireturn, 1) := by decide +kernel
theorem dX9_judge_0 : decode cX9_judge 0 = .ok (.iload_n 1, 1) := by decide +kernel
theorem dX9_judge_1 : decode cX9_judge 1 = .ok (.i2l, 1) := by decide +kernel
theorem dX9_judge_2 : decode cX9_judge 2 = .ok (.lconst 0, 1) := by decide +kernel
theorem dX9_judge_3 : decode cX9_judge 3 = .ok (.lconst 1, 1) := by decide +kernel
theorem dX9_judge_4 : decode cX9_judge 4 = .ok (.invokestatic 82, 3) := by decide +kernel
theorem dX9_judge_7 : decode cX9_judge 7 = .ok (.ifCond .ne 6, 3) := by decide +kernel
theorem dX9_judge_10 : decode cX9_judge 10 = .ok (.bipush (-2), 2) := by decide +kernel
theorem dX9_judge_12 : decode cX9_judge 12 = .ok (.ireturn, 1) := by decide +kernel
theorem dX9_judge_13 : decode cX9_judge 13 = .ok (.aload_n 0, 1) := by decide +kernel
theorem dX9_judge_14 : decode cX9_judge 14 = .ok (.invokevirtual 109, 3) := by decide +kernel
theorem dX9_judge_17 : decode cX9_judge 17 = .ok (.ifCond .lt 6, 3) := by decide +kernel
theorem dX9_judge_20 : decode cX9_judge 20 = .ok (.bipush (-5), 2) := by decide +kernel
theorem dX9_judge_22 : decode cX9_judge 22 = .ok (.ireturn, 1) := by decide +kernel
theorem dX9_judge_23 : decode cX9_judge 23 = .ok (.iconst 0, 1) := by decide +kernel
theorem dX9_judge_24 : decode cX9_judge 24 = .ok (.istore_n 2, 1) := by decide +kernel
theorem dX9_judge_25 : decode cX9_judge 25 = .ok (.iload_n 2, 1) := by decide +kernel
theorem dX9_judge_26 : decode cX9_judge 26 = .ok (.aload_n 0, 1) := by decide +kernel
theorem dX9_judge_27 : decode cX9_judge 27 = .ok (.getfield 70, 3) := by decide +kernel
theorem dX9_judge_30 : decode cX9_judge 30 = .ok (.if_icmp .ge 24, 3) := by decide +kernel
theorem dX9_judge_33 : decode cX9_judge 33 = .ok (.aload_n 0, 1) := by decide +kernel
theorem dX9_judge_34 : decode cX9_judge 34 = .ok (.getfield 37, 3) := by decide +kernel
theorem dX9_judge_37 : decode cX9_judge 37 = .ok (.iload_n 2, 1) := by decide +kernel
theorem dX9_judge_38 : decode cX9_judge 38 = .ok (.aload_n 0, 1) := by decide +kernel
theorem dX9_judge_39 : decode cX9_judge 39 = .ok (.getfield 31, 3) := by decide +kernel
theorem dX9_judge_42 : decode cX9_judge 42 = .ok (.iload_n 2, 1) := by decide +kernel
theorem dX9_judge_43 : decode cX9_judge 43 = .ok (.iaload, 1) := by decide +kernel
theorem dX9_judge_44 : decode cX9_judge 44 = .ok (.bipush 48, 2) := by decide +kernel
theorem dX9_judge_46 : decode cX9_judge 46 = .ok (.isub, 1) := by decide +kernel
theorem dX9_judge_47 : decode cX9_judge 47 = .ok (.iastore, 1) := by decide +kernel
theorem dX9_judge_48 : decode cX9_judge 48 = .ok (.iinc 2 1, 3) := by decide +kernel
theorem dX9_judge_51 : decode cX9_judge 51 = .ok (.goto (-26), 3) := by decide +kernel
theorem dX9_judge_54 : decode cX9_judge 54 = .ok (.iconst 0, 1) := by decide +kernel
theorem dX9_judge_55 : decode cX9_judge 55 = .ok (.istore_n 2, 1) := by decide +kernel
theorem dX9_judge_56 : decode cX9_judge 56 = .ok (.iload_n 2, 1) := by decide +kernel
theorem dX9_judge_57 : decode cX9_judge 57 = .ok (.aload_n 0, 1) := by decide +kernel
theorem dX9_judge_58 : decode cX9_judge 58 = .ok (.getfield 70, 3) := by decide +kernel
theorem dX9_judge_61 : decode cX9_judge 61 = .ok (.if_icmp .ge 29, 3) := by decide +kernel
theorem dX9_judge_64 : decode cX9_judge 64 = .ok (.aload_n 0, 1) := by decide +kernel
theorem dX9_judge_65 : decode cX9_judge 65 = .ok (.iload_n 2, 1) := by decide +kernel
theorem dX9_judge_66 : decode cX9_judge 66 = .ok (.invokevirtual 206, 3) := by decide +kernel
theorem dX9_judge_69 : decode cX9_judge 69 = .ok (.istore_n 3, 1) := by decide +kernel
theorem dX9_judge_70 : decode cX9_judge 70 = .ok (.iload_n 3, 1) := by decide +kernel
theorem dX9_judge_71 : decode cX9_judge 71 = .ok (.ifCond .lt 13, 3) := by decide +kernel
theorem dX9_judge_74 : decode cX9_judge 74 = .ok (.iload_n 1, 1) := by decide +kernel
theorem dX9_judge_75 : decode cX9_judge 75 = .ok (.ifCond .ne 7, 3) := by decide +kernel
theorem dX9_judge_78 : decode cX9_judge 78 = .ok (.iload_n 2, 1) := by decide +kernel
theorem dX9_judge_79 : decode cX9_judge 79 = .ok (.goto 4, 3) := by decide +kernel
theorem dX9_judge_82 : decode cX9_judge 82 = .ok (.iload_n 3, 1) := by decide +kernel
theorem dX9_judge_83 : decode cX9_judge 83 = .ok (.ireturn, 1) := by decide +kernel
theorem dX9_judge_84 : decode cX9_judge 84 = .ok (.iinc 2 1, 3) := by decide +kernel
theorem dX9_judge_87 : decode cX9_judge 87 = .ok (.goto (-31), 3) := by decide +kernel
theorem dX9_judge_90 : decode cX9_judge 90 = .ok (.bipush (-6), 2) := by decide +kernel
theorem dX9_judge_92 : decode cX9_judge 92 = .ok (.ireturn, 1) := by decide +kernel
theorem dX9_goesWith_0 : decode cX9_goesWith 0 = .ok (.aload_n 0, 1) := by decide +kernel
theorem dX9_goesWith_1 : decode cX9_goesWith 1 = .ok (.getfield 37, 3) := by decide +kernel
theorem dX9_goesWith_4 : decode cX9_goesWith 4 = .ok (.iload_n 1, 1) := by decide +kernel
theorem dX9_goesWith_5 : decode cX9_goesWith 5 = .ok (.iaload, 1) := by decide +kernel
theorem dX9_goesWith_6 : decode cX9_goesWith 6 = .ok (.aload_n 0, 1) := by decide +kernel
theorem dX9_goesWith_7 : decode cX9_goesWith 7 = .ok (.invokevirtual 102, 3) := by decide +kernel
theorem dX9_goesWith_10 : decode cX9_goesWith 10 = .ok (.if_icmp .ge 7, 3) := by decide +kernel
theorem dX9_goesWith_13 : decode cX9_goesWith 13 = .ok (.iconst 1, 1) := by decide +kernel
theorem dX9_goesWith_14 : decode cX9_goesWith 14 = .ok (.goto 4, 3) := by decide +kernel
theorem dX9_goesWith_17 : decode cX9_goesWith 17 = .ok (.iconst 0, 1) := by decide +kernel
theorem dX9_goesWith_18 : decode cX9_goesWith 18 = .ok (.istore_n 2, 1) := by decide +kernel
theorem dX9_goesWith_19 : decode cX9_goesWith 19 = .ok (.iconst 0, 1) := by decide +kernel
theorem dX9_goesWith_20 : decode cX9_goesWith 20 = .ok (.istore_n 3, 1) := by decide +kernel
theorem dX9_goesWith_21 : decode cX9_goesWith 21 = .ok (.iload_n 3, 1) := by decide +kernel
theorem dX9_goesWith_22 : decode cX9_goesWith 22 = .ok (.iload_n 1, 1) := by decide +kernel
theorem dX9_goesWith_23 : decode cX9_goesWith 23 = .ok (.if_icmp .ge 95, 3) := by decide +kernel
theorem dX9_goesWith_26 : decode cX9_goesWith 26 = .ok (.iload_n 2, 1) := by decide +kernel
theorem dX9_goesWith_27 : decode cX9_goesWith 27 = .ok (.ifCond .eq 91, 3) := by decide +kernel
theorem dX9_goesWith_30 : decode cX9_goesWith 30 = .ok (.aload_n 0, 1) := by decide +kernel
theorem dX9_goesWith_31 : decode cX9_goesWith 31 = .ok (.getfield 28, 3) := by decide +kernel
theorem dX9_goesWith_34 : decode cX9_goesWith 34 = .ok (.bipush 8, 2) := by decide +kernel
theorem dX9_goesWith_36 : decode cX9_goesWith 36 = .ok (.iload_n 1, 1) := by decide +kernel
theorem dX9_goesWith_37 : decode cX9_goesWith 37 = .ok (.imul, 1) := by decide +kernel
theorem dX9_goesWith_38 : decode cX9_goesWith 38 = .ok (.iload_n 3, 1) := by decide +kernel
theorem dX9_goesWith_39 : decode cX9_goesWith 39 = .ok (.iadd, 1) := by decide +kernel
theorem dX9_goesWith_40 : decode cX9_goesWith 40 = .ok (.iaload, 1) := by decide +kernel
theorem dX9_goesWith_41 : decode cX9_goesWith 41 = .ok (.istore 4, 2) := by decide +kernel
theorem dX9_goesWith_43 : decode cX9_goesWith 43 = .ok (.aload_n 0, 1) := by decide +kernel
theorem dX9_goesWith_44 : decode cX9_goesWith 44 = .ok (.getfield 37, 3) := by decide +kernel
theorem dX9_goesWith_47 : decode cX9_goesWith 47 = .ok (.iload_n 3, 1) := by decide +kernel
theorem dX9_goesWith_48 : decode cX9_goesWith 48 = .ok (.iaload, 1) := by decide +kernel
theorem dX9_goesWith_49 : decode cX9_goesWith 49 = .ok (.aload_n 0, 1) := by decide +kernel
theorem dX9_goesWith_50 : decode cX9_goesWith 50 = .ok (.getfield 37, 3) := by decide +kernel
theorem dX9_goesWith_53 : decode cX9_goesWith 53 = .ok (.iload_n 1, 1) := by decide +kernel
theorem dX9_goesWith_54 : decode cX9_goesWith 54 = .ok (.iaload, 1) := by decide +kernel
theorem dX9_goesWith_55 : decode cX9_goesWith 55 = .ok (.if_icmp .eq 55, 3) := by decide +kernel
theorem dX9_goesWith_58 : decode cX9_goesWith 58 = .ok (.aload_n 0, 1) := by decide +kernel
theorem dX9_goesWith_59 : decode cX9_goesWith 59 = .ok (.iload_n 1, 1) := by decide +kernel
theorem dX9_goesWith_60 : decode cX9_goesWith 60 = .ok (.iload_n 3, 1) := by decide +kernel
theorem dX9_goesWith_61 : decode cX9_goesWith 61 = .ok (.invokevirtual 200, 3) := by decide +kernel
theorem dX9_goesWith_64 : decode cX9_goesWith 64 = .ok (.ifCond .ne 46, 3) := by decide +kernel
theorem dX9_goesWith_67 : decode cX9_goesWith 67 = .ok (.aload_n 0, 1) := by decide +kernel
theorem dX9_goesWith_68 : decode cX9_goesWith 68 = .ok (.iload_n 3, 1) := by decide +kernel
theorem dX9_goesWith_69 : decode cX9_goesWith 69 = .ok (.iload_n 1, 1) := by decide +kernel
theorem dX9_goesWith_70 : decode cX9_goesWith 70 = .ok (.invokevirtual 200, 3) := by decide +kernel
theorem dX9_goesWith_73 : decode cX9_goesWith 73 = .ok (.ifCond .ne 37, 3) := by decide +kernel
theorem dX9_goesWith_76 : decode cX9_goesWith 76 = .ok (.iload 4, 2) := by decide +kernel
theorem dX9_goesWith_78 : decode cX9_goesWith 78 = .ok (.iconst 1, 1) := by decide +kernel
theorem dX9_goesWith_79 : decode cX9_goesWith 79 = .ok (.if_icmp .ne 12, 3) := by decide +kernel
theorem dX9_goesWith_82 : decode cX9_goesWith 82 = .ok (.aload_n 0, 1) := by decide +kernel
theorem dX9_goesWith_83 : decode cX9_goesWith 83 = .ok (.iload_n 1, 1) := by decide +kernel
theorem dX9_goesWith_84 : decode cX9_goesWith 84 = .ok (.iload_n 3, 1) := by decide +kernel
theorem dX9_goesWith_85 : decode cX9_goesWith 85 = .ok (.invokevirtual 203, 3) := by decide +kernel
theorem dX9_goesWith_88 : decode cX9_goesWith 88 = .ok (.ifCond .ne 22, 3) := by decide +kernel
theorem dX9_goesWith_91 : decode cX9_goesWith 91 = .ok (.iload 4, 2) := by decide +kernel
theorem dX9_goesWith_93 : decode cX9_goesWith 93 = .ok (.iconst 2, 1) := by decide +kernel
theorem dX9_goesWith_94 : decode cX9_goesWith 94 = .ok (.if_icmp .ne 12, 3) := by decide +kernel
theorem dX9_goesWith_97 : decode cX9_goesWith 97 = .ok (.aload_n 0, 1) := by decide +kernel
theorem dX9_goesWith_98 : decode cX9_goesWith 98 = .ok (.iload_n 1, 1) := by decide +kernel
theorem dX9_goesWith_99 : decode cX9_goesWith 99 = .ok (.iload_n 3, 1) := by decide +kernel
theorem dX9_goesWith_100 : decode cX9_goesWith 100 = .ok (.invokevirtual 203, 3) := by decide +kernel
theorem dX9_goesWith_103 : decode cX9_goesWith 103 = .ok (.ifCond .eq 7, 3) := by decide +kernel
theorem dX9_goesWith_106 : decode cX9_goesWith 106 = .ok (.iconst 1, 1) := by decide +kernel
theorem dX9_goesWith_107 : decode cX9_goesWith 107 = .ok (.goto 4, 3) := by decide +kernel
theorem dX9_goesWith_110 : decode cX9_goesWith 110 = .ok (.iconst 0, 1) := by decide +kernel
theorem dX9_goesWith_111 : decode cX9_goesWith 111 = .ok (.istore_n 2, 1) := by decide +kernel
theorem dX9_goesWith_112 : decode cX9_goesWith 112 = .ok (.iinc 3 1, 3) := by decide +kernel
theorem dX9_goesWith_115 : decode cX9_goesWith 115 = .ok (.goto (-94), 3) := by decide +kernel
theorem dX9_goesWith_118 : decode cX9_goesWith 118 = .ok (.iload_n 2, 1) := by decide +kernel
theorem dX9_goesWith_119 : decode cX9_goesWith 119 = .ok (.ireturn, 1) := by decide +kernel
theorem dX9_findStandings_0 : decode cX9_findStandings 0 = .ok (.iconst 0, 1) := by decide +kernel
theorem dX9_findStandings_1 : decode cX9_findStandings 1 = .ok (.istore_n 1, 1) := by decide +kernel
theorem dX9_findStandings_2 : decode cX9_findStandings 2 = .ok (.iconst 0, 1) := by decide +kernel
theorem dX9_findStandings_3 : decode cX9_findStandings 3 = .ok (.istore_n 2, 1) := by decide +kernel
theorem dX9_findStandings_4 : decode cX9_findStandings 4 = .ok (.aload_n 0, 1) := by decide +kernel
theorem dX9_findStandings_5 : decode cX9_findStandings 5 = .ok (.getfield 37, 3) := by decide +kernel
theorem dX9_findStandings_8 : decode cX9_findStandings 8 = .ok (.iconst 0, 1) := by decide +kernel
end
section
theorem dX9_findStandings_9 : decode cX9_findStandings 9 = .ok (.iconst 0, 1) := by decide +kernel
theorem dX9_findStandings_10 : decode cX9_findStandings 10 = .ok (.iastore, 1) := by decide +kernel
theorem dX9_findStandings_11 : decode cX9_findStandings 11 = .ok (.iload_n 2, 1) := by decide +kernel
theorem dX9_findStandings_12 : decode cX9_findStandings 12 = .ok (.ifCond .lt 128, 3) := by decide +kernel
theorem dX9_findStandings_15 : decode cX9_findStandings 15 = .ok (.aload_n 0, 1) := by decide +kernel
theorem dX9_findStandings_16 : decode cX9_findStandings 16 = .ok (.getfield 37, 3) := by decide +kernel
theorem dX9_findStandings_19 : decode cX9_findStandings 19 = .ok (.iload_n 2, 1) := by decide +kernel
theorem dX9_findStandings_20 : decode cX9_findStandings 20 = .ok (.iaload, 1) := by decide +kernel
theorem dX9_findStandings_21 : decode cX9_findStandings 21 = .ok (.aload_n 0, 1) := by decide +kernel
theorem dX9_findStandings_22 : decode cX9_findStandings 22 = .ok (.invokevirtual 102, 3) := by decide +kernel
theorem dX9_findStandings_25 : decode cX9_findStandings 25 = .ok (.if_icmp .lt 23, 3) := by decide +kernel
theorem dX9_findStandings_28 : decode cX9_findStandings 28 = .ok (.iinc 2 (-1), 3) := by decide +kernel
theorem dX9_findStandings_31 : decode cX9_findStandings 31 = .ok (.iload_n 2, 1) := by decide +kernel
theorem dX9_findStandings_32 : decode cX9_findStandings 32 = .ok (.ifCond .lt (-21), 3) := by decide +kernel
theorem dX9_findStandings_35 : decode cX9_findStandings 35 = .ok (.aload_n 0, 1) := by decide +kernel
theorem dX9_findStandings_36 : decode cX9_findStandings 36 = .ok (.getfield 37, 3) := by decide +kernel
theorem dX9_findStandings_39 : decode cX9_findStandings 39 = .ok (.iload_n 2, 1) := by decide +kernel
theorem dX9_findStandings_40 : decode cX9_findStandings 40 = .ok (.dup2, 1) := by decide +kernel
theorem dX9_findStandings_41 : decode cX9_findStandings 41 = .ok (.iaload, 1) := by decide +kernel
theorem dX9_findStandings_42 : decode cX9_findStandings 42 = .ok (.iconst 1, 1) := by decide +kernel
theorem dX9_findStandings_43 : decode cX9_findStandings 43 = .ok (.iadd, 1) := by decide +kernel
theorem dX9_findStandings_44 : decode cX9_findStandings 44 = .ok (.iastore, 1) := by decide +kernel
theorem dX9_findStandings_45 : decode cX9_findStandings 45 = .ok (.goto (-34), 3) := by decide +kernel
theorem dX9_findStandings_48 : decode cX9_findStandings 48 = .ok (.aload_n 0, 1) := by decide +kernel
theorem dX9_findStandings_49 : decode cX9_findStandings 49 = .ok (.iload_n 2, 1) := by decide +kernel
theorem dX9_findStandings_50 : decode cX9_findStandings 50 = .ok (.invokevirtual 209, 3) := by decide +kernel
theorem dX9_findStandings_53 : decode cX9_findStandings 53 = .ok (.ifCond .ne 16, 3) := by decide +kernel
theorem dX9_findStandings_56 : decode cX9_findStandings 56 = .ok (.aload_n 0, 1) := by decide +kernel
theorem dX9_findStandings_57 : decode cX9_findStandings 57 = .ok (.getfield 37, 3) := by decide +kernel
theorem dX9_findStandings_60 : decode cX9_findStandings 60 = .ok (.iload_n 2, 1) := by decide +kernel
theorem dX9_findStandings_61 : decode cX9_findStandings 61 = .ok (.dup2, 1) := by decide +kernel
theorem dX9_findStandings_62 : decode cX9_findStandings 62 = .ok (.iaload, 1) := by decide +kernel
theorem dX9_findStandings_63 : decode cX9_findStandings 63 = .ok (.iconst 1, 1) := by decide +kernel
theorem dX9_findStandings_64 : decode cX9_findStandings 64 = .ok (.iadd, 1) := by decide +kernel
theorem dX9_findStandings_65 : decode cX9_findStandings 65 = .ok (.iastore, 1) := by decide +kernel
theorem dX9_findStandings_66 : decode cX9_findStandings 66 = .ok (.goto (-55), 3) := by decide +kernel
theorem dX9_findStandings_69 : decode cX9_findStandings 69 = .ok (.iload_n 2, 1) := by decide +kernel
theorem dX9_findStandings_70 : decode cX9_findStandings 70 = .ok (.aload_n 0, 1) := by decide +kernel
theorem dX9_findStandings_71 : decode cX9_findStandings 71 = .ok (.getfield 70, 3) := by decide +kernel
theorem dX9_findStandings_74 : decode cX9_findStandings 74 = .ok (.iconst 1, 1) := by decide +kernel
theorem dX9_findStandings_75 : decode cX9_findStandings 75 = .ok (.isub, 1) := by decide +kernel
theorem dX9_findStandings_76 : decode cX9_findStandings 76 = .ok (.if_icmp .ge 16, 3) := by decide +kernel
theorem dX9_findStandings_79 : decode cX9_findStandings 79 = .ok (.iinc 2 1, 3) := by decide +kernel
theorem dX9_findStandings_82 : decode cX9_findStandings 82 = .ok (.aload_n 0, 1) := by decide +kernel
theorem dX9_findStandings_83 : decode cX9_findStandings 83 = .ok (.getfield 37, 3) := by decide +kernel
theorem dX9_findStandings_86 : decode cX9_findStandings 86 = .ok (.iload_n 2, 1) := by decide +kernel
theorem dX9_findStandings_87 : decode cX9_findStandings 87 = .ok (.iconst 0, 1) := by decide +kernel
theorem dX9_findStandings_88 : decode cX9_findStandings 88 = .ok (.iastore, 1) := by decide +kernel
theorem dX9_findStandings_89 : decode cX9_findStandings 89 = .ok (.goto (-78), 3) := by decide +kernel
theorem dX9_findStandings_92 : decode cX9_findStandings 92 = .ok (.iconst 0, 1) := by decide +kernel
theorem dX9_findStandings_93 : decode cX9_findStandings 93 = .ok (.istore_n 3, 1) := by decide +kernel
theorem dX9_findStandings_94 : decode cX9_findStandings 94 = .ok (.iload_n 3, 1) := by decide +kernel
theorem dX9_findStandings_95 : decode cX9_findStandings 95 = .ok (.aload_n 0, 1) := by decide +kernel
theorem dX9_findStandings_96 : decode cX9_findStandings 96 = .ok (.getfield 70, 3) := by decide +kernel
theorem dX9_findStandings_99 : decode cX9_findStandings 99 = .ok (.if_icmp .ge 25, 3) := by decide +kernel
theorem dX9_findStandings_102 : decode cX9_findStandings 102 = .ok (.iload_n 1, 1) := by decide +kernel
theorem dX9_findStandings_103 : decode cX9_findStandings 103 = .ok (.ifCond .ne 21, 3) := by decide +kernel
theorem dX9_findStandings_106 : decode cX9_findStandings 106 = .ok (.aload_n 0, 1) := by decide +kernel
theorem dX9_findStandings_107 : decode cX9_findStandings 107 = .ok (.getfield 40, 3) := by decide +kernel
theorem dX9_findStandings_110 : decode cX9_findStandings 110 = .ok (.iload_n 3, 1) := by decide +kernel
theorem dX9_findStandings_111 : decode cX9_findStandings 111 = .ok (.aload_n 0, 1) := by decide +kernel
theorem dX9_findStandings_112 : decode cX9_findStandings 112 = .ok (.getfield 37, 3) := by decide +kernel
theorem dX9_findStandings_115 : decode cX9_findStandings 115 = .ok (.iload_n 3, 1) := by decide +kernel
theorem dX9_findStandings_116 : decode cX9_findStandings 116 = .ok (.iaload, 1) := by decide +kernel
theorem dX9_findStandings_117 : decode cX9_findStandings 117 = .ok (.iastore, 1) := by decide +kernel
theorem dX9_findStandings_118 : decode cX9_findStandings 118 = .ok (.iinc 3 1, 3) := by decide +kernel
theorem dX9_findStandings_121 : decode cX9_findStandings 121 = .ok (.goto (-27), 3) := by decide +kernel
theorem dX9_findStandings_124 : decode cX9_findStandings 124 = .ok (.iinc 1 1, 3) := by decide +kernel
theorem dX9_findStandings_127 : decode cX9_findStandings 127 = .ok (.aload_n 0, 1) := by decide +kernel
theorem dX9_findStandings_128 : decode cX9_findStandings 128 = .ok (.getfield 37, 3) := by decide +kernel
theorem dX9_findStandings_131 : decode cX9_findStandings 131 = .ok (.iload_n 2, 1) := by decide +kernel
theorem dX9_findStandings_132 : decode cX9_findStandings 132 = .ok (.dup2, 1) := by decide +kernel
theorem dX9_findStandings_133 : decode cX9_findStandings 133 = .ok (.iaload, 1) := by decide +kernel
theorem dX9_findStandings_134 : decode cX9_findStandings 134 = .ok (.iconst 1, 1) := by decide +kernel
theorem dX9_findStandings_135 : decode cX9_findStandings 135 = .ok (.iadd, 1) := by decide +kernel
theorem dX9_findStandings_136 : decode cX9_findStandings 136 = .ok (.iastore, 1) := by decide +kernel
theorem dX9_findStandings_137 : decode cX9_findStandings 137 = .ok (.goto (-126), 3) := by decide +kernel
theorem dX9_findStandings_140 : decode cX9_findStandings 140 = .ok (.iload_n 1, 1) := by decide +kernel
theorem dX9_findStandings_141 : decode cX9_findStandings 141 = .ok (.ireturn, 1) := by decide +kernel
theorem dX9_placed_0 : decode cX9_placed 0 = .ok (.aload_n 0, 1) := by decide +kernel
theorem dX9_placed_1 : decode cX9_placed 1 = .ok (.getfield 70, 3) := by decide +kernel
theorem dX9_placed_4 : decode cX9_placed 4 = .ok (.aload_n 0, 1) := by decide +kernel
theorem dX9_placed_5 : decode cX9_placed 5 = .ok (.invokevirtual 102, 3) := by decide +kernel
theorem dX9_placed_8 : decode cX9_placed 8 = .ok (.if_icmp .le 6, 3) := by decide +kernel
theorem dX9_placed_11 : decode cX9_placed 11 = .ok (.bipush (-3), 2) := by decide +kernel
theorem dX9_placed_13 : decode cX9_placed 13 = .ok (.ireturn, 1) := by decide +kernel
theorem dX9_placed_14 : decode cX9_placed 14 = .ok (.aload_n 0, 1) := by decide +kernel
theorem dX9_placed_15 : decode cX9_placed 15 = .ok (.invokevirtual 212, 3) := by decide +kernel
theorem dX9_placed_18 : decode cX9_placed 18 = .ok (.istore_n 2, 1) := by decide +kernel
theorem dX9_placed_19 : decode cX9_placed 19 = .ok (.iload_n 1, 1) := by decide +kernel
theorem dX9_placed_20 : decode cX9_placed 20 = .ok (.iconst (-1), 1) := by decide +kernel
theorem dX9_placed_21 : decode cX9_placed 21 = .ok (.if_icmp .ne 7, 3) := by decide +kernel
theorem dX9_placed_24 : decode cX9_placed 24 = .ok (.iload_n 2, 1) := by decide +kernel
theorem dX9_placed_25 : decode cX9_placed 25 = .ok (.goto 26, 3) := by decide +kernel
theorem dX9_placed_28 : decode cX9_placed 28 = .ok (.iload_n 2, 1) := by decide +kernel
theorem dX9_placed_29 : decode cX9_placed 29 = .ok (.ifCond .le 20, 3) := by decide +kernel
theorem dX9_placed_32 : decode cX9_placed 32 = .ok (.aload_n 0, 1) := by decide +kernel
theorem dX9_placed_33 : decode cX9_placed 33 = .ok (.iload_n 1, 1) := by decide +kernel
theorem dX9_placed_34 : decode cX9_placed 34 = .ok (.invokevirtual 88, 3) := by decide +kernel
theorem dX9_placed_37 : decode cX9_placed 37 = .ok (.ifCond .eq 12, 3) := by decide +kernel
theorem dX9_placed_40 : decode cX9_placed 40 = .ok (.aload_n 0, 1) := by decide +kernel
theorem dX9_placed_41 : decode cX9_placed 41 = .ok (.getfield 40, 3) := by decide +kernel
theorem dX9_placed_44 : decode cX9_placed 44 = .ok (.iload_n 1, 1) := by decide +kernel
theorem dX9_placed_45 : decode cX9_placed 45 = .ok (.iaload, 1) := by decide +kernel
theorem dX9_placed_46 : decode cX9_placed 46 = .ok (.goto 5, 3) := by decide +kernel
theorem dX9_placed_49 : decode cX9_placed 49 = .ok (.bipush (-6), 2) := by decide +kernel
theorem dX9_placed_51 : decode cX9_placed 51 = .ok (.ireturn, 1) := by decide +kernel
theorem dX9_pass_0 : decode cX9_pass 0 = .ok (.aload_n 0, 1) := by decide +kernel
theorem dX9_pass_1 : decode cX9_pass 1 = .ok (.getfield 215, 3) := by decide +kernel
theorem dX9_pass_4 : decode cX9_pass 4 = .ok (.ifCond .eq 7, 3) := by decide +kernel
theorem dX9_pass_7 : decode cX9_pass 7 = .ok (.iload_n 1, 1) := by decide +kernel
theorem dX9_pass_8 : decode cX9_pass 8 = .ok (.goto 12, 3) := by decide +kernel
theorem dX9_pass_11 : decode cX9_pass 11 = .ok (.aload_n 0, 1) := by decide +kernel
theorem dX9_pass_12 : decode cX9_pass 12 = .ok (.getfield 43, 3) := by decide +kernel
theorem dX9_pass_15 : decode cX9_pass 15 = .ok (.aload_n 0, 1) := by decide +kernel
theorem dX9_pass_16 : decode cX9_pass 16 = .ok (.getfield 219, 3) := by decide +kernel
theorem dX9_pass_19 : decode cX9_pass 19 = .ok (.iaload, 1) := by decide +kernel
theorem dX9_pass_20 : decode cX9_pass 20 = .ok (.istore_n 2, 1) := by decide +kernel
theorem dX9_pass_21 : decode cX9_pass 21 = .ok (.aload_n 0, 1) := by decide +kernel
theorem dX9_pass_22 : decode cX9_pass 22 = .ok (.getfield 43, 3) := by decide +kernel
theorem dX9_pass_25 : decode cX9_pass 25 = .ok (.aload_n 0, 1) := by decide +kernel
theorem dX9_pass_26 : decode cX9_pass 26 = .ok (.getfield 219, 3) := by decide +kernel
theorem dX9_pass_29 : decode cX9_pass 29 = .ok (.iload_n 2, 1) := by decide +kernel
theorem dX9_pass_30 : decode cX9_pass 30 = .ok (.iastore, 1) := by decide +kernel
theorem dX9_pass_31 : decode cX9_pass 31 = .ok (.aload_n 0, 1) := by decide +kernel
theorem dX9_pass_32 : decode cX9_pass 32 = .ok (.dup, 1) := by decide +kernel
theorem dX9_pass_33 : decode cX9_pass 33 = .ok (.getfield 219, 3) := by decide +kernel
theorem dX9_pass_36 : decode cX9_pass 36 = .ok (.iconst 1, 1) := by decide +kernel
theorem dX9_pass_37 : decode cX9_pass 37 = .ok (.iadd, 1) := by decide +kernel
theorem dX9_pass_38 : decode cX9_pass 38 = .ok (.putfield 219, 3) := by decide +kernel
theorem dX9_pass_41 : decode cX9_pass 41 = .ok (.iload_n 2, 1) := by decide +kernel
theorem dX9_pass_42 : decode cX9_pass 42 = .ok (.ireturn, 1) := by decide +kernel
theorem dX9_passAll_0 : decode cX9_passAll 0 = .ok (.aload_n 0, 1) := by decide +kernel
theorem dX9_passAll_1 : decode cX9_passAll 1 = .ok (.aload_n 0, 1) := by decide +kernel
theorem dX9_passAll_2 : decode cX9_passAll 2 = .ok (.aload_n 0, 1) := by decide +kernel
theorem dX9_passAll_3 : decode cX9_passAll 3 = .ok (.getfield 70, 3) := by decide +kernel
theorem dX9_passAll_6 : decode cX9_passAll 6 = .ok (.invokevirtual 222, 3) := by decide +kernel
theorem dX9_passAll_9 : decode cX9_passAll 9 = .ok (.putfield 70, 3) := by decide +kernel
theorem dX9_passAll_12 : decode cX9_passAll 12 = .ok (.aload_n 0, 1) := by decide +kernel
theorem dX9_passAll_13 : decode cX9_passAll 13 = .ok (.aload_n 0, 1) := by decide +kernel
theorem dX9_passAll_14 : decode cX9_passAll 14 = .ok (.aload_n 0, 1) := by decide +kernel
theorem dX9_passAll_15 : decode cX9_passAll 15 = .ok (.getfield 73, 3) := by decide +kernel
theorem dX9_passAll_18 : decode cX9_passAll 18 = .ok (.invokevirtual 222, 3) := by decide +kernel
theorem dX9_passAll_21 : decode cX9_passAll 21 = .ok (.putfield 73, 3) := by decide +kernel
theorem dX9_passAll_24 : decode cX9_passAll 24 = .ok (.aload_n 0, 1) := by decide +kernel
theorem dX9_passAll_25 : decode cX9_passAll 25 = .ok (.aload_n 0, 1) := by decide +kernel
theorem dX9_passAll_26 : decode cX9_passAll 26 = .ok (.aload_n 0, 1) := by decide +kernel
theorem dX9_passAll_27 : decode cX9_passAll 27 = .ok (.getfield 76, 3) := by decide +kernel
theorem dX9_passAll_30 : decode cX9_passAll 30 = .ok (.invokevirtual 222, 3) := by decide +kernel
theorem dX9_passAll_33 : decode cX9_passAll 33 = .ok (.putfield 76, 3) := by decide +kernel
theorem dX9_passAll_36 : decode cX9_passAll 36 = .ok (.aload_n 0, 1) := by decide +kernel
theorem dX9_passAll_37 : decode cX9_passAll 37 = .ok (.aload_n 0, 1) := by decide +kernel
theorem dX9_passAll_38 : decode cX9_passAll 38 = .ok (.aload_n 0, 1) := by decide +kernel
theorem dX9_passAll_39 : decode cX9_passAll 39 = .ok (.getfield 79, 3) := by decide +kernel
theorem dX9_passAll_42 : decode cX9_passAll 42 = .ok (.invokevirtual 222, 3) := by decide +kernel
theorem dX9_passAll_45 : decode cX9_passAll 45 = .ok (.putfield 79, 3) := by decide +kernel
theorem dX9_passAll_48 : decode cX9_passAll 48 = .ok (.aload_n 0, 1) := by decide +kernel
theorem dX9_passAll_49 : decode cX9_passAll 49 = .ok (.aload_n 0, 1) := by decide +kernel
theorem dX9_passAll_50 : decode cX9_passAll 50 = .ok (.aload_n 0, 1) := by decide +kernel
theorem dX9_passAll_51 : decode cX9_passAll 51 = .ok (.getfield 63, 3) := by decide +kernel
theorem dX9_passAll_54 : decode cX9_passAll 54 = .ok (.invokevirtual 222, 3) := by decide +kernel
theorem dX9_passAll_57 : decode cX9_passAll 57 = .ok (.putfield 63, 3) := by decide +kernel
theorem dX9_passAll_60 : decode cX9_passAll 60 = .ok (.aload_n 0, 1) := by decide +kernel
theorem dX9_passAll_61 : decode cX9_passAll 61 = .ok (.aload_n 0, 1) := by decide +kernel
theorem dX9_passAll_62 : decode cX9_passAll 62 = .ok (.aload_n 0, 1) := by decide +kernel
theorem dX9_passAll_63 : decode cX9_passAll 63 = .ok (.getfield 50, 3) := by decide +kernel
theorem dX9_passAll_66 : decode cX9_passAll 66 = .ok (.invokevirtual 222, 3) := by decide +kernel
theorem dX9_passAll_69 : decode cX9_passAll 69 = .ok (.putfield 50, 3) := by decide +kernel
theorem dX9_passAll_72 : decode cX9_passAll 72 = .ok (.aload_n 0, 1) := by decide +kernel
theorem dX9_passAll_73 : decode cX9_passAll 73 = .ok (.aload_n 0, 1) := by decide +kernel
theorem dX9_passAll_74 : decode cX9_passAll 74 = .ok (.aload_n 0, 1) := by decide +kernel
theorem dX9_passAll_75 : decode cX9_passAll 75 = .ok (.getfield 54, 3) := by decide +kernel
theorem dX9_passAll_78 : decode cX9_passAll 78 = .ok (.invokevirtual 222, 3) := by decide +kernel
theorem dX9_passAll_81 : decode cX9_passAll 81 = .ok (.putfield 54, 3) := by decide +kernel
theorem dX9_passAll_84 : decode cX9_passAll 84 = .ok (.aload_n 0, 1) := by decide +kernel
theorem dX9_passAll_85 : decode cX9_passAll 85 = .ok (.aload_n 0, 1) := by decide +kernel
theorem dX9_passAll_86 : decode cX9_passAll 86 = .ok (.aload_n 0, 1) := by decide +kernel
theorem dX9_passAll_87 : decode cX9_passAll 87 = .ok (.getfield 57, 3) := by decide +kernel
theorem dX9_passAll_90 : decode cX9_passAll 90 = .ok (.invokevirtual 222, 3) := by decide +kernel
theorem dX9_passAll_93 : decode cX9_passAll 93 = .ok (.putfield 57, 3) := by decide +kernel
theorem dX9_passAll_96 : decode cX9_passAll 96 = .ok (.aload_n 0, 1) := by decide +kernel
theorem dX9_passAll_97 : decode cX9_passAll 97 = .ok (.aload_n 0, 1) := by decide +kernel
theorem dX9_passAll_98 : decode cX9_passAll 98 = .ok (.aload_n 0, 1) := by decide +kernel
theorem dX9_passAll_99 : decode cX9_passAll 99 = .ok (.getfield 60, 3) := by decide +kernel
theorem dX9_passAll_102 : decode cX9_passAll 102 = .ok (.invokevirtual 222, 3) := by decide +kernel
theorem dX9_passAll_105 : decode cX9_passAll 105 = .ok (.putfield 60, 3) := by decide +kernel
theorem dX9_passAll_108 : decode cX9_passAll 108 = .ok (.iconst 0, 1) := by decide +kernel
theorem dX9_passAll_109 : decode cX9_passAll 109 = .ok (.istore_n 1, 1) := by decide +kernel
theorem dX9_passAll_110 : decode cX9_passAll 110 = .ok (.iload_n 1, 1) := by decide +kernel
theorem dX9_passAll_111 : decode cX9_passAll 111 = .ok (.bipush 80, 2) := by decide +kernel
theorem dX9_passAll_113 : decode cX9_passAll 113 = .ok (.if_icmp .ge 25, 3) := by decide +kernel
theorem dX9_passAll_116 : decode cX9_passAll 116 = .ok (.aload_n 0, 1) := by decide +kernel
theorem dX9_passAll_117 : decode cX9_passAll 117 = .ok (.getfield 7, 3) := by decide +kernel
theorem dX9_passAll_120 : decode cX9_passAll 120 = .ok (.iload_n 1, 1) := by decide +kernel
theorem dX9_passAll_121 : decode cX9_passAll 121 = .ok (.aload_n 0, 1) := by decide +kernel
theorem dX9_passAll_122 : decode cX9_passAll 122 = .ok (.aload_n 0, 1) := by decide +kernel
theorem dX9_passAll_123 : decode cX9_passAll 123 = .ok (.getfield 7, 3) := by decide +kernel
theorem dX9_passAll_126 : decode cX9_passAll 126 = .ok (.iload_n 1, 1) := by decide +kernel
theorem dX9_passAll_127 : decode cX9_passAll 127 = .ok (.iaload, 1) := by decide +kernel
theorem dX9_passAll_128 : decode cX9_passAll 128 = .ok (.invokevirtual 222, 3) := by decide +kernel
theorem dX9_passAll_131 : decode cX9_passAll 131 = .ok (.iastore, 1) := by decide +kernel
theorem dX9_passAll_132 : decode cX9_passAll 132 = .ok (.iinc 1 1, 3) := by decide +kernel
theorem dX9_passAll_135 : decode cX9_passAll 135 = .ok (.goto (-25), 3) := by decide +kernel
theorem dX9_passAll_138 : decode cX9_passAll 138 = .ok (.iconst 0, 1) := by decide +kernel
theorem dX9_passAll_139 : decode cX9_passAll 139 = .ok (.istore_n 1, 1) := by decide +kernel
theorem dX9_passAll_140 : decode cX9_passAll 140 = .ok (.iload_n 1, 1) := by decide +kernel
theorem dX9_passAll_141 : decode cX9_passAll 141 = .ok (.bipush 8, 2) := by decide +kernel
theorem dX9_passAll_143 : decode cX9_passAll 143 = .ok (.if_icmp .ge 89, 3) := by decide +kernel
theorem dX9_passAll_146 : decode cX9_passAll 146 = .ok (.aload_n 0, 1) := by decide +kernel
theorem dX9_passAll_147 : decode cX9_passAll 147 = .ok (.getfield 13, 3) := by decide +kernel
theorem dX9_passAll_150 : decode cX9_passAll 150 = .ok (.iload_n 1, 1) := by decide +kernel
theorem dX9_passAll_151 : decode cX9_passAll 151 = .ok (.aload_n 0, 1) := by decide +kernel
theorem dX9_passAll_152 : decode cX9_passAll 152 = .ok (.aload_n 0, 1) := by decide +kernel
theorem dX9_passAll_153 : decode cX9_passAll 153 = .ok (.getfield 13, 3) := by decide +kernel
theorem dX9_passAll_156 : decode cX9_passAll 156 = .ok (.iload_n 1, 1) := by decide +kernel
theorem dX9_passAll_157 : decode cX9_passAll 157 = .ok (.iaload, 1) := by decide +kernel
theorem dX9_passAll_158 : decode cX9_passAll 158 = .ok (.invokevirtual 222, 3) := by decide +kernel
theorem dX9_passAll_161 : decode cX9_passAll 161 = .ok (.iastore, 1) := by decide +kernel
theorem dX9_passAll_162 : decode cX9_passAll 162 = .ok (.aload_n 0, 1) := by decide +kernel
theorem dX9_passAll_163 : decode cX9_passAll 163 = .ok (.getfield 16, 3) := by decide +kernel
theorem dX9_passAll_166 : decode cX9_passAll 166 = .ok (.iload_n 1, 1) := by decide +kernel
theorem dX9_passAll_167 : decode cX9_passAll 167 = .ok (.aload_n 0, 1) := by decide +kernel
theorem dX9_passAll_168 : decode cX9_passAll 168 = .ok (.aload_n 0, 1) := by decide +kernel
theorem dX9_passAll_169 : decode cX9_passAll 169 = .ok (.getfield 16, 3) := by decide +kernel
theorem dX9_passAll_172 : decode cX9_passAll 172 = .ok (.iload_n 1, 1) := by decide +kernel
theorem dX9_passAll_173 : decode cX9_passAll 173 = .ok (.iaload, 1) := by decide +kernel
theorem dX9_passAll_174 : decode cX9_passAll 174 = .ok (.invokevirtual 222, 3) := by decide +kernel
theorem dX9_passAll_177 : decode cX9_passAll 177 = .ok (.iastore, 1) := by decide +kernel
theorem dX9_passAll_178 : decode cX9_passAll 178 = .ok (.aload_n 0, 1) := by decide +kernel
theorem dX9_passAll_179 : decode cX9_passAll 179 = .ok (.getfield 19, 3) := by decide +kernel
theorem dX9_passAll_182 : decode cX9_passAll 182 = .ok (.iload_n 1, 1) := by decide +kernel
theorem dX9_passAll_183 : decode cX9_passAll 183 = .ok (.aload_n 0, 1) := by decide +kernel
theorem dX9_passAll_184 : decode cX9_passAll 184 = .ok (.aload_n 0, 1) := by decide +kernel
theorem dX9_passAll_185 : decode cX9_passAll 185 = .ok (.getfield 19, 3) := by decide +kernel
theorem dX9_passAll_188 : decode cX9_passAll 188 = .ok (.iload_n 1, 1) := by decide +kernel
theorem dX9_passAll_189 : decode cX9_passAll 189 = .ok (.iaload, 1) := by decide +kernel
theorem dX9_passAll_190 : decode cX9_passAll 190 = .ok (.invokevirtual 222, 3) := by decide +kernel
theorem dX9_passAll_193 : decode cX9_passAll 193 = .ok (.iastore, 1) := by decide +kernel
theorem dX9_passAll_194 : decode cX9_passAll 194 = .ok (.aload_n 0, 1) := by decide +kernel
theorem dX9_passAll_195 : decode cX9_passAll 195 = .ok (.getfield 22, 3) := by decide +kernel
theorem dX9_passAll_198 : decode cX9_passAll 198 = .ok (.iload_n 1, 1) := by decide +kernel
theorem dX9_passAll_199 : decode cX9_passAll 199 = .ok (.aload_n 0, 1) := by decide +kernel
theorem dX9_passAll_200 : decode cX9_passAll 200 = .ok (.aload_n 0, 1) := by decide +kernel
theorem dX9_passAll_201 : decode cX9_passAll 201 = .ok (.getfield 22, 3) := by decide +kernel
theorem dX9_passAll_204 : decode cX9_passAll 204 = .ok (.iload_n 1, 1) := by decide +kernel
theorem dX9_passAll_205 : decode cX9_passAll 205 = .ok (.iaload, 1) := by decide +kernel
theorem dX9_passAll_206 : decode cX9_passAll 206 = .ok (.invokevirtual 222, 3) := by decide +kernel
theorem dX9_passAll_209 : decode cX9_passAll 209 = .ok (.iastore, 1) := by decide +kernel
theorem dX9_passAll_210 : decode cX9_passAll 210 = .ok (.aload_n 0, 1) := by decide +kernel
theorem dX9_passAll_211 : decode cX9_passAll 211 = .ok (.getfield 25, 3) := by decide +kernel
theorem dX9_passAll_214 : decode cX9_passAll 214 = .ok (.iload_n 1, 1) := by decide +kernel
theorem dX9_passAll_215 : decode cX9_passAll 215 = .ok (.aload_n 0, 1) := by decide +kernel
theorem dX9_passAll_216 : decode cX9_passAll 216 = .ok (.aload_n 0, 1) := by decide +kernel
theorem dX9_passAll_217 : decode cX9_passAll 217 = .ok (.getfield 25, 3) := by decide +kernel
theorem dX9_passAll_220 : decode cX9_passAll 220 = .ok (.iload_n 1, 1) := by decide +kernel
theorem dX9_passAll_221 : decode cX9_passAll 221 = .ok (.iaload, 1) := by decide +kernel
theorem dX9_passAll_222 : decode cX9_passAll 222 = .ok (.invokevirtual 222, 3) := by decide +kernel
theorem dX9_passAll_225 : decode cX9_passAll 225 = .ok (.iastore, 1) := by decide +kernel
theorem dX9_passAll_226 : decode cX9_passAll 226 = .ok (.iinc 1 1, 3) := by decide +kernel
theorem dX9_passAll_229 : decode cX9_passAll 229 = .ok (.goto (-89), 3) := by decide +kernel
theorem dX9_passAll_232 : decode cX9_passAll 232 = .ok (.iconst 0, 1) := by decide +kernel
theorem dX9_passAll_233 : decode cX9_passAll 233 = .ok (.istore_n 1, 1) := by decide +kernel
theorem dX9_passAll_234 : decode cX9_passAll 234 = .ok (.iload_n 1, 1) := by decide +kernel
theorem dX9_passAll_235 : decode cX9_passAll 235 = .ok (.bipush 64, 2) := by decide +kernel
theorem dX9_passAll_237 : decode cX9_passAll 237 = .ok (.if_icmp .ge 25, 3) := by decide +kernel
theorem dX9_passAll_240 : decode cX9_passAll 240 = .ok (.aload_n 0, 1) := by decide +kernel
theorem dX9_passAll_241 : decode cX9_passAll 241 = .ok (.getfield 28, 3) := by decide +kernel
theorem dX9_passAll_244 : decode cX9_passAll 244 = .ok (.iload_n 1, 1) := by decide +kernel
theorem dX9_passAll_245 : decode cX9_passAll 245 = .ok (.aload_n 0, 1) := by decide +kernel
theorem dX9_passAll_246 : decode cX9_passAll 246 = .ok (.aload_n 0, 1) := by decide +kernel
theorem dX9_passAll_247 : decode cX9_passAll 247 = .ok (.getfield 28, 3) := by decide +kernel
theorem dX9_passAll_250 : decode cX9_passAll 250 = .ok (.iload_n 1, 1) := by decide +kernel
theorem dX9_passAll_251 : decode cX9_passAll 251 = .ok (.iaload, 1) := by decide +kernel
theorem dX9_passAll_252 : decode cX9_passAll 252 = .ok (.invokevirtual 222, 3) := by decide +kernel
theorem dX9_passAll_255 : decode cX9_passAll 255 = .ok (.iastore, 1) := by decide +kernel
theorem dX9_passAll_256 : decode cX9_passAll 256 = .ok (.iinc 1 1, 3) := by decide +kernel
theorem dX9_passAll_259 : decode cX9_passAll 259 = .ok (.goto (-25), 3) := by decide +kernel
theorem dX9_passAll_262 : decode cX9_passAll 262 = .ok (.return_, 1) := by decide +kernel
theorem dX9_image_0 : decode cX9_image 0 = .ok (.iload_n 1, 1) := by decide +kernel
theorem dX9_image_1 : decode cX9_image 1 = .ok (.i2l, 1) := by decide +kernel
theorem dX9_image_2 : decode cX9_image 2 = .ok (.lconst 0, 1) := by decide +kernel
theorem dX9_image_3 : decode cX9_image 3 = .ok (.lconst 1, 1) := by decide +kernel
theorem dX9_image_4 : decode cX9_image 4 = .ok (.invokestatic 82, 3) := by decide +kernel
theorem dX9_image_7 : decode cX9_image 7 = .ok (.ifCond .ne 6, 3) := by decide +kernel
theorem dX9_image_10 : decode cX9_image 10 = .ok (.bipush (-2), 2) := by decide +kernel
theorem dX9_image_12 : decode cX9_image 12 = .ok (.ireturn, 1) := by decide +kernel
theorem dX9_image_13 : decode cX9_image 13 = .ok (.aload_n 0, 1) := by decide +kernel
theorem dX9_image_14 : decode cX9_image 14 = .ok (.sipush 240, 3) := by decide +kernel
theorem dX9_image_17 : decode cX9_image 17 = .ok (.iload_n 1, 1) := by decide +kernel
theorem dX9_image_18 : decode cX9_image 18 = .ok (.imul, 1) := by decide +kernel
theorem dX9_image_19 : decode cX9_image 19 = .ok (.putfield 219, 3) := by decide +kernel
theorem dX9_image_22 : decode cX9_image 22 = .ok (.aload_n 0, 1) := by decide +kernel
theorem dX9_image_23 : decode cX9_image 23 = .ok (.iconst 1, 1) := by decide +kernel
theorem dX9_image_24 : decode cX9_image 24 = .ok (.putfield 215, 3) := by decide +kernel
theorem dX9_image_27 : decode cX9_image 27 = .ok (.aload_n 0, 1) := by decide +kernel
theorem dX9_image_28 : decode cX9_image 28 = .ok (.invokevirtual 225, 3) := by decide +kernel
theorem dX9_image_31 : decode cX9_image 31 = .ok (.aload_n 0, 1) := by decide +kernel
theorem dX9_image_32 : decode cX9_image 32 = .ok (.getfield 46, 3) := by decide +kernel
theorem dX9_image_35 : decode cX9_image 35 = .ok (.iload_n 1, 1) := by decide +kernel
theorem dX9_image_36 : decode cX9_image 36 = .ok (.iconst 1, 1) := by decide +kernel
theorem dX9_image_37 : decode cX9_image 37 = .ok (.bastore, 1) := by decide +kernel
theorem dX9_image_38 : decode cX9_image 38 = .ok (.iconst 1, 1) := by decide +kernel
theorem dX9_image_39 : decode cX9_image 39 = .ok (.ireturn, 1) := by decide +kernel
theorem dX9_restore_0 : decode cX9_restore 0 = .ok (.iload_n 1, 1) := by decide +kernel
theorem dX9_restore_1 : decode cX9_restore 1 = .ok (.i2l, 1) := by decide +kernel
theorem dX9_restore_2 : decode cX9_restore 2 = .ok (.lconst 0, 1) := by decide +kernel
theorem dX9_restore_3 : decode cX9_restore 3 = .ok (.lconst 1, 1) := by decide +kernel
theorem dX9_restore_4 : decode cX9_restore 4 = .ok (.invokestatic 82, 3) := by decide +kernel
theorem dX9_restore_7 : decode cX9_restore 7 = .ok (.ifCond .ne 6, 3) := by decide +kernel
theorem dX9_restore_10 : decode cX9_restore 10 = .ok (.bipush (-2), 2) := by decide +kernel
theorem dX9_restore_12 : decode cX9_restore 12 = .ok (.ireturn, 1) := by decide +kernel
theorem dX9_restore_13 : decode cX9_restore 13 = .ok (.aload_n 0, 1) := by decide +kernel
theorem dX9_restore_14 : decode cX9_restore 14 = .ok (.getfield 46, 3) := by decide +kernel
theorem dX9_restore_17 : decode cX9_restore 17 = .ok (.iload_n 1, 1) := by decide +kernel
theorem dX9_restore_18 : decode cX9_restore 18 = .ok (.baload, 1) := by decide +kernel
theorem dX9_restore_19 : decode cX9_restore 19 = .ok (.ifCond .ne 6, 3) := by decide +kernel
theorem dX9_restore_22 : decode cX9_restore 22 = .ok (.bipush (-3), 2) := by decide +kernel
theorem dX9_restore_24 : decode cX9_restore 24 = .ok (.ireturn, 1) := by decide +kernel
theorem dX9_restore_25 : decode cX9_restore 25 = .ok (.aload_n 0, 1) := by decide +kernel
theorem dX9_restore_26 : decode cX9_restore 26 = .ok (.sipush 240, 3) := by decide +kernel
theorem dX9_restore_29 : decode cX9_restore 29 = .ok (.iload_n 1, 1) := by decide +kernel
theorem dX9_restore_30 : decode cX9_restore 30 = .ok (.imul, 1) := by decide +kernel
theorem dX9_restore_31 : decode cX9_restore 31 = .ok (.putfield 219, 3) := by decide +kernel
theorem dX9_restore_34 : decode cX9_restore 34 = .ok (.aload_n 0, 1) := by decide +kernel
theorem dX9_restore_35 : decode cX9_restore 35 = .ok (.iconst 0, 1) := by decide +kernel
theorem dX9_restore_36 : decode cX9_restore 36 = .ok (.putfield 215, 3) := by decide +kernel
theorem dX9_restore_39 : decode cX9_restore 39 = .ok (.aload_n 0, 1) := by decide +kernel
theorem dX9_restore_40 : decode cX9_restore 40 = .ok (.invokevirtual 225, 3) := by decide +kernel
theorem dX9_restore_43 : decode cX9_restore 43 = .ok (.iconst 1, 1) := by decide +kernel
theorem dX9_restore_44 : decode cX9_restore 44 = .ok (.ireturn, 1) := by decide +kernel
theorem dX9_told_0 : decode cX9_told 0 = .ok (.iload_n 1, 1) := by decide +kernel
theorem dX9_told_1 : decode cX9_told 1 = .ok (.i2l, 1) := by decide +kernel
theorem dX9_told_2 : decode cX9_told 2 = .ok (.ldc2_w 228, 3) := by decide +kernel
theorem dX9_told_5 : decode cX9_told 5 = .ok (.bipush 9, 2) := by decide +kernel
theorem dX9_told_7 : decode cX9_told 7 = .ok (.aload_n 0, 1) := by decide +kernel
theorem dX9_told_8 : decode cX9_told 8 = .ok (.getfield 70, 3) := by decide +kernel
theorem dX9_told_11 : decode cX9_told 11 = .ok (.iadd, 1) := by decide +kernel
theorem dX9_told_12 : decode cX9_told 12 = .ok (.i2l, 1) := by decide +kernel
theorem dX9_told_13 : decode cX9_told 13 = .ok (.invokestatic 82, 3) := by decide +kernel
theorem dX9_told_16 : decode cX9_told 16 = .ok (.ifCond .eq 13, 3) := by decide +kernel
theorem dX9_told_19 : decode cX9_told 19 = .ok (.aload_n 0, 1) := by decide +kernel
theorem dX9_told_20 : decode cX9_told 20 = .ok (.getfield 25, 3) := by decide +kernel
theorem dX9_told_23 : decode cX9_told 23 = .ok (.iload_n 1, 1) := by decide +kernel
theorem dX9_told_24 : decode cX9_told 24 = .ok (.bipush 10, 2) := by decide +kernel
theorem dX9_told_26 : decode cX9_told 26 = .ok (.isub, 1) := by decide +kernel
theorem dX9_told_27 : decode cX9_told 27 = .ok (.iaload, 1) := by decide +kernel
theorem dX9_told_28 : decode cX9_told 28 = .ok (.ireturn, 1) := by decide +kernel
theorem dX9_told_29 : decode cX9_told 29 = .ok (.iload_n 1, 1) := by decide +kernel
theorem dX9_told_30 : decode cX9_told 30 = .ok (.i2l, 1) := by decide +kernel
theorem dX9_told_31 : decode cX9_told 31 = .ok (.ldc2_w 159, 3) := by decide +kernel
theorem dX9_told_34 : decode cX9_told 34 = .ok (.bipush 19, 2) := by decide +kernel
theorem dX9_told_36 : decode cX9_told 36 = .ok (.aload_n 0, 1) := by decide +kernel
theorem dX9_told_37 : decode cX9_told 37 = .ok (.getfield 70, 3) := by decide +kernel
theorem dX9_told_40 : decode cX9_told 40 = .ok (.iadd, 1) := by decide +kernel
theorem dX9_told_41 : decode cX9_told 41 = .ok (.i2l, 1) := by decide +kernel
theorem dX9_told_42 : decode cX9_told 42 = .ok (.invokestatic 82, 3) := by decide +kernel
theorem dX9_told_45 : decode cX9_told 45 = .ok (.ifCond .eq 13, 3) := by decide +kernel
theorem dX9_told_48 : decode cX9_told 48 = .ok (.aload_n 0, 1) := by decide +kernel
theorem dX9_told_49 : decode cX9_told 49 = .ok (.getfield 22, 3) := by decide +kernel
theorem dX9_told_52 : decode cX9_told 52 = .ok (.iload_n 1, 1) := by decide +kernel
theorem dX9_told_53 : decode cX9_told 53 = .ok (.bipush 20, 2) := by decide +kernel
theorem dX9_told_55 : decode cX9_told 55 = .ok (.isub, 1) := by decide +kernel
theorem dX9_told_56 : decode cX9_told 56 = .ok (.iaload, 1) := by decide +kernel
theorem dX9_told_57 : decode cX9_told 57 = .ok (.ireturn, 1) := by decide +kernel
theorem dX9_told_58 : decode cX9_told 58 = .ok (.iload_n 1, 1) := by decide +kernel
theorem dX9_told_59 : decode cX9_told 59 = .ok (.tableswitch 103 0 9 #[53, 58, 63, 68, 73, 78, 83, 88, 93, 98], 53) := by decide +kernel
theorem dX9_told_112 : decode cX9_told 112 = .ok (.aload_n 0, 1) := by decide +kernel
theorem dX9_told_113 : decode cX9_told 113 = .ok (.getfield 96, 3) := by decide +kernel
theorem dX9_told_116 : decode cX9_told 116 = .ok (.ireturn, 1) := by decide +kernel
theorem dX9_told_117 : decode cX9_told 117 = .ok (.aload_n 0, 1) := by decide +kernel
theorem dX9_told_118 : decode cX9_told 118 = .ok (.getfield 70, 3) := by decide +kernel
theorem dX9_told_121 : decode cX9_told 121 = .ok (.ireturn, 1) := by decide +kernel
theorem dX9_told_122 : decode cX9_told 122 = .ok (.aload_n 0, 1) := by decide +kernel
theorem dX9_told_123 : decode cX9_told 123 = .ok (.getfield 73, 3) := by decide +kernel
theorem dX9_told_126 : decode cX9_told 126 = .ok (.ireturn, 1) := by decide +kernel
theorem dX9_told_127 : decode cX9_told 127 = .ok (.aload_n 0, 1) := by decide +kernel
theorem dX9_told_128 : decode cX9_told 128 = .ok (.getfield 76, 3) := by decide +kernel
theorem dX9_told_131 : decode cX9_told 131 = .ok (.ireturn, 1) := by decide +kernel
theorem dX9_told_132 : decode cX9_told 132 = .ok (.aload_n 0, 1) := by decide +kernel
theorem dX9_told_133 : decode cX9_told 133 = .ok (.getfield 79, 3) := by decide +kernel
theorem dX9_told_136 : decode cX9_told 136 = .ok (.ireturn, 1) := by decide +kernel
theorem dX9_told_137 : decode cX9_told 137 = .ok (.aload_n 0, 1) := by decide +kernel
theorem dX9_told_138 : decode cX9_told 138 = .ok (.getfield 63, 3) := by decide +kernel
theorem dX9_told_141 : decode cX9_told 141 = .ok (.ireturn, 1) := by decide +kernel
theorem dX9_told_142 : decode cX9_told 142 = .ok (.aload_n 0, 1) := by decide +kernel
theorem dX9_told_143 : decode cX9_told 143 = .ok (.getfield 50, 3) := by decide +kernel
theorem dX9_told_146 : decode cX9_told 146 = .ok (.ireturn, 1) := by decide +kernel
theorem dX9_told_147 : decode cX9_told 147 = .ok (.aload_n 0, 1) := by decide +kernel
theorem dX9_told_148 : decode cX9_told 148 = .ok (.getfield 54, 3) := by decide +kernel
theorem dX9_told_151 : decode cX9_told 151 = .ok (.ireturn, 1) := by decide +kernel
theorem dX9_told_152 : decode cX9_told 152 = .ok (.aload_n 0, 1) := by decide +kernel
theorem dX9_told_153 : decode cX9_told 153 = .ok (.getfield 57, 3) := by decide +kernel
theorem dX9_told_156 : decode cX9_told 156 = .ok (.ireturn, 1) := by decide +kernel
theorem dX9_told_157 : decode cX9_told 157 = .ok (.aload_n 0, 1) := by decide +kernel
theorem dX9_told_158 : decode cX9_told 158 = .ok (.getfield 60, 3) := by decide +kernel
theorem dX9_told_161 : decode cX9_told 161 = .ok (.ireturn, 1) := by decide +kernel
theorem dX9_told_162 : decode cX9_told 162 = .ok (.bipush (-2), 2) := by decide +kernel
theorem dX9_told_164 : decode cX9_told 164 = .ok (.ireturn, 1) := by decide +kernel
theorem dJ6_numberOfTrailingZeros_0f7a4_0 : decode cJ6_numberOfTrailingZeros_0f7a4 0 = .ok (.iload_n 0, 1) := by decide +kernel
theorem dJ6_numberOfTrailingZeros_0f7a4_1 : decode cJ6_numberOfTrailingZeros_0f7a4 1 = .ok (.iconst (-1), 1) := by decide +kernel
theorem dJ6_numberOfTrailingZeros_0f7a4_2 : decode cJ6_numberOfTrailingZeros_0f7a4 2 = .ok (.ixor, 1) := by decide +kernel
theorem dJ6_numberOfTrailingZeros_0f7a4_3 : decode cJ6_numberOfTrailingZeros_0f7a4 3 = .ok (.iload_n 0, 1) := by decide +kernel
theorem dJ6_numberOfTrailingZeros_0f7a4_4 : decode cJ6_numberOfTrailingZeros_0f7a4 4 = .ok (.iconst 1, 1) := by decide +kernel
theorem dJ6_numberOfTrailingZeros_0f7a4_5 : decode cJ6_numberOfTrailingZeros_0f7a4 5 = .ok (.isub, 1) := by decide +kernel
theorem dJ6_numberOfTrailingZeros_0f7a4_6 : decode cJ6_numberOfTrailingZeros_0f7a4 6 = .ok (.iand, 1) := by decide +kernel
theorem dJ6_numberOfTrailingZeros_0f7a4_7 : decode cJ6_numberOfTrailingZeros_0f7a4 7 = .ok (.istore_n 0, 1) := by decide +kernel
theorem dJ6_numberOfTrailingZeros_0f7a4_8 : decode cJ6_numberOfTrailingZeros_0f7a4 8 = .ok (.iload_n 0, 1) := by decide +kernel
theorem dJ6_numberOfTrailingZeros_0f7a4_9 : decode cJ6_numberOfTrailingZeros_0f7a4 9 = .ok (.ifCond .gt 8, 3) := by decide +kernel
theorem dJ6_numberOfTrailingZeros_0f7a4_12 : decode cJ6_numberOfTrailingZeros_0f7a4 12 = .ok (.iload_n 0, 1) := by decide +kernel
theorem dJ6_numberOfTrailingZeros_0f7a4_13 : decode cJ6_numberOfTrailingZeros_0f7a4 13 = .ok (.bipush 32, 2) := by decide +kernel
theorem dJ6_numberOfTrailingZeros_0f7a4_15 : decode cJ6_numberOfTrailingZeros_0f7a4 15 = .ok (.iand, 1) := by decide +kernel
theorem dJ6_numberOfTrailingZeros_0f7a4_16 : decode cJ6_numberOfTrailingZeros_0f7a4 16 = .ok (.ireturn, 1) := by decide +kernel
theorem dJ6_numberOfTrailingZeros_0f7a4_17 : decode cJ6_numberOfTrailingZeros_0f7a4 17 = .ok (.iconst 1, 1) := by decide +kernel
theorem dJ6_numberOfTrailingZeros_0f7a4_18 : decode cJ6_numberOfTrailingZeros_0f7a4 18 = .ok (.istore_n 1, 1) := by decide +kernel
theorem dJ6_numberOfTrailingZeros_0f7a4_19 : decode cJ6_numberOfTrailingZeros_0f7a4 19 = .ok (.iload_n 0, 1) := by decide +kernel
theorem dJ6_numberOfTrailingZeros_0f7a4_20 : decode cJ6_numberOfTrailingZeros_0f7a4 20 = .ok (.ldc_w 264, 3) := by decide +kernel
theorem dJ6_numberOfTrailingZeros_0f7a4_23 : decode cJ6_numberOfTrailingZeros_0f7a4 23 = .ok (.if_icmp .le 11, 3) := by decide +kernel
theorem dJ6_numberOfTrailingZeros_0f7a4_26 : decode cJ6_numberOfTrailingZeros_0f7a4 26 = .ok (.iinc 1 16, 3) := by decide +kernel
theorem dJ6_numberOfTrailingZeros_0f7a4_29 : decode cJ6_numberOfTrailingZeros_0f7a4 29 = .ok (.iload_n 0, 1) := by decide +kernel
theorem dJ6_numberOfTrailingZeros_0f7a4_30 : decode cJ6_numberOfTrailingZeros_0f7a4 30 = .ok (.bipush 16, 2) := by decide +kernel
theorem dJ6_numberOfTrailingZeros_0f7a4_32 : decode cJ6_numberOfTrailingZeros_0f7a4 32 = .ok (.iushr, 1) := by decide +kernel
theorem dJ6_numberOfTrailingZeros_0f7a4_33 : decode cJ6_numberOfTrailingZeros_0f7a4 33 = .ok (.istore_n 0, 1) := by decide +kernel
theorem dJ6_numberOfTrailingZeros_0f7a4_34 : decode cJ6_numberOfTrailingZeros_0f7a4 34 = .ok (.iload_n 0, 1) := by decide +kernel
theorem dJ6_numberOfTrailingZeros_0f7a4_35 : decode cJ6_numberOfTrailingZeros_0f7a4 35 = .ok (.sipush 256, 3) := by decide +kernel
theorem dJ6_numberOfTrailingZeros_0f7a4_38 : decode cJ6_numberOfTrailingZeros_0f7a4 38 = .ok (.if_icmp .le 11, 3) := by decide +kernel
theorem dJ6_numberOfTrailingZeros_0f7a4_41 : decode cJ6_numberOfTrailingZeros_0f7a4 41 = .ok (.iinc 1 8, 3) := by decide +kernel
theorem dJ6_numberOfTrailingZeros_0f7a4_44 : decode cJ6_numberOfTrailingZeros_0f7a4 44 = .ok (.iload_n 0, 1) := by decide +kernel
theorem dJ6_numberOfTrailingZeros_0f7a4_45 : decode cJ6_numberOfTrailingZeros_0f7a4 45 = .ok (.bipush 8, 2) := by decide +kernel
theorem dJ6_numberOfTrailingZeros_0f7a4_47 : decode cJ6_numberOfTrailingZeros_0f7a4 47 = .ok (.iushr, 1) := by decide +kernel
theorem dJ6_numberOfTrailingZeros_0f7a4_48 : decode cJ6_numberOfTrailingZeros_0f7a4 48 = .ok (.istore_n 0, 1) := by decide +kernel
theorem dJ6_numberOfTrailingZeros_0f7a4_49 : decode cJ6_numberOfTrailingZeros_0f7a4 49 = .ok (.iload_n 0, 1) := by decide +kernel
theorem dJ6_numberOfTrailingZeros_0f7a4_50 : decode cJ6_numberOfTrailingZeros_0f7a4 50 = .ok (.bipush 16, 2) := by decide +kernel
theorem dJ6_numberOfTrailingZeros_0f7a4_52 : decode cJ6_numberOfTrailingZeros_0f7a4 52 = .ok (.if_icmp .le 10, 3) := by decide +kernel
theorem dJ6_numberOfTrailingZeros_0f7a4_55 : decode cJ6_numberOfTrailingZeros_0f7a4 55 = .ok (.iinc 1 4, 3) := by decide +kernel
theorem dJ6_numberOfTrailingZeros_0f7a4_58 : decode cJ6_numberOfTrailingZeros_0f7a4 58 = .ok (.iload_n 0, 1) := by decide +kernel
theorem dJ6_numberOfTrailingZeros_0f7a4_59 : decode cJ6_numberOfTrailingZeros_0f7a4 59 = .ok (.iconst 4, 1) := by decide +kernel
theorem dJ6_numberOfTrailingZeros_0f7a4_60 : decode cJ6_numberOfTrailingZeros_0f7a4 60 = .ok (.iushr, 1) := by decide +kernel
theorem dJ6_numberOfTrailingZeros_0f7a4_61 : decode cJ6_numberOfTrailingZeros_0f7a4 61 = .ok (.istore_n 0, 1) := by decide +kernel
theorem dJ6_numberOfTrailingZeros_0f7a4_62 : decode cJ6_numberOfTrailingZeros_0f7a4 62 = .ok (.iload_n 0, 1) := by decide +kernel
theorem dJ6_numberOfTrailingZeros_0f7a4_63 : decode cJ6_numberOfTrailingZeros_0f7a4 63 = .ok (.iconst 4, 1) := by decide +kernel
theorem dJ6_numberOfTrailingZeros_0f7a4_64 : decode cJ6_numberOfTrailingZeros_0f7a4 64 = .ok (.if_icmp .le 10, 3) := by decide +kernel
theorem dJ6_numberOfTrailingZeros_0f7a4_67 : decode cJ6_numberOfTrailingZeros_0f7a4 67 = .ok (.iinc 1 2, 3) := by decide +kernel
theorem dJ6_numberOfTrailingZeros_0f7a4_70 : decode cJ6_numberOfTrailingZeros_0f7a4 70 = .ok (.iload_n 0, 1) := by decide +kernel
theorem dJ6_numberOfTrailingZeros_0f7a4_71 : decode cJ6_numberOfTrailingZeros_0f7a4 71 = .ok (.iconst 2, 1) := by decide +kernel
theorem dJ6_numberOfTrailingZeros_0f7a4_72 : decode cJ6_numberOfTrailingZeros_0f7a4 72 = .ok (.iushr, 1) := by decide +kernel
theorem dJ6_numberOfTrailingZeros_0f7a4_73 : decode cJ6_numberOfTrailingZeros_0f7a4 73 = .ok (.istore_n 0, 1) := by decide +kernel
theorem dJ6_numberOfTrailingZeros_0f7a4_74 : decode cJ6_numberOfTrailingZeros_0f7a4 74 = .ok (.iload_n 1, 1) := by decide +kernel
theorem dJ6_numberOfTrailingZeros_0f7a4_75 : decode cJ6_numberOfTrailingZeros_0f7a4 75 = .ok (.iload_n 0, 1) := by decide +kernel
theorem dJ6_numberOfTrailingZeros_0f7a4_76 : decode cJ6_numberOfTrailingZeros_0f7a4 76 = .ok (.iconst 1, 1) := by decide +kernel
theorem dJ6_numberOfTrailingZeros_0f7a4_77 : decode cJ6_numberOfTrailingZeros_0f7a4 77 = .ok (.iushr, 1) := by decide +kernel
theorem dJ6_numberOfTrailingZeros_0f7a4_78 : decode cJ6_numberOfTrailingZeros_0f7a4 78 = .ok (.iadd, 1) := by decide +kernel
theorem dJ6_numberOfTrailingZeros_0f7a4_79 : decode cJ6_numberOfTrailingZeros_0f7a4 79 = .ok (.ireturn, 1) := by decide +kernel
theorem dJ6_bitCount_0f7a4_0 : decode cJ6_bitCount_0f7a4 0 = .ok (.iload_n 0, 1) := by decide +kernel
theorem dJ6_bitCount_0f7a4_1 : decode cJ6_bitCount_0f7a4 1 = .ok (.iload_n 0, 1) := by decide +kernel
theorem dJ6_bitCount_0f7a4_2 : decode cJ6_bitCount_0f7a4 2 = .ok (.iconst 1, 1) := by decide +kernel
theorem dJ6_bitCount_0f7a4_3 : decode cJ6_bitCount_0f7a4 3 = .ok (.iushr, 1) := by decide +kernel
theorem dJ6_bitCount_0f7a4_4 : decode cJ6_bitCount_0f7a4 4 = .ok (.ldc_w 265, 3) := by decide +kernel
theorem dJ6_bitCount_0f7a4_7 : decode cJ6_bitCount_0f7a4 7 = .ok (.iand, 1) := by decide +kernel
theorem dJ6_bitCount_0f7a4_8 : decode cJ6_bitCount_0f7a4 8 = .ok (.isub, 1) := by decide +kernel
theorem dJ6_bitCount_0f7a4_9 : decode cJ6_bitCount_0f7a4 9 = .ok (.istore_n 0, 1) := by decide +kernel
theorem dJ6_bitCount_0f7a4_10 : decode cJ6_bitCount_0f7a4 10 = .ok (.iload_n 0, 1) := by decide +kernel
theorem dJ6_bitCount_0f7a4_11 : decode cJ6_bitCount_0f7a4 11 = .ok (.ldc_w 266, 3) := by decide +kernel
theorem dJ6_bitCount_0f7a4_14 : decode cJ6_bitCount_0f7a4 14 = .ok (.iand, 1) := by decide +kernel
theorem dJ6_bitCount_0f7a4_15 : decode cJ6_bitCount_0f7a4 15 = .ok (.iload_n 0, 1) := by decide +kernel
theorem dJ6_bitCount_0f7a4_16 : decode cJ6_bitCount_0f7a4 16 = .ok (.iconst 2, 1) := by decide +kernel
theorem dJ6_bitCount_0f7a4_17 : decode cJ6_bitCount_0f7a4 17 = .ok (.iushr, 1) := by decide +kernel
theorem dJ6_bitCount_0f7a4_18 : decode cJ6_bitCount_0f7a4 18 = .ok (.ldc_w 266, 3) := by decide +kernel
theorem dJ6_bitCount_0f7a4_21 : decode cJ6_bitCount_0f7a4 21 = .ok (.iand, 1) := by decide +kernel
theorem dJ6_bitCount_0f7a4_22 : decode cJ6_bitCount_0f7a4 22 = .ok (.iadd, 1) := by decide +kernel
theorem dJ6_bitCount_0f7a4_23 : decode cJ6_bitCount_0f7a4 23 = .ok (.istore_n 0, 1) := by decide +kernel
theorem dJ6_bitCount_0f7a4_24 : decode cJ6_bitCount_0f7a4 24 = .ok (.iload_n 0, 1) := by decide +kernel
theorem dJ6_bitCount_0f7a4_25 : decode cJ6_bitCount_0f7a4 25 = .ok (.iload_n 0, 1) := by decide +kernel
theorem dJ6_bitCount_0f7a4_26 : decode cJ6_bitCount_0f7a4 26 = .ok (.iconst 4, 1) := by decide +kernel
theorem dJ6_bitCount_0f7a4_27 : decode cJ6_bitCount_0f7a4 27 = .ok (.iushr, 1) := by decide +kernel
theorem dJ6_bitCount_0f7a4_28 : decode cJ6_bitCount_0f7a4 28 = .ok (.iadd, 1) := by decide +kernel
theorem dJ6_bitCount_0f7a4_29 : decode cJ6_bitCount_0f7a4 29 = .ok (.ldc_w 267, 3) := by decide +kernel
theorem dJ6_bitCount_0f7a4_32 : decode cJ6_bitCount_0f7a4 32 = .ok (.iand, 1) := by decide +kernel
theorem dJ6_bitCount_0f7a4_33 : decode cJ6_bitCount_0f7a4 33 = .ok (.istore_n 0, 1) := by decide +kernel
theorem dJ6_bitCount_0f7a4_34 : decode cJ6_bitCount_0f7a4 34 = .ok (.iload_n 0, 1) := by decide +kernel
theorem dJ6_bitCount_0f7a4_35 : decode cJ6_bitCount_0f7a4 35 = .ok (.iload_n 0, 1) := by decide +kernel
theorem dJ6_bitCount_0f7a4_36 : decode cJ6_bitCount_0f7a4 36 = .ok (.bipush 8, 2) := by decide +kernel
theorem dJ6_bitCount_0f7a4_38 : decode cJ6_bitCount_0f7a4 38 = .ok (.iushr, 1) := by decide +kernel
theorem dJ6_bitCount_0f7a4_39 : decode cJ6_bitCount_0f7a4 39 = .ok (.iadd, 1) := by decide +kernel
theorem dJ6_bitCount_0f7a4_40 : decode cJ6_bitCount_0f7a4 40 = .ok (.istore_n 0, 1) := by decide +kernel
theorem dJ6_bitCount_0f7a4_41 : decode cJ6_bitCount_0f7a4 41 = .ok (.iload_n 0, 1) := by decide +kernel
theorem dJ6_bitCount_0f7a4_42 : decode cJ6_bitCount_0f7a4 42 = .ok (.iload_n 0, 1) := by decide +kernel
theorem dJ6_bitCount_0f7a4_43 : decode cJ6_bitCount_0f7a4 43 = .ok (.bipush 16, 2) := by decide +kernel
theorem dJ6_bitCount_0f7a4_45 : decode cJ6_bitCount_0f7a4 45 = .ok (.iushr, 1) := by decide +kernel
theorem dJ6_bitCount_0f7a4_46 : decode cJ6_bitCount_0f7a4 46 = .ok (.iadd, 1) := by decide +kernel
theorem dJ6_bitCount_0f7a4_47 : decode cJ6_bitCount_0f7a4 47 = .ok (.istore_n 0, 1) := by decide +kernel
theorem dJ6_bitCount_0f7a4_48 : decode cJ6_bitCount_0f7a4 48 = .ok (.iload_n 0, 1) := by decide +kernel
theorem dJ6_bitCount_0f7a4_49 : decode cJ6_bitCount_0f7a4 49 = .ok (.bipush 63, 2) := by decide +kernel
theorem dJ6_bitCount_0f7a4_51 : decode cJ6_bitCount_0f7a4 51 = .ok (.iand, 1) := by decide +kernel
theorem dJ6_bitCount_0f7a4_52 : decode cJ6_bitCount_0f7a4 52 = .ok (.ireturn, 1) := by decide +kernel
theorem dJ9_abs_0f7a4_0 : decode cJ9_abs_0f7a4 0 = .ok (.iload_n 0, 1) := by decide +kernel
theorem dJ9_abs_0f7a4_1 : decode cJ9_abs_0f7a4 1 = .ok (.ifCond .ge 8, 3) := by decide +kernel
theorem dJ9_abs_0f7a4_4 : decode cJ9_abs_0f7a4 4 = .ok (.iload_n 0, 1) := by decide +kernel
theorem dJ9_abs_0f7a4_5 : decode cJ9_abs_0f7a4 5 = .ok (.ineg, 1) := by decide +kernel
theorem dJ9_abs_0f7a4_6 : decode cJ9_abs_0f7a4 6 = .ok (.goto 4, 3) := by decide +kernel
theorem dJ9_abs_0f7a4_9 : decode cJ9_abs_0f7a4 9 = .ok (.iload_n 0, 1) := by decide +kernel
theorem dJ9_abs_0f7a4_10 : decode cJ9_abs_0f7a4 10 = .ok (.ireturn, 1) := by decide +kernel
theorem dJ9_max_7cf53_0 : decode cJ9_max_7cf53 0 = .ok (.iload_n 0, 1) := by decide +kernel
theorem dJ9_max_7cf53_1 : decode cJ9_max_7cf53 1 = .ok (.iload_n 1, 1) := by decide +kernel
theorem dJ9_max_7cf53_2 : decode cJ9_max_7cf53 2 = .ok (.if_icmp .lt 7, 3) := by decide +kernel
theorem dJ9_max_7cf53_5 : decode cJ9_max_7cf53 5 = .ok (.iload_n 0, 1) := by decide +kernel
theorem dJ9_max_7cf53_6 : decode cJ9_max_7cf53 6 = .ok (.goto 4, 3) := by decide +kernel
theorem dJ9_max_7cf53_9 : decode cJ9_max_7cf53 9 = .ok (.iload_n 1, 1) := by decide +kernel
theorem dJ9_max_7cf53_10 : decode cJ9_max_7cf53 10 = .ok (.ireturn, 1) := by decide +kernel
theorem dJ9_min_7cf53_0 : decode cJ9_min_7cf53 0 = .ok (.iload_n 0, 1) := by decide +kernel
theorem dJ9_min_7cf53_1 : decode cJ9_min_7cf53 1 = .ok (.iload_n 1, 1) := by decide +kernel
theorem dJ9_min_7cf53_2 : decode cJ9_min_7cf53 2 = .ok (.if_icmp .gt 7, 3) := by decide +kernel
theorem dJ9_min_7cf53_5 : decode cJ9_min_7cf53 5 = .ok (.iload_n 0, 1) := by decide +kernel
theorem dJ9_min_7cf53_6 : decode cJ9_min_7cf53 6 = .ok (.goto 4, 3) := by decide +kernel
theorem dJ9_min_7cf53_9 : decode cJ9_min_7cf53 9 = .ok (.iload_n 1, 1) := by decide +kernel
theorem dJ9_min_7cf53_10 : decode cJ9_min_7cf53 10 = .ok (.ireturn, 1) := by decide +kernel
theorem dL_law_0 : decode cL_law 0 = .ok (.new 7, 3) := by decide +kernel
theorem dL_law_3 : decode cL_law 3 = .ok (.dup, 1) := by decide +kernel
theorem dL_law_4 : decode cL_law 4 = .ok (.invokespecial 9, 3) := by decide +kernel
theorem dL_law_7 : decode cL_law 7 = .ok (.astore_n 1, 1) := by decide +kernel
theorem dL_law_8 : decode cL_law 8 = .ok (.new 10, 3) := by decide +kernel
theorem dL_law_11 : decode cL_law 11 = .ok (.dup, 1) := by decide +kernel
theorem dL_law_12 : decode cL_law 12 = .ok (.invokespecial 12, 3) := by decide +kernel
theorem dL_law_15 : decode cL_law 15 = .ok (.astore_n 2, 1) := by decide +kernel
theorem dL_law_16 : decode cL_law 16 = .ok (.iconst 0, 1) := by decide +kernel
theorem dL_law_17 : decode cL_law 17 = .ok (.istore_n 3, 1) := by decide +kernel
theorem dL_law_18 : decode cL_law 18 = .ok (.iload_n 3, 1) := by decide +kernel
theorem dL_law_19 : decode cL_law 19 = .ok (.aload_n 0, 1) := by decide +kernel
theorem dL_law_20 : decode cL_law 20 = .ok (.arraylength, 1) := by decide +kernel
theorem dL_law_21 : decode cL_law 21 = .ok (.iconst 4, 1) := by decide +kernel
theorem dL_law_22 : decode cL_law 22 = .ok (.isub, 1) := by decide +kernel
theorem dL_law_23 : decode cL_law 23 = .ok (.if_icmp .gt 953, 3) := by decide +kernel
theorem dL_law_26 : decode cL_law 26 = .ok (.aload_n 0, 1) := by decide +kernel
theorem dL_law_27 : decode cL_law 27 = .ok (.iload_n 3, 1) := by decide +kernel
theorem dL_law_28 : decode cL_law 28 = .ok (.iaload, 1) := by decide +kernel
theorem dL_law_29 : decode cL_law 29 = .ok (.bipush 31, 2) := by decide +kernel
theorem dL_law_31 : decode cL_law 31 = .ok (.iand, 1) := by decide +kernel
theorem dL_law_32 : decode cL_law 32 = .ok (.tableswitch 938 0 29 #[136, 159, 182, 205, 218, 241, 254, 287, 310, 323, 346, 369, 392, 405, 448, 471, 494, 537, 570, 604, 638, 671, 714, 747, 780, 823, 846, 869, 892, 915], 136) := by decide +kernel
theorem dL_law_168 : decode cL_law 168 = .ok (.aload_n 1, 1) := by decide +kernel
theorem dL_law_169 : decode cL_law 169 = .ok (.aload_n 0, 1) := by decide +kernel
theorem dL_law_170 : decode cL_law 170 = .ok (.iload_n 3, 1) := by decide +kernel
theorem dL_law_171 : decode cL_law 171 = .ok (.iconst 1, 1) := by decide +kernel
theorem dL_law_172 : decode cL_law 172 = .ok (.iadd, 1) := by decide +kernel
theorem dL_law_173 : decode cL_law 173 = .ok (.iaload, 1) := by decide +kernel
theorem dL_law_174 : decode cL_law 174 = .ok (.invokevirtual 13, 3) := by decide +kernel
theorem dL_law_177 : decode cL_law 177 = .ok (.aload_n 2, 1) := by decide +kernel
theorem dL_law_178 : decode cL_law 178 = .ok (.aload_n 0, 1) := by decide +kernel
theorem dL_law_179 : decode cL_law 179 = .ok (.iload_n 3, 1) := by decide +kernel
theorem dL_law_180 : decode cL_law 180 = .ok (.iconst 1, 1) := by decide +kernel
theorem dL_law_181 : decode cL_law 181 = .ok (.iadd, 1) := by decide +kernel
theorem dL_law_182 : decode cL_law 182 = .ok (.iaload, 1) := by decide +kernel
theorem dL_law_183 : decode cL_law 183 = .ok (.invokevirtual 17, 3) := by decide +kernel
theorem dL_law_186 : decode cL_law 186 = .ok (.if_icmp .eq 784, 3) := by decide +kernel
theorem dL_law_189 : decode cL_law 189 = .ok (.iconst 0, 1) := by decide +kernel
theorem dL_law_190 : decode cL_law 190 = .ok (.ireturn, 1) := by decide +kernel
theorem dL_law_191 : decode cL_law 191 = .ok (.aload_n 1, 1) := by decide +kernel
theorem dL_law_192 : decode cL_law 192 = .ok (.aload_n 0, 1) := by decide +kernel
theorem dL_law_193 : decode cL_law 193 = .ok (.iload_n 3, 1) := by decide +kernel
theorem dL_law_194 : decode cL_law 194 = .ok (.iconst 1, 1) := by decide +kernel
theorem dL_law_195 : decode cL_law 195 = .ok (.iadd, 1) := by decide +kernel
theorem dL_law_196 : decode cL_law 196 = .ok (.iaload, 1) := by decide +kernel
theorem dL_law_197 : decode cL_law 197 = .ok (.invokevirtual 18, 3) := by decide +kernel
theorem dL_law_200 : decode cL_law 200 = .ok (.aload_n 2, 1) := by decide +kernel
theorem dL_law_201 : decode cL_law 201 = .ok (.aload_n 0, 1) := by decide +kernel
theorem dL_law_202 : decode cL_law 202 = .ok (.iload_n 3, 1) := by decide +kernel
theorem dL_law_203 : decode cL_law 203 = .ok (.iconst 1, 1) := by decide +kernel
theorem dL_law_204 : decode cL_law 204 = .ok (.iadd, 1) := by decide +kernel
theorem dL_law_205 : decode cL_law 205 = .ok (.iaload, 1) := by decide +kernel
theorem dL_law_206 : decode cL_law 206 = .ok (.invokevirtual 21, 3) := by decide +kernel
theorem dL_law_209 : decode cL_law 209 = .ok (.if_icmp .eq 761, 3) := by decide +kernel
theorem dL_law_212 : decode cL_law 212 = .ok (.iconst 0, 1) := by decide +kernel
theorem dL_law_213 : decode cL_law 213 = .ok (.ireturn, 1) := by decide +kernel
theorem dL_law_214 : decode cL_law 214 = .ok (.aload_n 1, 1) := by decide +kernel
theorem dL_law_215 : decode cL_law 215 = .ok (.aload_n 0, 1) := by decide +kernel
theorem dL_law_216 : decode cL_law 216 = .ok (.iload_n 3, 1) := by decide +kernel
theorem dL_law_217 : decode cL_law 217 = .ok (.iconst 1, 1) := by decide +kernel
theorem dL_law_218 : decode cL_law 218 = .ok (.iadd, 1) := by decide +kernel
theorem dL_law_219 : decode cL_law 219 = .ok (.iaload, 1) := by decide +kernel
theorem dL_law_220 : decode cL_law 220 = .ok (.invokevirtual 22, 3) := by decide +kernel
theorem dL_law_223 : decode cL_law 223 = .ok (.aload_n 2, 1) := by decide +kernel
theorem dL_law_224 : decode cL_law 224 = .ok (.aload_n 0, 1) := by decide +kernel
theorem dL_law_225 : decode cL_law 225 = .ok (.iload_n 3, 1) := by decide +kernel
theorem dL_law_226 : decode cL_law 226 = .ok (.iconst 1, 1) := by decide +kernel
theorem dL_law_227 : decode cL_law 227 = .ok (.iadd, 1) := by decide +kernel
theorem dL_law_228 : decode cL_law 228 = .ok (.iaload, 1) := by decide +kernel
theorem dL_law_229 : decode cL_law 229 = .ok (.invokevirtual 25, 3) := by decide +kernel
theorem dL_law_232 : decode cL_law 232 = .ok (.if_icmp .eq 738, 3) := by decide +kernel
theorem dL_law_235 : decode cL_law 235 = .ok (.iconst 0, 1) := by decide +kernel
theorem dL_law_236 : decode cL_law 236 = .ok (.ireturn, 1) := by decide +kernel
theorem dL_law_237 : decode cL_law 237 = .ok (.aload_n 1, 1) := by decide +kernel
theorem dL_law_238 : decode cL_law 238 = .ok (.invokevirtual 26, 3) := by decide +kernel
theorem dL_law_241 : decode cL_law 241 = .ok (.aload_n 2, 1) := by decide +kernel
theorem dL_law_242 : decode cL_law 242 = .ok (.invokevirtual 30, 3) := by decide +kernel
theorem dL_law_245 : decode cL_law 245 = .ok (.if_icmp .eq 725, 3) := by decide +kernel
theorem dL_law_248 : decode cL_law 248 = .ok (.iconst 0, 1) := by decide +kernel
theorem dL_law_249 : decode cL_law 249 = .ok (.ireturn, 1) := by decide +kernel
theorem dL_law_250 : decode cL_law 250 = .ok (.aload_n 1, 1) := by decide +kernel
theorem dL_law_251 : decode cL_law 251 = .ok (.aload_n 0, 1) := by decide +kernel
theorem dL_law_252 : decode cL_law 252 = .ok (.iload_n 3, 1) := by decide +kernel
theorem dL_law_253 : decode cL_law 253 = .ok (.iconst 1, 1) := by decide +kernel
theorem dL_law_254 : decode cL_law 254 = .ok (.iadd, 1) := by decide +kernel
theorem dL_law_255 : decode cL_law 255 = .ok (.iaload, 1) := by decide +kernel
theorem dL_law_256 : decode cL_law 256 = .ok (.invokevirtual 31, 3) := by decide +kernel
theorem dL_law_259 : decode cL_law 259 = .ok (.aload_n 2, 1) := by decide +kernel
theorem dL_law_260 : decode cL_law 260 = .ok (.aload_n 0, 1) := by decide +kernel
theorem dL_law_261 : decode cL_law 261 = .ok (.iload_n 3, 1) := by decide +kernel
theorem dL_law_262 : decode cL_law 262 = .ok (.iconst 1, 1) := by decide +kernel
theorem dL_law_263 : decode cL_law 263 = .ok (.iadd, 1) := by decide +kernel
theorem dL_law_264 : decode cL_law 264 = .ok (.iaload, 1) := by decide +kernel
theorem dL_law_265 : decode cL_law 265 = .ok (.invokevirtual 34, 3) := by decide +kernel
theorem dL_law_268 : decode cL_law 268 = .ok (.if_icmp .eq 702, 3) := by decide +kernel
theorem dL_law_271 : decode cL_law 271 = .ok (.iconst 0, 1) := by decide +kernel
theorem dL_law_272 : decode cL_law 272 = .ok (.ireturn, 1) := by decide +kernel
theorem dL_law_273 : decode cL_law 273 = .ok (.aload_n 1, 1) := by decide +kernel
theorem dL_law_274 : decode cL_law 274 = .ok (.invokevirtual 35, 3) := by decide +kernel
theorem dL_law_277 : decode cL_law 277 = .ok (.aload_n 2, 1) := by decide +kernel
theorem dL_law_278 : decode cL_law 278 = .ok (.invokevirtual 38, 3) := by decide +kernel
theorem dL_law_281 : decode cL_law 281 = .ok (.if_icmp .eq 689, 3) := by decide +kernel
theorem dL_law_284 : decode cL_law 284 = .ok (.iconst 0, 1) := by decide +kernel
theorem dL_law_285 : decode cL_law 285 = .ok (.ireturn, 1) := by decide +kernel
theorem dL_law_286 : decode cL_law 286 = .ok (.aload_n 1, 1) := by decide +kernel
end
section
theorem dL_law_287 : decode cL_law 287 = .ok (.aload_n 0, 1) := by decide +kernel
theorem dL_law_288 : decode cL_law 288 = .ok (.iload_n 3, 1) := by decide +kernel
theorem dL_law_289 : decode cL_law 289 = .ok (.iconst 1, 1) := by decide +kernel
theorem dL_law_290 : decode cL_law 290 = .ok (.iadd, 1) := by decide +kernel
theorem dL_law_291 : decode cL_law 291 = .ok (.iaload, 1) := by decide +kernel
theorem dL_law_292 : decode cL_law 292 = .ok (.aload_n 0, 1) := by decide +kernel
theorem dL_law_293 : decode cL_law 293 = .ok (.iload_n 3, 1) := by decide +kernel
theorem dL_law_294 : decode cL_law 294 = .ok (.iconst 2, 1) := by decide +kernel
theorem dL_law_295 : decode cL_law 295 = .ok (.iadd, 1) := by decide +kernel
theorem dL_law_296 : decode cL_law 296 = .ok (.iaload, 1) := by decide +kernel
theorem dL_law_297 : decode cL_law 297 = .ok (.invokevirtual 39, 3) := by decide +kernel
theorem dL_law_300 : decode cL_law 300 = .ok (.aload_n 2, 1) := by decide +kernel
theorem dL_law_301 : decode cL_law 301 = .ok (.aload_n 0, 1) := by decide +kernel
theorem dL_law_302 : decode cL_law 302 = .ok (.iload_n 3, 1) := by decide +kernel
theorem dL_law_303 : decode cL_law 303 = .ok (.iconst 1, 1) := by decide +kernel
theorem dL_law_304 : decode cL_law 304 = .ok (.iadd, 1) := by decide +kernel
theorem dL_law_305 : decode cL_law 305 = .ok (.iaload, 1) := by decide +kernel
theorem dL_law_306 : decode cL_law 306 = .ok (.aload_n 0, 1) := by decide +kernel
theorem dL_law_307 : decode cL_law 307 = .ok (.iload_n 3, 1) := by decide +kernel
theorem dL_law_308 : decode cL_law 308 = .ok (.iconst 2, 1) := by decide +kernel
theorem dL_law_309 : decode cL_law 309 = .ok (.iadd, 1) := by decide +kernel
theorem dL_law_310 : decode cL_law 310 = .ok (.iaload, 1) := by decide +kernel
theorem dL_law_311 : decode cL_law 311 = .ok (.invokevirtual 43, 3) := by decide +kernel
theorem dL_law_314 : decode cL_law 314 = .ok (.if_icmp .eq 656, 3) := by decide +kernel
theorem dL_law_317 : decode cL_law 317 = .ok (.iconst 0, 1) := by decide +kernel
theorem dL_law_318 : decode cL_law 318 = .ok (.ireturn, 1) := by decide +kernel
theorem dL_law_319 : decode cL_law 319 = .ok (.aload_n 1, 1) := by decide +kernel
theorem dL_law_320 : decode cL_law 320 = .ok (.aload_n 0, 1) := by decide +kernel
theorem dL_law_321 : decode cL_law 321 = .ok (.iload_n 3, 1) := by decide +kernel
theorem dL_law_322 : decode cL_law 322 = .ok (.iconst 1, 1) := by decide +kernel
theorem dL_law_323 : decode cL_law 323 = .ok (.iadd, 1) := by decide +kernel
theorem dL_law_324 : decode cL_law 324 = .ok (.iaload, 1) := by decide +kernel
theorem dL_law_325 : decode cL_law 325 = .ok (.invokevirtual 44, 3) := by decide +kernel
theorem dL_law_328 : decode cL_law 328 = .ok (.aload_n 2, 1) := by decide +kernel
theorem dL_law_329 : decode cL_law 329 = .ok (.aload_n 0, 1) := by decide +kernel
theorem dL_law_330 : decode cL_law 330 = .ok (.iload_n 3, 1) := by decide +kernel
theorem dL_law_331 : decode cL_law 331 = .ok (.iconst 1, 1) := by decide +kernel
theorem dL_law_332 : decode cL_law 332 = .ok (.iadd, 1) := by decide +kernel
theorem dL_law_333 : decode cL_law 333 = .ok (.iaload, 1) := by decide +kernel
theorem dL_law_334 : decode cL_law 334 = .ok (.invokevirtual 47, 3) := by decide +kernel
theorem dL_law_337 : decode cL_law 337 = .ok (.if_icmp .eq 633, 3) := by decide +kernel
theorem dL_law_340 : decode cL_law 340 = .ok (.iconst 0, 1) := by decide +kernel
theorem dL_law_341 : decode cL_law 341 = .ok (.ireturn, 1) := by decide +kernel
theorem dL_law_342 : decode cL_law 342 = .ok (.aload_n 1, 1) := by decide +kernel
theorem dL_law_343 : decode cL_law 343 = .ok (.invokevirtual 48, 3) := by decide +kernel
theorem dL_law_346 : decode cL_law 346 = .ok (.aload_n 2, 1) := by decide +kernel
theorem dL_law_347 : decode cL_law 347 = .ok (.invokevirtual 51, 3) := by decide +kernel
theorem dL_law_350 : decode cL_law 350 = .ok (.if_icmp .eq 620, 3) := by decide +kernel
theorem dL_law_353 : decode cL_law 353 = .ok (.iconst 0, 1) := by decide +kernel
theorem dL_law_354 : decode cL_law 354 = .ok (.ireturn, 1) := by decide +kernel
theorem dL_law_355 : decode cL_law 355 = .ok (.aload_n 1, 1) := by decide +kernel
theorem dL_law_356 : decode cL_law 356 = .ok (.aload_n 0, 1) := by decide +kernel
theorem dL_law_357 : decode cL_law 357 = .ok (.iload_n 3, 1) := by decide +kernel
theorem dL_law_358 : decode cL_law 358 = .ok (.iconst 1, 1) := by decide +kernel
theorem dL_law_359 : decode cL_law 359 = .ok (.iadd, 1) := by decide +kernel
theorem dL_law_360 : decode cL_law 360 = .ok (.iaload, 1) := by decide +kernel
theorem dL_law_361 : decode cL_law 361 = .ok (.invokevirtual 52, 3) := by decide +kernel
theorem dL_law_364 : decode cL_law 364 = .ok (.aload_n 2, 1) := by decide +kernel
theorem dL_law_365 : decode cL_law 365 = .ok (.aload_n 0, 1) := by decide +kernel
theorem dL_law_366 : decode cL_law 366 = .ok (.iload_n 3, 1) := by decide +kernel
theorem dL_law_367 : decode cL_law 367 = .ok (.iconst 1, 1) := by decide +kernel
theorem dL_law_368 : decode cL_law 368 = .ok (.iadd, 1) := by decide +kernel
theorem dL_law_369 : decode cL_law 369 = .ok (.iaload, 1) := by decide +kernel
theorem dL_law_370 : decode cL_law 370 = .ok (.invokevirtual 55, 3) := by decide +kernel
theorem dL_law_373 : decode cL_law 373 = .ok (.if_icmp .eq 597, 3) := by decide +kernel
theorem dL_law_376 : decode cL_law 376 = .ok (.iconst 0, 1) := by decide +kernel
theorem dL_law_377 : decode cL_law 377 = .ok (.ireturn, 1) := by decide +kernel
theorem dL_law_378 : decode cL_law 378 = .ok (.aload_n 1, 1) := by decide +kernel
theorem dL_law_379 : decode cL_law 379 = .ok (.aload_n 0, 1) := by decide +kernel
theorem dL_law_380 : decode cL_law 380 = .ok (.iload_n 3, 1) := by decide +kernel
theorem dL_law_381 : decode cL_law 381 = .ok (.iconst 1, 1) := by decide +kernel
theorem dL_law_382 : decode cL_law 382 = .ok (.iadd, 1) := by decide +kernel
theorem dL_law_383 : decode cL_law 383 = .ok (.iaload, 1) := by decide +kernel
theorem dL_law_384 : decode cL_law 384 = .ok (.invokevirtual 56, 3) := by decide +kernel
theorem dL_law_387 : decode cL_law 387 = .ok (.aload_n 2, 1) := by decide +kernel
theorem dL_law_388 : decode cL_law 388 = .ok (.aload_n 0, 1) := by decide +kernel
theorem dL_law_389 : decode cL_law 389 = .ok (.iload_n 3, 1) := by decide +kernel
theorem dL_law_390 : decode cL_law 390 = .ok (.iconst 1, 1) := by decide +kernel
theorem dL_law_391 : decode cL_law 391 = .ok (.iadd, 1) := by decide +kernel
theorem dL_law_392 : decode cL_law 392 = .ok (.iaload, 1) := by decide +kernel
theorem dL_law_393 : decode cL_law 393 = .ok (.invokevirtual 59, 3) := by decide +kernel
theorem dL_law_396 : decode cL_law 396 = .ok (.if_icmp .eq 574, 3) := by decide +kernel
theorem dL_law_399 : decode cL_law 399 = .ok (.iconst 0, 1) := by decide +kernel
theorem dL_law_400 : decode cL_law 400 = .ok (.ireturn, 1) := by decide +kernel
theorem dL_law_401 : decode cL_law 401 = .ok (.aload_n 1, 1) := by decide +kernel
theorem dL_law_402 : decode cL_law 402 = .ok (.aload_n 0, 1) := by decide +kernel
theorem dL_law_403 : decode cL_law 403 = .ok (.iload_n 3, 1) := by decide +kernel
theorem dL_law_404 : decode cL_law 404 = .ok (.iconst 1, 1) := by decide +kernel
theorem dL_law_405 : decode cL_law 405 = .ok (.iadd, 1) := by decide +kernel
theorem dL_law_406 : decode cL_law 406 = .ok (.iaload, 1) := by decide +kernel
theorem dL_law_407 : decode cL_law 407 = .ok (.invokevirtual 60, 3) := by decide +kernel
theorem dL_law_410 : decode cL_law 410 = .ok (.aload_n 2, 1) := by decide +kernel
theorem dL_law_411 : decode cL_law 411 = .ok (.aload_n 0, 1) := by decide +kernel
theorem dL_law_412 : decode cL_law 412 = .ok (.iload_n 3, 1) := by decide +kernel
theorem dL_law_413 : decode cL_law 413 = .ok (.iconst 1, 1) := by decide +kernel
theorem dL_law_414 : decode cL_law 414 = .ok (.iadd, 1) := by decide +kernel
theorem dL_law_415 : decode cL_law 415 = .ok (.iaload, 1) := by decide +kernel
theorem dL_law_416 : decode cL_law 416 = .ok (.invokevirtual 63, 3) := by decide +kernel
theorem dL_law_419 : decode cL_law 419 = .ok (.if_icmp .eq 551, 3) := by decide +kernel
theorem dL_law_422 : decode cL_law 422 = .ok (.iconst 0, 1) := by decide +kernel
theorem dL_law_423 : decode cL_law 423 = .ok (.ireturn, 1) := by decide +kernel
theorem dL_law_424 : decode cL_law 424 = .ok (.aload_n 1, 1) := by decide +kernel
theorem dL_law_425 : decode cL_law 425 = .ok (.invokevirtual 64, 3) := by decide +kernel
theorem dL_law_428 : decode cL_law 428 = .ok (.aload_n 2, 1) := by decide +kernel
theorem dL_law_429 : decode cL_law 429 = .ok (.invokevirtual 67, 3) := by decide +kernel
theorem dL_law_432 : decode cL_law 432 = .ok (.if_icmp .eq 538, 3) := by decide +kernel
theorem dL_law_435 : decode cL_law 435 = .ok (.iconst 0, 1) := by decide +kernel
theorem dL_law_436 : decode cL_law 436 = .ok (.ireturn, 1) := by decide +kernel
theorem dL_law_437 : decode cL_law 437 = .ok (.aload_n 1, 1) := by decide +kernel
theorem dL_law_438 : decode cL_law 438 = .ok (.aload_n 0, 1) := by decide +kernel
theorem dL_law_439 : decode cL_law 439 = .ok (.iload_n 3, 1) := by decide +kernel
theorem dL_law_440 : decode cL_law 440 = .ok (.iconst 1, 1) := by decide +kernel
theorem dL_law_441 : decode cL_law 441 = .ok (.iadd, 1) := by decide +kernel
theorem dL_law_442 : decode cL_law 442 = .ok (.iaload, 1) := by decide +kernel
theorem dL_law_443 : decode cL_law 443 = .ok (.aload_n 0, 1) := by decide +kernel
theorem dL_law_444 : decode cL_law 444 = .ok (.iload_n 3, 1) := by decide +kernel
theorem dL_law_445 : decode cL_law 445 = .ok (.iconst 2, 1) := by decide +kernel
theorem dL_law_446 : decode cL_law 446 = .ok (.iadd, 1) := by decide +kernel
theorem dL_law_447 : decode cL_law 447 = .ok (.iaload, 1) := by decide +kernel
theorem dL_law_448 : decode cL_law 448 = .ok (.aload_n 0, 1) := by decide +kernel
theorem dL_law_449 : decode cL_law 449 = .ok (.iload_n 3, 1) := by decide +kernel
theorem dL_law_450 : decode cL_law 450 = .ok (.iconst 3, 1) := by decide +kernel
theorem dL_law_451 : decode cL_law 451 = .ok (.iadd, 1) := by decide +kernel
theorem dL_law_452 : decode cL_law 452 = .ok (.iaload, 1) := by decide +kernel
theorem dL_law_453 : decode cL_law 453 = .ok (.invokevirtual 68, 3) := by decide +kernel
theorem dL_law_456 : decode cL_law 456 = .ok (.aload_n 2, 1) := by decide +kernel
theorem dL_law_457 : decode cL_law 457 = .ok (.aload_n 0, 1) := by decide +kernel
theorem dL_law_458 : decode cL_law 458 = .ok (.iload_n 3, 1) := by decide +kernel
theorem dL_law_459 : decode cL_law 459 = .ok (.iconst 1, 1) := by decide +kernel
theorem dL_law_460 : decode cL_law 460 = .ok (.iadd, 1) := by decide +kernel
theorem dL_law_461 : decode cL_law 461 = .ok (.iaload, 1) := by decide +kernel
theorem dL_law_462 : decode cL_law 462 = .ok (.aload_n 0, 1) := by decide +kernel
theorem dL_law_463 : decode cL_law 463 = .ok (.iload_n 3, 1) := by decide +kernel
theorem dL_law_464 : decode cL_law 464 = .ok (.iconst 2, 1) := by decide +kernel
theorem dL_law_465 : decode cL_law 465 = .ok (.iadd, 1) := by decide +kernel
theorem dL_law_466 : decode cL_law 466 = .ok (.iaload, 1) := by decide +kernel
theorem dL_law_467 : decode cL_law 467 = .ok (.aload_n 0, 1) := by decide +kernel
theorem dL_law_468 : decode cL_law 468 = .ok (.iload_n 3, 1) := by decide +kernel
theorem dL_law_469 : decode cL_law 469 = .ok (.iconst 3, 1) := by decide +kernel
theorem dL_law_470 : decode cL_law 470 = .ok (.iadd, 1) := by decide +kernel
theorem dL_law_471 : decode cL_law 471 = .ok (.iaload, 1) := by decide +kernel
theorem dL_law_472 : decode cL_law 472 = .ok (.invokevirtual 72, 3) := by decide +kernel
theorem dL_law_475 : decode cL_law 475 = .ok (.if_icmp .eq 495, 3) := by decide +kernel
theorem dL_law_478 : decode cL_law 478 = .ok (.iconst 0, 1) := by decide +kernel
theorem dL_law_479 : decode cL_law 479 = .ok (.ireturn, 1) := by decide +kernel
theorem dL_law_480 : decode cL_law 480 = .ok (.aload_n 1, 1) := by decide +kernel
theorem dL_law_481 : decode cL_law 481 = .ok (.aload_n 0, 1) := by decide +kernel
theorem dL_law_482 : decode cL_law 482 = .ok (.iload_n 3, 1) := by decide +kernel
theorem dL_law_483 : decode cL_law 483 = .ok (.iconst 1, 1) := by decide +kernel
theorem dL_law_484 : decode cL_law 484 = .ok (.iadd, 1) := by decide +kernel
theorem dL_law_485 : decode cL_law 485 = .ok (.iaload, 1) := by decide +kernel
theorem dL_law_486 : decode cL_law 486 = .ok (.invokevirtual 73, 3) := by decide +kernel
theorem dL_law_489 : decode cL_law 489 = .ok (.aload_n 2, 1) := by decide +kernel
theorem dL_law_490 : decode cL_law 490 = .ok (.aload_n 0, 1) := by decide +kernel
theorem dL_law_491 : decode cL_law 491 = .ok (.iload_n 3, 1) := by decide +kernel
theorem dL_law_492 : decode cL_law 492 = .ok (.iconst 1, 1) := by decide +kernel
theorem dL_law_493 : decode cL_law 493 = .ok (.iadd, 1) := by decide +kernel
theorem dL_law_494 : decode cL_law 494 = .ok (.iaload, 1) := by decide +kernel
theorem dL_law_495 : decode cL_law 495 = .ok (.invokevirtual 76, 3) := by decide +kernel
theorem dL_law_498 : decode cL_law 498 = .ok (.if_icmp .eq 472, 3) := by decide +kernel
theorem dL_law_501 : decode cL_law 501 = .ok (.iconst 0, 1) := by decide +kernel
theorem dL_law_502 : decode cL_law 502 = .ok (.ireturn, 1) := by decide +kernel
theorem dL_law_503 : decode cL_law 503 = .ok (.aload_n 1, 1) := by decide +kernel
theorem dL_law_504 : decode cL_law 504 = .ok (.aload_n 0, 1) := by decide +kernel
theorem dL_law_505 : decode cL_law 505 = .ok (.iload_n 3, 1) := by decide +kernel
theorem dL_law_506 : decode cL_law 506 = .ok (.iconst 1, 1) := by decide +kernel
theorem dL_law_507 : decode cL_law 507 = .ok (.iadd, 1) := by decide +kernel
theorem dL_law_508 : decode cL_law 508 = .ok (.iaload, 1) := by decide +kernel
theorem dL_law_509 : decode cL_law 509 = .ok (.invokevirtual 77, 3) := by decide +kernel
theorem dL_law_512 : decode cL_law 512 = .ok (.aload_n 2, 1) := by decide +kernel
theorem dL_law_513 : decode cL_law 513 = .ok (.aload_n 0, 1) := by decide +kernel
theorem dL_law_514 : decode cL_law 514 = .ok (.iload_n 3, 1) := by decide +kernel
theorem dL_law_515 : decode cL_law 515 = .ok (.iconst 1, 1) := by decide +kernel
theorem dL_law_516 : decode cL_law 516 = .ok (.iadd, 1) := by decide +kernel
theorem dL_law_517 : decode cL_law 517 = .ok (.iaload, 1) := by decide +kernel
theorem dL_law_518 : decode cL_law 518 = .ok (.invokevirtual 80, 3) := by decide +kernel
theorem dL_law_521 : decode cL_law 521 = .ok (.if_icmp .eq 449, 3) := by decide +kernel
theorem dL_law_524 : decode cL_law 524 = .ok (.iconst 0, 1) := by decide +kernel
theorem dL_law_525 : decode cL_law 525 = .ok (.ireturn, 1) := by decide +kernel
theorem dL_law_526 : decode cL_law 526 = .ok (.aload_n 1, 1) := by decide +kernel
theorem dL_law_527 : decode cL_law 527 = .ok (.aload_n 0, 1) := by decide +kernel
theorem dL_law_528 : decode cL_law 528 = .ok (.iload_n 3, 1) := by decide +kernel
theorem dL_law_529 : decode cL_law 529 = .ok (.iconst 1, 1) := by decide +kernel
theorem dL_law_530 : decode cL_law 530 = .ok (.iadd, 1) := by decide +kernel
theorem dL_law_531 : decode cL_law 531 = .ok (.iaload, 1) := by decide +kernel
theorem dL_law_532 : decode cL_law 532 = .ok (.aload_n 0, 1) := by decide +kernel
theorem dL_law_533 : decode cL_law 533 = .ok (.iload_n 3, 1) := by decide +kernel
theorem dL_law_534 : decode cL_law 534 = .ok (.iconst 2, 1) := by decide +kernel
theorem dL_law_535 : decode cL_law 535 = .ok (.iadd, 1) := by decide +kernel
theorem dL_law_536 : decode cL_law 536 = .ok (.iaload, 1) := by decide +kernel
theorem dL_law_537 : decode cL_law 537 = .ok (.aload_n 0, 1) := by decide +kernel
theorem dL_law_538 : decode cL_law 538 = .ok (.iload_n 3, 1) := by decide +kernel
theorem dL_law_539 : decode cL_law 539 = .ok (.iconst 3, 1) := by decide +kernel
theorem dL_law_540 : decode cL_law 540 = .ok (.iadd, 1) := by decide +kernel
theorem dL_law_541 : decode cL_law 541 = .ok (.iaload, 1) := by decide +kernel
theorem dL_law_542 : decode cL_law 542 = .ok (.invokevirtual 81, 3) := by decide +kernel
theorem dL_law_545 : decode cL_law 545 = .ok (.aload_n 2, 1) := by decide +kernel
theorem dL_law_546 : decode cL_law 546 = .ok (.aload_n 0, 1) := by decide +kernel
theorem dL_law_547 : decode cL_law 547 = .ok (.iload_n 3, 1) := by decide +kernel
theorem dL_law_548 : decode cL_law 548 = .ok (.iconst 1, 1) := by decide +kernel
theorem dL_law_549 : decode cL_law 549 = .ok (.iadd, 1) := by decide +kernel
theorem dL_law_550 : decode cL_law 550 = .ok (.iaload, 1) := by decide +kernel
theorem dL_law_551 : decode cL_law 551 = .ok (.aload_n 0, 1) := by decide +kernel
theorem dL_law_552 : decode cL_law 552 = .ok (.iload_n 3, 1) := by decide +kernel
theorem dL_law_553 : decode cL_law 553 = .ok (.iconst 2, 1) := by decide +kernel
theorem dL_law_554 : decode cL_law 554 = .ok (.iadd, 1) := by decide +kernel
theorem dL_law_555 : decode cL_law 555 = .ok (.iaload, 1) := by decide +kernel
theorem dL_law_556 : decode cL_law 556 = .ok (.aload_n 0, 1) := by decide +kernel
theorem dL_law_557 : decode cL_law 557 = .ok (.iload_n 3, 1) := by decide +kernel
theorem dL_law_558 : decode cL_law 558 = .ok (.iconst 3, 1) := by decide +kernel
theorem dL_law_559 : decode cL_law 559 = .ok (.iadd, 1) := by decide +kernel
theorem dL_law_560 : decode cL_law 560 = .ok (.iaload, 1) := by decide +kernel
theorem dL_law_561 : decode cL_law 561 = .ok (.invokevirtual 84, 3) := by decide +kernel
theorem dL_law_564 : decode cL_law 564 = .ok (.if_icmp .eq 406, 3) := by decide +kernel
theorem dL_law_567 : decode cL_law 567 = .ok (.iconst 0, 1) := by decide +kernel
theorem dL_law_568 : decode cL_law 568 = .ok (.ireturn, 1) := by decide +kernel
theorem dL_law_569 : decode cL_law 569 = .ok (.aload_n 1, 1) := by decide +kernel
theorem dL_law_570 : decode cL_law 570 = .ok (.aload_n 0, 1) := by decide +kernel
theorem dL_law_571 : decode cL_law 571 = .ok (.iload_n 3, 1) := by decide +kernel
theorem dL_law_572 : decode cL_law 572 = .ok (.iconst 1, 1) := by decide +kernel
theorem dL_law_573 : decode cL_law 573 = .ok (.iadd, 1) := by decide +kernel
theorem dL_law_574 : decode cL_law 574 = .ok (.iaload, 1) := by decide +kernel
theorem dL_law_575 : decode cL_law 575 = .ok (.aload_n 0, 1) := by decide +kernel
theorem dL_law_576 : decode cL_law 576 = .ok (.iload_n 3, 1) := by decide +kernel
theorem dL_law_577 : decode cL_law 577 = .ok (.iconst 2, 1) := by decide +kernel
theorem dL_law_578 : decode cL_law 578 = .ok (.iadd, 1) := by decide +kernel
theorem dL_law_579 : decode cL_law 579 = .ok (.iaload, 1) := by decide +kernel
theorem dL_law_580 : decode cL_law 580 = .ok (.invokevirtual 85, 3) := by decide +kernel
theorem dL_law_583 : decode cL_law 583 = .ok (.aload_n 2, 1) := by decide +kernel
theorem dL_law_584 : decode cL_law 584 = .ok (.aload_n 0, 1) := by decide +kernel
theorem dL_law_585 : decode cL_law 585 = .ok (.iload_n 3, 1) := by decide +kernel
theorem dL_law_586 : decode cL_law 586 = .ok (.iconst 1, 1) := by decide +kernel
theorem dL_law_587 : decode cL_law 587 = .ok (.iadd, 1) := by decide +kernel
theorem dL_law_588 : decode cL_law 588 = .ok (.iaload, 1) := by decide +kernel
theorem dL_law_589 : decode cL_law 589 = .ok (.aload_n 0, 1) := by decide +kernel
theorem dL_law_590 : decode cL_law 590 = .ok (.iload_n 3, 1) := by decide +kernel
theorem dL_law_591 : decode cL_law 591 = .ok (.iconst 2, 1) := by decide +kernel
theorem dL_law_592 : decode cL_law 592 = .ok (.iadd, 1) := by decide +kernel
theorem dL_law_593 : decode cL_law 593 = .ok (.iaload, 1) := by decide +kernel
theorem dL_law_594 : decode cL_law 594 = .ok (.invokevirtual 88, 3) := by decide +kernel
theorem dL_law_597 : decode cL_law 597 = .ok (.if_icmp .eq 373, 3) := by decide +kernel
theorem dL_law_600 : decode cL_law 600 = .ok (.iconst 0, 1) := by decide +kernel
theorem dL_law_601 : decode cL_law 601 = .ok (.ireturn, 1) := by decide +kernel
theorem dL_law_602 : decode cL_law 602 = .ok (.aload_n 1, 1) := by decide +kernel
theorem dL_law_603 : decode cL_law 603 = .ok (.aload_n 0, 1) := by decide +kernel
theorem dL_law_604 : decode cL_law 604 = .ok (.iload_n 3, 1) := by decide +kernel
theorem dL_law_605 : decode cL_law 605 = .ok (.iconst 1, 1) := by decide +kernel
theorem dL_law_606 : decode cL_law 606 = .ok (.iadd, 1) := by decide +kernel
theorem dL_law_607 : decode cL_law 607 = .ok (.iaload, 1) := by decide +kernel
theorem dL_law_608 : decode cL_law 608 = .ok (.aload_n 0, 1) := by decide +kernel
theorem dL_law_609 : decode cL_law 609 = .ok (.iload_n 3, 1) := by decide +kernel
theorem dL_law_610 : decode cL_law 610 = .ok (.iconst 2, 1) := by decide +kernel
theorem dL_law_611 : decode cL_law 611 = .ok (.iadd, 1) := by decide +kernel
theorem dL_law_612 : decode cL_law 612 = .ok (.iaload, 1) := by decide +kernel
theorem dL_law_613 : decode cL_law 613 = .ok (.invokevirtual 89, 3) := by decide +kernel
theorem dL_law_616 : decode cL_law 616 = .ok (.aload_n 2, 1) := by decide +kernel
theorem dL_law_617 : decode cL_law 617 = .ok (.aload_n 0, 1) := by decide +kernel
theorem dL_law_618 : decode cL_law 618 = .ok (.iload_n 3, 1) := by decide +kernel
theorem dL_law_619 : decode cL_law 619 = .ok (.iconst 1, 1) := by decide +kernel
theorem dL_law_620 : decode cL_law 620 = .ok (.iadd, 1) := by decide +kernel
theorem dL_law_621 : decode cL_law 621 = .ok (.iaload, 1) := by decide +kernel
theorem dL_law_622 : decode cL_law 622 = .ok (.aload_n 0, 1) := by decide +kernel
theorem dL_law_623 : decode cL_law 623 = .ok (.iload_n 3, 1) := by decide +kernel
theorem dL_law_624 : decode cL_law 624 = .ok (.iconst 2, 1) := by decide +kernel
theorem dL_law_625 : decode cL_law 625 = .ok (.iadd, 1) := by decide +kernel
theorem dL_law_626 : decode cL_law 626 = .ok (.iaload, 1) := by decide +kernel
theorem dL_law_627 : decode cL_law 627 = .ok (.invokevirtual 93, 3) := by decide +kernel
theorem dL_law_630 : decode cL_law 630 = .ok (.lcmp, 1) := by decide +kernel
theorem dL_law_631 : decode cL_law 631 = .ok (.ifCond .eq 339, 3) := by decide +kernel
theorem dL_law_634 : decode cL_law 634 = .ok (.iconst 0, 1) := by decide +kernel
theorem dL_law_635 : decode cL_law 635 = .ok (.ireturn, 1) := by decide +kernel
theorem dL_law_636 : decode cL_law 636 = .ok (.aload_n 1, 1) := by decide +kernel
theorem dL_law_637 : decode cL_law 637 = .ok (.aload_n 0, 1) := by decide +kernel
theorem dL_law_638 : decode cL_law 638 = .ok (.iload_n 3, 1) := by decide +kernel
theorem dL_law_639 : decode cL_law 639 = .ok (.iconst 1, 1) := by decide +kernel
theorem dL_law_640 : decode cL_law 640 = .ok (.iadd, 1) := by decide +kernel
theorem dL_law_641 : decode cL_law 641 = .ok (.iaload, 1) := by decide +kernel
theorem dL_law_642 : decode cL_law 642 = .ok (.aload_n 0, 1) := by decide +kernel
theorem dL_law_643 : decode cL_law 643 = .ok (.iload_n 3, 1) := by decide +kernel
theorem dL_law_644 : decode cL_law 644 = .ok (.iconst 2, 1) := by decide +kernel
theorem dL_law_645 : decode cL_law 645 = .ok (.iadd, 1) := by decide +kernel
theorem dL_law_646 : decode cL_law 646 = .ok (.iaload, 1) := by decide +kernel
theorem dL_law_647 : decode cL_law 647 = .ok (.invokevirtual 94, 3) := by decide +kernel
theorem dL_law_650 : decode cL_law 650 = .ok (.aload_n 2, 1) := by decide +kernel
theorem dL_law_651 : decode cL_law 651 = .ok (.aload_n 0, 1) := by decide +kernel
theorem dL_law_652 : decode cL_law 652 = .ok (.iload_n 3, 1) := by decide +kernel
theorem dL_law_653 : decode cL_law 653 = .ok (.iconst 1, 1) := by decide +kernel
theorem dL_law_654 : decode cL_law 654 = .ok (.iadd, 1) := by decide +kernel
theorem dL_law_655 : decode cL_law 655 = .ok (.iaload, 1) := by decide +kernel
theorem dL_law_656 : decode cL_law 656 = .ok (.aload_n 0, 1) := by decide +kernel
theorem dL_law_657 : decode cL_law 657 = .ok (.iload_n 3, 1) := by decide +kernel
theorem dL_law_658 : decode cL_law 658 = .ok (.iconst 2, 1) := by decide +kernel
theorem dL_law_659 : decode cL_law 659 = .ok (.iadd, 1) := by decide +kernel
theorem dL_law_660 : decode cL_law 660 = .ok (.iaload, 1) := by decide +kernel
theorem dL_law_661 : decode cL_law 661 = .ok (.invokevirtual 97, 3) := by decide +kernel
theorem dL_law_664 : decode cL_law 664 = .ok (.lcmp, 1) := by decide +kernel
theorem dL_law_665 : decode cL_law 665 = .ok (.ifCond .eq 305, 3) := by decide +kernel
theorem dL_law_668 : decode cL_law 668 = .ok (.iconst 0, 1) := by decide +kernel
theorem dL_law_669 : decode cL_law 669 = .ok (.ireturn, 1) := by decide +kernel
theorem dL_law_670 : decode cL_law 670 = .ok (.aload_n 1, 1) := by decide +kernel
theorem dL_law_671 : decode cL_law 671 = .ok (.aload_n 0, 1) := by decide +kernel
theorem dL_law_672 : decode cL_law 672 = .ok (.iload_n 3, 1) := by decide +kernel
theorem dL_law_673 : decode cL_law 673 = .ok (.iconst 1, 1) := by decide +kernel
theorem dL_law_674 : decode cL_law 674 = .ok (.iadd, 1) := by decide +kernel
theorem dL_law_675 : decode cL_law 675 = .ok (.iaload, 1) := by decide +kernel
theorem dL_law_676 : decode cL_law 676 = .ok (.aload_n 0, 1) := by decide +kernel
theorem dL_law_677 : decode cL_law 677 = .ok (.iload_n 3, 1) := by decide +kernel
theorem dL_law_678 : decode cL_law 678 = .ok (.iconst 2, 1) := by decide +kernel
theorem dL_law_679 : decode cL_law 679 = .ok (.iadd, 1) := by decide +kernel
theorem dL_law_680 : decode cL_law 680 = .ok (.iaload, 1) := by decide +kernel
theorem dL_law_681 : decode cL_law 681 = .ok (.invokevirtual 98, 3) := by decide +kernel
theorem dL_law_684 : decode cL_law 684 = .ok (.aload_n 2, 1) := by decide +kernel
theorem dL_law_685 : decode cL_law 685 = .ok (.aload_n 0, 1) := by decide +kernel
theorem dL_law_686 : decode cL_law 686 = .ok (.iload_n 3, 1) := by decide +kernel
theorem dL_law_687 : decode cL_law 687 = .ok (.iconst 1, 1) := by decide +kernel
theorem dL_law_688 : decode cL_law 688 = .ok (.iadd, 1) := by decide +kernel
theorem dL_law_689 : decode cL_law 689 = .ok (.iaload, 1) := by decide +kernel
theorem dL_law_690 : decode cL_law 690 = .ok (.aload_n 0, 1) := by decide +kernel
theorem dL_law_691 : decode cL_law 691 = .ok (.iload_n 3, 1) := by decide +kernel
theorem dL_law_692 : decode cL_law 692 = .ok (.iconst 2, 1) := by decide +kernel
theorem dL_law_693 : decode cL_law 693 = .ok (.iadd, 1) := by decide +kernel
theorem dL_law_694 : decode cL_law 694 = .ok (.iaload, 1) := by decide +kernel
theorem dL_law_695 : decode cL_law 695 = .ok (.invokevirtual 101, 3) := by decide +kernel
theorem dL_law_698 : decode cL_law 698 = .ok (.if_icmp .eq 272, 3) := by decide +kernel
theorem dL_law_701 : decode cL_law 701 = .ok (.iconst 0, 1) := by decide +kernel
theorem dL_law_702 : decode cL_law 702 = .ok (.ireturn, 1) := by decide +kernel
theorem dL_law_703 : decode cL_law 703 = .ok (.aload_n 1, 1) := by decide +kernel
theorem dL_law_704 : decode cL_law 704 = .ok (.aload_n 0, 1) := by decide +kernel
theorem dL_law_705 : decode cL_law 705 = .ok (.iload_n 3, 1) := by decide +kernel
theorem dL_law_706 : decode cL_law 706 = .ok (.iconst 1, 1) := by decide +kernel
theorem dL_law_707 : decode cL_law 707 = .ok (.iadd, 1) := by decide +kernel
theorem dL_law_708 : decode cL_law 708 = .ok (.iaload, 1) := by decide +kernel
theorem dL_law_709 : decode cL_law 709 = .ok (.aload_n 0, 1) := by decide +kernel
theorem dL_law_710 : decode cL_law 710 = .ok (.iload_n 3, 1) := by decide +kernel
theorem dL_law_711 : decode cL_law 711 = .ok (.iconst 2, 1) := by decide +kernel
theorem dL_law_712 : decode cL_law 712 = .ok (.iadd, 1) := by decide +kernel
theorem dL_law_713 : decode cL_law 713 = .ok (.iaload, 1) := by decide +kernel
theorem dL_law_714 : decode cL_law 714 = .ok (.aload_n 0, 1) := by decide +kernel
theorem dL_law_715 : decode cL_law 715 = .ok (.iload_n 3, 1) := by decide +kernel
theorem dL_law_716 : decode cL_law 716 = .ok (.iconst 3, 1) := by decide +kernel
theorem dL_law_717 : decode cL_law 717 = .ok (.iadd, 1) := by decide +kernel
theorem dL_law_718 : decode cL_law 718 = .ok (.iaload, 1) := by decide +kernel
theorem dL_law_719 : decode cL_law 719 = .ok (.invokevirtual 102, 3) := by decide +kernel
theorem dL_law_722 : decode cL_law 722 = .ok (.aload_n 2, 1) := by decide +kernel
theorem dL_law_723 : decode cL_law 723 = .ok (.aload_n 0, 1) := by decide +kernel
theorem dL_law_724 : decode cL_law 724 = .ok (.iload_n 3, 1) := by decide +kernel
theorem dL_law_725 : decode cL_law 725 = .ok (.iconst 1, 1) := by decide +kernel
theorem dL_law_726 : decode cL_law 726 = .ok (.iadd, 1) := by decide +kernel
theorem dL_law_727 : decode cL_law 727 = .ok (.iaload, 1) := by decide +kernel
theorem dL_law_728 : decode cL_law 728 = .ok (.aload_n 0, 1) := by decide +kernel
theorem dL_law_729 : decode cL_law 729 = .ok (.iload_n 3, 1) := by decide +kernel
theorem dL_law_730 : decode cL_law 730 = .ok (.iconst 2, 1) := by decide +kernel
theorem dL_law_731 : decode cL_law 731 = .ok (.iadd, 1) := by decide +kernel
theorem dL_law_732 : decode cL_law 732 = .ok (.iaload, 1) := by decide +kernel
theorem dL_law_733 : decode cL_law 733 = .ok (.aload_n 0, 1) := by decide +kernel
theorem dL_law_734 : decode cL_law 734 = .ok (.iload_n 3, 1) := by decide +kernel
theorem dL_law_735 : decode cL_law 735 = .ok (.iconst 3, 1) := by decide +kernel
theorem dL_law_736 : decode cL_law 736 = .ok (.iadd, 1) := by decide +kernel
theorem dL_law_737 : decode cL_law 737 = .ok (.iaload, 1) := by decide +kernel
theorem dL_law_738 : decode cL_law 738 = .ok (.invokevirtual 105, 3) := by decide +kernel
theorem dL_law_741 : decode cL_law 741 = .ok (.if_icmp .eq 229, 3) := by decide +kernel
theorem dL_law_744 : decode cL_law 744 = .ok (.iconst 0, 1) := by decide +kernel
theorem dL_law_745 : decode cL_law 745 = .ok (.ireturn, 1) := by decide +kernel
theorem dL_law_746 : decode cL_law 746 = .ok (.aload_n 1, 1) := by decide +kernel
theorem dL_law_747 : decode cL_law 747 = .ok (.aload_n 0, 1) := by decide +kernel
theorem dL_law_748 : decode cL_law 748 = .ok (.iload_n 3, 1) := by decide +kernel
theorem dL_law_749 : decode cL_law 749 = .ok (.iconst 1, 1) := by decide +kernel
theorem dL_law_750 : decode cL_law 750 = .ok (.iadd, 1) := by decide +kernel
theorem dL_law_751 : decode cL_law 751 = .ok (.iaload, 1) := by decide +kernel
theorem dL_law_752 : decode cL_law 752 = .ok (.aload_n 0, 1) := by decide +kernel
theorem dL_law_753 : decode cL_law 753 = .ok (.iload_n 3, 1) := by decide +kernel
theorem dL_law_754 : decode cL_law 754 = .ok (.iconst 2, 1) := by decide +kernel
theorem dL_law_755 : decode cL_law 755 = .ok (.iadd, 1) := by decide +kernel
theorem dL_law_756 : decode cL_law 756 = .ok (.iaload, 1) := by decide +kernel
theorem dL_law_757 : decode cL_law 757 = .ok (.invokevirtual 106, 3) := by decide +kernel
theorem dL_law_760 : decode cL_law 760 = .ok (.aload_n 2, 1) := by decide +kernel
theorem dL_law_761 : decode cL_law 761 = .ok (.aload_n 0, 1) := by decide +kernel
theorem dL_law_762 : decode cL_law 762 = .ok (.iload_n 3, 1) := by decide +kernel
theorem dL_law_763 : decode cL_law 763 = .ok (.iconst 1, 1) := by decide +kernel
theorem dL_law_764 : decode cL_law 764 = .ok (.iadd, 1) := by decide +kernel
theorem dL_law_765 : decode cL_law 765 = .ok (.iaload, 1) := by decide +kernel
theorem dL_law_766 : decode cL_law 766 = .ok (.aload_n 0, 1) := by decide +kernel
theorem dL_law_767 : decode cL_law 767 = .ok (.iload_n 3, 1) := by decide +kernel
theorem dL_law_768 : decode cL_law 768 = .ok (.iconst 2, 1) := by decide +kernel
theorem dL_law_769 : decode cL_law 769 = .ok (.iadd, 1) := by decide +kernel
theorem dL_law_770 : decode cL_law 770 = .ok (.iaload, 1) := by decide +kernel
theorem dL_law_771 : decode cL_law 771 = .ok (.invokevirtual 109, 3) := by decide +kernel
theorem dL_law_774 : decode cL_law 774 = .ok (.if_icmp .eq 196, 3) := by decide +kernel
theorem dL_law_777 : decode cL_law 777 = .ok (.iconst 0, 1) := by decide +kernel
theorem dL_law_778 : decode cL_law 778 = .ok (.ireturn, 1) := by decide +kernel
theorem dL_law_779 : decode cL_law 779 = .ok (.aload_n 1, 1) := by decide +kernel
theorem dL_law_780 : decode cL_law 780 = .ok (.aload_n 0, 1) := by decide +kernel
theorem dL_law_781 : decode cL_law 781 = .ok (.iload_n 3, 1) := by decide +kernel
theorem dL_law_782 : decode cL_law 782 = .ok (.iconst 1, 1) := by decide +kernel
theorem dL_law_783 : decode cL_law 783 = .ok (.iadd, 1) := by decide +kernel
theorem dL_law_784 : decode cL_law 784 = .ok (.iaload, 1) := by decide +kernel
theorem dL_law_785 : decode cL_law 785 = .ok (.aload_n 0, 1) := by decide +kernel
theorem dL_law_786 : decode cL_law 786 = .ok (.iload_n 3, 1) := by decide +kernel
theorem dL_law_787 : decode cL_law 787 = .ok (.iconst 2, 1) := by decide +kernel
theorem dL_law_788 : decode cL_law 788 = .ok (.iadd, 1) := by decide +kernel
theorem dL_law_789 : decode cL_law 789 = .ok (.iaload, 1) := by decide +kernel
theorem dL_law_790 : decode cL_law 790 = .ok (.invokevirtual 110, 3) := by decide +kernel
theorem dL_law_793 : decode cL_law 793 = .ok (.aload_n 2, 1) := by decide +kernel
theorem dL_law_794 : decode cL_law 794 = .ok (.aload_n 0, 1) := by decide +kernel
theorem dL_law_795 : decode cL_law 795 = .ok (.iload_n 3, 1) := by decide +kernel
theorem dL_law_796 : decode cL_law 796 = .ok (.iconst 1, 1) := by decide +kernel
theorem dL_law_797 : decode cL_law 797 = .ok (.iadd, 1) := by decide +kernel
theorem dL_law_798 : decode cL_law 798 = .ok (.iaload, 1) := by decide +kernel
theorem dL_law_799 : decode cL_law 799 = .ok (.aload_n 0, 1) := by decide +kernel
theorem dL_law_800 : decode cL_law 800 = .ok (.iload_n 3, 1) := by decide +kernel
theorem dL_law_801 : decode cL_law 801 = .ok (.iconst 2, 1) := by decide +kernel
theorem dL_law_802 : decode cL_law 802 = .ok (.iadd, 1) := by decide +kernel
theorem dL_law_803 : decode cL_law 803 = .ok (.iaload, 1) := by decide +kernel
theorem dL_law_804 : decode cL_law 804 = .ok (.invokevirtual 113, 3) := by decide +kernel
theorem dL_law_807 : decode cL_law 807 = .ok (.if_icmp .eq 163, 3) := by decide +kernel
theorem dL_law_810 : decode cL_law 810 = .ok (.iconst 0, 1) := by decide +kernel
theorem dL_law_811 : decode cL_law 811 = .ok (.ireturn, 1) := by decide +kernel
theorem dL_law_812 : decode cL_law 812 = .ok (.aload_n 1, 1) := by decide +kernel
theorem dL_law_813 : decode cL_law 813 = .ok (.aload_n 0, 1) := by decide +kernel
theorem dL_law_814 : decode cL_law 814 = .ok (.iload_n 3, 1) := by decide +kernel
theorem dL_law_815 : decode cL_law 815 = .ok (.iconst 1, 1) := by decide +kernel
theorem dL_law_816 : decode cL_law 816 = .ok (.iadd, 1) := by decide +kernel
theorem dL_law_817 : decode cL_law 817 = .ok (.iaload, 1) := by decide +kernel
theorem dL_law_818 : decode cL_law 818 = .ok (.aload_n 0, 1) := by decide +kernel
theorem dL_law_819 : decode cL_law 819 = .ok (.iload_n 3, 1) := by decide +kernel
theorem dL_law_820 : decode cL_law 820 = .ok (.iconst 2, 1) := by decide +kernel
theorem dL_law_821 : decode cL_law 821 = .ok (.iadd, 1) := by decide +kernel
theorem dL_law_822 : decode cL_law 822 = .ok (.iaload, 1) := by decide +kernel
theorem dL_law_823 : decode cL_law 823 = .ok (.aload_n 0, 1) := by decide +kernel
theorem dL_law_824 : decode cL_law 824 = .ok (.iload_n 3, 1) := by decide +kernel
theorem dL_law_825 : decode cL_law 825 = .ok (.iconst 3, 1) := by decide +kernel
theorem dL_law_826 : decode cL_law 826 = .ok (.iadd, 1) := by decide +kernel
theorem dL_law_827 : decode cL_law 827 = .ok (.iaload, 1) := by decide +kernel
theorem dL_law_828 : decode cL_law 828 = .ok (.invokevirtual 114, 3) := by decide +kernel
theorem dL_law_831 : decode cL_law 831 = .ok (.aload_n 2, 1) := by decide +kernel
theorem dL_law_832 : decode cL_law 832 = .ok (.aload_n 0, 1) := by decide +kernel
theorem dL_law_833 : decode cL_law 833 = .ok (.iload_n 3, 1) := by decide +kernel
theorem dL_law_834 : decode cL_law 834 = .ok (.iconst 1, 1) := by decide +kernel
theorem dL_law_835 : decode cL_law 835 = .ok (.iadd, 1) := by decide +kernel
theorem dL_law_836 : decode cL_law 836 = .ok (.iaload, 1) := by decide +kernel
theorem dL_law_837 : decode cL_law 837 = .ok (.aload_n 0, 1) := by decide +kernel
theorem dL_law_838 : decode cL_law 838 = .ok (.iload_n 3, 1) := by decide +kernel
theorem dL_law_839 : decode cL_law 839 = .ok (.iconst 2, 1) := by decide +kernel
theorem dL_law_840 : decode cL_law 840 = .ok (.iadd, 1) := by decide +kernel
theorem dL_law_841 : decode cL_law 841 = .ok (.iaload, 1) := by decide +kernel
theorem dL_law_842 : decode cL_law 842 = .ok (.aload_n 0, 1) := by decide +kernel
theorem dL_law_843 : decode cL_law 843 = .ok (.iload_n 3, 1) := by decide +kernel
theorem dL_law_844 : decode cL_law 844 = .ok (.iconst 3, 1) := by decide +kernel
theorem dL_law_845 : decode cL_law 845 = .ok (.iadd, 1) := by decide +kernel
theorem dL_law_846 : decode cL_law 846 = .ok (.iaload, 1) := by decide +kernel
theorem dL_law_847 : decode cL_law 847 = .ok (.invokevirtual 117, 3) := by decide +kernel
theorem dL_law_850 : decode cL_law 850 = .ok (.if_icmp .eq 120, 3) := by decide +kernel
theorem dL_law_853 : decode cL_law 853 = .ok (.iconst 0, 1) := by decide +kernel
theorem dL_law_854 : decode cL_law 854 = .ok (.ireturn, 1) := by decide +kernel
theorem dL_law_855 : decode cL_law 855 = .ok (.aload_n 1, 1) := by decide +kernel
theorem dL_law_856 : decode cL_law 856 = .ok (.aload_n 0, 1) := by decide +kernel
theorem dL_law_857 : decode cL_law 857 = .ok (.iload_n 3, 1) := by decide +kernel
theorem dL_law_858 : decode cL_law 858 = .ok (.iconst 1, 1) := by decide +kernel
theorem dL_law_859 : decode cL_law 859 = .ok (.iadd, 1) := by decide +kernel
theorem dL_law_860 : decode cL_law 860 = .ok (.iaload, 1) := by decide +kernel
theorem dL_law_861 : decode cL_law 861 = .ok (.invokevirtual 118, 3) := by decide +kernel
theorem dL_law_864 : decode cL_law 864 = .ok (.aload_n 2, 1) := by decide +kernel
theorem dL_law_865 : decode cL_law 865 = .ok (.aload_n 0, 1) := by decide +kernel
theorem dL_law_866 : decode cL_law 866 = .ok (.iload_n 3, 1) := by decide +kernel
theorem dL_law_867 : decode cL_law 867 = .ok (.iconst 1, 1) := by decide +kernel
theorem dL_law_868 : decode cL_law 868 = .ok (.iadd, 1) := by decide +kernel
theorem dL_law_869 : decode cL_law 869 = .ok (.iaload, 1) := by decide +kernel
theorem dL_law_870 : decode cL_law 870 = .ok (.invokevirtual 121, 3) := by decide +kernel
theorem dL_law_873 : decode cL_law 873 = .ok (.if_icmp .eq 97, 3) := by decide +kernel
theorem dL_law_876 : decode cL_law 876 = .ok (.iconst 0, 1) := by decide +kernel
theorem dL_law_877 : decode cL_law 877 = .ok (.ireturn, 1) := by decide +kernel
theorem dL_law_878 : decode cL_law 878 = .ok (.aload_n 1, 1) := by decide +kernel
theorem dL_law_879 : decode cL_law 879 = .ok (.aload_n 0, 1) := by decide +kernel
theorem dL_law_880 : decode cL_law 880 = .ok (.iload_n 3, 1) := by decide +kernel
theorem dL_law_881 : decode cL_law 881 = .ok (.iconst 1, 1) := by decide +kernel
theorem dL_law_882 : decode cL_law 882 = .ok (.iadd, 1) := by decide +kernel
theorem dL_law_883 : decode cL_law 883 = .ok (.iaload, 1) := by decide +kernel
theorem dL_law_884 : decode cL_law 884 = .ok (.invokevirtual 122, 3) := by decide +kernel
theorem dL_law_887 : decode cL_law 887 = .ok (.aload_n 2, 1) := by decide +kernel
theorem dL_law_888 : decode cL_law 888 = .ok (.aload_n 0, 1) := by decide +kernel
theorem dL_law_889 : decode cL_law 889 = .ok (.iload_n 3, 1) := by decide +kernel
theorem dL_law_890 : decode cL_law 890 = .ok (.iconst 1, 1) := by decide +kernel
theorem dL_law_891 : decode cL_law 891 = .ok (.iadd, 1) := by decide +kernel
theorem dL_law_892 : decode cL_law 892 = .ok (.iaload, 1) := by decide +kernel
theorem dL_law_893 : decode cL_law 893 = .ok (.invokevirtual 125, 3) := by decide +kernel
theorem dL_law_896 : decode cL_law 896 = .ok (.if_icmp .eq 74, 3) := by decide +kernel
theorem dL_law_899 : decode cL_law 899 = .ok (.iconst 0, 1) := by decide +kernel
theorem dL_law_900 : decode cL_law 900 = .ok (.ireturn, 1) := by decide +kernel
theorem dL_law_901 : decode cL_law 901 = .ok (.aload_n 1, 1) := by decide +kernel
theorem dL_law_902 : decode cL_law 902 = .ok (.aload_n 0, 1) := by decide +kernel
theorem dL_law_903 : decode cL_law 903 = .ok (.iload_n 3, 1) := by decide +kernel
theorem dL_law_904 : decode cL_law 904 = .ok (.iconst 1, 1) := by decide +kernel
theorem dL_law_905 : decode cL_law 905 = .ok (.iadd, 1) := by decide +kernel
theorem dL_law_906 : decode cL_law 906 = .ok (.iaload, 1) := by decide +kernel
theorem dL_law_907 : decode cL_law 907 = .ok (.invokevirtual 126, 3) := by decide +kernel
theorem dL_law_910 : decode cL_law 910 = .ok (.aload_n 2, 1) := by decide +kernel
theorem dL_law_911 : decode cL_law 911 = .ok (.aload_n 0, 1) := by decide +kernel
theorem dL_law_912 : decode cL_law 912 = .ok (.iload_n 3, 1) := by decide +kernel
theorem dL_law_913 : decode cL_law 913 = .ok (.iconst 1, 1) := by decide +kernel
theorem dL_law_914 : decode cL_law 914 = .ok (.iadd, 1) := by decide +kernel
theorem dL_law_915 : decode cL_law 915 = .ok (.iaload, 1) := by decide +kernel
theorem dL_law_916 : decode cL_law 916 = .ok (.invokevirtual 129, 3) := by decide +kernel
theorem dL_law_919 : decode cL_law 919 = .ok (.if_icmp .eq 51, 3) := by decide +kernel
theorem dL_law_922 : decode cL_law 922 = .ok (.iconst 0, 1) := by decide +kernel
theorem dL_law_923 : decode cL_law 923 = .ok (.ireturn, 1) := by decide +kernel
theorem dL_law_924 : decode cL_law 924 = .ok (.aload_n 1, 1) := by decide +kernel
theorem dL_law_925 : decode cL_law 925 = .ok (.aload_n 0, 1) := by decide +kernel
theorem dL_law_926 : decode cL_law 926 = .ok (.iload_n 3, 1) := by decide +kernel
theorem dL_law_927 : decode cL_law 927 = .ok (.iconst 1, 1) := by decide +kernel
theorem dL_law_928 : decode cL_law 928 = .ok (.iadd, 1) := by decide +kernel
theorem dL_law_929 : decode cL_law 929 = .ok (.iaload, 1) := by decide +kernel
theorem dL_law_930 : decode cL_law 930 = .ok (.invokevirtual 130, 3) := by decide +kernel
theorem dL_law_933 : decode cL_law 933 = .ok (.aload_n 2, 1) := by decide +kernel
theorem dL_law_934 : decode cL_law 934 = .ok (.aload_n 0, 1) := by decide +kernel
theorem dL_law_935 : decode cL_law 935 = .ok (.iload_n 3, 1) := by decide +kernel
theorem dL_law_936 : decode cL_law 936 = .ok (.iconst 1, 1) := by decide +kernel
theorem dL_law_937 : decode cL_law 937 = .ok (.iadd, 1) := by decide +kernel
theorem dL_law_938 : decode cL_law 938 = .ok (.iaload, 1) := by decide +kernel
theorem dL_law_939 : decode cL_law 939 = .ok (.invokevirtual 133, 3) := by decide +kernel
theorem dL_law_942 : decode cL_law 942 = .ok (.if_icmp .eq 28, 3) := by decide +kernel
theorem dL_law_945 : decode cL_law 945 = .ok (.iconst 0, 1) := by decide +kernel
theorem dL_law_946 : decode cL_law 946 = .ok (.ireturn, 1) := by decide +kernel
theorem dL_law_947 : decode cL_law 947 = .ok (.aload_n 1, 1) := by decide +kernel
theorem dL_law_948 : decode cL_law 948 = .ok (.aload_n 0, 1) := by decide +kernel
theorem dL_law_949 : decode cL_law 949 = .ok (.iload_n 3, 1) := by decide +kernel
theorem dL_law_950 : decode cL_law 950 = .ok (.iconst 1, 1) := by decide +kernel
theorem dL_law_951 : decode cL_law 951 = .ok (.iadd, 1) := by decide +kernel
theorem dL_law_952 : decode cL_law 952 = .ok (.iaload, 1) := by decide +kernel
theorem dL_law_953 : decode cL_law 953 = .ok (.invokevirtual 134, 3) := by decide +kernel
theorem dL_law_956 : decode cL_law 956 = .ok (.aload_n 2, 1) := by decide +kernel
theorem dL_law_957 : decode cL_law 957 = .ok (.aload_n 0, 1) := by decide +kernel
theorem dL_law_958 : decode cL_law 958 = .ok (.iload_n 3, 1) := by decide +kernel
theorem dL_law_959 : decode cL_law 959 = .ok (.iconst 1, 1) := by decide +kernel
theorem dL_law_960 : decode cL_law 960 = .ok (.iadd, 1) := by decide +kernel
theorem dL_law_961 : decode cL_law 961 = .ok (.iaload, 1) := by decide +kernel
theorem dL_law_962 : decode cL_law 962 = .ok (.invokevirtual 137, 3) := by decide +kernel
theorem dL_law_965 : decode cL_law 965 = .ok (.if_icmp .eq 5, 3) := by decide +kernel
theorem dL_law_968 : decode cL_law 968 = .ok (.iconst 0, 1) := by decide +kernel
theorem dL_law_969 : decode cL_law 969 = .ok (.ireturn, 1) := by decide +kernel
theorem dL_law_970 : decode cL_law 970 = .ok (.iinc 3 4, 3) := by decide +kernel
theorem dL_law_973 : decode cL_law 973 = .ok (.goto (-955), 3) := by decide +kernel
theorem dL_law_976 : decode cL_law 976 = .ok (.iconst 1, 1) := by decide +kernel
theorem dL_law_977 : decode cL_law 977 = .ok (.ireturn, 1) := by decide +kernel
end
section
/-! pure words: an answer or nothing -/
def bd {α β : Type} (x : Option α) (f : α → Option β) : Option β := match x with
  | none => none
  | some a => f a
theorem bd_some {α β : Type} {a : α} {f : α → Option β} : bd (some a) f = f a := rfl
theorem bd_none {α β : Type} {f : α → Option β} : bd none f = none := rfl
theorem bd_e {α β : Type} {x : Option α} {f : α → Option β} {r : β} (h : bd x f = some r) : ∃ a, x = some a ∧ f a = some r := by
  cases x with
  | none => cases h
  | some a => exact ⟨a, rfl, h⟩
def lc {α β : Type} (x : α) (f : α → β) : β := f x
theorem lc_e {α β : Type} {x : α} {f : α → β} {r : β} (h : lc x f = r) : ∃ k, k = x ∧ f k = r := ⟨x, rfl, h⟩
def inB (i : Int32) (n : Nat) : Bool := decide (¬ (i < 0 ∨ n ≤ i.toNatClampNeg))
theorem inB_in {i : Int32} {n : Nat} (h : inB i n = true) : vp_in i n := by
  have h1 : ¬ (i < 0 ∨ n ≤ i.toNatClampNeg) := by simpa [inB] using h
  exact h1
theorem inB_of {i : Int32} {n : Nat} (h : vp_in i n) : inB i n = true := by
  have h1 : ¬ (i < 0 ∨ n ≤ i.toNatClampNeg) := h
  exact decide_eq_true h1
def ld {α : Type} (f : Nat → α) (n : Nat) (i : Int32) : Option α := if inB i n = true then some (f i.toNatClampNeg) else none
theorem ld_e {α : Type} {f : Nat → α} {n : Nat} {i : Int32} {v : α} (h : ld f n i = some v) : vp_in i n ∧ f i.toNatClampNeg = v := by
  unfold ld at h
  split at h
  · rename_i hc
    exact ⟨inB_in hc, Option.some.inj h⟩
  · cases h
def sti (f : Nat → Int32) (n : Nat) (i x : Int32) : Option (Nat → Int32) := if inB i n = true then some (upd f i.toNatClampNeg x) else none
theorem sti_e {f g : Nat → Int32} {n : Nat} {i x : Int32} (h : sti f n i x = some g) : vp_in i n ∧ upd f i.toNatClampNeg x = g := by
  unfold sti at h
  split at h
  · rename_i hc
    exact ⟨inB_in hc, Option.some.inj h⟩
  · cases h
def stl (f : Nat → Int64) (n : Nat) (i : Int32) (x : Int64) : Option (Nat → Int64) := if inB i n = true then some (vp_updL f i.toNatClampNeg x) else none
theorem stl_e {f g : Nat → Int64} {n : Nat} {i : Int32} {x : Int64} (h : stl f n i x = some g) : vp_in i n ∧ vp_updL f i.toNatClampNeg x = g := by
  unfold stl at h
  split at h
  · rename_i hc
    exact ⟨inB_in hc, Option.some.inj h⟩
  · cases h
def idv (x y : Int32) : Option Int32 := if y = 0 then none else some (x / y)
def irm (x y : Int32) : Option Int32 := if y = 0 then none else some (x - x / y * y)
def ldv (x y : Int64) : Option Int64 := if y = 0 then none else some (x / y)
def lrm (x y : Int64) : Option Int64 := if y = 0 then none else some (x - x / y * y)
theorem nz_e {α β : Type} {y : α} {z : α} {d : Decidable (y = z)} {v r : β} (h : (@ite _ (y = z) d none (some v)) = some r) : ¬ y = z ∧ v = r := by
  split at h
  · cases h
  · rename_i hc
    exact ⟨hc, Option.some.inj h⟩
def bz (v : Int32) : Option Int32 := if v = 0 ∨ v = 1 then some v else none
theorem bz_e {v r : Int32} (h : bz v = some r) : v = r ∧ narrow .boolean (.int v) = .int v := by
  unfold bz at h
  split at h
  · rename_i hc
    refine ⟨Option.some.inj h, ?_⟩
    rcases hc with rfl | rfl <;> rfl
  · cases h
def imin (x y : Int32) : Int32 := if y < x then y else x
def imax (x y : Int32) : Int32 := if x < y then y else x
def iabs (x : Int32) : Int32 := if 0 ≤ x then x else 0 - x
/-! what every method is given of the machine -/
abbrev tyL (cI cJ cZ cS : ClassId) : List (ClassId × FieldType) := [(cI, .int), (cJ, .long), (cZ, .boolean), (cS, .object "OpenEyes$Scene")]
def NWs (U : State) : Prop := (∀ w ∈ nestW, va_Nw w U) ∧ va_AO "OpenEyes$Scene" U
theorem nest_shape : ∀ w ∈ nestW, (∃ a i b n d h, w = .fieldLinkNest a i b n d h) ∨ ∃ a i x h, w = .methodLinkNest a i x h := by
  intro w hw
  simp only [nestW, List.mem_cons, List.not_mem_nil, or_false] at hw
  rcases hw with rfl | rfl | rfl | rfl | rfl | rfl | rfl | rfl | rfl | rfl | rfl | rfl | rfl | rfl | rfl | rfl | rfl | rfl | rfl | rfl | rfl | rfl | rfl | rfl <;> first | exact Or.inl ⟨_, _, _, _, _, _, rfl⟩ | exact Or.inr ⟨_, _, _, _, rfl⟩
theorem NWs.warm {s U : State} (hW : s.WarmedH U.vm) (h : NWs s) : NWs U := ⟨fun w hw => by
  rcases nest_shape w hw with ⟨a, i, b, n, d, hh, rfl⟩ | ⟨a, i, x, hh, rfl⟩
  · exact va_Nw.warmF hW (h.1 _ hw)
  · exact va_Nw.warmM hW (h.1 _ hw), va_AO.moved hW.alike h.2⟩
theorem NWs.same {s U : State} (e : s.vm = U.vm) (h : NWs s) : NWs U := ⟨fun w hw => va_Nw.same (by
  rcases nest_shape w hw with ⟨a, i, b, n, d, hh, rfl⟩ | ⟨a, i, x, hh, rfl⟩ <;> rfl) e (h.1 _ hw), va_AO.moved (e ▸ Vm.Alike.refl s.vm) h.2⟩
def GK (D : va_G) (cI cJ cZ cS : ClassId) (U : State) : Prop := va_K D vwCl (tyL cI cJ cZ cS) U ∧ NWs U
theorem GK.blind {D : va_G} {cI cJ cZ cS : ClassId} {U : State} (h : GK D cI cJ cZ cS U) (g : JFrame) (mk : MethodId) (a : Array Value) : GK D cI cJ cZ cS (U.calling g mk a) := ⟨va_K.moved (u := U) (U := U.calling g mk a) (Vm.Alike.refl U.vm) h.1, NWs.same (s := U) (U := U.calling g mk a) rfl h.2⟩
theorem GK.warm {D : va_G} {cI cJ cZ cS : ClassId} {s U : State} (hW : s.WarmedH U.vm) (h : GK D cI cJ cZ cS s) : GK D cI cJ cZ cS U := ⟨va_K.moved hW.alike h.1, h.2.warm hW⟩
abbrev cws (y : MethodName) (bytes : ByteArray) (maxL : Nat) (ret : Option FieldType) : List Cond := .code y bytes maxL ret :: gw
theorem cws_good {y y' : MethodName} {b b' : ByteArray} {n n' : Nat} {r r' : Option FieldType} (h : Cond.code y b n r ∈ gw) : GoodIn (cws y' b' n' r') (cws y b n r) := fun w hw => by
  rcases List.mem_cons.mp hw with rfl | h1
  · exact ⟨List.mem_cons_of_mem _ h, gw_good h⟩
  · exact ⟨List.mem_cons_of_mem _ h1, gw_good h1⟩
theorem gw_goodIn {y : MethodName} {b : ByteArray} {n : Nat} {r : Option FieldType} (h : Cond.code y b n r ∈ gw) : GoodIn gw (cws y b n r) := fun w hw => by
  rcases List.mem_cons.mp hw with rfl | h1
  · exact ⟨h, gw_good h⟩
  · exact ⟨h1, gw_good h1⟩
/-- what is known of a method that is called -/
def CalF (y : MethodName) (bytes : ByteArray) (maxL : Nat) (ret : Option FieldType) (n : Nat) : Prop := Cond.code y bytes maxL ret ∈ gw ∧ Cond.initialized y.cls ∈ gw ∧ (y.cls ≠ "java/lang/invoke/MethodHandle" ∧ y.cls ≠ "java/lang/invoke/VarHandle" ∧ (parseMethodDescriptor y.desc).map (fun d => d.parameters.length) = some n)
/-- a method that leaves the heap as it is -/
def RoQ (v : Option Value) : Array Value → State → Outcome → State → Prop := fun _ st o t => o = .returned v ∧ t.heap = st.heap
abbrev roR (fr lo : Nat) : Room := { frames := fr, cells := 0, slots := 0, locals := lo }
def RoP (D : va_G) (cI cJ cZ cS : ClassId) (W : va_W) (av : List Value) : Array Value → State → Prop := va_Pc av (fun U => GK D cI cJ cZ cS U ∧ va_P D vwCl W U.heap)
abbrev RoC (l : Launch) (D : va_G) (cI cJ cZ cS : ClassId) (y : MethodName) (bytes : ByteArray) (maxL : Nat) (ret : Option FieldType) (fr lo : Nat) (W : va_W) (av : List Value) (v : Option Value) : Prop :=
  Met l y (cws y bytes maxL ret) (roR fr lo) (RoP D cI cJ cZ cS W av) (RoQ v) 0 0 (fun _ => False)
theorem RoP.blind {D : va_G} {cI cJ cZ cS : ClassId} {W : va_W} {av : List Value} : FrameBlind (RoP D cI cJ cZ cS W av) := fun _ _ _ _ h => ⟨h.1, h.2.1.blind _ _ _, h.2.2⟩
/-- a method that writes: its world before and behind -/
def RwQ (D : va_G) (v : Option Value) (W' : va_W) (A : Nat → Prop) : Array Value → State → Outcome → State → Prop := fun _ st o t => o = .returned v ∧ va_P D vwCl W' t.heap ∧ va_D A W' ∧ va_F A st t
def RwP (D : va_G) (cI cJ cZ cS : ClassId) (W : va_W) (sz : Nat) (av : List Value) : Array Value → State → Prop := va_Pc av (fun U => U.heap.size = sz ∧ GK D cI cJ cZ cS U ∧ va_P D vwCl W U.heap ∧ va_D (fun _ => True) W)
abbrev RwC (l : Launch) (D : va_G) (cI cJ cZ cS : ClassId) (y : MethodName) (bytes : ByteArray) (maxL : Nat) (ret : Option FieldType) (fr lo : Nat) (W : va_W) (sz : Nat) (av : List Value) (v : Option Value) (W' : va_W) : Prop :=
  Met l y (cws y bytes maxL ret) (roR fr lo) (RwP D cI cJ cZ cS W sz av) (RwQ D v W' (va_A W sz)) 0 0 (va_A W sz)
theorem RwP.blind {D : va_G} {cI cJ cZ cS : ClassId} {W : va_W} {sz : Nat} {av : List Value} : FrameBlind (RwP D cI cJ cZ cS W sz av) := fun _ _ _ _ h => ⟨h.1, h.2.1, h.2.2.1.blind _ _ _, h.2.2.2⟩
/-- the machine inside a method -/
def Ev (p : Program) (s : State) (m : MethodId) (args : Array Value) (c : Code) (cc : ByteArray) (nL : Nat) (own : String) (D : va_G) (cI cJ cZ cS : ClassId) : Prop :=
  p.tables.exec = Jvm.exec ∧ c.code = cc ∧ c.maxLocals = nL ∧ s.vm.findClass own = some m.cls ∧ (∀ w ∈ gw, w.before args s = true) ∧ GK D cI cJ cZ cS s
section RW
variable {p : Program} {l : Launch} {e : Env} {R : Room} {s : State} {m : MethodId} {args : Array Value} {below : List Frame} {meth : Method} {c : Code} {H H0 : Heap} {locs : List Loc} {cells slots : Nat} {Q : State → Prop} {cc : ByteArray} {pc : Nat} {ls : Array Slot} {rest : List Value} {a : Nat} {D : va_G} {cl : List vw_C} {ws : va_W} {tys : List (ClassId × FieldType)} {A : Nat → Prop} {ρ : Type} {r : ρ}
theorem r_iald (hx : p.tables.exec = Jvm.exec) (hb : c.code = cc) (hK : va_K D cl tys s) (hP : va_P D cl ws H) (q0 t0 : Nat) {cA : ClassId} {n : Nat} {f : Nat → Int32} (ha : ws[q0]? = some (a, .inl (cA, n, .inl f))) (ht : tys[t0]? = some (cA, .int)) {i : Int32} {F : Int32 → Option ρ} (hf : bd (ld f n i) F = some r) (hdg : decode cc pc = .ok (.iaload, 1))
    (kk : ∀ v, F v = some r → W p l e R s m args below meth c H locs cells slots Q (F0 m (pc + 1) ls (.int v :: rest))) : W p l e R s m args below meth c H locs cells slots Q (F0 m pc ls (.int i :: .ref a :: rest)) := by
  obtain ⟨v, h1, h2⟩ := bd_e hf
  obtain ⟨h3, rfl⟩ := ld_e h1
  exact va_iald hx hb hK hP q0 t0 ha ht h3 hdg (kk _ h2)
theorem r_zald (hx : p.tables.exec = Jvm.exec) (hb : c.code = cc) (hK : va_K D cl tys s) (hP : va_P D cl ws H) (q0 t0 : Nat) {cA : ClassId} {n : Nat} {f : Nat → Int32} (ha : ws[q0]? = some (a, .inl (cA, n, .inl f))) (ht : tys[t0]? = some (cA, .boolean)) {i : Int32} {F : Int32 → Option ρ} (hf : bd (ld f n i) F = some r) (hdg : decode cc pc = .ok (.baload, 1))
    (kk : ∀ v, F v = some r → W p l e R s m args below meth c H locs cells slots Q (F0 m (pc + 1) ls (.int v :: rest))) : W p l e R s m args below meth c H locs cells slots Q (F0 m pc ls (.int i :: .ref a :: rest)) := by
  obtain ⟨v, h1, h2⟩ := bd_e hf
  obtain ⟨h3, rfl⟩ := ld_e h1
  exact va_zald hx hb hK hP q0 t0 ha ht h3 hdg (kk _ h2)
theorem r_lald (hx : p.tables.exec = Jvm.exec) (hb : c.code = cc) (hK : va_K D cl tys s) (hP : va_P D cl ws H) (q0 t0 : Nat) {cA : ClassId} {n : Nat} {f : Nat → Int64} (ha : ws[q0]? = some (a, .inl (cA, n, .inr (.inl f)))) (ht : tys[t0]? = some (cA, .long)) {i : Int32} {F : Int64 → Option ρ} (hf : bd (ld f n i) F = some r) (hdg : decode cc pc = .ok (.laload, 1))
    (kk : ∀ v, F v = some r → W p l e R s m args below meth c H locs cells slots Q (F0 m (pc + 1) ls (.long v :: rest))) : W p l e R s m args below meth c H locs cells slots Q (F0 m pc ls (.int i :: .ref a :: rest)) := by
  obtain ⟨v, h1, h2⟩ := bd_e hf
  obtain ⟨h3, rfl⟩ := ld_e h1
  exact va_lald hx hb hK hP q0 t0 ha ht h3 hdg (kk _ h2)
theorem r_iast (hx : p.tables.exec = Jvm.exec) (hb : c.code = cc) (hK : va_K D cl tys s) (hP : va_P D cl ws H) (hD : va_D A ws) (hS : va_S A H0 H locs) (q0 t0 : Nat) {cA : ClassId} {n : Nat} {f : Nat → Int32} (ha : ws[q0]? = some (a, .inl (cA, n, .inl f))) (ht : tys[t0]? = some (cA, .int)) {i x : Int32} {F : (Nat → Int32) → Option ρ} (hf : bd (sti f n i x) F = some r) (hdg : decode cc pc = .ok (.iastore, 1))
    (kk : ∀ (g : Nat → Int32) (H1 : Heap) (locs1 : List Loc), F g = some r → va_P D cl (ws.set q0 (a, .inl (cA, n, .inl g))) H1 → va_D A (ws.set q0 (a, .inl (cA, n, .inl g))) → va_S A H0 H1 locs1 → W p l e R s m args below meth c H1 locs1 cells slots Q (F0 m (pc + 1) ls rest)) : W p l e R s m args below meth c H locs cells slots Q (F0 m pc ls (.int x :: .int i :: .ref a :: rest)) := by
  obtain ⟨g, h1, h2⟩ := bd_e hf
  obtain ⟨h3, rfl⟩ := sti_e h1
  exact va_iast hx hb hK hP hD hS q0 t0 ha ht h3 hdg (fun H1 l1 a1 a2 a3 => kk _ H1 l1 h2 a1 a2 a3)
theorem r_zast (hx : p.tables.exec = Jvm.exec) (hb : c.code = cc) (hK : va_K D cl tys s) (hP : va_P D cl ws H) (hD : va_D A ws) (hS : va_S A H0 H locs) (q0 t0 : Nat) {cA : ClassId} {n : Nat} {f : Nat → Int32} (ha : ws[q0]? = some (a, .inl (cA, n, .inl f))) (ht : tys[t0]? = some (cA, .boolean)) {i x : Int32} (hnx : vp_nar .boolean x = x) {F : (Nat → Int32) → Option ρ} (hf : bd (sti f n i x) F = some r) (hdg : decode cc pc = .ok (.bastore, 1))
    (kk : ∀ (g : Nat → Int32) (H1 : Heap) (locs1 : List Loc), F g = some r → va_P D cl (ws.set q0 (a, .inl (cA, n, .inl g))) H1 → va_D A (ws.set q0 (a, .inl (cA, n, .inl g))) → va_S A H0 H1 locs1 → W p l e R s m args below meth c H1 locs1 cells slots Q (F0 m (pc + 1) ls rest)) : W p l e R s m args below meth c H locs cells slots Q (F0 m pc ls (.int x :: .int i :: .ref a :: rest)) := by
  obtain ⟨g, h1, h2⟩ := bd_e hf
  obtain ⟨h3, rfl⟩ := sti_e h1
  refine va_zast hx hb hK hP hD hS q0 t0 ha ht h3 hdg (fun H1 l1 a1 a2 a3 => ?_)
  rw [hnx] at a1 a2
  exact kk _ H1 l1 h2 a1 a2 a3
theorem r_last (hx : p.tables.exec = Jvm.exec) (hb : c.code = cc) (hK : va_K D cl tys s) (hP : va_P D cl ws H) (hD : va_D A ws) (hS : va_S A H0 H locs) (q0 t0 : Nat) {cA : ClassId} {n : Nat} {f : Nat → Int64} (ha : ws[q0]? = some (a, .inl (cA, n, .inr (.inl f)))) (ht : tys[t0]? = some (cA, .long)) {i : Int32} {x : Int64} {F : (Nat → Int64) → Option ρ} (hf : bd (stl f n i x) F = some r) (hdg : decode cc pc = .ok (.lastore, 1))
    (kk : ∀ (g : Nat → Int64) (H1 : Heap) (locs1 : List Loc), F g = some r → va_P D cl (ws.set q0 (a, .inl (cA, n, .inr (.inl g)))) H1 → va_D A (ws.set q0 (a, .inl (cA, n, .inr (.inl g)))) → va_S A H0 H1 locs1 → W p l e R s m args below meth c H1 locs1 cells slots Q (F0 m (pc + 1) ls rest)) : W p l e R s m args below meth c H locs cells slots Q (F0 m pc ls (.long x :: .int i :: .ref a :: rest)) := by
  obtain ⟨g, h1, h2⟩ := bd_e hf
  obtain ⟨h3, rfl⟩ := stl_e h1
  exact va_last hx hb hK hP hD hS q0 t0 ha ht h3 hdg (fun H1 l1 a1 a2 a3 => kk _ H1 l1 h2 a1 a2 a3)
theorem r_idiv (hx : p.tables.exec = Jvm.exec) (hb : c.code = cc) {x y : Int32} {F : Int32 → Option ρ} (hf : bd (idv x y) F = some r) (hdg : decode cc pc = .ok (.idiv, 1)) (kk : ∀ v, F v = some r → W p l e R s m args below meth c H locs cells slots Q (F0 m (pc + 1) ls (.int v :: rest))) : W p l e R s m args below meth c H locs cells slots Q (F0 m pc ls (.int y :: .int x :: rest)) := by
  obtain ⟨v, h1, h2⟩ := bd_e hf
  obtain ⟨h3, rfl⟩ := nz_e h1
  exact lv_idiv hx hb hdg h3 (kk _ h2)
theorem r_irem (hx : p.tables.exec = Jvm.exec) (hb : c.code = cc) {x y : Int32} {F : Int32 → Option ρ} (hf : bd (irm x y) F = some r) (hdg : decode cc pc = .ok (.irem, 1)) (kk : ∀ v, F v = some r → W p l e R s m args below meth c H locs cells slots Q (F0 m (pc + 1) ls (.int v :: rest))) : W p l e R s m args below meth c H locs cells slots Q (F0 m pc ls (.int y :: .int x :: rest)) := by
  obtain ⟨v, h1, h2⟩ := bd_e hf
  obtain ⟨h3, rfl⟩ := nz_e h1
  exact lv_irem hx hb hdg h3 (kk _ h2)
theorem r_ldiv (hx : p.tables.exec = Jvm.exec) (hb : c.code = cc) {x y : Int64} {F : Int64 → Option ρ} (hf : bd (ldv x y) F = some r) (hdg : decode cc pc = .ok (.ldiv, 1)) (kk : ∀ v, F v = some r → W p l e R s m args below meth c H locs cells slots Q (F0 m (pc + 1) ls (.long v :: rest))) : W p l e R s m args below meth c H locs cells slots Q (F0 m pc ls (.long y :: .long x :: rest)) := by
  obtain ⟨v, h1, h2⟩ := bd_e hf
  obtain ⟨h3, rfl⟩ := nz_e h1
  exact lv_ldiv hx hb hdg h3 (kk _ h2)
theorem r_lrem (hx : p.tables.exec = Jvm.exec) (hb : c.code = cc) {x y : Int64} {F : Int64 → Option ρ} (hf : bd (lrm x y) F = some r) (hdg : decode cc pc = .ok (.lrem, 1)) (kk : ∀ v, F v = some r → W p l e R s m args below meth c H locs cells slots Q (F0 m (pc + 1) ls (.long v :: rest))) : W p l e R s m args below meth c H locs cells slots Q (F0 m pc ls (.long y :: .long x :: rest)) := by
  obtain ⟨v, h1, h2⟩ := bd_e hf
  obtain ⟨h3, rfl⟩ := nz_e h1
  exact lv_lrem hx hb hdg h3 (kk _ h2)
theorem r_if_eq (hx : p.tables.exec = Jvm.exec) (hb : c.code = cc) {x : Int32} {off : Int} {tgt : Nat} (hdg : decode cc pc = .ok (.ifCond .eq off, 3)) (ht : (pc : Int) + off = (tgt : Int)) {X Y : Option ρ} (hf : (if x = 0 then X else Y) = some r) (kt : X = some r → W p l e R s m args below meth c H locs cells slots Q (F0 m tgt ls rest)) (kf : Y = some r → W p l e R s m args below meth c H locs cells slots Q (F0 m (pc + 3) ls rest)) : W p l e R s m args below meth c H locs cells slots Q (F0 m pc ls (.int x :: rest)) :=
  lv_if_eq hx hb hdg ht (fun h => kt (by rw [if_pos h] at hf; exact hf)) (fun h => kf (by rw [if_neg h] at hf; exact hf))
theorem r_if_ne (hx : p.tables.exec = Jvm.exec) (hb : c.code = cc) {x : Int32} {off : Int} {tgt : Nat} (hdg : decode cc pc = .ok (.ifCond .ne off, 3)) (ht : (pc : Int) + off = (tgt : Int)) {X Y : Option ρ} (hf : (if x = 0 then X else Y) = some r) (kt : Y = some r → W p l e R s m args below meth c H locs cells slots Q (F0 m tgt ls rest)) (kf : X = some r → W p l e R s m args below meth c H locs cells slots Q (F0 m (pc + 3) ls rest)) : W p l e R s m args below meth c H locs cells slots Q (F0 m pc ls (.int x :: rest)) :=
  lv_if_ne hx hb hdg ht (fun h => kt (by rw [if_neg h] at hf; exact hf)) (fun h => kf (by rw [if_pos h] at hf; exact hf))
theorem r_if_lt (hx : p.tables.exec = Jvm.exec) (hb : c.code = cc) {x : Int32} {off : Int} {tgt : Nat} (hdg : decode cc pc = .ok (.ifCond .lt off, 3)) (ht : (pc : Int) + off = (tgt : Int)) {X Y : Option ρ} (hf : (if x < 0 then X else Y) = some r) (kt : X = some r → W p l e R s m args below meth c H locs cells slots Q (F0 m tgt ls rest)) (kf : Y = some r → W p l e R s m args below meth c H locs cells slots Q (F0 m (pc + 3) ls rest)) : W p l e R s m args below meth c H locs cells slots Q (F0 m pc ls (.int x :: rest)) :=
  lv_if_lt hx hb hdg ht (fun h => kt (by rw [if_pos h] at hf; exact hf)) (fun h => kf (by rw [if_neg h] at hf; exact hf))
theorem r_if_ge (hx : p.tables.exec = Jvm.exec) (hb : c.code = cc) {x : Int32} {off : Int} {tgt : Nat} (hdg : decode cc pc = .ok (.ifCond .ge off, 3)) (ht : (pc : Int) + off = (tgt : Int)) {X Y : Option ρ} (hf : (if 0 ≤ x then X else Y) = some r) (kt : X = some r → W p l e R s m args below meth c H locs cells slots Q (F0 m tgt ls rest)) (kf : Y = some r → W p l e R s m args below meth c H locs cells slots Q (F0 m (pc + 3) ls rest)) : W p l e R s m args below meth c H locs cells slots Q (F0 m pc ls (.int x :: rest)) :=
  lv_if_ge hx hb hdg ht (fun h => kt (by rw [if_pos h] at hf; exact hf)) (fun h => kf (by rw [if_neg h] at hf; exact hf))
theorem r_if_gt (hx : p.tables.exec = Jvm.exec) (hb : c.code = cc) {x : Int32} {off : Int} {tgt : Nat} (hdg : decode cc pc = .ok (.ifCond .gt off, 3)) (ht : (pc : Int) + off = (tgt : Int)) {X Y : Option ρ} (hf : (if 0 < x then X else Y) = some r) (kt : X = some r → W p l e R s m args below meth c H locs cells slots Q (F0 m tgt ls rest)) (kf : Y = some r → W p l e R s m args below meth c H locs cells slots Q (F0 m (pc + 3) ls rest)) : W p l e R s m args below meth c H locs cells slots Q (F0 m pc ls (.int x :: rest)) :=
  lv_if_gt hx hb hdg ht (fun h => kt (by rw [if_pos h] at hf; exact hf)) (fun h => kf (by rw [if_neg h] at hf; exact hf))
theorem r_if_le (hx : p.tables.exec = Jvm.exec) (hb : c.code = cc) {x : Int32} {off : Int} {tgt : Nat} (hdg : decode cc pc = .ok (.ifCond .le off, 3)) (ht : (pc : Int) + off = (tgt : Int)) {X Y : Option ρ} (hf : (if x ≤ 0 then X else Y) = some r) (kt : X = some r → W p l e R s m args below meth c H locs cells slots Q (F0 m tgt ls rest)) (kf : Y = some r → W p l e R s m args below meth c H locs cells slots Q (F0 m (pc + 3) ls rest)) : W p l e R s m args below meth c H locs cells slots Q (F0 m pc ls (.int x :: rest)) :=
  lv_if_le hx hb hdg ht (fun h => kt (by rw [if_pos h] at hf; exact hf)) (fun h => kf (by rw [if_neg h] at hf; exact hf))
theorem r_ic_eq (hx : p.tables.exec = Jvm.exec) (hb : c.code = cc) {x y : Int32} {off : Int} {tgt : Nat} (hdg : decode cc pc = .ok (.if_icmp .eq off, 3)) (ht : (pc : Int) + off = (tgt : Int)) {X Y : Option ρ} (hf : (if x = y then X else Y) = some r) (kt : X = some r → W p l e R s m args below meth c H locs cells slots Q (F0 m tgt ls rest)) (kf : Y = some r → W p l e R s m args below meth c H locs cells slots Q (F0 m (pc + 3) ls rest)) : W p l e R s m args below meth c H locs cells slots Q (F0 m pc ls (.int y :: .int x :: rest)) :=
  lv_icmp_eq hx hb hdg ht (fun h => kt (by rw [if_pos h] at hf; exact hf)) (fun h => kf (by rw [if_neg h] at hf; exact hf))
theorem r_ic_ne (hx : p.tables.exec = Jvm.exec) (hb : c.code = cc) {x y : Int32} {off : Int} {tgt : Nat} (hdg : decode cc pc = .ok (.if_icmp .ne off, 3)) (ht : (pc : Int) + off = (tgt : Int)) {X Y : Option ρ} (hf : (if x = y then X else Y) = some r) (kt : Y = some r → W p l e R s m args below meth c H locs cells slots Q (F0 m tgt ls rest)) (kf : X = some r → W p l e R s m args below meth c H locs cells slots Q (F0 m (pc + 3) ls rest)) : W p l e R s m args below meth c H locs cells slots Q (F0 m pc ls (.int y :: .int x :: rest)) :=
  lv_icmp_ne hx hb hdg ht (fun h => kt (by rw [if_neg h] at hf; exact hf)) (fun h => kf (by rw [if_pos h] at hf; exact hf))
theorem r_ic_lt (hx : p.tables.exec = Jvm.exec) (hb : c.code = cc) {x y : Int32} {off : Int} {tgt : Nat} (hdg : decode cc pc = .ok (.if_icmp .lt off, 3)) (ht : (pc : Int) + off = (tgt : Int)) {X Y : Option ρ} (hf : (if x < y then X else Y) = some r) (kt : X = some r → W p l e R s m args below meth c H locs cells slots Q (F0 m tgt ls rest)) (kf : Y = some r → W p l e R s m args below meth c H locs cells slots Q (F0 m (pc + 3) ls rest)) : W p l e R s m args below meth c H locs cells slots Q (F0 m pc ls (.int y :: .int x :: rest)) :=
  lv_icmp_lt hx hb hdg ht (fun h => kt (by rw [if_pos h] at hf; exact hf)) (fun h => kf (by rw [if_neg h] at hf; exact hf))
theorem r_ic_ge (hx : p.tables.exec = Jvm.exec) (hb : c.code = cc) {x y : Int32} {off : Int} {tgt : Nat} (hdg : decode cc pc = .ok (.if_icmp .ge off, 3)) (ht : (pc : Int) + off = (tgt : Int)) {X Y : Option ρ} (hf : (if y ≤ x then X else Y) = some r) (kt : X = some r → W p l e R s m args below meth c H locs cells slots Q (F0 m tgt ls rest)) (kf : Y = some r → W p l e R s m args below meth c H locs cells slots Q (F0 m (pc + 3) ls rest)) : W p l e R s m args below meth c H locs cells slots Q (F0 m pc ls (.int y :: .int x :: rest)) :=
  lv_icmp_ge hx hb hdg ht (fun h => kt (by rw [if_pos h] at hf; exact hf)) (fun h => kf (by rw [if_neg h] at hf; exact hf))
theorem r_ic_gt (hx : p.tables.exec = Jvm.exec) (hb : c.code = cc) {x y : Int32} {off : Int} {tgt : Nat} (hdg : decode cc pc = .ok (.if_icmp .gt off, 3)) (ht : (pc : Int) + off = (tgt : Int)) {X Y : Option ρ} (hf : (if y < x then X else Y) = some r) (kt : X = some r → W p l e R s m args below meth c H locs cells slots Q (F0 m tgt ls rest)) (kf : Y = some r → W p l e R s m args below meth c H locs cells slots Q (F0 m (pc + 3) ls rest)) : W p l e R s m args below meth c H locs cells slots Q (F0 m pc ls (.int y :: .int x :: rest)) :=
  lv_icmp_gt hx hb hdg ht (fun h => kt (by rw [if_pos h] at hf; exact hf)) (fun h => kf (by rw [if_neg h] at hf; exact hf))
theorem r_ic_le (hx : p.tables.exec = Jvm.exec) (hb : c.code = cc) {x y : Int32} {off : Int} {tgt : Nat} (hdg : decode cc pc = .ok (.if_icmp .le off, 3)) (ht : (pc : Int) + off = (tgt : Int)) {X Y : Option ρ} (hf : (if x ≤ y then X else Y) = some r) (kt : X = some r → W p l e R s m args below meth c H locs cells slots Q (F0 m tgt ls rest)) (kf : Y = some r → W p l e R s m args below meth c H locs cells slots Q (F0 m (pc + 3) ls rest)) : W p l e R s m args below meth c H locs cells slots Q (F0 m pc ls (.int y :: .int x :: rest)) :=
  lv_icmp_le hx hb hdg ht (fun h => kt (by rw [if_pos h] at hf; exact hf)) (fun h => kf (by rw [if_neg h] at hf; exact hf))
theorem r_iret (hx : p.tables.exec = Jvm.exec) (hb : c.code = cc) (hr : meth.sig.returnType = some .int) (hlocks : meth.locks = false) {v w : Int32} (hf : some v = some w) (hdg : decode cc pc = .ok (.ireturn, 1)) : W p l e R s m args below meth c s.heap [] 0 0 (MQ below (RoQ (some (.int w))) args s 0 0 (fun _ => False)) (F0 m pc ls [.int v]) := by
  cases hf
  exact W.iret hx hb hr (fun t ht _ => ⟨rfl, ht⟩) (fun q h => by cases h) hdg hlocks
theorem r_lret (hx : p.tables.exec = Jvm.exec) (hb : c.code = cc) (hr : meth.sig.returnType = some .long) (hlocks : meth.locks = false) {v w : Int64} (hf : some v = some w) (hdg : decode cc pc = .ok (.lreturn, 1)) : W p l e R s m args below meth c s.heap [] 0 0 (MQ below (RoQ (some (.long w))) args s 0 0 (fun _ => False)) (F0 m pc ls [.long v]) := by
  cases hf
  exact W.lret hx hb hr (fun t ht _ => ⟨rfl, ht⟩) (fun q h => by cases h) hdg hlocks
theorem r_zret (hx : p.tables.exec = Jvm.exec) (hb : c.code = cc) (hr : meth.sig.returnType = some .boolean) (hlocks : meth.locks = false) {v w : Int32} (hn : narrow .boolean (.int v) = .int v) (hf : some v = some w) (hdg : decode cc pc = .ok (.ireturn, 1)) : W p l e R s m args below meth c s.heap [] 0 0 (MQ below (RoQ (some (.int w))) args s 0 0 (fun _ => False)) (F0 m pc ls [.int v]) := by
  cases hf
  exact W.zret hx hb hr hn (fun t ht _ => ⟨rfl, ht⟩) (fun q h => by cases h) hdg hlocks
theorem r_zretb (hx : p.tables.exec = Jvm.exec) (hb : c.code = cc) (hr : meth.sig.returnType = some .boolean) (hlocks : meth.locks = false) {v w : Int32} (hf : bz v = some w) (hdg : decode cc pc = .ok (.ireturn, 1)) : W p l e R s m args below meth c s.heap [] 0 0 (MQ below (RoQ (some (.int w))) args s 0 0 (fun _ => False)) (F0 m pc ls [.int v]) := by
  obtain ⟨rfl, hn⟩ := bz_e hf
  exact W.zret hx hb hr hn (fun t ht _ => ⟨rfl, ht⟩) (fun q h => by cases h) hdg hlocks
theorem w_iret (hx : p.tables.exec = Jvm.exec) (hb : c.code = cc) (hr : meth.sig.returnType = some .int) (hlocks : meth.locks = false) {v w : Int32} {W' : va_W} (hv : v = w) (hP : va_P D vwCl W' H) (hD : va_D A W') (hS : va_S A s.heap H locs) (hdg : decode cc pc = .ok (.ireturn, 1)) : W p l e R s m args below meth c H locs cells slots (MQ below (RwQ D (some (.int w)) W' A) args s cells slots A) (F0 m pc ls [.int v]) := by
  subst hv
  exact W.iret hx hb hr (fun t ht _ => ⟨rfl, by rw [ht]; exact hP, hD, hS.F ht⟩) hS.2.2 hdg hlocks
theorem w_vret (hx : p.tables.exec = Jvm.exec) (hb : c.code = cc) (hr : meth.sig.returnType = none) (hlocks : meth.locks = false) {W' : va_W} (hP : va_P D vwCl W' H) (hD : va_D A W') (hS : va_S A s.heap H locs) (hdg : decode cc pc = .ok (.return_, 1)) : W p l e R s m args below meth c H locs cells slots (MQ below (RwQ D none W' A) args s cells slots A) (F0 m pc ls []) := by
  exact W.vret hx hb hr (fun t ht _ => ⟨rfl, by rw [ht]; exact hP, hD, hS.F ht⟩) hS.2.2 hdg hlocks
theorem run_V {cI cJ cZ cS : ClassId} {nL : Nat} {own : String} (E : Ev p s m args c cc nL own D cI cJ cZ cS) {y : MethodName} {bytes : ByteArray} {maxL n index mc ms : Nat} {ret : Option FieldType} {rm : Room} {Pc : Array Value → State → Prop} {Qc : Array Value → State → Outcome → State → Prop} {free : Addr → Prop} {As st0 : List Value} (hM : Met l y (cws y bytes maxL ret) rm Pc Qc mc ms free) (hF : CalF y bytes maxL ret n) {C : String} {b : Addr} (h1 : Cond.methodLink own index y ∈ gw) (h2 : Cond.instanceMethod y ∈ gw) (h3 : Cond.selects C y y ∈ gw) (hp : PreV s H C b Pc As) (hrc : rm.cells = mc) (hrs : rm.slots = ms) (hR : rm.frames + 1 ≤ R.frames ∧ 8 + (maxL + 11) + rm.locals ≤ R.locals) (hn : As.length = n) (hls : ls.size = nL) (hrest : (rest.map fun v => v.category).sum ≤ 8) (hcs : cells + mc ≤ R.cells ∧ slots + ms ≤ R.slots) (hst : st0 = As.reverse ++ .ref b :: rest) (hdg : decode cc pc = .ok (.invokevirtual index, 3)) : va_Run p l e R s m args below meth c H locs cells slots mc ms (F0 m pc ls st0) rest (Qc (Value.ref b :: As).toArray) free :=
  va_runV ⟨E.1, E.2.1, E.2.2.1, E.2.2.2.1, E.2.2.2.2.1⟩ hM ⟨callB_of n E.2.2.2.2.1 (gw_goodIn hF.1) rfl hrc hrs (E.2.2.2.2.1 _ hF.2.1) (E.2.2.2.2.1 _ h1) hF.2.2 hR, E.2.2.2.2.1 _ h2, E.2.2.2.2.1 _ h3⟩ hp rfl hn hls hst (lv_room hrest) hdg hcs
theorem run_S {cI cJ cZ cS : ClassId} {nL : Nat} {own : String} (E : Ev p s m args c cc nL own D cI cJ cZ cS) {y : MethodName} {bytes : ByteArray} {maxL n index mc ms : Nat} {ret : Option FieldType} {rm : Room} {Pc : Array Value → State → Prop} {Qc : Array Value → State → Outcome → State → Prop} {free : Addr → Prop} {As st0 : List Value} (hM : Met l y (cws y bytes maxL ret) rm Pc Qc mc ms free) (hF : CalF y bytes maxL ret n) (h1 : Cond.methodLink own index y ∈ gw) (h2 : Cond.static y ∈ gw) (hp : PreS s H Pc As) (hrc : rm.cells = mc) (hrs : rm.slots = ms) (hR : rm.frames + 1 ≤ R.frames ∧ 8 + (maxL + 11) + rm.locals ≤ R.locals) (hn : As.length = n) (hls : ls.size = nL) (hrest : (rest.map fun v => v.category).sum ≤ 8) (hcs : cells + mc ≤ R.cells ∧ slots + ms ≤ R.slots) (hst : st0 = As.reverse ++ rest) (hdg : decode cc pc = .ok (.invokestatic index, 3)) : va_Run p l e R s m args below meth c H locs cells slots mc ms (F0 m pc ls st0) rest (Qc As.toArray) free :=
  va_runS ⟨E.1, E.2.1, E.2.2.1, E.2.2.2.1, E.2.2.2.2.1⟩ hM ⟨callB_of n E.2.2.2.2.1 (gw_goodIn hF.1) rfl hrc hrs (E.2.2.2.2.1 _ hF.2.1) (E.2.2.2.2.1 _ h1) hF.2.2 hR, E.2.2.2.2.1 _ h2⟩ hp rfl hn hls hst (lv_room hrest) hdg hcs
theorem run_I {cI cJ cZ cS : ClassId} {nL : Nat} {own : String} (E : Ev p s m args c cc nL own D cI cJ cZ cS) {y : MethodName} {bytes : ByteArray} {maxL n index mc ms : Nat} {ret : Option FieldType} {rm : Room} {Pc : Array Value → State → Prop} {Qc : Array Value → State → Outcome → State → Prop} {free : Addr → Prop} {As st0 : List Value} (hM : Met l y (cws y bytes maxL ret) rm Pc Qc mc ms free) (hF : CalF y bytes maxL ret n) {b : Addr} (hret : ret = none) (h1 : Cond.methodLink own index y ∈ gw) (h2 : Cond.instanceMethod y ∈ gw) (hy : y.name = "<init>") (hp : PreS s H Pc (.ref b :: As)) (hrc : rm.cells = mc) (hrs : rm.slots = ms) (hR : rm.frames + 1 ≤ R.frames ∧ 8 + (maxL + 11) + rm.locals ≤ R.locals) (hn : As.length = n) (hls : ls.size = nL) (hrest : (rest.map fun v => v.category).sum ≤ 8) (hcs : cells + mc ≤ R.cells ∧ slots + ms ≤ R.slots) (hst : st0 = As.reverse ++ .ref b :: rest) (hdg : decode cc pc = .ok (.invokespecial index, 3)) : va_Run p l e R s m args below meth c H locs cells slots mc ms (F0 m pc ls st0) rest (Qc (Value.ref b :: As).toArray) free := by
  subst hret
  exact va_runI ⟨E.1, E.2.1, E.2.2.1, E.2.2.2.1, E.2.2.2.2.1⟩ hM ⟨callB_of n E.2.2.2.2.1 (gw_goodIn hF.1) rfl hrc hrs (E.2.2.2.2.1 _ hF.2.1) (E.2.2.2.2.1 _ h1) hF.2.2 hR, hy, E.2.2.2.2.1 _ h2⟩ hp rfl hn hls hst (lv_room hrest) hdg hcs
theorem run_VN {cI cJ cZ cS : ClassId} {nL : Nat} {own : String} (E : Ev p s m args c cc nL own D cI cJ cZ cS) {y : MethodName} {bytes : ByteArray} {maxL n index mc ms : Nat} {ret : Option FieldType} {rm : Room} {Pc : Array Value → State → Prop} {Qc : Array Value → State → Outcome → State → Prop} {free : Addr → Prop} {As st0 : List Value} (hM : Met l y (cws y bytes maxL ret) rm Pc Qc mc ms free) (hF : CalF y bytes maxL ret n) {C host : String} {b : Addr} (h1 : Cond.methodLinkNest own index y host ∈ nestW) (h2 : Cond.instanceMethod y ∈ gw) (h3 : Cond.selects C y y ∈ gw) (hp : PreV s H C b Pc As) (hrc : rm.cells = mc) (hrs : rm.slots = ms) (hR : rm.frames + 1 ≤ R.frames ∧ 8 + (maxL + 11) + rm.locals ≤ R.locals) (hn : As.length = n) (hls : ls.size = nL) (hrest : (rest.map fun v => v.category).sum ≤ 8) (hcs : cells + mc ≤ R.cells ∧ slots + ms ≤ R.slots) (hst : st0 = As.reverse ++ .ref b :: rest) (hdg : decode cc pc = .ok (.invokevirtual index, 3)) : va_Run p l e R s m args below meth c H locs cells slots mc ms (F0 m pc ls st0) rest (Qc (Value.ref b :: As).toArray) free :=
  va_runVN ⟨E.1, E.2.1, E.2.2.1, E.2.2.2.1, E.2.2.2.2.1⟩ hM ⟨va_cnB n E.2.2.2.2.1 (gw_goodIn hF.1) rfl hrc hrs (E.2.2.2.2.2.2.1 _ h1) (E.2.2.2.2.1 _ hF.2.1) hF.2.2 hR, E.2.2.2.2.1 _ h2, E.2.2.2.2.1 _ h3⟩ hp rfl hn hls hst (lv_room hrest) hdg hcs
theorem run_SN {cI cJ cZ cS : ClassId} {nL : Nat} {own : String} (E : Ev p s m args c cc nL own D cI cJ cZ cS) {y : MethodName} {bytes : ByteArray} {maxL n index mc ms : Nat} {ret : Option FieldType} {rm : Room} {Pc : Array Value → State → Prop} {Qc : Array Value → State → Outcome → State → Prop} {free : Addr → Prop} {As st0 : List Value} (hM : Met l y (cws y bytes maxL ret) rm Pc Qc mc ms free) (hF : CalF y bytes maxL ret n) {host : String} (h1 : Cond.methodLinkNest own index y host ∈ nestW) (h2 : Cond.static y ∈ gw) (hp : PreS s H Pc As) (hrc : rm.cells = mc) (hrs : rm.slots = ms) (hR : rm.frames + 1 ≤ R.frames ∧ 8 + (maxL + 11) + rm.locals ≤ R.locals) (hn : As.length = n) (hls : ls.size = nL) (hrest : (rest.map fun v => v.category).sum ≤ 8) (hcs : cells + mc ≤ R.cells ∧ slots + ms ≤ R.slots) (hst : st0 = As.reverse ++ rest) (hdg : decode cc pc = .ok (.invokestatic index, 3)) : va_Run p l e R s m args below meth c H locs cells slots mc ms (F0 m pc ls st0) rest (Qc As.toArray) free :=
  va_runSN ⟨E.1, E.2.1, E.2.2.1, E.2.2.2.1, E.2.2.2.2.1⟩ hM ⟨va_cnB n E.2.2.2.2.1 (gw_goodIn hF.1) rfl hrc hrs (E.2.2.2.2.2.2.1 _ h1) (E.2.2.2.2.1 _ hF.2.1) hF.2.2 hR, E.2.2.2.2.1 _ h2, trivial⟩ hp rfl hn hls hst (lv_room hrest) hdg hcs
theorem run_IN {cI cJ cZ cS : ClassId} {nL : Nat} {own : String} (E : Ev p s m args c cc nL own D cI cJ cZ cS) {y : MethodName} {bytes : ByteArray} {maxL n index mc ms : Nat} {ret : Option FieldType} {rm : Room} {Pc : Array Value → State → Prop} {Qc : Array Value → State → Outcome → State → Prop} {free : Addr → Prop} {As st0 : List Value} (hM : Met l y (cws y bytes maxL ret) rm Pc Qc mc ms free) (hF : CalF y bytes maxL ret n) {host : String} {b : Addr} (hret : ret = none) (h1 : Cond.methodLinkNest own index y host ∈ nestW) (h2 : Cond.instanceMethod y ∈ gw) (hy : y.name = "<init>") (hp : PreS s H Pc (.ref b :: As)) (hrc : rm.cells = mc) (hrs : rm.slots = ms) (hR : rm.frames + 1 ≤ R.frames ∧ 8 + (maxL + 11) + rm.locals ≤ R.locals) (hn : As.length = n) (hls : ls.size = nL) (hrest : (rest.map fun v => v.category).sum ≤ 8) (hcs : cells + mc ≤ R.cells ∧ slots + ms ≤ R.slots) (hst : st0 = As.reverse ++ .ref b :: rest) (hdg : decode cc pc = .ok (.invokespecial index, 3)) : va_Run p l e R s m args below meth c H locs cells slots mc ms (F0 m pc ls st0) rest (Qc (Value.ref b :: As).toArray) free := by
  subst hret
  exact va_runIN ⟨E.1, E.2.1, E.2.2.1, E.2.2.2.1, E.2.2.2.2.1⟩ hM ⟨va_cnB n E.2.2.2.2.1 (gw_goodIn hF.1) rfl hrc hrs (E.2.2.2.2.2.2.1 _ h1) (E.2.2.2.2.1 _ hF.2.1) hF.2.2 hR, hy, E.2.2.2.2.1 _ h2⟩ hp rfl hn hls hst (lv_room hrest) hdg hcs
theorem ro_go {v : Option Value} {st0 st1 : List Value} {av : Array Value} (hr : va_Run p l e R s m args below meth c H locs cells slots 0 0 (F0 m pc ls st0) rest (RoQ v av) (fun _ => False)) (h1 : v.toList ++ rest = st1) (kk : W p l e R s m args below meth c H locs cells slots Q (F0 m (pc + 3) ls st1)) : W p l e R s m args below meth c H locs cells slots Q (F0 m pc ls st0) := by
  intro T hT X
  obtain ⟨v', st₀, t, T', L, h0, X', hL, e1, e2, ⟨hv, ht⟩, st⟩ := hr T hT X
  cases hv
  have hL0 : L = [] := by
    cases L with
    | nil => rfl
    | cons q L => exact (hL q List.mem_cons_self).elim
  subst hL0; subst h1
  rw [List.append_nil] at X'
  obtain ⟨t2, a1, b1⟩ := kk T' (by rw [e1, ht, h0]) X'
  exact ⟨t2, st t2 a1, b1⟩
theorem RoP.pre {cI cJ cZ cS : ClassId} {W0 : va_W} {av : List Value} (hG : GK D cI cJ cZ cS s) (hP : va_P D vwCl W0 H) : ∀ U : State, U.heap = H → s.WarmedH U.vm → RoP D cI cJ cZ cS W0 av av.toArray U := fun U hU hW => ⟨rfl, hG.warm hW, by rw [hU]; exact hP⟩
theorem RwP.pre {cI cJ cZ cS : ClassId} {W0 : va_W} {av : List Value} (hG : GK D cI cJ cZ cS s) (hP : va_P D vwCl W0 H) (hD : va_D A W0) : ∀ U : State, U.heap = H → s.WarmedH U.vm → RwP D cI cJ cZ cS W0 H.size av av.toArray U := fun U hU hW => ⟨rfl, by rw [hU], hG.warm hW, by rw [hU]; exact hP, hD.weaken (fun _ _ _ _ => trivial)⟩
theorem ro_Vi {cI cJ cZ cS : ClassId} {nL : Nat} {own : String} (E : Ev p s m args c cc nL own D cI cJ cZ cS) {y : MethodName} {bytes : ByteArray} {maxL n index fr lo : Nat} {ret : Option FieldType} {W0 : va_W} {As st0 : List Value} {v : Int32} {b : Nat} (hM : RoC l D cI cJ cZ cS y bytes maxL ret fr lo W0 (.ref b :: As) (some (.int v))) (hF : CalF y bytes maxL ret n) {ci : Nat} {q : vw_C} {fs : List Value} (hq : vwCl[ci]? = some q) (hr0 : W0[0]? = some (b, .inr (ci, fs))) (h1 : Cond.methodLink own index y ∈ gw) (h2 : Cond.instanceMethod y ∈ gw) (h3 : Cond.selects q.1 y y ∈ gw) (hP : va_P D vwCl W0 H) (hR : fr + 1 ≤ R.frames ∧ 8 + (maxL + 11) + lo ≤ R.locals) (hn : As.length = n) (hls : ls.size = nL) (hrest : (rest.map fun v => v.category).sum ≤ 8) (hcs : cells ≤ R.cells ∧ slots ≤ R.slots) (hst : st0 = As.reverse ++ .ref b :: rest) (hdg : decode cc pc = .ok (.invokevirtual index, 3)) (kk : W p l e R s m args below meth c H locs cells slots Q (F0 m (pc + 3) ls (.int v :: rest))) : W p l e R s m args below meth c H locs cells slots Q (F0 m pc ls st0) :=
  ro_go (run_V E hM hF h1 h2 h3 ⟨RoP.blind, va_recv E.2.2.2.2.2.1 hP hq hr0, RoP.pre E.2.2.2.2.2 hP⟩ rfl rfl hR hn hls hrest hcs hst hdg) rfl kk
theorem ro_Vl {cI cJ cZ cS : ClassId} {nL : Nat} {own : String} (E : Ev p s m args c cc nL own D cI cJ cZ cS) {y : MethodName} {bytes : ByteArray} {maxL n index fr lo : Nat} {ret : Option FieldType} {W0 : va_W} {As st0 : List Value} {v : Int64} {b : Nat} (hM : RoC l D cI cJ cZ cS y bytes maxL ret fr lo W0 (.ref b :: As) (some (.long v))) (hF : CalF y bytes maxL ret n) {ci : Nat} {q : vw_C} {fs : List Value} (hq : vwCl[ci]? = some q) (hr0 : W0[0]? = some (b, .inr (ci, fs))) (h1 : Cond.methodLink own index y ∈ gw) (h2 : Cond.instanceMethod y ∈ gw) (h3 : Cond.selects q.1 y y ∈ gw) (hP : va_P D vwCl W0 H) (hR : fr + 1 ≤ R.frames ∧ 8 + (maxL + 11) + lo ≤ R.locals) (hn : As.length = n) (hls : ls.size = nL) (hrest : (rest.map fun v => v.category).sum ≤ 8) (hcs : cells ≤ R.cells ∧ slots ≤ R.slots) (hst : st0 = As.reverse ++ .ref b :: rest) (hdg : decode cc pc = .ok (.invokevirtual index, 3)) (kk : W p l e R s m args below meth c H locs cells slots Q (F0 m (pc + 3) ls (.long v :: rest))) : W p l e R s m args below meth c H locs cells slots Q (F0 m pc ls st0) :=
  ro_go (run_V E hM hF h1 h2 h3 ⟨RoP.blind, va_recv E.2.2.2.2.2.1 hP hq hr0, RoP.pre E.2.2.2.2.2 hP⟩ rfl rfl hR hn hls hrest hcs hst hdg) rfl kk
theorem ro_VNi {cI cJ cZ cS : ClassId} {nL : Nat} {own : String} (E : Ev p s m args c cc nL own D cI cJ cZ cS) {y : MethodName} {bytes : ByteArray} {maxL n index fr lo : Nat} {ret : Option FieldType} {W0 : va_W} {As st0 : List Value} {v : Int32} {b : Nat} (hM : RoC l D cI cJ cZ cS y bytes maxL ret fr lo W0 (.ref b :: As) (some (.int v))) (hF : CalF y bytes maxL ret n) {ci : Nat} {q : vw_C} {fs : List Value} (hq : vwCl[ci]? = some q) (hr0 : W0[0]? = some (b, .inr (ci, fs))) {host : String} (h1 : Cond.methodLinkNest own index y host ∈ nestW) (h2 : Cond.instanceMethod y ∈ gw) (h3 : Cond.selects q.1 y y ∈ gw) (hP : va_P D vwCl W0 H) (hR : fr + 1 ≤ R.frames ∧ 8 + (maxL + 11) + lo ≤ R.locals) (hn : As.length = n) (hls : ls.size = nL) (hrest : (rest.map fun v => v.category).sum ≤ 8) (hcs : cells ≤ R.cells ∧ slots ≤ R.slots) (hst : st0 = As.reverse ++ .ref b :: rest) (hdg : decode cc pc = .ok (.invokevirtual index, 3)) (kk : W p l e R s m args below meth c H locs cells slots Q (F0 m (pc + 3) ls (.int v :: rest))) : W p l e R s m args below meth c H locs cells slots Q (F0 m pc ls st0) :=
  ro_go (run_VN E hM hF h1 h2 h3 ⟨RoP.blind, va_recv E.2.2.2.2.2.1 hP hq hr0, RoP.pre E.2.2.2.2.2 hP⟩ rfl rfl hR hn hls hrest hcs hst hdg) rfl kk
theorem ro_Si {cI cJ cZ cS : ClassId} {nL : Nat} {own : String} (E : Ev p s m args c cc nL own D cI cJ cZ cS) {y : MethodName} {bytes : ByteArray} {maxL n index fr lo : Nat} {ret : Option FieldType} {W0 : va_W} {As st0 : List Value} {v : Int32} (hM : RoC l D cI cJ cZ cS y bytes maxL ret fr lo W0 As (some (.int v))) (hF : CalF y bytes maxL ret n)  (h1 : Cond.methodLink own index y ∈ gw) (h2 : Cond.static y ∈ gw) (hP : va_P D vwCl W0 H) (hR : fr + 1 ≤ R.frames ∧ 8 + (maxL + 11) + lo ≤ R.locals) (hn : As.length = n) (hls : ls.size = nL) (hrest : (rest.map fun v => v.category).sum ≤ 8) (hcs : cells ≤ R.cells ∧ slots ≤ R.slots) (hst : st0 = As.reverse ++ rest) (hdg : decode cc pc = .ok (.invokestatic index, 3)) (kk : W p l e R s m args below meth c H locs cells slots Q (F0 m (pc + 3) ls (.int v :: rest))) : W p l e R s m args below meth c H locs cells slots Q (F0 m pc ls st0) :=
  ro_go (run_S E hM hF h1 h2 ⟨RoP.blind, RoP.pre E.2.2.2.2.2 hP⟩ rfl rfl hR hn hls hrest hcs hst hdg) rfl kk
theorem ro_Sl {cI cJ cZ cS : ClassId} {nL : Nat} {own : String} (E : Ev p s m args c cc nL own D cI cJ cZ cS) {y : MethodName} {bytes : ByteArray} {maxL n index fr lo : Nat} {ret : Option FieldType} {W0 : va_W} {As st0 : List Value} {v : Int64} (hM : RoC l D cI cJ cZ cS y bytes maxL ret fr lo W0 As (some (.long v))) (hF : CalF y bytes maxL ret n)  (h1 : Cond.methodLink own index y ∈ gw) (h2 : Cond.static y ∈ gw) (hP : va_P D vwCl W0 H) (hR : fr + 1 ≤ R.frames ∧ 8 + (maxL + 11) + lo ≤ R.locals) (hn : As.length = n) (hls : ls.size = nL) (hrest : (rest.map fun v => v.category).sum ≤ 8) (hcs : cells ≤ R.cells ∧ slots ≤ R.slots) (hst : st0 = As.reverse ++ rest) (hdg : decode cc pc = .ok (.invokestatic index, 3)) (kk : W p l e R s m args below meth c H locs cells slots Q (F0 m (pc + 3) ls (.long v :: rest))) : W p l e R s m args below meth c H locs cells slots Q (F0 m pc ls st0) :=
  ro_go (run_S E hM hF h1 h2 ⟨RoP.blind, RoP.pre E.2.2.2.2.2 hP⟩ rfl rfl hR hn hls hrest hcs hst hdg) rfl kk
theorem ro_SNi {cI cJ cZ cS : ClassId} {nL : Nat} {own : String} (E : Ev p s m args c cc nL own D cI cJ cZ cS) {y : MethodName} {bytes : ByteArray} {maxL n index fr lo : Nat} {ret : Option FieldType} {W0 : va_W} {As st0 : List Value} {v : Int32} (hM : RoC l D cI cJ cZ cS y bytes maxL ret fr lo W0 As (some (.int v))) (hF : CalF y bytes maxL ret n)  {host : String} (h1 : Cond.methodLinkNest own index y host ∈ nestW) (h2 : Cond.static y ∈ gw) (hP : va_P D vwCl W0 H) (hR : fr + 1 ≤ R.frames ∧ 8 + (maxL + 11) + lo ≤ R.locals) (hn : As.length = n) (hls : ls.size = nL) (hrest : (rest.map fun v => v.category).sum ≤ 8) (hcs : cells ≤ R.cells ∧ slots ≤ R.slots) (hst : st0 = As.reverse ++ rest) (hdg : decode cc pc = .ok (.invokestatic index, 3)) (kk : W p l e R s m args below meth c H locs cells slots Q (F0 m (pc + 3) ls (.int v :: rest))) : W p l e R s m args below meth c H locs cells slots Q (F0 m pc ls st0) :=
  ro_go (run_SN E hM hF h1 h2 ⟨RoP.blind, RoP.pre E.2.2.2.2.2 hP⟩ rfl rfl hR hn hls hrest hcs hst hdg) rfl kk
theorem ro_SNl {cI cJ cZ cS : ClassId} {nL : Nat} {own : String} (E : Ev p s m args c cc nL own D cI cJ cZ cS) {y : MethodName} {bytes : ByteArray} {maxL n index fr lo : Nat} {ret : Option FieldType} {W0 : va_W} {As st0 : List Value} {v : Int64} (hM : RoC l D cI cJ cZ cS y bytes maxL ret fr lo W0 As (some (.long v))) (hF : CalF y bytes maxL ret n)  {host : String} (h1 : Cond.methodLinkNest own index y host ∈ nestW) (h2 : Cond.static y ∈ gw) (hP : va_P D vwCl W0 H) (hR : fr + 1 ≤ R.frames ∧ 8 + (maxL + 11) + lo ≤ R.locals) (hn : As.length = n) (hls : ls.size = nL) (hrest : (rest.map fun v => v.category).sum ≤ 8) (hcs : cells ≤ R.cells ∧ slots ≤ R.slots) (hst : st0 = As.reverse ++ rest) (hdg : decode cc pc = .ok (.invokestatic index, 3)) (kk : W p l e R s m args below meth c H locs cells slots Q (F0 m (pc + 3) ls (.long v :: rest))) : W p l e R s m args below meth c H locs cells slots Q (F0 m pc ls st0) :=
  ro_go (run_SN E hM hF h1 h2 ⟨RoP.blind, RoP.pre E.2.2.2.2.2 hP⟩ rfl rfl hR hn hls hrest hcs hst hdg) rfl kk
theorem va_P.subm {cl : List vw_C} {ws ws' : va_W} (h : va_P D cl ws H) (is : List Nat) (hs : is.map (fun i => ws[i]?) = ws'.map some) : va_P D cl ws' H := by
  intro k q hk
  have h1 : (ws'.map some)[k]? = some (some q) := by rw [List.getElem?_map, hk]; rfl
  rw [← hs, List.getElem?_map] at h1
  obtain ⟨i, h2, h3⟩ := Option.map_eq_some_iff.mp h1
  exact h i q h3
theorem rw_go {v : Option Value} {st0 st1 : List Value} {av : Array Value} {W0 W1 wr wn : va_W} (hr : va_Run p l e R s m args below meth c H locs cells slots 0 0 (F0 m pc ls st0) rest (RwQ D v W1 (va_A W0 H.size) av) (va_A W0 H.size)) (h1 : v.toList ++ rest = st1) (hP : va_P D vwCl ws H) (hD : va_D A ws) (hS : va_S A H0 H locs) (hA : ∀ q, H0.size ≤ q → A q) (isC isR pm : List Nat) (hC : isC.map (fun i => ws[i]?) = W0.map some) (hR : isR.map (fun i => ws[i]?) = wr.map some) (hn : va_nd isR = true) (hdis : ∀ i ∈ isR, i ∉ isC) (hpm : pm.map (fun i => (wr ++ W1)[i]?) = wn.map some) (hpn : va_nd pm = true)
    (kk : ∀ (H1 : Heap) (locs1 : List Loc), va_P D vwCl wn H1 → va_D A wn → va_S A H0 H1 locs1 → W p l e R s m args below meth c H1 locs1 cells slots Q (F0 m (pc + 3) ls st1)) : W p l e R s m args below meth c H locs cells slots Q (F0 m pc ls st0) := by
  have hFc := va_free (wc := W0) hD hS hA isC hC
  intro T hT X
  obtain ⟨v', st₀, t, T', L, h0, X', hL, e1, e2, ⟨hv, hP1, hD1, hz, hk⟩, st⟩ := hr T hT X
  cases hv
  subst h1
  rw [h0] at hz hk
  rw [← e1] at hP1 hz hk
  obtain ⟨hP2, hD2⟩ := va_join (wr := wr) (w1 := W1) hP hD isC isR hC hR hn hdis hk hFc hP1 hD1
  have hS2 : va_S A H0 T'.heap (locs ++ L) := ⟨Nat.le_trans hS.1 hz, fun q h1 h2 => by rw [hk q (Nat.lt_of_lt_of_le h1 hS.1) (fun z => h2 (hFc q z))]; exact hS.2.1 q h1 h2, fun q hq => by
    rcases List.mem_append.mp hq with h | h
    · exact hS.2.2 q h
    · exact hFc _ (hL q h)⟩
  obtain ⟨t2, a1, b1⟩ := kk T'.heap (locs ++ L) (hP2.subm pm hpm) (hD2.sub pm hpn hpm) hS2 T' rfl X'
  exact ⟨t2, st t2 a1, b1⟩
theorem rw_Vi {cI cJ cZ cS : ClassId} {nL : Nat} {own : String} (E : Ev p s m args c cc nL own D cI cJ cZ cS) {y : MethodName} {bytes : ByteArray} {maxL n index fr lo : Nat} {ret : Option FieldType} {W0 W1 wr wn : va_W} {As st0 : List Value} {v : Int32} {b : Nat} (hM : RwC l D cI cJ cZ cS y bytes maxL ret fr lo W0 H.size (.ref b :: As) (some (.int v)) W1) (hF : CalF y bytes maxL ret n) {ci : Nat} {q : vw_C} {fs : List Value} (hq : vwCl[ci]? = some q) (hr0 : W0[0]? = some (b, .inr (ci, fs))) (h1 : Cond.methodLink own index y ∈ gw) (h2 : Cond.instanceMethod y ∈ gw) (h3 : Cond.selects q.1 y y ∈ gw) (hP : va_P D vwCl ws H) (hD : va_D A ws) (hS : va_S A H0 H locs) (hA : ∀ q, H0.size ≤ q → A q) (isC isR pm : List Nat) (hC : isC.map (fun i => ws[i]?) = W0.map some) (hRr : isR.map (fun i => ws[i]?) = wr.map some) (hnd : va_nd isC = true) (hnr : va_nd isR = true) (hdis : ∀ i ∈ isR, i ∉ isC) (hpm : pm.map (fun i => (wr ++ W1)[i]?) = wn.map some) (hpn : va_nd pm = true) (hR : fr + 1 ≤ R.frames ∧ 8 + (maxL + 11) + lo ≤ R.locals) (hn : As.length = n) (hls : ls.size = nL) (hrest : (rest.map fun v => v.category).sum ≤ 8) (hcs : cells ≤ R.cells ∧ slots ≤ R.slots) (hst : st0 = As.reverse ++ .ref b :: rest) (hdg : decode cc pc = .ok (.invokevirtual index, 3)) (kk : ∀ (H1 : Heap) (locs1 : List Loc), va_P D vwCl wn H1 → va_D A wn → va_S A H0 H1 locs1 → W p l e R s m args below meth c H1 locs1 cells slots Q (F0 m (pc + 3) ls (.int v :: rest))) : W p l e R s m args below meth c H locs cells slots Q (F0 m pc ls st0) :=
  rw_go (run_V E hM hF h1 h2 h3 ⟨RwP.blind, va_recv E.2.2.2.2.2.1 (hP.subm isC hC) hq hr0, RwP.pre E.2.2.2.2.2 (hP.subm isC hC) (hD.sub isC hnd hC)⟩ rfl rfl hR hn hls hrest hcs hst hdg) rfl hP hD hS hA isC isR pm hC hRr hnr hdis hpm hpn kk
theorem rw_Vv {cI cJ cZ cS : ClassId} {nL : Nat} {own : String} (E : Ev p s m args c cc nL own D cI cJ cZ cS) {y : MethodName} {bytes : ByteArray} {maxL n index fr lo : Nat} {ret : Option FieldType} {W0 W1 wr wn : va_W} {As st0 : List Value} {b : Nat} (hM : RwC l D cI cJ cZ cS y bytes maxL ret fr lo W0 H.size (.ref b :: As) none W1) (hF : CalF y bytes maxL ret n) {ci : Nat} {q : vw_C} {fs : List Value} (hq : vwCl[ci]? = some q) (hr0 : W0[0]? = some (b, .inr (ci, fs))) (h1 : Cond.methodLink own index y ∈ gw) (h2 : Cond.instanceMethod y ∈ gw) (h3 : Cond.selects q.1 y y ∈ gw) (hP : va_P D vwCl ws H) (hD : va_D A ws) (hS : va_S A H0 H locs) (hA : ∀ q, H0.size ≤ q → A q) (isC isR pm : List Nat) (hC : isC.map (fun i => ws[i]?) = W0.map some) (hRr : isR.map (fun i => ws[i]?) = wr.map some) (hnd : va_nd isC = true) (hnr : va_nd isR = true) (hdis : ∀ i ∈ isR, i ∉ isC) (hpm : pm.map (fun i => (wr ++ W1)[i]?) = wn.map some) (hpn : va_nd pm = true) (hR : fr + 1 ≤ R.frames ∧ 8 + (maxL + 11) + lo ≤ R.locals) (hn : As.length = n) (hls : ls.size = nL) (hrest : (rest.map fun v => v.category).sum ≤ 8) (hcs : cells ≤ R.cells ∧ slots ≤ R.slots) (hst : st0 = As.reverse ++ .ref b :: rest) (hdg : decode cc pc = .ok (.invokevirtual index, 3)) (kk : ∀ (H1 : Heap) (locs1 : List Loc), va_P D vwCl wn H1 → va_D A wn → va_S A H0 H1 locs1 → W p l e R s m args below meth c H1 locs1 cells slots Q (F0 m (pc + 3) ls rest)) : W p l e R s m args below meth c H locs cells slots Q (F0 m pc ls st0) :=
  rw_go (run_V E hM hF h1 h2 h3 ⟨RwP.blind, va_recv E.2.2.2.2.2.1 (hP.subm isC hC) hq hr0, RwP.pre E.2.2.2.2.2 (hP.subm isC hC) (hD.sub isC hnd hC)⟩ rfl rfl hR hn hls hrest hcs hst hdg) rfl hP hD hS hA isC isR pm hC hRr hnr hdis hpm hpn kk
theorem rw_VNi {cI cJ cZ cS : ClassId} {nL : Nat} {own : String} (E : Ev p s m args c cc nL own D cI cJ cZ cS) {y : MethodName} {bytes : ByteArray} {maxL n index fr lo : Nat} {ret : Option FieldType} {W0 W1 wr wn : va_W} {As st0 : List Value} {v : Int32} {b : Nat} (hM : RwC l D cI cJ cZ cS y bytes maxL ret fr lo W0 H.size (.ref b :: As) (some (.int v)) W1) (hF : CalF y bytes maxL ret n) {ci : Nat} {q : vw_C} {fs : List Value} (hq : vwCl[ci]? = some q) (hr0 : W0[0]? = some (b, .inr (ci, fs))) {host : String} (h1 : Cond.methodLinkNest own index y host ∈ nestW) (h2 : Cond.instanceMethod y ∈ gw) (h3 : Cond.selects q.1 y y ∈ gw) (hP : va_P D vwCl ws H) (hD : va_D A ws) (hS : va_S A H0 H locs) (hA : ∀ q, H0.size ≤ q → A q) (isC isR pm : List Nat) (hC : isC.map (fun i => ws[i]?) = W0.map some) (hRr : isR.map (fun i => ws[i]?) = wr.map some) (hnd : va_nd isC = true) (hnr : va_nd isR = true) (hdis : ∀ i ∈ isR, i ∉ isC) (hpm : pm.map (fun i => (wr ++ W1)[i]?) = wn.map some) (hpn : va_nd pm = true) (hR : fr + 1 ≤ R.frames ∧ 8 + (maxL + 11) + lo ≤ R.locals) (hn : As.length = n) (hls : ls.size = nL) (hrest : (rest.map fun v => v.category).sum ≤ 8) (hcs : cells ≤ R.cells ∧ slots ≤ R.slots) (hst : st0 = As.reverse ++ .ref b :: rest) (hdg : decode cc pc = .ok (.invokevirtual index, 3)) (kk : ∀ (H1 : Heap) (locs1 : List Loc), va_P D vwCl wn H1 → va_D A wn → va_S A H0 H1 locs1 → W p l e R s m args below meth c H1 locs1 cells slots Q (F0 m (pc + 3) ls (.int v :: rest))) : W p l e R s m args below meth c H locs cells slots Q (F0 m pc ls st0) :=
  rw_go (run_VN E hM hF h1 h2 h3 ⟨RwP.blind, va_recv E.2.2.2.2.2.1 (hP.subm isC hC) hq hr0, RwP.pre E.2.2.2.2.2 (hP.subm isC hC) (hD.sub isC hnd hC)⟩ rfl rfl hR hn hls hrest hcs hst hdg) rfl hP hD hS hA isC isR pm hC hRr hnr hdis hpm hpn kk
theorem rw_VNv {cI cJ cZ cS : ClassId} {nL : Nat} {own : String} (E : Ev p s m args c cc nL own D cI cJ cZ cS) {y : MethodName} {bytes : ByteArray} {maxL n index fr lo : Nat} {ret : Option FieldType} {W0 W1 wr wn : va_W} {As st0 : List Value} {b : Nat} (hM : RwC l D cI cJ cZ cS y bytes maxL ret fr lo W0 H.size (.ref b :: As) none W1) (hF : CalF y bytes maxL ret n) {ci : Nat} {q : vw_C} {fs : List Value} (hq : vwCl[ci]? = some q) (hr0 : W0[0]? = some (b, .inr (ci, fs))) {host : String} (h1 : Cond.methodLinkNest own index y host ∈ nestW) (h2 : Cond.instanceMethod y ∈ gw) (h3 : Cond.selects q.1 y y ∈ gw) (hP : va_P D vwCl ws H) (hD : va_D A ws) (hS : va_S A H0 H locs) (hA : ∀ q, H0.size ≤ q → A q) (isC isR pm : List Nat) (hC : isC.map (fun i => ws[i]?) = W0.map some) (hRr : isR.map (fun i => ws[i]?) = wr.map some) (hnd : va_nd isC = true) (hnr : va_nd isR = true) (hdis : ∀ i ∈ isR, i ∉ isC) (hpm : pm.map (fun i => (wr ++ W1)[i]?) = wn.map some) (hpn : va_nd pm = true) (hR : fr + 1 ≤ R.frames ∧ 8 + (maxL + 11) + lo ≤ R.locals) (hn : As.length = n) (hls : ls.size = nL) (hrest : (rest.map fun v => v.category).sum ≤ 8) (hcs : cells ≤ R.cells ∧ slots ≤ R.slots) (hst : st0 = As.reverse ++ .ref b :: rest) (hdg : decode cc pc = .ok (.invokevirtual index, 3)) (kk : ∀ (H1 : Heap) (locs1 : List Loc), va_P D vwCl wn H1 → va_D A wn → va_S A H0 H1 locs1 → W p l e R s m args below meth c H1 locs1 cells slots Q (F0 m (pc + 3) ls rest)) : W p l e R s m args below meth c H locs cells slots Q (F0 m pc ls st0) :=
  rw_go (run_VN E hM hF h1 h2 h3 ⟨RwP.blind, va_recv E.2.2.2.2.2.1 (hP.subm isC hC) hq hr0, RwP.pre E.2.2.2.2.2 (hP.subm isC hC) (hD.sub isC hnd hC)⟩ rfl rfl hR hn hls hrest hcs hst hdg) rfl hP hD hS hA isC isR pm hC hRr hnr hdis hpm hpn kk
theorem rw_Si {cI cJ cZ cS : ClassId} {nL : Nat} {own : String} (E : Ev p s m args c cc nL own D cI cJ cZ cS) {y : MethodName} {bytes : ByteArray} {maxL n index fr lo : Nat} {ret : Option FieldType} {W0 W1 wr wn : va_W} {As st0 : List Value} {v : Int32} (hM : RwC l D cI cJ cZ cS y bytes maxL ret fr lo W0 H.size As (some (.int v)) W1) (hF : CalF y bytes maxL ret n)  (h1 : Cond.methodLink own index y ∈ gw) (h2 : Cond.static y ∈ gw) (hP : va_P D vwCl ws H) (hD : va_D A ws) (hS : va_S A H0 H locs) (hA : ∀ q, H0.size ≤ q → A q) (isC isR pm : List Nat) (hC : isC.map (fun i => ws[i]?) = W0.map some) (hRr : isR.map (fun i => ws[i]?) = wr.map some) (hnd : va_nd isC = true) (hnr : va_nd isR = true) (hdis : ∀ i ∈ isR, i ∉ isC) (hpm : pm.map (fun i => (wr ++ W1)[i]?) = wn.map some) (hpn : va_nd pm = true) (hR : fr + 1 ≤ R.frames ∧ 8 + (maxL + 11) + lo ≤ R.locals) (hn : As.length = n) (hls : ls.size = nL) (hrest : (rest.map fun v => v.category).sum ≤ 8) (hcs : cells ≤ R.cells ∧ slots ≤ R.slots) (hst : st0 = As.reverse ++ rest) (hdg : decode cc pc = .ok (.invokestatic index, 3)) (kk : ∀ (H1 : Heap) (locs1 : List Loc), va_P D vwCl wn H1 → va_D A wn → va_S A H0 H1 locs1 → W p l e R s m args below meth c H1 locs1 cells slots Q (F0 m (pc + 3) ls (.int v :: rest))) : W p l e R s m args below meth c H locs cells slots Q (F0 m pc ls st0) :=
  rw_go (run_S E hM hF h1 h2 ⟨RwP.blind, RwP.pre E.2.2.2.2.2 (hP.subm isC hC) (hD.sub isC hnd hC)⟩ rfl rfl hR hn hls hrest hcs hst hdg) rfl hP hD hS hA isC isR pm hC hRr hnr hdis hpm hpn kk
theorem rw_Sv {cI cJ cZ cS : ClassId} {nL : Nat} {own : String} (E : Ev p s m args c cc nL own D cI cJ cZ cS) {y : MethodName} {bytes : ByteArray} {maxL n index fr lo : Nat} {ret : Option FieldType} {W0 W1 wr wn : va_W} {As st0 : List Value} (hM : RwC l D cI cJ cZ cS y bytes maxL ret fr lo W0 H.size As none W1) (hF : CalF y bytes maxL ret n)  (h1 : Cond.methodLink own index y ∈ gw) (h2 : Cond.static y ∈ gw) (hP : va_P D vwCl ws H) (hD : va_D A ws) (hS : va_S A H0 H locs) (hA : ∀ q, H0.size ≤ q → A q) (isC isR pm : List Nat) (hC : isC.map (fun i => ws[i]?) = W0.map some) (hRr : isR.map (fun i => ws[i]?) = wr.map some) (hnd : va_nd isC = true) (hnr : va_nd isR = true) (hdis : ∀ i ∈ isR, i ∉ isC) (hpm : pm.map (fun i => (wr ++ W1)[i]?) = wn.map some) (hpn : va_nd pm = true) (hR : fr + 1 ≤ R.frames ∧ 8 + (maxL + 11) + lo ≤ R.locals) (hn : As.length = n) (hls : ls.size = nL) (hrest : (rest.map fun v => v.category).sum ≤ 8) (hcs : cells ≤ R.cells ∧ slots ≤ R.slots) (hst : st0 = As.reverse ++ rest) (hdg : decode cc pc = .ok (.invokestatic index, 3)) (kk : ∀ (H1 : Heap) (locs1 : List Loc), va_P D vwCl wn H1 → va_D A wn → va_S A H0 H1 locs1 → W p l e R s m args below meth c H1 locs1 cells slots Q (F0 m (pc + 3) ls rest)) : W p l e R s m args below meth c H locs cells slots Q (F0 m pc ls st0) :=
  rw_go (run_S E hM hF h1 h2 ⟨RwP.blind, RwP.pre E.2.2.2.2.2 (hP.subm isC hC) (hD.sub isC hnd hC)⟩ rfl rfl hR hn hls hrest hcs hst hdg) rfl hP hD hS hA isC isR pm hC hRr hnr hdis hpm hpn kk
end RW
end
section
theorem lc1_e {α0 β γ : Type} {x : α0 → β} {f : (α0 → β) → γ} {r : γ} (h : lc x f = r) : ∃ k : α0 → β, (∀ a0, k a0 = x a0) ∧ f k = r := ⟨x, fun _ => rfl, h⟩
theorem lc2_e {α0 α1 β γ : Type} {x : α0 → α1 → β} {f : (α0 → α1 → β) → γ} {r : γ} (h : lc x f = r) : ∃ k : α0 → α1 → β, (∀ a0 a1, k a0 a1 = x a0 a1) ∧ f k = r := ⟨x, fun _ _ => rfl, h⟩
theorem lc3_e {α0 α1 α2 β γ : Type} {x : α0 → α1 → α2 → β} {f : (α0 → α1 → α2 → β) → γ} {r : γ} (h : lc x f = r) : ∃ k : α0 → α1 → α2 → β, (∀ a0 a1 a2, k a0 a1 a2 = x a0 a1 a2) ∧ f k = r := ⟨x, fun _ _ _ => rfl, h⟩
theorem lc4_e {α0 α1 α2 α3 β γ : Type} {x : α0 → α1 → α2 → α3 → β} {f : (α0 → α1 → α2 → α3 → β) → γ} {r : γ} (h : lc x f = r) : ∃ k : α0 → α1 → α2 → α3 → β, (∀ a0 a1 a2 a3, k a0 a1 a2 a3 = x a0 a1 a2 a3) ∧ f k = r := ⟨x, fun _ _ _ _ => rfl, h⟩
theorem lc5_e {α0 α1 α2 α3 α4 β γ : Type} {x : α0 → α1 → α2 → α3 → α4 → β} {f : (α0 → α1 → α2 → α3 → α4 → β) → γ} {r : γ} (h : lc x f = r) : ∃ k : α0 → α1 → α2 → α3 → α4 → β, (∀ a0 a1 a2 a3 a4, k a0 a1 a2 a3 a4 = x a0 a1 a2 a3 a4) ∧ f k = r := ⟨x, fun _ _ _ _ _ => rfl, h⟩
theorem lc6_e {α0 α1 α2 α3 α4 α5 β γ : Type} {x : α0 → α1 → α2 → α3 → α4 → α5 → β} {f : (α0 → α1 → α2 → α3 → α4 → α5 → β) → γ} {r : γ} (h : lc x f = r) : ∃ k : α0 → α1 → α2 → α3 → α4 → α5 → β, (∀ a0 a1 a2 a3 a4 a5, k a0 a1 a2 a3 a4 a5 = x a0 a1 a2 a3 a4 a5) ∧ f k = r := ⟨x, fun _ _ _ _ _ _ => rfl, h⟩
theorem lc7_e {α0 α1 α2 α3 α4 α5 α6 β γ : Type} {x : α0 → α1 → α2 → α3 → α4 → α5 → α6 → β} {f : (α0 → α1 → α2 → α3 → α4 → α5 → α6 → β) → γ} {r : γ} (h : lc x f = r) : ∃ k : α0 → α1 → α2 → α3 → α4 → α5 → α6 → β, (∀ a0 a1 a2 a3 a4 a5 a6, k a0 a1 a2 a3 a4 a5 a6 = x a0 a1 a2 a3 a4 a5 a6) ∧ f k = r := ⟨x, fun _ _ _ _ _ _ _ => rfl, h⟩
theorem lc8_e {α0 α1 α2 α3 α4 α5 α6 α7 β γ : Type} {x : α0 → α1 → α2 → α3 → α4 → α5 → α6 → α7 → β} {f : (α0 → α1 → α2 → α3 → α4 → α5 → α6 → α7 → β) → γ} {r : γ} (h : lc x f = r) : ∃ k : α0 → α1 → α2 → α3 → α4 → α5 → α6 → α7 → β, (∀ a0 a1 a2 a3 a4 a5 a6 a7, k a0 a1 a2 a3 a4 a5 a6 a7 = x a0 a1 a2 a3 a4 a5 a6 a7) ∧ f k = r := ⟨x, fun _ _ _ _ _ _ _ _ => rfl, h⟩
theorem lc9_e {α0 α1 α2 α3 α4 α5 α6 α7 α8 β γ : Type} {x : α0 → α1 → α2 → α3 → α4 → α5 → α6 → α7 → α8 → β} {f : (α0 → α1 → α2 → α3 → α4 → α5 → α6 → α7 → α8 → β) → γ} {r : γ} (h : lc x f = r) : ∃ k : α0 → α1 → α2 → α3 → α4 → α5 → α6 → α7 → α8 → β, (∀ a0 a1 a2 a3 a4 a5 a6 a7 a8, k a0 a1 a2 a3 a4 a5 a6 a7 a8 = x a0 a1 a2 a3 a4 a5 a6 a7 a8) ∧ f k = r := ⟨x, fun _ _ _ _ _ _ _ _ _ => rfl, h⟩
theorem lc10_e {α0 α1 α2 α3 α4 α5 α6 α7 α8 α9 β γ : Type} {x : α0 → α1 → α2 → α3 → α4 → α5 → α6 → α7 → α8 → α9 → β} {f : (α0 → α1 → α2 → α3 → α4 → α5 → α6 → α7 → α8 → α9 → β) → γ} {r : γ} (h : lc x f = r) : ∃ k : α0 → α1 → α2 → α3 → α4 → α5 → α6 → α7 → α8 → α9 → β, (∀ a0 a1 a2 a3 a4 a5 a6 a7 a8 a9, k a0 a1 a2 a3 a4 a5 a6 a7 a8 a9 = x a0 a1 a2 a3 a4 a5 a6 a7 a8 a9) ∧ f k = r := ⟨x, fun _ _ _ _ _ _ _ _ _ _ => rfl, h⟩
theorem lc11_e {α0 α1 α2 α3 α4 α5 α6 α7 α8 α9 α10 β γ : Type} {x : α0 → α1 → α2 → α3 → α4 → α5 → α6 → α7 → α8 → α9 → α10 → β} {f : (α0 → α1 → α2 → α3 → α4 → α5 → α6 → α7 → α8 → α9 → α10 → β) → γ} {r : γ} (h : lc x f = r) : ∃ k : α0 → α1 → α2 → α3 → α4 → α5 → α6 → α7 → α8 → α9 → α10 → β, (∀ a0 a1 a2 a3 a4 a5 a6 a7 a8 a9 a10, k a0 a1 a2 a3 a4 a5 a6 a7 a8 a9 a10 = x a0 a1 a2 a3 a4 a5 a6 a7 a8 a9 a10) ∧ f k = r := ⟨x, fun _ _ _ _ _ _ _ _ _ _ _ => rfl, h⟩
theorem lc12_e {α0 α1 α2 α3 α4 α5 α6 α7 α8 α9 α10 α11 β γ : Type} {x : α0 → α1 → α2 → α3 → α4 → α5 → α6 → α7 → α8 → α9 → α10 → α11 → β} {f : (α0 → α1 → α2 → α3 → α4 → α5 → α6 → α7 → α8 → α9 → α10 → α11 → β) → γ} {r : γ} (h : lc x f = r) : ∃ k : α0 → α1 → α2 → α3 → α4 → α5 → α6 → α7 → α8 → α9 → α10 → α11 → β, (∀ a0 a1 a2 a3 a4 a5 a6 a7 a8 a9 a10 a11, k a0 a1 a2 a3 a4 a5 a6 a7 a8 a9 a10 a11 = x a0 a1 a2 a3 a4 a5 a6 a7 a8 a9 a10 a11) ∧ f k = r := ⟨x, fun _ _ _ _ _ _ _ _ _ _ _ _ => rfl, h⟩
theorem lc13_e {α0 α1 α2 α3 α4 α5 α6 α7 α8 α9 α10 α11 α12 β γ : Type} {x : α0 → α1 → α2 → α3 → α4 → α5 → α6 → α7 → α8 → α9 → α10 → α11 → α12 → β} {f : (α0 → α1 → α2 → α3 → α4 → α5 → α6 → α7 → α8 → α9 → α10 → α11 → α12 → β) → γ} {r : γ} (h : lc x f = r) : ∃ k : α0 → α1 → α2 → α3 → α4 → α5 → α6 → α7 → α8 → α9 → α10 → α11 → α12 → β, (∀ a0 a1 a2 a3 a4 a5 a6 a7 a8 a9 a10 a11 a12, k a0 a1 a2 a3 a4 a5 a6 a7 a8 a9 a10 a11 a12 = x a0 a1 a2 a3 a4 a5 a6 a7 a8 a9 a10 a11 a12) ∧ f k = r := ⟨x, fun _ _ _ _ _ _ _ _ _ _ _ _ _ => rfl, h⟩
theorem lc14_e {α0 α1 α2 α3 α4 α5 α6 α7 α8 α9 α10 α11 α12 α13 β γ : Type} {x : α0 → α1 → α2 → α3 → α4 → α5 → α6 → α7 → α8 → α9 → α10 → α11 → α12 → α13 → β} {f : (α0 → α1 → α2 → α3 → α4 → α5 → α6 → α7 → α8 → α9 → α10 → α11 → α12 → α13 → β) → γ} {r : γ} (h : lc x f = r) : ∃ k : α0 → α1 → α2 → α3 → α4 → α5 → α6 → α7 → α8 → α9 → α10 → α11 → α12 → α13 → β, (∀ a0 a1 a2 a3 a4 a5 a6 a7 a8 a9 a10 a11 a12 a13, k a0 a1 a2 a3 a4 a5 a6 a7 a8 a9 a10 a11 a12 a13 = x a0 a1 a2 a3 a4 a5 a6 a7 a8 a9 a10 a11 a12 a13) ∧ f k = r := ⟨x, fun _ _ _ _ _ _ _ _ _ _ _ _ _ _ => rfl, h⟩
theorem lc15_e {α0 α1 α2 α3 α4 α5 α6 α7 α8 α9 α10 α11 α12 α13 α14 β γ : Type} {x : α0 → α1 → α2 → α3 → α4 → α5 → α6 → α7 → α8 → α9 → α10 → α11 → α12 → α13 → α14 → β} {f : (α0 → α1 → α2 → α3 → α4 → α5 → α6 → α7 → α8 → α9 → α10 → α11 → α12 → α13 → α14 → β) → γ} {r : γ} (h : lc x f = r) : ∃ k : α0 → α1 → α2 → α3 → α4 → α5 → α6 → α7 → α8 → α9 → α10 → α11 → α12 → α13 → α14 → β, (∀ a0 a1 a2 a3 a4 a5 a6 a7 a8 a9 a10 a11 a12 a13 a14, k a0 a1 a2 a3 a4 a5 a6 a7 a8 a9 a10 a11 a12 a13 a14 = x a0 a1 a2 a3 a4 a5 a6 a7 a8 a9 a10 a11 a12 a13 a14) ∧ f k = r := ⟨x, fun _ _ _ _ _ _ _ _ _ _ _ _ _ _ _ => rfl, h⟩
theorem lc16_e {α0 α1 α2 α3 α4 α5 α6 α7 α8 α9 α10 α11 α12 α13 α14 α15 β γ : Type} {x : α0 → α1 → α2 → α3 → α4 → α5 → α6 → α7 → α8 → α9 → α10 → α11 → α12 → α13 → α14 → α15 → β} {f : (α0 → α1 → α2 → α3 → α4 → α5 → α6 → α7 → α8 → α9 → α10 → α11 → α12 → α13 → α14 → α15 → β) → γ} {r : γ} (h : lc x f = r) : ∃ k : α0 → α1 → α2 → α3 → α4 → α5 → α6 → α7 → α8 → α9 → α10 → α11 → α12 → α13 → α14 → α15 → β, (∀ a0 a1 a2 a3 a4 a5 a6 a7 a8 a9 a10 a11 a12 a13 a14 a15, k a0 a1 a2 a3 a4 a5 a6 a7 a8 a9 a10 a11 a12 a13 a14 a15 = x a0 a1 a2 a3 a4 a5 a6 a7 a8 a9 a10 a11 a12 a13 a14 a15) ∧ f k = r := ⟨x, fun _ _ _ _ _ _ _ _ _ _ _ _ _ _ _ _ => rfl, h⟩
theorem lc0_e {β γ : Type} {x : β} {f : β → γ} {r : γ} (h : lc x f = r) : ∃ k : β, k = x ∧ f k = r := ⟨x, rfl, h⟩
theorem ro_in_i {l : Launch} {D : va_G} {cI cJ cZ cS : ClassId} {y : MethodName} {bytes : ByteArray} {maxL : Nat} {fr lo : Nat} {own : String} {W0 : va_W} {av : List Value} {v : Int32} (hy : plainName y.cls = true) (hown : y.cls = own) (hlen : (lg_sl av).length ≤ maxL) (body : ∀ (p : Program) (e : Env) (s : State) (m : MethodId) (args : Array Value) (below : List Frame) (meth : Method) (c : Code) (ls : Array Slot) (Q : State → Prop), Ev p s m args c bytes maxL own D cI cJ cZ cS → (∀ (v' : Int32) (pc : Nat) (ls : Array Slot), decode bytes pc = .ok (.ireturn, 1) → some v' = some v → W p l e (roR fr lo) s m args below meth c s.heap [] 0 0 Q (F0 m pc ls [.int v'])) → va_P D vwCl W0 s.heap → lv_has ls maxL (lv_args 0 av) → W p l e (roR fr lo) s m args below meth c s.heap [] 0 0 Q (F0 m 0 ls [])) : RoC l D cI cJ cZ cS y bytes maxL (some .int) fr lo W0 av (some (.int v)) := by
  subst hown
  refine Met.ofW (cc := bytes) (maxL := maxL) (ret := (some .int)) hy rfl ?_
  intro p e s m args below meth c s₁ B hml hv
  obtain ⟨rfl, hG, hP⟩ := hv
  have hts := atoms_spec (ws := cws y bytes maxL (some .int)) B.pre
  have hl := lv_entry av (n := maxL) hlen
  rw [lg_entry_eq]
  generalize (lg_sl av ++ List.replicate (maxL - (lg_sl av).length) Slot.unset).toArray = ls at hl ⊢
  exact body p e s m _ below meth c ls _ ⟨B.exec, B.bytes, hml, findClass_of_methodNamed B.named, fun w h => hts w (List.mem_cons_of_mem _ h), hG⟩ (fun v' pc ls hd hf => r_iret B.exec B.bytes B.returns B.notSynchronized hf hd) hP hl
theorem ro_in_l {l : Launch} {D : va_G} {cI cJ cZ cS : ClassId} {y : MethodName} {bytes : ByteArray} {maxL : Nat} {fr lo : Nat} {own : String} {W0 : va_W} {av : List Value} {v : Int64} (hy : plainName y.cls = true) (hown : y.cls = own) (hlen : (lg_sl av).length ≤ maxL) (body : ∀ (p : Program) (e : Env) (s : State) (m : MethodId) (args : Array Value) (below : List Frame) (meth : Method) (c : Code) (ls : Array Slot) (Q : State → Prop), Ev p s m args c bytes maxL own D cI cJ cZ cS → (∀ (v' : Int64) (pc : Nat) (ls : Array Slot), decode bytes pc = .ok (.lreturn, 1) → some v' = some v → W p l e (roR fr lo) s m args below meth c s.heap [] 0 0 Q (F0 m pc ls [.long v'])) → va_P D vwCl W0 s.heap → lv_has ls maxL (lv_args 0 av) → W p l e (roR fr lo) s m args below meth c s.heap [] 0 0 Q (F0 m 0 ls [])) : RoC l D cI cJ cZ cS y bytes maxL (some .long) fr lo W0 av (some (.long v)) := by
  subst hown
  refine Met.ofW (cc := bytes) (maxL := maxL) (ret := (some .long)) hy rfl ?_
  intro p e s m args below meth c s₁ B hml hv
  obtain ⟨rfl, hG, hP⟩ := hv
  have hts := atoms_spec (ws := cws y bytes maxL (some .long)) B.pre
  have hl := lv_entry av (n := maxL) hlen
  rw [lg_entry_eq]
  generalize (lg_sl av ++ List.replicate (maxL - (lg_sl av).length) Slot.unset).toArray = ls at hl ⊢
  exact body p e s m _ below meth c ls _ ⟨B.exec, B.bytes, hml, findClass_of_methodNamed B.named, fun w h => hts w (List.mem_cons_of_mem _ h), hG⟩ (fun v' pc ls hd hf => r_lret B.exec B.bytes B.returns B.notSynchronized hf hd) hP hl
theorem ro_in_z {l : Launch} {D : va_G} {cI cJ cZ cS : ClassId} {y : MethodName} {bytes : ByteArray} {maxL : Nat} {fr lo : Nat} {own : String} {W0 : va_W} {av : List Value} {v : Int32} (hy : plainName y.cls = true) (hown : y.cls = own) (hlen : (lg_sl av).length ≤ maxL) (body : ∀ (p : Program) (e : Env) (s : State) (m : MethodId) (args : Array Value) (below : List Frame) (meth : Method) (c : Code) (ls : Array Slot) (Q : State → Prop), Ev p s m args c bytes maxL own D cI cJ cZ cS → (∀ (v' : Int32) (pc : Nat) (ls : Array Slot), decode bytes pc = .ok (.ireturn, 1) → narrow .boolean (.int v') = .int v' → some v' = some v → W p l e (roR fr lo) s m args below meth c s.heap [] 0 0 Q (F0 m pc ls [.int v'])) → va_P D vwCl W0 s.heap → lv_has ls maxL (lv_args 0 av) → W p l e (roR fr lo) s m args below meth c s.heap [] 0 0 Q (F0 m 0 ls [])) : RoC l D cI cJ cZ cS y bytes maxL (some .boolean) fr lo W0 av (some (.int v)) := by
  subst hown
  refine Met.ofW (cc := bytes) (maxL := maxL) (ret := (some .boolean)) hy rfl ?_
  intro p e s m args below meth c s₁ B hml hv
  obtain ⟨rfl, hG, hP⟩ := hv
  have hts := atoms_spec (ws := cws y bytes maxL (some .boolean)) B.pre
  have hl := lv_entry av (n := maxL) hlen
  rw [lg_entry_eq]
  generalize (lg_sl av ++ List.replicate (maxL - (lg_sl av).length) Slot.unset).toArray = ls at hl ⊢
  exact body p e s m _ below meth c ls _ ⟨B.exec, B.bytes, hml, findClass_of_methodNamed B.named, fun w h => hts w (List.mem_cons_of_mem _ h), hG⟩ (fun v' pc ls hd hn hf => r_zret B.exec B.bytes B.returns B.notSynchronized hn hf hd) hP hl
theorem rw_in_i {l : Launch} {D : va_G} {cI cJ cZ cS : ClassId} {y : MethodName} {bytes : ByteArray} {maxL : Nat} {fr lo : Nat} {own : String} {W0 W1 : va_W} {sz : Nat} {av : List Value} {v : Int32} (hy : plainName y.cls = true) (hown : y.cls = own) (hlen : (lg_sl av).length ≤ maxL) (body : ∀ (p : Program) (e : Env) (s : State) (m : MethodId) (args : Array Value) (below : List Frame) (meth : Method) (c : Code) (ls : Array Slot) (Q : State → Prop) (A : Nat → Prop), Ev p s m args c bytes maxL own D cI cJ cZ cS → (∀ q, s.heap.size ≤ q → A q) → (∀ (v' : Int32) (H : Heap) (locs : List Loc) (pc : Nat) (ls : Array Slot), decode bytes pc = .ok (.ireturn, 1) → v' = v → va_P D vwCl W1 H → va_D A W1 → va_S A s.heap H locs → W p l e (roR fr lo) s m args below meth c H locs 0 0 Q (F0 m pc ls [.int v'])) → va_P D vwCl W0 s.heap → va_D A W0 → va_S A s.heap s.heap [] → lv_has ls maxL (lv_args 0 av) → W p l e (roR fr lo) s m args below meth c s.heap [] 0 0 Q (F0 m 0 ls [])) : RwC l D cI cJ cZ cS y bytes maxL (some .int) fr lo W0 sz av (some (.int v)) W1 := by
  subst hown
  refine Met.ofW (cc := bytes) (maxL := maxL) (ret := (some .int)) hy rfl ?_
  intro p e s m args below meth c s₁ B hml hv
  obtain ⟨rfl, rfl, hG, hP, hD0⟩ := hv
  have hts := atoms_spec (ws := cws y bytes maxL (some .int)) B.pre
  have hD := hD0.self (sz := s.heap.size)
  generalize hAe : va_A W0 s.heap.size = A at hD ⊢
  have hA : ∀ q : Nat, s.heap.size ≤ q → A q := fun q h => by rw [← hAe]; exact Or.inr h
  have hl := lv_entry av (n := maxL) hlen
  rw [lg_entry_eq]
  generalize (lg_sl av ++ List.replicate (maxL - (lg_sl av).length) Slot.unset).toArray = ls at hl ⊢
  exact body p e s m _ below meth c ls _ A ⟨B.exec, B.bytes, hml, findClass_of_methodNamed B.named, fun w h => hts w (List.mem_cons_of_mem _ h), hG⟩ hA (fun v' H locs pc ls hd hv a1 a2 a3 => w_iret B.exec B.bytes B.returns B.notSynchronized hv a1 a2 a3 hd) hP hD va_S.rf hl
theorem rw_in_v {l : Launch} {D : va_G} {cI cJ cZ cS : ClassId} {y : MethodName} {bytes : ByteArray} {maxL : Nat} {fr lo : Nat} {own : String} {W0 W1 : va_W} {sz : Nat} {av : List Value} (hy : plainName y.cls = true) (hown : y.cls = own) (hlen : (lg_sl av).length ≤ maxL) (body : ∀ (p : Program) (e : Env) (s : State) (m : MethodId) (args : Array Value) (below : List Frame) (meth : Method) (c : Code) (ls : Array Slot) (Q : State → Prop) (A : Nat → Prop), Ev p s m args c bytes maxL own D cI cJ cZ cS → (∀ q, s.heap.size ≤ q → A q) → (∀ (H : Heap) (locs : List Loc) (pc : Nat) (ls : Array Slot), decode bytes pc = .ok (.return_, 1) → va_P D vwCl W1 H → va_D A W1 → va_S A s.heap H locs → W p l e (roR fr lo) s m args below meth c H locs 0 0 Q (F0 m pc ls [])) → va_P D vwCl W0 s.heap → va_D A W0 → va_S A s.heap s.heap [] → lv_has ls maxL (lv_args 0 av) → W p l e (roR fr lo) s m args below meth c s.heap [] 0 0 Q (F0 m 0 ls [])) : RwC l D cI cJ cZ cS y bytes maxL none fr lo W0 sz av none W1 := by
  subst hown
  refine Met.ofW (cc := bytes) (maxL := maxL) (ret := none) hy rfl ?_
  intro p e s m args below meth c s₁ B hml hv
  obtain ⟨rfl, rfl, hG, hP, hD0⟩ := hv
  have hts := atoms_spec (ws := cws y bytes maxL none) B.pre
  have hD := hD0.self (sz := s.heap.size)
  generalize hAe : va_A W0 s.heap.size = A at hD ⊢
  have hA : ∀ q : Nat, s.heap.size ≤ q → A q := fun q h => by rw [← hAe]; exact Or.inr h
  have hl := lv_entry av (n := maxL) hlen
  rw [lg_entry_eq]
  generalize (lg_sl av ++ List.replicate (maxL - (lg_sl av).length) Slot.unset).toArray = ls at hl ⊢
  exact body p e s m _ below meth c ls _ A ⟨B.exec, B.bytes, hml, findClass_of_methodNamed B.named, fun w h => hts w (List.mem_cons_of_mem _ h), hG⟩ hA (fun H locs pc ls hd a1 a2 a3 => w_vret B.exec B.bytes B.returns B.notSynchronized a1 a2 a3 hd) hP hD va_S.rf hl
section MR
variable {p : Program} {l : Launch} {e : Env} {R : Room} {s : State} {m : MethodId} {args : Array Value} {below : List Frame} {meth : Method} {c : Code} {H H0 : Heap} {locs : List Loc} {cells slots : Nat} {Q : State → Prop} {cc : ByteArray} {pc : Nat} {ls : Array Slot} {rest : List Value} {D : va_G} {cI cJ cZ cS : ClassId} {nL : Nat} {own : String}
theorem r_mmin (E : Ev p s m args c cc nL own D cI cJ cZ cS) (hls : ls.size = nL) {index : Nat} (h1 : Cond.methodLink own index Lib.Math.min.name ∈ gw) (h2 : Cond.static Lib.Math.min.name ∈ gw) (h3 : Cond.initialized "java/lang/Math" ∈ gw) (h4 : Cond.code Lib.Math.min.name Lib.Math.min.code 2 (some .int) ∈ gw) (hf : 1 ≤ R.frames) (hlo : (rest.map fun v => v.category).sum + 13 ≤ R.locals) (hc : cells ≤ R.cells) (hs : slots ≤ R.slots) {x y : Int32} (hdg : decode cc pc = .ok (.invokestatic index, 3)) (kk : W p l e R s m args below meth c H locs cells slots Q (F0 m (pc + 3) ls (.int (imin x y) :: rest))) : W p l e R s m args below meth c H locs cells slots Q (F0 m pc ls (.int y :: .int x :: rest)) :=
  va_mmin E.1 E.2.1 (E.2.2.1.trans hls.symm) E.2.2.2.1 (E.2.2.2.2.1 _ h1) (E.2.2.2.2.1 _ h2) (E.2.2.2.2.1 _ h3) (E.2.2.2.2.1 _ h4) hf hlo hc hs hdg kk
theorem r_mmax (E : Ev p s m args c cc nL own D cI cJ cZ cS) (hls : ls.size = nL) {index : Nat} (h1 : Cond.methodLink own index Lib.Math.max.name ∈ gw) (h2 : Cond.static Lib.Math.max.name ∈ gw) (h3 : Cond.initialized "java/lang/Math" ∈ gw) (h4 : Cond.code Lib.Math.max.name Lib.Math.max.code 2 (some .int) ∈ gw) (hf : 1 ≤ R.frames) (hlo : (rest.map fun v => v.category).sum + 13 ≤ R.locals) (hc : cells ≤ R.cells) (hs : slots ≤ R.slots) {x y : Int32} (hdg : decode cc pc = .ok (.invokestatic index, 3)) (kk : W p l e R s m args below meth c H locs cells slots Q (F0 m (pc + 3) ls (.int (imax x y) :: rest))) : W p l e R s m args below meth c H locs cells slots Q (F0 m pc ls (.int y :: .int x :: rest)) :=
  va_mmax E.1 E.2.1 (E.2.2.1.trans hls.symm) E.2.2.2.1 (E.2.2.2.2.1 _ h1) (E.2.2.2.2.1 _ h2) (E.2.2.2.2.1 _ h3) (E.2.2.2.2.1 _ h4) hf hlo hc hs hdg kk
theorem r_mabs (E : Ev p s m args c cc nL own D cI cJ cZ cS) (hls : ls.size = nL) {index : Nat} (h1 : Cond.methodLink own index Lib.Math.abs.name ∈ gw) (h2 : Cond.static Lib.Math.abs.name ∈ gw) (h3 : Cond.initialized "java/lang/Math" ∈ gw) (h4 : Cond.code Lib.Math.abs.name Lib.Math.abs.code 1 (some .int) ∈ gw) (hf : 1 ≤ R.frames) (hlo : (rest.map fun v => v.category).sum + 13 ≤ R.locals) (hc : cells ≤ R.cells) (hs : slots ≤ R.slots) {x : Int32} (hdg : decode cc pc = .ok (.invokestatic index, 3)) (kk : W p l e R s m args below meth c H locs cells slots Q (F0 m (pc + 3) ls (.int (iabs x) :: rest))) : W p l e R s m args below meth c H locs cells slots Q (F0 m pc ls (.int x :: rest)) :=
  va_mabs E.1 E.2.1 (E.2.2.1.trans hls.symm) E.2.2.2.1 (E.2.2.2.2.1 _ h1) (E.2.2.2.2.1 _ h2) (E.2.2.2.2.1 _ h3) (E.2.2.2.2.1 _ h4) hf hlo hc hs hdg kk
end MR
end
