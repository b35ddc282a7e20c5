-- ===== PART A: goes FIRST, ahead of the names: the tables' words, and 'selects' of the private methods out of them =====
def lw_okq (q : MethodName × Nat) : Prop := (q.1.cls ≠ "java/lang/invoke/MethodHandle" ∧ q.1.cls ≠ "java/lang/invoke/VarHandle") ∧ Cond.instantiable q.1.cls q.2 ∈ tables_1 ∧ Cond.privateMethod q.1 ∈ tables_1 ∧ Cond.instanceMethod q.1 ∈ tables_1
theorem lw_p0 : lw_okq (⟨"TandemRide", "areSeated", "()Z"⟩, 7) := ⟨⟨by decide +kernel, by decide +kernel⟩, List.mem_of_getElem? (i := 14) (by decide +kernel), List.mem_of_getElem? (i := 390) (by decide +kernel), List.mem_of_getElem? (i := 391) (by decide +kernel)⟩
theorem lw_p1 : lw_okq (⟨"TandemRide$Ride", "start", "()V"⟩, 9) := ⟨⟨by decide +kernel, by decide +kernel⟩, List.mem_of_getElem? (i := 161) (by decide +kernel), List.mem_of_getElem? (i := 406) (by decide +kernel), List.mem_of_getElem? (i := 407) (by decide +kernel)⟩
theorem lw_p2 : lw_okq (⟨"TandemRide", "planIsRidden", "()Z"⟩, 7) := ⟨⟨by decide +kernel, by decide +kernel⟩, List.mem_of_getElem? (i := 14) (by decide +kernel), List.mem_of_getElem? (i := 432) (by decide +kernel), List.mem_of_getElem? (i := 433) (by decide +kernel)⟩
theorem lw_p3 : lw_okq (⟨"TandemRide$Search", "findHeats", "(LTandemRide$Setup;)V"⟩, 15) := ⟨⟨by decide +kernel, by decide +kernel⟩, List.mem_of_getElem? (i := 204) (by decide +kernel), List.mem_of_getElem? (i := 464) (by decide +kernel), List.mem_of_getElem? (i := 465) (by decide +kernel)⟩
theorem lw_p4 : lw_okq (⟨"TandemRide$Search", "stepAhead", "(III)V"⟩, 15) := ⟨⟨by decide +kernel, by decide +kernel⟩, List.mem_of_getElem? (i := 204) (by decide +kernel), List.mem_of_getElem? (i := 469) (by decide +kernel), List.mem_of_getElem? (i := 470) (by decide +kernel)⟩
theorem lw_p5 : lw_okq (⟨"TandemRide$Search", "listChoices", "(I)V"⟩, 15) := ⟨⟨by decide +kernel, by decide +kernel⟩, List.mem_of_getElem? (i := 204) (by decide +kernel), List.mem_of_getElem? (i := 474) (by decide +kernel), List.mem_of_getElem? (i := 475) (by decide +kernel)⟩
theorem lw_p6 : lw_okq (⟨"TandemRide$Search", "fewestOnward", "(IIII)I"⟩, 15) := ⟨⟨by decide +kernel, by decide +kernel⟩, List.mem_of_getElem? (i := 204) (by decide +kernel), List.mem_of_getElem? (i := 480) (by decide +kernel), List.mem_of_getElem? (i := 481) (by decide +kernel)⟩
theorem lw_p7 : lw_okq (⟨"TandemRide$Search", "chooseFirst", "(I)I"⟩, 15) := ⟨⟨by decide +kernel, by decide +kernel⟩, List.mem_of_getElem? (i := 204) (by decide +kernel), List.mem_of_getElem? (i := 489) (by decide +kernel), List.mem_of_getElem? (i := 490) (by decide +kernel)⟩
theorem lw_p8 : lw_okq (⟨"TandemRide$Search", "leastBeatFor", "(IILTandemRide$Rider;LTandemRide$Rider;)I"⟩, 15) := ⟨⟨by decide +kernel, by decide +kernel⟩, List.mem_of_getElem? (i := 204) (by decide +kernel), List.mem_of_getElem? (i := 493) (by decide +kernel), List.mem_of_getElem? (i := 494) (by decide +kernel)⟩
theorem lw_p9 : lw_okq (⟨"TandemRide", "secondsAtBeat", "(III)I"⟩, 7) := ⟨⟨by decide +kernel, by decide +kernel⟩, List.mem_of_getElem? (i := 14) (by decide +kernel), List.mem_of_getElem? (i := 502) (by decide +kernel), List.mem_of_getElem? (i := 503) (by decide +kernel)⟩
theorem lw_p10 : lw_okq (⟨"TandemRide", "unevenness", "(III)I"⟩, 7) := ⟨⟨by decide +kernel, by decide +kernel⟩, List.mem_of_getElem? (i := 14) (by decide +kernel), List.mem_of_getElem? (i := 541) (by decide +kernel), List.mem_of_getElem? (i := 542) (by decide +kernel)⟩
theorem lw_p11 : lw_okq (⟨"TandemRide$Setup", "stretchesOf", "(I)I"⟩, 14) := ⟨⟨by decide +kernel, by decide +kernel⟩, List.mem_of_getElem? (i := 22) (by decide +kernel), List.mem_of_getElem? (i := 563) (by decide +kernel), List.mem_of_getElem? (i := 564) (by decide +kernel)⟩
theorem lw_p12 : lw_okq (⟨"TandemRide$Search", "keepFewer", "(II)V"⟩, 15) := ⟨⟨by decide +kernel, by decide +kernel⟩, List.mem_of_getElem? (i := 204) (by decide +kernel), List.mem_of_getElem? (i := 578) (by decide +kernel), List.mem_of_getElem? (i := 579) (by decide +kernel)⟩
theorem lw_p13 : lw_okq (⟨"TandemRide", "believedBy", "(LTandemRide$Rider;I)I"⟩, 7) := ⟨⟨by decide +kernel, by decide +kernel⟩, List.mem_of_getElem? (i := 14) (by decide +kernel), List.mem_of_getElem? (i := 600) (by decide +kernel), List.mem_of_getElem? (i := 601) (by decide +kernel)⟩
theorem lw_p14 : lw_okq (⟨"TandemRide", "toldOfRider", "(II)I"⟩, 7) := ⟨⟨by decide +kernel, by decide +kernel⟩, List.mem_of_getElem? (i := 14) (by decide +kernel), List.mem_of_getElem? (i := 669) (by decide +kernel), List.mem_of_getElem? (i := 670) (by decide +kernel)⟩
theorem lw_p15 : lw_okq (⟨"TandemRideModel", "isThere", "(I)Z"⟩, 38) := ⟨⟨by decide +kernel, by decide +kernel⟩, List.mem_of_getElem? (i := 673) (by decide +kernel), List.mem_of_getElem? (i := 820) (by decide +kernel), List.mem_of_getElem? (i := 821) (by decide +kernel)⟩
def lw_privs_1 : List (MethodName × Nat) := [(⟨"TandemRide", "areSeated", "()Z"⟩, 7), (⟨"TandemRide$Ride", "start", "()V"⟩, 9), (⟨"TandemRide", "planIsRidden", "()Z"⟩, 7), (⟨"TandemRide$Search", "findHeats", "(LTandemRide$Setup;)V"⟩, 15), (⟨"TandemRide$Search", "stepAhead", "(III)V"⟩, 15), (⟨"TandemRide$Search", "listChoices", "(I)V"⟩, 15), (⟨"TandemRide$Search", "fewestOnward", "(IIII)I"⟩, 15), (⟨"TandemRide$Search", "chooseFirst", "(I)I"⟩, 15), (⟨"TandemRide$Search", "leastBeatFor", "(IILTandemRide$Rider;LTandemRide$Rider;)I"⟩, 15), (⟨"TandemRide", "secondsAtBeat", "(III)I"⟩, 7), (⟨"TandemRide", "unevenness", "(III)I"⟩, 7), (⟨"TandemRide$Setup", "stretchesOf", "(I)I"⟩, 14), (⟨"TandemRide$Search", "keepFewer", "(II)V"⟩, 15), (⟨"TandemRide", "believedBy", "(LTandemRide$Rider;I)I"⟩, 7), (⟨"TandemRide", "toldOfRider", "(II)I"⟩, 7), (⟨"TandemRideModel", "isThere", "(I)Z"⟩, 38)]
theorem lw_r1 : ∀ q ∈ lw_privs_1, lw_okq q := List.forall_mem_cons.mpr ⟨lw_p0, List.forall_mem_cons.mpr ⟨lw_p1, List.forall_mem_cons.mpr ⟨lw_p2, List.forall_mem_cons.mpr ⟨lw_p3, List.forall_mem_cons.mpr ⟨lw_p4, List.forall_mem_cons.mpr ⟨lw_p5, List.forall_mem_cons.mpr ⟨lw_p6, List.forall_mem_cons.mpr ⟨lw_p7, List.forall_mem_cons.mpr ⟨lw_p8, List.forall_mem_cons.mpr ⟨lw_p9, List.forall_mem_cons.mpr ⟨lw_p10, List.forall_mem_cons.mpr ⟨lw_p11, List.forall_mem_cons.mpr ⟨lw_p12, List.forall_mem_cons.mpr ⟨lw_p13, List.forall_mem_cons.mpr ⟨lw_p14, List.forall_mem_cons.mpr ⟨lw_p15, fun _ h => absurd h List.not_mem_nil⟩⟩⟩⟩⟩⟩⟩⟩⟩⟩⟩⟩⟩⟩⟩⟩
theorem lw_p16 : lw_okq (⟨"TandemRideModel", "faultOfWay", "()I"⟩, 38) := ⟨⟨by decide +kernel, by decide +kernel⟩, List.mem_of_getElem? (i := 673) (by decide +kernel), List.mem_of_getElem? (i := 848) (by decide +kernel), List.mem_of_getElem? (i := 849) (by decide +kernel)⟩
theorem lw_p17 : lw_okq (⟨"TandemRideModel", "faultOfPlan", "()I"⟩, 38) := ⟨⟨by decide +kernel, by decide +kernel⟩, List.mem_of_getElem? (i := 673) (by decide +kernel), List.mem_of_getElem? (i := 855) (by decide +kernel), List.mem_of_getElem? (i := 856) (by decide +kernel)⟩
theorem lw_p18 : lw_okq (⟨"TandemRideModel", "treadOf", "(III)I"⟩, 38) := ⟨⟨by decide +kernel, by decide +kernel⟩, List.mem_of_getElem? (i := 673) (by decide +kernel), List.mem_of_getElem? (i := 874) (by decide +kernel), List.mem_of_getElem? (i := 875) (by decide +kernel)⟩
theorem lw_p19 : lw_okq (⟨"TandemRideModel", "isNobody", "()Z"⟩, 38) := ⟨⟨by decide +kernel, by decide +kernel⟩, List.mem_of_getElem? (i := 673) (by decide +kernel), List.mem_of_getElem? (i := 882) (by decide +kernel), List.mem_of_getElem? (i := 883) (by decide +kernel)⟩
theorem lw_p20 : lw_okq (⟨"TandemRideModel", "rideAll", "()V"⟩, 38) := ⟨⟨by decide +kernel, by decide +kernel⟩, List.mem_of_getElem? (i := 673) (by decide +kernel), List.mem_of_getElem? (i := 886) (by decide +kernel), List.mem_of_getElem? (i := 887) (by decide +kernel)⟩
theorem lw_p21 : lw_okq (⟨"TandemRideModel", "ride", "(I)V"⟩, 38) := ⟨⟨by decide +kernel, by decide +kernel⟩, List.mem_of_getElem? (i := 673) (by decide +kernel), List.mem_of_getElem? (i := 890) (by decide +kernel), List.mem_of_getElem? (i := 891) (by decide +kernel)⟩
theorem lw_p22 : lw_okq (⟨"TandemRideModel", "begin", "()V"⟩, 38) := ⟨⟨by decide +kernel, by decide +kernel⟩, List.mem_of_getElem? (i := 673) (by decide +kernel), List.mem_of_getElem? (i := 894) (by decide +kernel), List.mem_of_getElem? (i := 895) (by decide +kernel)⟩
theorem lw_p23 : lw_okq (⟨"TandemRideModel", "rideOne", "(I)V"⟩, 38) := ⟨⟨by decide +kernel, by decide +kernel⟩, List.mem_of_getElem? (i := 673) (by decide +kernel), List.mem_of_getElem? (i := 898) (by decide +kernel), List.mem_of_getElem? (i := 899) (by decide +kernel)⟩
theorem lw_p24 : lw_okq (⟨"TandemRideModel", "rest", "()V"⟩, 38) := ⟨⟨by decide +kernel, by decide +kernel⟩, List.mem_of_getElem? (i := 673) (by decide +kernel), List.mem_of_getElem? (i := 902) (by decide +kernel), List.mem_of_getElem? (i := 903) (by decide +kernel)⟩
theorem lw_p25 : lw_okq (⟨"TandemRideModel", "winded", "(III)I"⟩, 38) := ⟨⟨by decide +kernel, by decide +kernel⟩, List.mem_of_getElem? (i := 673) (by decide +kernel), List.mem_of_getElem? (i := 906) (by decide +kernel), List.mem_of_getElem? (i := 907) (by decide +kernel)⟩
theorem lw_p26 : lw_okq (⟨"TandemRideModel", "isRefused", "()Z"⟩, 38) := ⟨⟨by decide +kernel, by decide +kernel⟩, List.mem_of_getElem? (i := 673) (by decide +kernel), List.mem_of_getElem? (i := 924) (by decide +kernel), List.mem_of_getElem? (i := 925) (by decide +kernel)⟩
theorem lw_p27 : lw_okq (⟨"TandemRideModel", "soonestOf", "(II)I"⟩, 38) := ⟨⟨by decide +kernel, by decide +kernel⟩, List.mem_of_getElem? (i := 673) (by decide +kernel), List.mem_of_getElem? (i := 946) (by decide +kernel), List.mem_of_getElem? (i := 947) (by decide +kernel)⟩
theorem lw_p28 : lw_okq (⟨"TandemRideModel", "goBack", "(II)V"⟩, 38) := ⟨⟨by decide +kernel, by decide +kernel⟩, List.mem_of_getElem? (i := 673) (by decide +kernel), List.mem_of_getElem? (i := 950) (by decide +kernel), List.mem_of_getElem? (i := 951) (by decide +kernel)⟩
theorem lw_p29 : lw_okq (⟨"TandemRideModel", "findQuickest", "(III)V"⟩, 38) := ⟨⟨by decide +kernel, by decide +kernel⟩, List.mem_of_getElem? (i := 673) (by decide +kernel), List.mem_of_getElem? (i := 954) (by decide +kernel), List.mem_of_getElem? (i := 955) (by decide +kernel)⟩
theorem lw_p30 : lw_okq (⟨"TandemRideModel", "secondsBy", "(IIIII)I"⟩, 38) := ⟨⟨by decide +kernel, by decide +kernel⟩, List.mem_of_getElem? (i := 673) (by decide +kernel), List.mem_of_getElem? (i := 959) (by decide +kernel), List.mem_of_getElem? (i := 960) (by decide +kernel)⟩
theorem lw_p31 : lw_okq (⟨"TandemRideModel", "bestFrom", "(IIIIII)I"⟩, 38) := ⟨⟨by decide +kernel, by decide +kernel⟩, List.mem_of_getElem? (i := 673) (by decide +kernel), List.mem_of_getElem? (i := 963) (by decide +kernel), List.mem_of_getElem? (i := 964) (by decide +kernel)⟩
def lw_privs_2 : List (MethodName × Nat) := [(⟨"TandemRideModel", "faultOfWay", "()I"⟩, 38), (⟨"TandemRideModel", "faultOfPlan", "()I"⟩, 38), (⟨"TandemRideModel", "treadOf", "(III)I"⟩, 38), (⟨"TandemRideModel", "isNobody", "()Z"⟩, 38), (⟨"TandemRideModel", "rideAll", "()V"⟩, 38), (⟨"TandemRideModel", "ride", "(I)V"⟩, 38), (⟨"TandemRideModel", "begin", "()V"⟩, 38), (⟨"TandemRideModel", "rideOne", "(I)V"⟩, 38), (⟨"TandemRideModel", "rest", "()V"⟩, 38), (⟨"TandemRideModel", "winded", "(III)I"⟩, 38), (⟨"TandemRideModel", "isRefused", "()Z"⟩, 38), (⟨"TandemRideModel", "soonestOf", "(II)I"⟩, 38), (⟨"TandemRideModel", "goBack", "(II)V"⟩, 38), (⟨"TandemRideModel", "findQuickest", "(III)V"⟩, 38), (⟨"TandemRideModel", "secondsBy", "(IIIII)I"⟩, 38), (⟨"TandemRideModel", "bestFrom", "(IIIIII)I"⟩, 38)]
theorem lw_r2 : ∀ q ∈ lw_privs_2, lw_okq q := List.forall_mem_cons.mpr ⟨lw_p16, List.forall_mem_cons.mpr ⟨lw_p17, List.forall_mem_cons.mpr ⟨lw_p18, List.forall_mem_cons.mpr ⟨lw_p19, List.forall_mem_cons.mpr ⟨lw_p20, List.forall_mem_cons.mpr ⟨lw_p21, List.forall_mem_cons.mpr ⟨lw_p22, List.forall_mem_cons.mpr ⟨lw_p23, List.forall_mem_cons.mpr ⟨lw_p24, List.forall_mem_cons.mpr ⟨lw_p25, List.forall_mem_cons.mpr ⟨lw_p26, List.forall_mem_cons.mpr ⟨lw_p27, List.forall_mem_cons.mpr ⟨lw_p28, List.forall_mem_cons.mpr ⟨lw_p29, List.forall_mem_cons.mpr ⟨lw_p30, List.forall_mem_cons.mpr ⟨lw_p31, fun _ h => absurd h List.not_mem_nil⟩⟩⟩⟩⟩⟩⟩⟩⟩⟩⟩⟩⟩⟩⟩⟩
theorem lw_p32 : lw_okq (⟨"TandemRideModel", "secondsFrom", "(IIIIIII)I"⟩, 38) := ⟨⟨by decide +kernel, by decide +kernel⟩, List.mem_of_getElem? (i := 673) (by decide +kernel), List.mem_of_getElem? (i := 967) (by decide +kernel), List.mem_of_getElem? (i := 968) (by decide +kernel)⟩
theorem lw_p33 : lw_okq (⟨"TandemRideModel", "secondsAt", "(II)I"⟩, 38) := ⟨⟨by decide +kernel, by decide +kernel⟩, List.mem_of_getElem? (i := 673) (by decide +kernel), List.mem_of_getElem? (i := 978) (by decide +kernel), List.mem_of_getElem? (i := 979) (by decide +kernel)⟩
theorem lw_p34 : lw_okq (⟨"TandemRideModel", "lost", "(III)I"⟩, 38) := ⟨⟨by decide +kernel, by decide +kernel⟩, List.mem_of_getElem? (i := 673) (by decide +kernel), List.mem_of_getElem? (i := 982) (by decide +kernel), List.mem_of_getElem? (i := 983) (by decide +kernel)⟩
theorem lw_p35 : lw_okq (⟨"TandemRideModel", "alone", "(III)I"⟩, 38) := ⟨⟨by decide +kernel, by decide +kernel⟩, List.mem_of_getElem? (i := 673) (by decide +kernel), List.mem_of_getElem? (i := 990) (by decide +kernel), List.mem_of_getElem? (i := 991) (by decide +kernel)⟩
theorem lw_p36 : lw_okq (⟨"TandemRideModel", "unevenBy", "(III)I"⟩, 38) := ⟨⟨by decide +kernel, by decide +kernel⟩, List.mem_of_getElem? (i := 673) (by decide +kernel), List.mem_of_getElem? (i := 1006) (by decide +kernel), List.mem_of_getElem? (i := 1007) (by decide +kernel)⟩
theorem lw_p37 : lw_okq (⟨"TandemRideModel", "bumps", "()I"⟩, 38) := ⟨⟨by decide +kernel, by decide +kernel⟩, List.mem_of_getElem? (i := 673) (by decide +kernel), List.mem_of_getElem? (i := 1021) (by decide +kernel), List.mem_of_getElem? (i := 1022) (by decide +kernel)⟩
theorem lw_p38 : lw_okq (⟨"TandemRideModel", "isBorne", "(II)Z"⟩, 38) := ⟨⟨by decide +kernel, by decide +kernel⟩, List.mem_of_getElem? (i := 673) (by decide +kernel), List.mem_of_getElem? (i := 1025) (by decide +kernel), List.mem_of_getElem? (i := 1026) (by decide +kernel)⟩
theorem lw_p39 : lw_okq (⟨"TandemRideModel", "stretchesOf", "(I)I"⟩, 38) := ⟨⟨by decide +kernel, by decide +kernel⟩, List.mem_of_getElem? (i := 673) (by decide +kernel), List.mem_of_getElem? (i := 1029) (by decide +kernel), List.mem_of_getElem? (i := 1030) (by decide +kernel)⟩
theorem lw_p40 : lw_okq (⟨"TandemRideModel", "believed", "(II)I"⟩, 38) := ⟨⟨by decide +kernel, by decide +kernel⟩, List.mem_of_getElem? (i := 673) (by decide +kernel), List.mem_of_getElem? (i := 1045) (by decide +kernel), List.mem_of_getElem? (i := 1046) (by decide +kernel)⟩
theorem lw_p41 : lw_okq (⟨"TandemRideModel", "corners", "()I"⟩, 38) := ⟨⟨by decide +kernel, by decide +kernel⟩, List.mem_of_getElem? (i := 673) (by decide +kernel), List.mem_of_getElem? (i := 1054) (by decide +kernel), List.mem_of_getElem? (i := 1055) (by decide +kernel)⟩
theorem lw_p42 : lw_okq (⟨"TandemRideModel", "holds", "(II)Z"⟩, 38) := ⟨⟨by decide +kernel, by decide +kernel⟩, List.mem_of_getElem? (i := 673) (by decide +kernel), List.mem_of_getElem? (i := 1080) (by decide +kernel), List.mem_of_getElem? (i := 1081) (by decide +kernel)⟩
theorem lw_p43 : lw_okq (⟨"TandemRideModel", "passAll", "()V"⟩, 38) := ⟨⟨by decide +kernel, by decide +kernel⟩, List.mem_of_getElem? (i := 673) (by decide +kernel), List.mem_of_getElem? (i := 1095) (by decide +kernel), List.mem_of_getElem? (i := 1096) (by decide +kernel)⟩
theorem lw_p44 : lw_okq (⟨"TandemRideModel", "pass", "(I)I"⟩, 38) := ⟨⟨by decide +kernel, by decide +kernel⟩, List.mem_of_getElem? (i := 673) (by decide +kernel), List.mem_of_getElem? (i := 1099) (by decide +kernel), List.mem_of_getElem? (i := 1100) (by decide +kernel)⟩
theorem lw_p45 : lw_okq (⟨"TandemRideModel", "toldOf", "(II)I"⟩, 38) := ⟨⟨by decide +kernel, by decide +kernel⟩, List.mem_of_getElem? (i := 673) (by decide +kernel), List.mem_of_getElem? (i := 1112) (by decide +kernel), List.mem_of_getElem? (i := 1113) (by decide +kernel)⟩
def lw_privs_3 : List (MethodName × Nat) := [(⟨"TandemRideModel", "secondsFrom", "(IIIIIII)I"⟩, 38), (⟨"TandemRideModel", "secondsAt", "(II)I"⟩, 38), (⟨"TandemRideModel", "lost", "(III)I"⟩, 38), (⟨"TandemRideModel", "alone", "(III)I"⟩, 38), (⟨"TandemRideModel", "unevenBy", "(III)I"⟩, 38), (⟨"TandemRideModel", "bumps", "()I"⟩, 38), (⟨"TandemRideModel", "isBorne", "(II)Z"⟩, 38), (⟨"TandemRideModel", "stretchesOf", "(I)I"⟩, 38), (⟨"TandemRideModel", "believed", "(II)I"⟩, 38), (⟨"TandemRideModel", "corners", "()I"⟩, 38), (⟨"TandemRideModel", "holds", "(II)Z"⟩, 38), (⟨"TandemRideModel", "passAll", "()V"⟩, 38), (⟨"TandemRideModel", "pass", "(I)I"⟩, 38), (⟨"TandemRideModel", "toldOf", "(II)I"⟩, 38)]
theorem lw_r3 : ∀ q ∈ lw_privs_3, lw_okq q := List.forall_mem_cons.mpr ⟨lw_p32, List.forall_mem_cons.mpr ⟨lw_p33, List.forall_mem_cons.mpr ⟨lw_p34, List.forall_mem_cons.mpr ⟨lw_p35, List.forall_mem_cons.mpr ⟨lw_p36, List.forall_mem_cons.mpr ⟨lw_p37, List.forall_mem_cons.mpr ⟨lw_p38, List.forall_mem_cons.mpr ⟨lw_p39, List.forall_mem_cons.mpr ⟨lw_p40, List.forall_mem_cons.mpr ⟨lw_p41, List.forall_mem_cons.mpr ⟨lw_p42, List.forall_mem_cons.mpr ⟨lw_p43, List.forall_mem_cons.mpr ⟨lw_p44, List.forall_mem_cons.mpr ⟨lw_p45, fun _ h => absurd h List.not_mem_nil⟩⟩⟩⟩⟩⟩⟩⟩⟩⟩⟩⟩⟩⟩
def lw_privs : List (MethodName × Nat) := lw_privs_1 ++ (lw_privs_2 ++ (lw_privs_3))
def lw_tbl : List Cond := k2_sels lw_privs ++ tables_1
theorem lw_privs_ok : ∀ q ∈ lw_privs, lw_okq q := by
  show ∀ q ∈ lw_privs_1 ++ (lw_privs_2 ++ (lw_privs_3)), lw_okq q
  exact List.forall_mem_append.mpr ⟨lw_r1, List.forall_mem_append.mpr ⟨lw_r2, lw_r3⟩⟩
theorem goodIn_r {big : List Cond} (ws : List Cond) (ps : List Nat) (hp : ws = ps.filterMap (fun i => big[i]?)) (h : ws.all goodWord = true) : GoodIn big ws := by
  intro w hw
  have h1 := List.all_eq_true.mp h w hw
  rw [hp] at hw
  obtain ⟨i, -, hi⟩ := List.mem_filterMap.mp hw
  have hm : w ∈ big := by first | exact List.mem_of_getElem? hi | exact List.getElem?_mem hi
  exact ⟨hm, good_of_word h1⟩
theorem goodIn_app {big a b : List Cond} (ha : GoodIn big a) (hb : GoodIn big b) : GoodIn big (a ++ b) := fun w h => (List.mem_append.mp h).elim (ha w) (hb w)
theorem goodIn_ca {big a b : List Cond} {c : Cond} (ha : GoodIn big (c :: a)) (hb : GoodIn big b) : GoodIn big (c :: (a ++ b)) := fun w h => (List.mem_cons.mp h).elim (fun e => ha w (List.mem_cons.mpr (Or.inl e))) (fun h => (List.mem_append.mp h).elim (fun h => ha w (List.mem_cons.mpr (Or.inr h))) (hb w))
theorem goodIn_sub {big ws : List Cond} (hm : ∀ w ∈ ws, w ∈ big) (h : ws.all goodWord = true) : GoodIn big ws := fun w hw => ⟨hm w hw, good_of_word (List.all_eq_true.mp h w hw)⟩

def RX0 : String := "TandemRide$Ground"
def TX0 : u_T := fun k => match k with
  | _ => ("", "", "", false)
def tyX0 : Nat → FieldType := fun k => match k with
  | _ => .int
abbrev wsX00 : List Cond := u_ws RX0 TX0 0
theorem nmX0 : ∀ a, a < 0 → ∀ b, b < 0 → a ≠ b → (TX0 a).2.1 ≠ (TX0 b).2.1 := by decide +kernel
theorem tyX0_ok : ∀ k, k < 0 → parseFieldDescriptor (TX0 k).2.2.1 = some (tyX0 k) := by decide +kernel
abbrev cX0_sortOf : ByteArray := prog_2_method_2_code
def yX0_sortOf : MethodName := ⟨RX0, "sortOf", "(I)I"⟩
abbrev cX0_hardOf : ByteArray := prog_2_method_3_code
def yX0_hardOf : MethodName := ⟨RX0, "hardOf", "(I)I"⟩
abbrev cX0_secondsOf : ByteArray := prog_2_method_4_code
def yX0_secondsOf : MethodName := ⟨RX0, "secondsOf", "(II)I"⟩
abbrev cX0_heatBehind : ByteArray := prog_2_method_5_code
def yX0_heatBehind : MethodName := ⟨RX0, "heatBehind", "(II)I"⟩
abbrev cX0_soreBehind : ByteArray := prog_2_method_6_code
def yX0_soreBehind : MethodName := ⟨RX0, "soreBehind", "(II)I"⟩
def RX1 : String := "TandemRide$Pad"
def TX1 : u_T := fun k => match k with
  | 0 => ("TandemRide$Pad", "row", "[I", true)
  | _ => ("TandemRide$Pad", "length", "I", false)
def tyX1 : Nat → FieldType := fun k => match k with
  | 0 => .array .int
  | _ => .int
abbrev wsX10 : List Cond := u_ws RX1 TX1 2
theorem nmX1 : ∀ a, a < 2 → ∀ b, b < 2 → a ≠ b → (TX1 a).2.1 ≠ (TX1 b).2.1 := by decide +kernel
theorem tyX1_ok : ∀ k, k < 2 → parseFieldDescriptor (TX1 k).2.2.1 = some (tyX1 k) := by decide +kernel
abbrev cX1_init : ByteArray := prog_3_method_1_code
def yX1_init : MethodName := ⟨RX1, "<init>", "()V"⟩
abbrev cX1_add : ByteArray := prog_3_method_2_code
def yX1_add : MethodName := ⟨RX1, "add", "(I)V"⟩
abbrev cX1_signAt : ByteArray := prog_3_method_3_code
def yX1_signAt : MethodName := ⟨RX1, "signAt", "(I)I"⟩
abbrev cX1_faultAsWay : ByteArray := prog_3_method_4_code
def yX1_faultAsWay : MethodName := ⟨RX1, "faultAsWay", "()I"⟩
def RX2 : String := "TandemRide$Plan"
def TX2 : u_T := fun k => match k with
  | 0 => ("TandemRide$Plan", "rest", "[Z", true)
  | 1 => ("TandemRide$Plan", "effortFront", "[I", true)
  | 2 => ("TandemRide$Plan", "effortBack", "[I", true)
  | _ => ("TandemRide$Plan", "beat", "[I", true)
def tyX2 : Nat → FieldType := fun k => match k with
  | 0 => .array .boolean
  | 1 => .array .int
  | 2 => .array .int
  | _ => .array .int
abbrev wsX20 : List Cond := u_ws RX2 TX2 4
theorem nmX2 : ∀ a, a < 4 → ∀ b, b < 4 → a ≠ b → (TX2 a).2.1 ≠ (TX2 b).2.1 := by decide +kernel
theorem tyX2_ok : ∀ k, k < 4 → parseFieldDescriptor (TX2 k).2.2.1 = some (tyX2 k) := by decide +kernel
abbrev cX2_init : ByteArray := prog_4_method_1_code
def yX2_init : MethodName := ⟨RX2, "<init>", "()V"⟩
abbrev cX2_read : ByteArray := prog_4_method_2_code
def yX2_read : MethodName := ⟨RX2, "read", "(LTandemRide$Pad;I)I"⟩
abbrev cX2_restsIn : ByteArray := prog_4_method_3_code
def yX2_restsIn : MethodName := ⟨RX2, "restsIn", "(I)Z"⟩
def RX3 : String := "TandemRide$Ride"
def TX3 : u_T := fun k => match k with
  | 0 => ("TandemRide$Ride", "seconds", "[I", true)
  | 1 => ("TandemRide$Ride", "windFront", "[I", true)
  | 2 => ("TandemRide$Ride", "windBack", "[I", true)
  | 3 => ("TandemRide$Ride", "heat", "[I", true)
  | 4 => ("TandemRide$Ride", "stuckAt", "I", false)
  | 5 => ("TandemRide$Ride", "reason", "I", false)
  | 6 => ("TandemRide$Ride", "treadsFront", "I", false)
  | 7 => ("TandemRide$Ride", "treadsBack", "I", false)
  | _ => ("TandemRide$Ride", "unseenBits", "I", false)
def tyX3 : Nat → FieldType := fun k => match k with
  | 0 => .array .int
  | 1 => .array .int
  | 2 => .array .int
  | 3 => .array .int
  | 4 => .int
  | 5 => .int
  | 6 => .int
  | 7 => .int
  | _ => .int
abbrev wsX30 : List Cond := u_ws RX3 TX3 9
theorem nmX3 : ∀ a, a < 9 → ∀ b, b < 9 → a ≠ b → (TX3 a).2.1 ≠ (TX3 b).2.1 := by decide +kernel
theorem tyX3_ok : ∀ k, k < 9 → parseFieldDescriptor (TX3 k).2.2.1 = some (tyX3 k) := by decide +kernel
abbrev cX3_init : ByteArray := prog_5_method_1_code
def yX3_init : MethodName := ⟨RX3, "<init>", "()V"⟩
abbrev cX3_go : ByteArray := prog_5_method_2_code
def yX3_go : MethodName := ⟨RX3, "go", "(LTandemRide$Setup;LTandemRide$Plan;I)V"⟩
abbrev cX3_start : ByteArray := prog_5_method_3_code
def yX3_start : MethodName := ⟨RX3, "start", "()V"⟩
abbrev cX3_reasonAgainst : ByteArray := prog_5_method_4_code
def yX3_reasonAgainst : MethodName := ⟨RX3, "reasonAgainst", "(IIII)I"⟩
def RX4 : String := "TandemRide$Rider"
def TX4 : u_T := fun k => match k with
  | 0 => ("TandemRide$Rider", "there", "Z", false)
  | 1 => ("TandemRide$Rider", "strength", "I", false)
  | 2 => ("TandemRide$Rider", "likes", "I", false)
  | 3 => ("TandemRide$Rider", "wind", "I", false)
  | _ => ("TandemRide$Rider", "thinks", "I", false)
def tyX4 : Nat → FieldType := fun k => match k with
  | 0 => .boolean
  | 1 => .int
  | 2 => .int
  | 3 => .int
  | _ => .int
abbrev wsX40 : List Cond := u_ws RX4 TX4 5
theorem nmX4 : ∀ a, a < 5 → ∀ b, b < 5 → a ≠ b → (TX4 a).2.1 ≠ (TX4 b).2.1 := by decide +kernel
theorem tyX4_ok : ∀ k, k < 5 → parseFieldDescriptor (TX4 k).2.2.1 = some (tyX4 k) := by decide +kernel
abbrev cX4_init : ByteArray := prog_6_method_1_code
def yX4_init : MethodName := ⟨RX4, "<init>", "()V"⟩
abbrev cX4_come : ByteArray := prog_6_method_2_code
def yX4_come : MethodName := ⟨RX4, "come", "(IIII)V"⟩
abbrev cX4_copyFrom : ByteArray := prog_6_method_3_code
def yX4_copyFrom : MethodName := ⟨RX4, "copyFrom", "(LTandemRide$Rider;)V"⟩
abbrev cX4_treads : ByteArray := prog_6_method_4_code
def yX4_treads : MethodName := ⟨RX4, "treads", "(II)I"⟩
abbrev cX4_treadsAsLiked : ByteArray := prog_6_method_5_code
def yX4_treadsAsLiked : MethodName := ⟨RX4, "treadsAsLiked", "(I)I"⟩
abbrev cX4_losesAt : ByteArray := prog_6_method_6_code
def yX4_losesAt : MethodName := ⟨RX4, "losesAt", "(II)I"⟩
abbrev cX4_windBehind : ByteArray := prog_6_method_7_code
def yX4_windBehind : MethodName := ⟨RX4, "windBehind", "(III)I"⟩
def RX5 : String := "TandemRide$Search"
def TX5 : u_T := fun k => match k with
  | 0 => ("TandemRide$Search", "fewest", "I", false)
  | 1 => ("TandemRide$Search", "firstStretch", "I", false)
  | 2 => ("TandemRide$Search", "pairTreads", "[I", true)
  | 3 => ("TandemRide$Search", "choiceFront", "[I", true)
  | 4 => ("TandemRide$Search", "choiceBack", "[I", true)
  | 5 => ("TandemRide$Search", "choiceSeconds", "[I", true)
  | 6 => ("TandemRide$Search", "choices", "I", false)
  | 7 => ("TandemRide$Search", "heatBits", "[I", true)
  | 8 => ("TandemRide$Search", "onward", "[I", false)
  | 9 => ("TandemRide$Search", "spare", "[I", false)
  | 10 => ("TandemRide$Search", "callsBySore", "[I", false)
  | 11 => ("TandemRide$Search", "callsBehind", "[I", false)
  | 12 => ("TandemRide$Search", "hottest", "I", false)
  | 13 => ("TandemRide$Search", "mostFront", "I", false)
  | _ => ("TandemRide$Search", "mostBack", "I", false)
def tyX5 : Nat → FieldType := fun k => match k with
  | 0 => .int
  | 1 => .int
  | 2 => .array .int
  | 3 => .array .int
  | 4 => .array .int
  | 5 => .array .int
  | 6 => .int
  | 7 => .array .int
  | 8 => .array .int
  | 9 => .array .int
  | 10 => .array .int
  | 11 => .array .int
  | 12 => .int
  | 13 => .int
  | _ => .int
abbrev wsX50 : List Cond := u_ws RX5 TX5 15
theorem nmX5 : ∀ a, a < 15 → ∀ b, b < 15 → a ≠ b → (TX5 a).2.1 ≠ (TX5 b).2.1 := by decide +kernel
theorem tyX5_ok : ∀ k, k < 15 → parseFieldDescriptor (TX5 k).2.2.1 = some (tyX5 k) := by decide +kernel
abbrev cX5_init : ByteArray := prog_7_method_1_code
def yX5_init : MethodName := ⟨RX5, "<init>", "()V"⟩
abbrev cX5_seek : ByteArray := prog_7_method_2_code
def yX5_seek : MethodName := ⟨RX5, "seek", "(LTandemRide$Setup;LTandemRide$Rider;LTandemRide$Rider;)V"⟩
abbrev cX5_findHeats : ByteArray := prog_7_method_3_code
def yX5_findHeats : MethodName := ⟨RX5, "findHeats", "(LTandemRide$Setup;)V"⟩
abbrev cX5_stepAhead : ByteArray := prog_7_method_4_code
def yX5_stepAhead : MethodName := ⟨RX5, "stepAhead", "(III)V"⟩
abbrev cX5_listChoices : ByteArray := prog_7_method_5_code
def yX5_listChoices : MethodName := ⟨RX5, "listChoices", "(I)V"⟩
abbrev cX5_fewestOnward : ByteArray := prog_7_method_6_code
def yX5_fewestOnward : MethodName := ⟨RX5, "fewestOnward", "(IIII)I"⟩
abbrev cX5_cellOf : ByteArray := prog_7_method_7_code
def yX5_cellOf : MethodName := ⟨RX5, "cellOf", "(III)I"⟩
abbrev cX5_chooseFirst : ByteArray := prog_7_method_8_code
def yX5_chooseFirst : MethodName := ⟨RX5, "chooseFirst", "(I)I"⟩
abbrev cX5_leastBeatFor : ByteArray := prog_7_method_9_code
def yX5_leastBeatFor : MethodName := ⟨RX5, "leastBeatFor", "(IILTandemRide$Rider;LTandemRide$Rider;)I"⟩
abbrev cX5_fewestCalls : ByteArray := prog_7_method_10_code
def yX5_fewestCalls : MethodName := ⟨RX5, "fewestCalls", "(LTandemRide$Setup;I)I"⟩
abbrev cX5_keepFewer : ByteArray := prog_7_method_11_code
def yX5_keepFewer : MethodName := ⟨RX5, "keepFewer", "(II)V"⟩
def RX6 : String := "TandemRide$Setup"
def TX6 : u_T := fun k => match k with
  | 0 => ("TandemRide$Setup", "riders", "[LTandemRide$Rider;", true)
  | 1 => ("TandemRide$Setup", "signs", "[I", true)
  | 2 => ("TandemRide$Setup", "ground", "[I", true)
  | 3 => ("TandemRide$Setup", "timeRider", "[I", true)
  | 4 => ("TandemRide$Setup", "timeSort", "[I", true)
  | 5 => ("TandemRide$Setup", "timeEffort", "[I", true)
  | 6 => ("TandemRide$Setup", "timeSeconds", "[I", true)
  | 7 => ("TandemRide$Setup", "front", "I", false)
  | 8 => ("TandemRide$Setup", "back", "I", false)
  | 9 => ("TandemRide$Setup", "hottest", "I", false)
  | 10 => ("TandemRide$Setup", "pause", "I", false)
  | 11 => ("TandemRide$Setup", "calm", "I", false)
  | 12 => ("TandemRide$Setup", "stretches", "I", false)
  | _ => ("TandemRide$Setup", "times", "I", false)
def tyX6 : Nat → FieldType := fun k => match k with
  | 0 => .array (.object "TandemRide$Rider")
  | 1 => .array .int
  | 2 => .array .int
  | 3 => .array .int
  | 4 => .array .int
  | 5 => .array .int
  | 6 => .array .int
  | 7 => .int
  | 8 => .int
  | 9 => .int
  | 10 => .int
  | 11 => .int
  | 12 => .int
  | _ => .int
abbrev wsX60 : List Cond := u_ws RX6 TX6 14
theorem nmX6 : ∀ a, a < 14 → ∀ b, b < 14 → a ≠ b → (TX6 a).2.1 ≠ (TX6 b).2.1 := by decide +kernel
theorem tyX6_ok : ∀ k, k < 14 → parseFieldDescriptor (TX6 k).2.2.1 = some (tyX6 k) := by decide +kernel
abbrev cX6_init : ByteArray := prog_8_method_1_code
def yX6_init : MethodName := ⟨RX6, "<init>", "()V"⟩
abbrev cX6_copyFrom : ByteArray := prog_8_method_2_code
def yX6_copyFrom : MethodName := ⟨RX6, "copyFrom", "(LTandemRide$Setup;)V"⟩
abbrev cX6_isThere : ByteArray := prog_8_method_3_code
def yX6_isThere : MethodName := ⟨RX6, "isThere", "(I)Z"⟩
abbrev cX6_riderInFront : ByteArray := prog_8_method_4_code
def yX6_riderInFront : MethodName := ⟨RX6, "riderInFront", "()LTandemRide$Rider;"⟩
abbrev cX6_riderInBack : ByteArray := prog_8_method_5_code
def yX6_riderInBack : MethodName := ⟨RX6, "riderInBack", "()LTandemRide$Rider;"⟩
abbrev cX6_ridersThere : ByteArray := prog_8_method_6_code
def yX6_ridersThere : MethodName := ⟨RX6, "ridersThere", "()I"⟩
abbrev cX6_riderBits : ByteArray := prog_8_method_7_code
def yX6_riderBits : MethodName := ⟨RX6, "riderBits", "()I"⟩
abbrev cX6_takeWay : ByteArray := prog_8_method_8_code
def yX6_takeWay : MethodName := ⟨RX6, "takeWay", "(LTandemRide$Pad;)V"⟩
abbrev cX6_corners : ByteArray := prog_8_method_9_code
def yX6_corners : MethodName := ⟨RX6, "corners", "()I"⟩
abbrev cX6_bumps : ByteArray := prog_8_method_10_code
def yX6_bumps : MethodName := ⟨RX6, "bumps", "()I"⟩
abbrev cX6_stretchesOf : ByteArray := prog_8_method_11_code
def yX6_stretchesOf : MethodName := ⟨RX6, "stretchesOf", "(I)I"⟩
abbrev cX6_secondsTogether : ByteArray := prog_8_method_12_code
def yX6_secondsTogether : MethodName := ⟨RX6, "secondsTogether", "(I)I"⟩
abbrev cX6_secondsAlone : ByteArray := prog_8_method_13_code
def yX6_secondsAlone : MethodName := ⟨RX6, "secondsAlone", "(I)I"⟩
abbrev cX6_addTime : ByteArray := prog_8_method_14_code
def yX6_addTime : MethodName := ⟨RX6, "addTime", "(IIII)V"⟩
abbrev cX6_timesHold : ByteArray := prog_8_method_15_code
def yX6_timesHold : MethodName := ⟨RX6, "timesHold", "(II)Z"⟩
def RX7 : String := "TandemRide"
def TX7 : u_T := fun k => match k with
  | 0 => ("TandemRide", "now", "LTandemRide$Setup;", true)
  | 1 => ("TandemRide", "images", "[LTandemRide$Setup;", true)
  | 2 => ("TandemRide", "imageKept", "[Z", true)
  | 3 => ("TandemRide", "pad", "LTandemRide$Pad;", true)
  | 4 => ("TandemRide", "plan", "LTandemRide$Plan;", true)
  | 5 => ("TandemRide", "ride", "LTandemRide$Ride;", true)
  | _ => ("TandemRide", "search", "LTandemRide$Search;", true)
def tyX7 : Nat → FieldType := fun k => match k with
  | 0 => .object "TandemRide$Setup"
  | 1 => .array (.object "TandemRide$Setup")
  | 2 => .array .boolean
  | 3 => .object "TandemRide$Pad"
  | 4 => .object "TandemRide$Plan"
  | 5 => .object "TandemRide$Ride"
  | _ => .object "TandemRide$Search"
abbrev wsX70 : List Cond := u_ws RX7 TX7 7
theorem nmX7 : ∀ a, a < 7 → ∀ b, b < 7 → a ≠ b → (TX7 a).2.1 ≠ (TX7 b).2.1 := by decide +kernel
theorem tyX7_ok : ∀ k, k < 7 → parseFieldDescriptor (TX7 k).2.2.1 = some (tyX7 k) := by decide +kernel
abbrev cX7_init : ByteArray := prog_1_method_1_code
def yX7_init : MethodName := ⟨RX7, "<init>", "()V"⟩
abbrev cX7_rider : ByteArray := prog_1_method_2_code
def yX7_rider : MethodName := ⟨RX7, "rider", "(IIIII)I"⟩
abbrev cX7_leave : ByteArray := prog_1_method_3_code
def yX7_leave : MethodName := ⟨RX7, "leave", "(I)I"⟩
abbrev cX7_seat : ByteArray := prog_1_method_4_code
def yX7_seat : MethodName := ⟨RX7, "seat", "(II)I"⟩
abbrev cX7_set : ByteArray := prog_1_method_5_code
def yX7_set : MethodName := ⟨RX7, "set", "(II)I"⟩
abbrev cX7_say : ByteArray := prog_1_method_6_code
def yX7_say : MethodName := ⟨RX7, "say", "(I)I"⟩
abbrev cX7_wipe : ByteArray := prog_1_method_7_code
def yX7_wipe : MethodName := ⟨RX7, "wipe", "()I"⟩
abbrev cX7_fault : ByteArray := prog_1_method_8_code
def yX7_fault : MethodName := ⟨RX7, "fault", "(I)I"⟩
abbrev cX7_way : ByteArray := prog_1_method_9_code
def yX7_way : MethodName := ⟨RX7, "way", "()I"⟩
abbrev cX7_tread : ByteArray := prog_1_method_10_code
def yX7_tread : MethodName := ⟨RX7, "tread", "(III)I"⟩
abbrev cX7_judge : ByteArray := prog_1_method_11_code
def yX7_judge : MethodName := ⟨RX7, "judge", "(I)I"⟩
abbrev cX7_ridden : ByteArray := prog_1_method_12_code
def yX7_ridden : MethodName := ⟨RX7, "ridden", "(II)I"⟩
abbrev cX7_share : ByteArray := prog_1_method_13_code
def yX7_share : MethodName := ⟨RX7, "share", "(I)J"⟩
abbrev cX7_unseen : ByteArray := prog_1_method_14_code
def yX7_unseen : MethodName := ⟨RX7, "unseen", "()I"⟩
abbrev cX7_soonest : ByteArray := prog_1_method_15_code
def yX7_soonest : MethodName := ⟨RX7, "soonest", "(I)I"⟩
abbrev cX7_oneBeat : ByteArray := prog_1_method_16_code
def yX7_oneBeat : MethodName := ⟨RX7, "oneBeat", "(III)I"⟩
abbrev cX7_single : ByteArray := prog_1_method_17_code
def yX7_single : MethodName := ⟨RX7, "single", "(II)I"⟩
abbrev cX7_sorts : ByteArray := prog_1_method_18_code
def yX7_sorts : MethodName := ⟨RX7, "sorts", "(I)I"⟩
abbrev cX7_uneven : ByteArray := prog_1_method_19_code
def yX7_uneven : MethodName := ⟨RX7, "uneven", "(III)I"⟩
abbrev cX7_evenest : ByteArray := prog_1_method_20_code
def yX7_evenest : MethodName := ⟨RX7, "evenest", "(II)I"⟩
abbrev cX7_calls : ByteArray := prog_1_method_21_code
def yX7_calls : MethodName := ⟨RX7, "calls", "(II)I"⟩
abbrev cX7_worth : ByteArray := prog_1_method_22_code
def yX7_worth : MethodName := ⟨RX7, "worth", "()I"⟩
abbrev cX7_bestPair : ByteArray := prog_1_method_23_code
def yX7_bestPair : MethodName := ⟨RX7, "bestPair", "(I)I"⟩
abbrev cX7_quarrel : ByteArray := prog_1_method_24_code
def yX7_quarrel : MethodName := ⟨RX7, "quarrel", "(I)I"⟩
abbrev cX7_home : ByteArray := prog_1_method_25_code
def yX7_home : MethodName := ⟨RX7, "home", "(III)J"⟩
abbrev cX7_mean : ByteArray := prog_1_method_26_code
def yX7_mean : MethodName := ⟨RX7, "mean", "(II)J"⟩
abbrev cX7_time : ByteArray := prog_1_method_27_code
def yX7_time : MethodName := ⟨RX7, "time", "(IIII)I"⟩
abbrev cX7_forget : ByteArray := prog_1_method_28_code
def yX7_forget : MethodName := ⟨RX7, "forget", "()I"⟩
abbrev cX7_strong : ByteArray := prog_1_method_29_code
def yX7_strong : MethodName := ⟨RX7, "strong", "(II)I"⟩
abbrev cX7_year : ByteArray := prog_1_method_30_code
def yX7_year : MethodName := ⟨RX7, "year", "(III)I"⟩
abbrev cX7_image : ByteArray := prog_1_method_31_code
def yX7_image : MethodName := ⟨RX7, "image", "(I)I"⟩
abbrev cX7_restore : ByteArray := prog_1_method_32_code
def yX7_restore : MethodName := ⟨RX7, "restore", "(I)I"⟩
abbrev cX7_told : ByteArray := prog_1_method_33_code
def yX7_told : MethodName := ⟨RX7, "told", "(I)I"⟩
abbrev cX7_toldOfRider : ByteArray := prog_1_method_34_code
def yX7_toldOfRider : MethodName := ⟨RX7, "toldOfRider", "(II)I"⟩
abbrev cX7_isWithin : ByteArray := prog_1_method_35_code
def yX7_isWithin : MethodName := ⟨RX7, "isWithin", "(III)Z"⟩
abbrev cX7_isEffort : ByteArray := prog_1_method_36_code
def yX7_isEffort : MethodName := ⟨RX7, "isEffort", "(I)Z"⟩
abbrev cX7_areSeated : ByteArray := prog_1_method_37_code
def yX7_areSeated : MethodName := ⟨RX7, "areSeated", "()Z"⟩
abbrev cX7_planIsRidden : ByteArray := prog_1_method_38_code
def yX7_planIsRidden : MethodName := ⟨RX7, "planIsRidden", "()Z"⟩
abbrev cX7_secondsAtBeat : ByteArray := prog_1_method_39_code
def yX7_secondsAtBeat : MethodName := ⟨RX7, "secondsAtBeat", "(III)I"⟩
abbrev cX7_mostTreads : ByteArray := prog_1_method_40_code
def yX7_mostTreads : MethodName := ⟨RX7, "mostTreads", "(LTandemRide$Rider;ILTandemRide$Rider;I)I"⟩
abbrev cX7_unevenness : ByteArray := prog_1_method_41_code
def yX7_unevenness : MethodName := ⟨RX7, "unevenness", "(III)I"⟩
abbrev cX7_crankAt : ByteArray := prog_1_method_42_code
def yX7_crankAt : MethodName := ⟨RX7, "crankAt", "(I)I"⟩
abbrev cX7_believedBy : ByteArray := prog_1_method_43_code
def yX7_believedBy : MethodName := ⟨RX7, "believedBy", "(LTandemRide$Rider;I)I"⟩
abbrev cX7_chancesOfSlips : ByteArray := prog_1_method_44_code
def yX7_chancesOfSlips : MethodName := ⟨RX7, "chancesOfSlips", "(III)J"⟩
abbrev cX7_power : ByteArray := prog_1_method_45_code
def yX7_power : MethodName := ⟨RX7, "power", "(JI)J"⟩
abbrev cX7_fractionPart : ByteArray := prog_1_method_46_code
def yX7_fractionPart : MethodName := ⟨RX7, "fractionPart", "(JJI)J"⟩
def RX8 : String := "TandemRideModel"
def TX8 : u_T := fun k => match k with
  | 0 => ("TandemRideModel", "riders", "I", false)
  | 1 => ("TandemRideModel", "strength", "[I", true)
  | 2 => ("TandemRideModel", "likes", "[I", true)
  | 3 => ("TandemRideModel", "wind", "[I", true)
  | 4 => ("TandemRideModel", "thinks", "[I", true)
  | 5 => ("TandemRideModel", "front", "I", false)
  | 6 => ("TandemRideModel", "back", "I", false)
  | 7 => ("TandemRideModel", "hottest", "I", false)
  | 8 => ("TandemRideModel", "pause", "I", false)
  | 9 => ("TandemRideModel", "calm", "I", false)
  | 10 => ("TandemRideModel", "stretch", "[I", true)
  | 11 => ("TandemRideModel", "stretches", "I", false)
  | 12 => ("TandemRideModel", "timeOf", "[I", true)
  | 13 => ("TandemRideModel", "timeSort", "[I", true)
  | 14 => ("TandemRideModel", "timeEffort", "[I", true)
  | 15 => ("TandemRideModel", "timeIs", "[I", true)
  | 16 => ("TandemRideModel", "times", "I", false)
  | 17 => ("TandemRideModel", "pad", "[I", true)
  | 18 => ("TandemRideModel", "padMany", "I", false)
  | 19 => ("TandemRideModel", "rests", "[I", true)
  | 20 => ("TandemRideModel", "hardFront", "[I", true)
  | 21 => ("TandemRideModel", "hardBack", "[I", true)
  | 22 => ("TandemRideModel", "beat", "[I", true)
  | 23 => ("TandemRideModel", "badStretch", "I", false)
  | 24 => ("TandemRideModel", "badWhy", "I", false)
  | 25 => ("TandemRideModel", "secondsSoFar", "I", false)
  | 26 => ("TandemRideModel", "windFront", "I", false)
  | 27 => ("TandemRideModel", "windBack", "I", false)
  | 28 => ("TandemRideModel", "heat", "I", false)
  | 29 => ("TandemRideModel", "treadsFront", "I", false)
  | 30 => ("TandemRideModel", "treadsBack", "I", false)
  | 31 => ("TandemRideModel", "toGo", "[I", true)
  | 32 => ("TandemRideModel", "next", "[I", true)
  | 33 => ("TandemRideModel", "quickest", "[I", true)
  | 34 => ("TandemRideModel", "kept", "[I", true)
  | 35 => ("TandemRideModel", "isKept", "[Z", true)
  | 36 => ("TandemRideModel", "keptAt", "I", false)
  | _ => ("TandemRideModel", "isWriting", "Z", false)
def tyX8 : Nat → FieldType := fun k => match k with
  | 0 => .int
  | 1 => .array .int
  | 2 => .array .int
  | 3 => .array .int
  | 4 => .array .int
  | 5 => .int
  | 6 => .int
  | 7 => .int
  | 8 => .int
  | 9 => .int
  | 10 => .array .int
  | 11 => .int
  | 12 => .array .int
  | 13 => .array .int
  | 14 => .array .int
  | 15 => .array .int
  | 16 => .int
  | 17 => .array .int
  | 18 => .int
  | 19 => .array .int
  | 20 => .array .int
  | 21 => .array .int
  | 22 => .array .int
  | 23 => .int
  | 24 => .int
  | 25 => .int
  | 26 => .int
  | 27 => .int
  | 28 => .int
  | 29 => .int
  | 30 => .int
  | 31 => .array .int
  | 32 => .array .int
  | 33 => .array .int
  | 34 => .array .int
  | 35 => .array .boolean
  | 36 => .int
  | _ => .boolean
abbrev wsX80 : List Cond := u_ws RX8 TX8 38
theorem nmX8 : ∀ a, a < 38 → ∀ b, b < 38 → a ≠ b → (TX8 a).2.1 ≠ (TX8 b).2.1 := by decide +kernel
theorem tyX8_ok : ∀ k, k < 38 → parseFieldDescriptor (TX8 k).2.2.1 = some (tyX8 k) := by decide +kernel
abbrev cX8_init : ByteArray := prog_10_method_1_code
def yX8_init : MethodName := ⟨RX8, "<init>", "()V"⟩
abbrev cX8_in : ByteArray := prog_10_method_3_code
def yX8_in : MethodName := ⟨RX8, "in", "(JJJ)Z"⟩
abbrev cX8_ones : ByteArray := prog_10_method_4_code
def yX8_ones : MethodName := ⟨RX8, "ones", "(I)I"⟩
abbrev cX8_isNumber : ByteArray := prog_10_method_5_code
def yX8_isNumber : MethodName := ⟨RX8, "isNumber", "(I)Z"⟩
abbrev cX8_isThere : ByteArray := prog_10_method_6_code
def yX8_isThere : MethodName := ⟨RX8, "isThere", "(I)Z"⟩
abbrev cX8_rider : ByteArray := prog_10_method_7_code
def yX8_rider : MethodName := ⟨RX8, "rider", "(IIIII)I"⟩
abbrev cX8_leave : ByteArray := prog_10_method_8_code
def yX8_leave : MethodName := ⟨RX8, "leave", "(I)I"⟩
abbrev cX8_seat : ByteArray := prog_10_method_9_code
def yX8_seat : MethodName := ⟨RX8, "seat", "(II)I"⟩
abbrev cX8_set : ByteArray := prog_10_method_10_code
def yX8_set : MethodName := ⟨RX8, "set", "(II)I"⟩
abbrev cX8_say : ByteArray := prog_10_method_11_code
def yX8_say : MethodName := ⟨RX8, "say", "(I)I"⟩
abbrev cX8_wipe : ByteArray := prog_10_method_12_code
def yX8_wipe : MethodName := ⟨RX8, "wipe", "()I"⟩
abbrev cX8_isSort : ByteArray := prog_10_method_13_code
def yX8_isSort : MethodName := ⟨RX8, "isSort", "(I)Z"⟩
abbrev cX8_faultOfWay : ByteArray := prog_10_method_14_code
def yX8_faultOfWay : MethodName := ⟨RX8, "faultOfWay", "()I"⟩
abbrev cX8_faultOfPlan : ByteArray := prog_10_method_15_code
def yX8_faultOfPlan : MethodName := ⟨RX8, "faultOfPlan", "()I"⟩
abbrev cX8_fault : ByteArray := prog_10_method_16_code
def yX8_fault : MethodName := ⟨RX8, "fault", "(I)I"⟩
abbrev cX8_way : ByteArray := prog_10_method_17_code
def yX8_way : MethodName := ⟨RX8, "way", "()I"⟩
abbrev cX8_isBeat : ByteArray := prog_10_method_18_code
def yX8_isBeat : MethodName := ⟨RX8, "isBeat", "(I)Z"⟩
abbrev cX8_isEffort : ByteArray := prog_10_method_19_code
def yX8_isEffort : MethodName := ⟨RX8, "isEffort", "(I)Z"⟩
abbrev cX8_treadOf : ByteArray := prog_10_method_20_code
def yX8_treadOf : MethodName := ⟨RX8, "treadOf", "(III)I"⟩
abbrev cX8_tread : ByteArray := prog_10_method_21_code
def yX8_tread : MethodName := ⟨RX8, "tread", "(III)I"⟩
abbrev cX8_hard : ByteArray := prog_10_method_22_code
def yX8_hard : MethodName := ⟨RX8, "hard", "(I)I"⟩
abbrev cX8_seconds : ByteArray := prog_10_method_23_code
def yX8_seconds : MethodName := ⟨RX8, "seconds", "(II)I"⟩
abbrev cX8_heated : ByteArray := prog_10_method_24_code
def yX8_heated : MethodName := ⟨RX8, "heated", "(II)I"⟩
abbrev cX8_winded : ByteArray := prog_10_method_25_code
def yX8_winded : MethodName := ⟨RX8, "winded", "(III)I"⟩
abbrev cX8_isNobody : ByteArray := prog_10_method_26_code
def yX8_isNobody : MethodName := ⟨RX8, "isNobody", "()Z"⟩
abbrev cX8_begin : ByteArray := prog_10_method_27_code
def yX8_begin : MethodName := ⟨RX8, "begin", "()V"⟩
abbrev cX8_rest : ByteArray := prog_10_method_28_code
def yX8_rest : MethodName := ⟨RX8, "rest", "()V"⟩
abbrev cX8_rideOne : ByteArray := prog_10_method_29_code
def yX8_rideOne : MethodName := ⟨RX8, "rideOne", "(I)V"⟩
abbrev cX8_ride : ByteArray := prog_10_method_30_code
def yX8_ride : MethodName := ⟨RX8, "ride", "(I)V"⟩
abbrev cX8_rideAll : ByteArray := prog_10_method_31_code
def yX8_rideAll : MethodName := ⟨RX8, "rideAll", "()V"⟩
abbrev cX8_judge : ByteArray := prog_10_method_32_code
def yX8_judge : MethodName := ⟨RX8, "judge", "(I)I"⟩
abbrev cX8_isRefused : ByteArray := prog_10_method_33_code
def yX8_isRefused : MethodName := ⟨RX8, "isRefused", "()Z"⟩
abbrev cX8_ridden : ByteArray := prog_10_method_34_code
def yX8_ridden : MethodName := ⟨RX8, "ridden", "(II)I"⟩
abbrev cX8_lowest : ByteArray := prog_10_method_35_code
def yX8_lowest : MethodName := ⟨RX8, "lowest", "(JJI)J"⟩
abbrev cX8_share : ByteArray := prog_10_method_36_code
def yX8_share : MethodName := ⟨RX8, "share", "(I)J"⟩
abbrev cX8_unseen : ByteArray := prog_10_method_37_code
def yX8_unseen : MethodName := ⟨RX8, "unseen", "()I"⟩
abbrev cX8_stateOf : ByteArray := prog_10_method_38_code
def yX8_stateOf : MethodName := ⟨RX8, "stateOf", "(III)I"⟩
abbrev cX8_secondsBy : ByteArray := prog_10_method_39_code
def yX8_secondsBy : MethodName := ⟨RX8, "secondsBy", "(IIIII)I"⟩
abbrev cX8_findQuickest : ByteArray := prog_10_method_40_code
def yX8_findQuickest : MethodName := ⟨RX8, "findQuickest", "(III)V"⟩
abbrev cX8_secondsFrom : ByteArray := prog_10_method_41_code
def yX8_secondsFrom : MethodName := ⟨RX8, "secondsFrom", "(IIIIIII)I"⟩
abbrev cX8_bestFrom : ByteArray := prog_10_method_42_code
def yX8_bestFrom : MethodName := ⟨RX8, "bestFrom", "(IIIIII)I"⟩
abbrev cX8_goBack : ByteArray := prog_10_method_43_code
def yX8_goBack : MethodName := ⟨RX8, "goBack", "(II)V"⟩
abbrev cX8_soonestOf : ByteArray := prog_10_method_44_code
def yX8_soonestOf : MethodName := ⟨RX8, "soonestOf", "(II)I"⟩
abbrev cX8_soonest : ByteArray := prog_10_method_45_code
def yX8_soonest : MethodName := ⟨RX8, "soonest", "(I)I"⟩
abbrev cX8_secondsAt : ByteArray := prog_10_method_46_code
def yX8_secondsAt : MethodName := ⟨RX8, "secondsAt", "(II)I"⟩
abbrev cX8_lost : ByteArray := prog_10_method_47_code
def yX8_lost : MethodName := ⟨RX8, "lost", "(III)I"⟩
abbrev cX8_oneBeat : ByteArray := prog_10_method_48_code
def yX8_oneBeat : MethodName := ⟨RX8, "oneBeat", "(III)I"⟩
abbrev cX8_alone : ByteArray := prog_10_method_49_code
def yX8_alone : MethodName := ⟨RX8, "alone", "(III)I"⟩
abbrev cX8_single : ByteArray := prog_10_method_50_code
def yX8_single : MethodName := ⟨RX8, "single", "(II)I"⟩
abbrev cX8_sortOf : ByteArray := prog_10_method_51_code
def yX8_sortOf : MethodName := ⟨RX8, "sortOf", "(I)I"⟩
abbrev cX8_sorts : ByteArray := prog_10_method_52_code
def yX8_sorts : MethodName := ⟨RX8, "sorts", "(I)I"⟩
abbrev cX8_fromSix : ByteArray := prog_10_method_53_code
def yX8_fromSix : MethodName := ⟨RX8, "fromSix", "(I)I"⟩
abbrev cX8_unevenBy : ByteArray := prog_10_method_54_code
def yX8_unevenBy : MethodName := ⟨RX8, "unevenBy", "(III)I"⟩
abbrev cX8_uneven : ByteArray := prog_10_method_55_code
def yX8_uneven : MethodName := ⟨RX8, "uneven", "(III)I"⟩
abbrev cX8_evenest : ByteArray := prog_10_method_56_code
def yX8_evenest : MethodName := ⟨RX8, "evenest", "(II)I"⟩
abbrev cX8_bumps : ByteArray := prog_10_method_57_code
def yX8_bumps : MethodName := ⟨RX8, "bumps", "()I"⟩
abbrev cX8_isBorne : ByteArray := prog_10_method_58_code
def yX8_isBorne : MethodName := ⟨RX8, "isBorne", "(II)Z"⟩
abbrev cX8_stretchesOf : ByteArray := prog_10_method_59_code
def yX8_stretchesOf : MethodName := ⟨RX8, "stretchesOf", "(I)I"⟩
abbrev cX8_calls : ByteArray := prog_10_method_60_code
def yX8_calls : MethodName := ⟨RX8, "calls", "(II)I"⟩
abbrev cX8_worth : ByteArray := prog_10_method_61_code
def yX8_worth : MethodName := ⟨RX8, "worth", "()I"⟩
abbrev cX8_bestPair : ByteArray := prog_10_method_62_code
def yX8_bestPair : MethodName := ⟨RX8, "bestPair", "(I)I"⟩
abbrev cX8_believed : ByteArray := prog_10_method_63_code
def yX8_believed : MethodName := ⟨RX8, "believed", "(II)I"⟩
abbrev cX8_quarrel : ByteArray := prog_10_method_64_code
def yX8_quarrel : MethodName := ⟨RX8, "quarrel", "(I)I"⟩
abbrev cX8_corners : ByteArray := prog_10_method_65_code
def yX8_corners : MethodName := ⟨RX8, "corners", "()I"⟩
abbrev cX8_powers : ByteArray := prog_10_method_66_code
def yX8_powers : MethodName := ⟨RX8, "powers", "(II)J"⟩
abbrev cX8_home : ByteArray := prog_10_method_67_code
def yX8_home : MethodName := ⟨RX8, "home", "(III)J"⟩
abbrev cX8_mean : ByteArray := prog_10_method_68_code
def yX8_mean : MethodName := ⟨RX8, "mean", "(II)J"⟩
abbrev cX8_time : ByteArray := prog_10_method_69_code
def yX8_time : MethodName := ⟨RX8, "time", "(IIII)I"⟩
abbrev cX8_forget : ByteArray := prog_10_method_70_code
def yX8_forget : MethodName := ⟨RX8, "forget", "()I"⟩
abbrev cX8_holds : ByteArray := prog_10_method_71_code
def yX8_holds : MethodName := ⟨RX8, "holds", "(II)Z"⟩
abbrev cX8_strong : ByteArray := prog_10_method_72_code
def yX8_strong : MethodName := ⟨RX8, "strong", "(II)I"⟩
abbrev cX8_year : ByteArray := prog_10_method_73_code
def yX8_year : MethodName := ⟨RX8, "year", "(III)I"⟩
abbrev cX8_pass : ByteArray := prog_10_method_74_code
def yX8_pass : MethodName := ⟨RX8, "pass", "(I)I"⟩
abbrev cX8_passAll : ByteArray := prog_10_method_75_code
def yX8_passAll : MethodName := ⟨RX8, "passAll", "()V"⟩
abbrev cX8_image : ByteArray := prog_10_method_76_code
def yX8_image : MethodName := ⟨RX8, "image", "(I)I"⟩
abbrev cX8_restore : ByteArray := prog_10_method_77_code
def yX8_restore : MethodName := ⟨RX8, "restore", "(I)I"⟩
abbrev cX8_toldOf : ByteArray := prog_10_method_78_code
def yX8_toldOf : MethodName := ⟨RX8, "toldOf", "(II)I"⟩
abbrev cX8_told : ByteArray := prog_10_method_79_code
def yX8_told : MethodName := ⟨RX8, "told", "(I)I"⟩
def RJ6 : String := "java/lang/Integer"
def TJ6 : u_T := fun k => match k with
  | _ => ("", "", "", false)
def tyJ6 : Nat → FieldType := fun k => match k with
  | _ => .int
abbrev wsJ60 : List Cond := u_ws RJ6 TJ6 0
theorem nmJ6 : ∀ a, a < 0 → ∀ b, b < 0 → a ≠ b → (TJ6 a).2.1 ≠ (TJ6 b).2.1 := by decide +kernel
theorem tyJ6_ok : ∀ k, k < 0 → parseFieldDescriptor (TJ6 k).2.2.1 = some (tyJ6 k) := by decide +kernel
abbrev cJ6_bitCount_0f7a4 : ByteArray := prog_11_method_49_code
def yJ6_bitCount_0f7a4 : MethodName := ⟨RJ6, "bitCount", "(I)I"⟩
def RJ9 : String := "java/lang/Math"
def TJ9 : u_T := fun k => match k with
  | _ => ("", "", "", false)
def tyJ9 : Nat → FieldType := fun k => match k with
  | _ => .int
abbrev wsJ90 : List Cond := u_ws RJ9 TJ9 0
theorem nmJ9 : ∀ a, a < 0 → ∀ b, b < 0 → a ≠ b → (TJ9 a).2.1 ≠ (TJ9 b).2.1 := by decide +kernel
theorem tyJ9_ok : ∀ k, k < 0 → parseFieldDescriptor (TJ9 k).2.2.1 = some (tyJ9 k) := by decide +kernel
abbrev cJ9_abs_0f7a4 : ByteArray := prog_12_method_59_code
def yJ9_abs_0f7a4 : MethodName := ⟨RJ9, "abs", "(I)I"⟩
abbrev cJ9_max_7cf53 : ByteArray := prog_12_method_65_code
def yJ9_max_7cf53 : MethodName := ⟨RJ9, "max", "(II)I"⟩
abbrev cJ9_min_7cf53 : ByteArray := prog_12_method_69_code
def yJ9_min_7cf53 : MethodName := ⟨RJ9, "min", "(II)I"⟩
def RJ10 : String := "java/lang/System"
def TJ10 : u_T := fun k => match k with
  | _ => ("", "", "", false)
def tyJ10 : Nat → FieldType := fun k => match k with
  | _ => .int
abbrev wsJ100 : List Cond := u_ws RJ10 TJ10 0
theorem nmJ10 : ∀ a, a < 0 → ∀ b, b < 0 → a ≠ b → (TJ10 a).2.1 ≠ (TJ10 b).2.1 := by decide +kernel
theorem tyJ10_ok : ∀ k, k < 0 → parseFieldDescriptor (TJ10 k).2.2.1 = some (tyJ10 k) := by decide +kernel
def RL : String := "TandemRideLaw"
abbrev cL_law : ByteArray := code
def yL_law : MethodName := ⟨RL, "law", "([I)Z"⟩
def wsJ6_bitCount_0f7a4 : List Cond := .code yJ6_bitCount_0f7a4 cJ6_bitCount_0f7a4 1 (some .int) :: ([.constant RJ6 265 (1431655765), .constant RJ6 266 (858993459), .constant RJ6 267 (252645135)])
def wsJ9_abs_0f7a4 : List Cond := .code yJ9_abs_0f7a4 cJ9_abs_0f7a4 1 (some .int) :: ([])
def wsJ9_max_7cf53 : List Cond := .code yJ9_max_7cf53 cJ9_max_7cf53 2 (some .int) :: ([])
def wsJ9_min_7cf53 : List Cond := .code yJ9_min_7cf53 cJ9_min_7cf53 2 (some .int) :: ([])
def wsL_law_r1 : List Cond := [Cond.classLink RL 7 RX7, Cond.instantiable RX7 7, Cond.initialized RX7, Cond.classLink RL 10 RX8, Cond.instantiable RX8 38, Cond.initialized RX8, Cond.methodLink RL 9 yX7_init, Cond.instanceMethod yX7_init, Cond.code yX7_init cX7_init 2 none, Cond.methodLink RX7 3 objectInit, Cond.instanceMethod objectInit, Cond.code objectInit ⟨#[0xb1]⟩ 1 none, Cond.classLink RX7 9 RX6, Cond.instantiable RX6 14, Cond.initialized RX6, Cond.fieldLink RX7 12 "TandemRide" "now" "LTandemRide$Setup;", Cond.fieldLink RX7 16 "TandemRide" "images" "[LTandemRide$Setup;", Cond.arrayClass .boolean, Cond.fieldLink RX7 20 "TandemRide" "imageKept" "[Z", Cond.classLink RX7 24 RX1, Cond.instantiable RX1 2, Cond.initialized RX1, Cond.fieldLink RX7 27 "TandemRide" "pad" "LTandemRide$Pad;", Cond.classLink RX7 31 RX2]
def wsL_law_r2 : List Cond := [Cond.instantiable RX2 4, Cond.initialized RX2, Cond.fieldLink RX7 34 "TandemRide" "plan" "LTandemRide$Plan;", Cond.classLink RX7 38 RX3, Cond.instantiable RX3 9, Cond.initialized RX3, Cond.fieldLink RX7 41 "TandemRide" "ride" "LTandemRide$Ride;", Cond.classLink RX7 45 RX5, Cond.instantiable RX5 15, Cond.initialized RX5, Cond.fieldLink RX7 48 "TandemRide" "search" "LTandemRide$Search;", Cond.methodLink RX7 11 yX6_init, Cond.instanceMethod yX6_init, Cond.code yX6_init cX6_init 2 none, Cond.methodLink RX6 3 objectInit, Cond.classLink RX6 9 RX4, Cond.fieldLink RX6 11 "TandemRide$Setup" "riders" "[LTandemRide$Rider;", Cond.arrayClass .int, Cond.fieldLink RX6 17 "TandemRide$Setup" "signs" "[I", Cond.fieldLink RX6 21 "TandemRide$Setup" "ground" "[I", Cond.fieldLink RX6 24 "TandemRide$Setup" "timeRider" "[I", Cond.fieldLink RX6 27 "TandemRide$Setup" "timeSort" "[I", Cond.fieldLink RX6 30 "TandemRide$Setup" "timeEffort" "[I", Cond.fieldLink RX6 33 "TandemRide$Setup" "timeSeconds" "[I"]
def wsL_law_r3 : List Cond := [Cond.fieldLink RX6 36 "TandemRide$Setup" "front" "I", Cond.fieldLink RX6 40 "TandemRide$Setup" "back" "I", Cond.fieldLink RX6 43 "TandemRide$Setup" "hottest" "I", Cond.fieldLink RX6 46 "TandemRide$Setup" "pause" "I", Cond.fieldLink RX6 49 "TandemRide$Setup" "calm" "I", Cond.fieldLink RX6 52 "TandemRide$Setup" "stretches" "I", Cond.fieldLink RX6 55 "TandemRide$Setup" "times" "I", Cond.instantiable RX4 5, Cond.initialized RX4, Cond.instanceMethod yX4_init, Cond.code yX4_init cX4_init 1 none, Cond.methodLink RX4 1 objectInit, Cond.instanceMethod yX1_init, Cond.code yX1_init cX1_init 1 none, Cond.methodLink RX1 3 objectInit, Cond.fieldLink RX1 9 "TandemRide$Pad" "row" "[I", Cond.instanceMethod yX2_init, Cond.code yX2_init cX2_init 1 none, Cond.methodLink RX2 3 objectInit, Cond.fieldLink RX2 9 "TandemRide$Plan" "rest" "[Z", Cond.fieldLink RX2 15 "TandemRide$Plan" "effortFront" "[I", Cond.fieldLink RX2 19 "TandemRide$Plan" "effortBack" "[I", Cond.fieldLink RX2 22 "TandemRide$Plan" "beat" "[I", Cond.instanceMethod yX3_init]
def wsL_law_r4 : List Cond := [Cond.code yX3_init cX3_init 1 none, Cond.methodLink RX3 3 objectInit, Cond.fieldLink RX3 9 "TandemRide$Ride" "seconds" "[I", Cond.fieldLink RX3 15 "TandemRide$Ride" "windFront" "[I", Cond.fieldLink RX3 18 "TandemRide$Ride" "windBack" "[I", Cond.fieldLink RX3 21 "TandemRide$Ride" "heat" "[I", Cond.instanceMethod yX5_init, Cond.code yX5_init cX5_init 1 none, Cond.methodLink RX5 3 objectInit, Cond.fieldLink RX5 9 "TandemRide$Search" "pairTreads" "[I", Cond.fieldLink RX5 15 "TandemRide$Search" "choiceFront" "[I", Cond.fieldLink RX5 18 "TandemRide$Search" "choiceBack" "[I", Cond.fieldLink RX5 21 "TandemRide$Search" "choiceSeconds" "[I", Cond.fieldLink RX5 24 "TandemRide$Search" "heatBits" "[I", Cond.fieldLink RX5 27 "TandemRide$Search" "onward" "[I", Cond.fieldLink RX5 30 "TandemRide$Search" "spare" "[I", Cond.fieldLink RX5 33 "TandemRide$Search" "callsBySore" "[I", Cond.fieldLink RX5 36 "TandemRide$Search" "callsBehind" "[I", Cond.methodLink RL 12 yX8_init, Cond.instanceMethod yX8_init, Cond.code yX8_init cX8_init 1 none, Cond.methodLink RX8 1 objectInit, Cond.fieldLink RX8 7 "TandemRideModel" "strength" "[I", Cond.fieldLink RX8 13 "TandemRideModel" "likes" "[I"]
def wsL_law_r5 : List Cond := [Cond.fieldLink RX8 16 "TandemRideModel" "wind" "[I", Cond.fieldLink RX8 19 "TandemRideModel" "thinks" "[I", Cond.fieldLink RX8 22 "TandemRideModel" "stretch" "[I", Cond.fieldLink RX8 25 "TandemRideModel" "timeOf" "[I", Cond.fieldLink RX8 28 "TandemRideModel" "timeSort" "[I", Cond.fieldLink RX8 31 "TandemRideModel" "timeEffort" "[I", Cond.fieldLink RX8 34 "TandemRideModel" "timeIs" "[I", Cond.fieldLink RX8 37 "TandemRideModel" "pad" "[I", Cond.fieldLink RX8 40 "TandemRideModel" "rests" "[I", Cond.fieldLink RX8 43 "TandemRideModel" "hardFront" "[I", Cond.fieldLink RX8 46 "TandemRideModel" "hardBack" "[I", Cond.fieldLink RX8 49 "TandemRideModel" "beat" "[I", Cond.fieldLink RX8 52 "TandemRideModel" "toGo" "[I", Cond.fieldLink RX8 55 "TandemRideModel" "next" "[I", Cond.fieldLink RX8 58 "TandemRideModel" "quickest" "[I", Cond.fieldLink RX8 61 "TandemRideModel" "kept" "[I", Cond.fieldLink RX8 64 "TandemRideModel" "isKept" "[Z", Cond.fieldLink RX8 68 "TandemRideModel" "back" "I", Cond.fieldLink RX8 72 "TandemRideModel" "hottest" "I", Cond.fieldLink RX8 75 "TandemRideModel" "pause" "I", Cond.fieldLink RX8 78 "TandemRideModel" "calm" "I", Cond.fieldLink RX8 81 "TandemRideModel" "stretches" "I", Cond.methodLink RL 13 yX7_rider, Cond.instanceMethod yX7_rider]
def wsL_law_r6 : List Cond := [Cond.selects RX7 yX7_rider yX7_rider, Cond.code yX7_rider cX7_rider 6 (some .int), Cond.fieldLink RX7 56 "TandemRide$Setup" "riders" "[LTandemRide$Rider;", Cond.methodLink RX7 52 yX7_isWithin, Cond.static yX7_isWithin, Cond.code yX7_isWithin cX7_isWithin 3 (some .boolean), Cond.methodLink RX7 60 yX4_come, Cond.instanceMethod yX4_come, Cond.selects RX4 yX4_come yX4_come, Cond.code yX4_come cX4_come 5 none, Cond.fieldLink RX4 7 "TandemRide$Rider" "there" "Z", Cond.fieldLink RX4 13 "TandemRide$Rider" "strength" "I", Cond.fieldLink RX4 17 "TandemRide$Rider" "likes" "I", Cond.fieldLink RX4 20 "TandemRide$Rider" "wind" "I", Cond.fieldLink RX4 23 "TandemRide$Rider" "thinks" "I", Cond.methodLink RX7 66 yX6_ridersThere, Cond.instanceMethod yX6_ridersThere, Cond.selects RX6 yX6_ridersThere yX6_ridersThere, Cond.code yX6_ridersThere cX6_ridersThere 1 (some .int), Cond.methodLink RX6 77 yX6_riderBits, Cond.instanceMethod yX6_riderBits, Cond.selects RX6 yX6_riderBits yX6_riderBits, Cond.code yX6_riderBits cX6_riderBits 3 (some .int), Cond.fieldLink RX6 73 "TandemRide$Rider" "there" "Z"]
def wsL_law_r7 : List Cond := [Cond.methodLink RX6 81 yJ6_bitCount_0f7a4, Cond.static yJ6_bitCount_0f7a4, Cond.initialized RJ6, Cond.code yJ6_bitCount_0f7a4 cJ6_bitCount_0f7a4 1 (some .int), Cond.constant RJ6 265 (1431655765), Cond.constant RJ6 266 (858993459), Cond.constant RJ6 267 (252645135), Cond.methodLink RL 17 yX8_rider, Cond.instanceMethod yX8_rider, Cond.selects RX8 yX8_rider yX8_rider, Cond.code yX8_rider cX8_rider 6 (some .int), Cond.constantLong RX8 97 (20), Cond.constantLong RX8 102 (9), Cond.constantLong RX8 104 (50), Cond.fieldLink RX8 94 "TandemRideModel" "riders" "I", Cond.methodLink RX8 90 yX8_isNumber, Cond.static yX8_isNumber, Cond.code yX8_isNumber cX8_isNumber 1 (some .boolean), Cond.constantLong RX8 84 (3), Cond.methodLink RX8 86 yX8_in, Cond.static yX8_in, Cond.code yX8_in cX8_in 6 (some .boolean), Cond.methodLink RX8 99 yX8_isBeat, Cond.static yX8_isBeat]
def wsL_law_r8 : List Cond := [Cond.code yX8_isBeat cX8_isBeat 1 (some .boolean), Cond.constantLong RX8 145 (4), Cond.constantLong RX8 147 (10), Cond.methodLink RX8 106 yX8_ones, Cond.static yX8_ones, Cond.code yX8_ones cX8_ones 3 (some .int), Cond.methodLink RL 18 yX7_leave, Cond.instanceMethod yX7_leave, Cond.selects RX7 yX7_leave yX7_leave, Cond.code yX7_leave cX7_leave 2 (some .int), Cond.fieldLink RX7 74 "TandemRide$Rider" "there" "Z", Cond.methodLink RX7 70 yX6_isThere, Cond.instanceMethod yX6_isThere, Cond.selects RX6 yX6_isThere yX6_isThere, Cond.code yX6_isThere cX6_isThere 2 (some .boolean), Cond.methodLink RL 22 yX8_leave, Cond.instanceMethod yX8_leave, Cond.selects RX8 yX8_leave yX8_leave, Cond.code yX8_leave cX8_leave 2 (some .int), Cond.methodLink RX8 110 yX8_isThere, Cond.instanceMethod yX8_isThere, Cond.selects RX8 yX8_isThere yX8_isThere, Cond.code yX8_isThere cX8_isThere 2 (some .boolean), Cond.methodLink RL 23 yX7_seat]
def wsL_law_r9 : List Cond := [Cond.instanceMethod yX7_seat, Cond.selects RX7 yX7_seat yX7_seat, Cond.code yX7_seat cX7_seat 3 (some .int), Cond.fieldLink RX7 78 "TandemRide$Setup" "front" "I", Cond.fieldLink RX7 82 "TandemRide$Setup" "back" "I", Cond.methodLink RL 27 yX8_seat, Cond.instanceMethod yX8_seat, Cond.selects RX8 yX8_seat yX8_seat, Cond.code yX8_seat cX8_seat 3 (some .int), Cond.fieldLink RX8 113 "TandemRideModel" "front" "I", Cond.methodLink RL 28 yX7_set, Cond.instanceMethod yX7_set, Cond.selects RX7 yX7_set yX7_set, Cond.code yX7_set cX7_set 4 (some .int), Cond.fieldLink RX7 85 "TandemRide$Setup" "hottest" "I", Cond.fieldLink RX7 88 "TandemRide$Setup" "pause" "I", Cond.fieldLink RX7 91 "TandemRide$Setup" "calm" "I", Cond.methodLink RL 31 yX8_set, Cond.instanceMethod yX8_set, Cond.selects RX8 yX8_set yX8_set, Cond.code yX8_set cX8_set 5 (some .int), Cond.constantLong RX8 116 (5), Cond.constantLong RX8 118 (99), Cond.methodLink RL 32 yX7_say]
def wsL_law_r10 : List Cond := [Cond.instanceMethod yX7_say, Cond.selects RX7 yX7_say yX7_say, Cond.code yX7_say cX7_say 2 (some .int), Cond.fieldLink RX7 94 "TandemRide$Pad" "length" "I", Cond.methodLink RX7 97 yX1_add, Cond.instanceMethod yX1_add, Cond.selects RX1 yX1_add yX1_add, Cond.code yX1_add cX1_add 2 none, Cond.fieldLink RX1 15 "TandemRide$Pad" "length" "I", Cond.methodLink RL 35 yX8_say, Cond.instanceMethod yX8_say, Cond.selects RX8 yX8_say yX8_say, Cond.code yX8_say cX8_say 2 (some .int), Cond.constantLong RX8 120 (33), Cond.constantLong RX8 122 (126), Cond.fieldLink RX8 124 "TandemRideModel" "padMany" "I", Cond.methodLink RL 36 yX7_wipe, Cond.instanceMethod yX7_wipe, Cond.selects RX7 yX7_wipe yX7_wipe, Cond.code yX7_wipe cX7_wipe 2 (some .int), Cond.methodLink RL 40 yX8_wipe, Cond.instanceMethod yX8_wipe, Cond.selects RX8 yX8_wipe yX8_wipe, Cond.code yX8_wipe cX8_wipe 2 (some .int)]
def wsL_law_r11 : List Cond := [Cond.methodLink RL 41 yX7_fault, Cond.instanceMethod yX7_fault, Cond.selects RX7 yX7_fault yX7_fault, Cond.code yX7_fault cX7_fault 2 (some .int), Cond.fieldLink RX7 104 "TandemRide$Setup" "stretches" "I", Cond.methodLink RX7 101 yX1_faultAsWay, Cond.instanceMethod yX1_faultAsWay, Cond.selects RX1 yX1_faultAsWay yX1_faultAsWay, Cond.code yX1_faultAsWay cX1_faultAsWay 2 (some .int), Cond.methodLink RX1 19 yX1_signAt, Cond.instanceMethod yX1_signAt, Cond.selects RX1 yX1_signAt yX1_signAt, Cond.code yX1_signAt cX1_signAt 2 (some .int), Cond.methodLink RX1 23 yX0_sortOf, Cond.static yX0_sortOf, Cond.initialized RX0, Cond.code yX0_sortOf cX0_sortOf 1 (some .int), Cond.methodLink RX7 107 yX2_read, Cond.instanceMethod yX2_read, Cond.selects RX2 yX2_read yX2_read, Cond.code yX2_read cX2_read 5 (some .int), Cond.fieldLink RX2 39 "TandemRide$Pad" "length" "I", Cond.methodLink RX2 25 yX1_signAt, Cond.static yX7_isEffort]
def wsL_law_r12 : List Cond := [Cond.code yX7_isEffort cX7_isEffort 1 (some .boolean), Cond.methodLink RL 44 yX8_fault, Cond.instanceMethod yX8_fault, Cond.selects RX8 yX8_fault yX8_fault, Cond.code yX8_fault cX8_fault 2 (some .int), Cond.methodLink RX8 138 yX8_faultOfWay, Cond.instanceMethod yX8_faultOfWay, Cond.selects RX8 yX8_faultOfWay yX8_faultOfWay, Cond.code yX8_faultOfWay cX8_faultOfWay 2 (some .int), Cond.methodLink RX8 127 yX8_isSort, Cond.static yX8_isSort, Cond.code yX8_isSort cX8_isSort 1 (some .boolean), Cond.methodLink RX8 142 yX8_faultOfPlan, Cond.instanceMethod yX8_faultOfPlan, Cond.selects RX8 yX8_faultOfPlan yX8_faultOfPlan, Cond.code yX8_faultOfPlan cX8_faultOfPlan 7 (some .int), Cond.constantLong RX8 130 (48), Cond.constantLong RX8 132 (52), Cond.constantLong RX8 134 (97), Cond.constantLong RX8 136 (103), Cond.methodLink RL 45 yX7_way, Cond.instanceMethod yX7_way, Cond.selects RX7 yX7_way yX7_way, Cond.code yX7_way cX7_way 1 (some .int)]
def wsL_law_r13 : List Cond := [Cond.methodLink RX7 111 yX6_takeWay, Cond.instanceMethod yX6_takeWay, Cond.selects RX6 yX6_takeWay yX6_takeWay, Cond.code yX6_takeWay cX6_takeWay 3 none, Cond.fieldLink RX6 87 "TandemRide$Pad" "length" "I", Cond.methodLink RX6 92 Lib.Math.min.name, Cond.static Lib.Math.min.name, Cond.initialized "java/lang/Math", Cond.code Lib.Math.min.name Lib.Math.min.code 2 (some .int), Cond.methodLink RX6 98 Lib.Math.max.name, Cond.static Lib.Math.max.name, Cond.code Lib.Math.max.name Lib.Math.max.code 2 (some .int), Cond.methodLink RX6 101 yX1_signAt, Cond.methodLink RX6 104 yX0_sortOf, Cond.methodLink RL 48 yX8_way, Cond.instanceMethod yX8_way, Cond.selects RX8 yX8_way yX8_way, Cond.code yX8_way cX8_way 2 (some .int), Cond.methodLink RL 49 yX7_tread, Cond.instanceMethod yX7_tread, Cond.selects RX7 yX7_tread yX7_tread, Cond.code yX7_tread cX7_tread 4 (some .int), Cond.methodLink RX7 115 yX7_isEffort, Cond.methodLink RX7 118 yX4_treads]
def wsL_law_r14 : List Cond := [Cond.instanceMethod yX4_treads, Cond.selects RX4 yX4_treads yX4_treads, Cond.code yX4_treads cX4_treads 3 (some .int), Cond.methodLink RX4 26 Lib.Math.abs.name, Cond.static Lib.Math.abs.name, Cond.code Lib.Math.abs.name Lib.Math.abs.code 1 (some .int), Cond.methodLink RL 53 yX8_tread, Cond.instanceMethod yX8_tread, Cond.selects RX8 yX8_tread yX8_tread, Cond.code yX8_tread cX8_tread 4 (some .int), Cond.methodLink RX8 149 yX8_isEffort, Cond.static yX8_isEffort, Cond.code yX8_isEffort cX8_isEffort 1 (some .boolean), Cond.methodLink RX8 152 yX8_treadOf, Cond.instanceMethod yX8_treadOf, Cond.selects RX8 yX8_treadOf yX8_treadOf, Cond.code yX8_treadOf cX8_treadOf 5 (some .int), Cond.methodLink RL 54 yX7_judge, Cond.instanceMethod yX7_judge, Cond.selects RX7 yX7_judge yX7_judge, Cond.code yX7_judge cX7_judge 2 (some .int), Cond.fieldLink RX7 130 "TandemRide$Ride" "stuckAt" "I", Cond.fieldLink RX7 133 "TandemRide$Ride" "reason" "I", Cond.methodLink RX7 122 yX7_areSeated]
def wsL_law_r15 : List Cond := [Cond.instanceMethod yX7_areSeated, Cond.selects RX7 yX7_areSeated yX7_areSeated, Cond.code yX7_areSeated cX7_areSeated 1 (some .boolean), Cond.methodLink RX7 126 yX3_go, Cond.instanceMethod yX3_go, Cond.selects RX3 yX3_go yX3_go, Cond.code yX3_go cX3_go 15 none, Cond.fieldLink RX3 33 "TandemRide$Rider" "wind" "I", Cond.fieldLink RX3 42 "TandemRide$Setup" "stretches" "I", Cond.fieldLink RX3 45 "TandemRide$Plan" "rest" "[Z", Cond.fieldLink RX3 51 "TandemRide$Setup" "pause" "I", Cond.fieldLink RX3 54 "TandemRide$Plan" "effortFront" "[I", Cond.fieldLink RX3 61 "TandemRide$Plan" "effortBack" "[I", Cond.fieldLink RX3 64 "TandemRide$Setup" "ground" "[I", Cond.fieldLink RX3 73 "TandemRide$Setup" "hottest" "I", Cond.fieldLink RX3 80 "TandemRide$Ride" "reason" "I", Cond.fieldLink RX3 83 "TandemRide$Ride" "stuckAt" "I", Cond.fieldLink RX3 86 "TandemRide$Plan" "beat" "[I", Cond.fieldLink RX3 99 "TandemRide$Ride" "unseenBits" "I", Cond.fieldLink RX3 102 "TandemRide$Ride" "treadsFront" "I", Cond.fieldLink RX3 105 "TandemRide$Ride" "treadsBack" "I", Cond.methodLink RX3 24 yX6_riderInFront, Cond.instanceMethod yX6_riderInFront, Cond.selects RX6 yX6_riderInFront yX6_riderInFront]
def wsL_law_r16 : List Cond := [Cond.code yX6_riderInFront cX6_riderInFront 1 (some (.object "TandemRide$Rider")), Cond.methodLink RX3 30 yX6_riderInBack, Cond.instanceMethod yX6_riderInBack, Cond.selects RX6 yX6_riderInBack yX6_riderInBack, Cond.code yX6_riderInBack cX6_riderInBack 1 (some (.object "TandemRide$Rider")), Cond.methodLink RX3 39 yX3_start, Cond.instanceMethod yX3_start, Cond.selects RX3 yX3_start yX3_start, Cond.code yX3_start cX3_start 1 none, Cond.methodLink RX3 57 yX4_windBehind, Cond.static yX4_windBehind, Cond.code yX4_windBehind cX4_windBehind 3 (some .int), Cond.methodLink RX4 39 Lib.Math.min.name, Cond.methodLink RX3 67 yX0_heatBehind, Cond.static yX0_heatBehind, Cond.code yX0_heatBehind cX0_heatBehind 2 (some .int), Cond.methodLink RX0 9 Lib.Math.max.name, Cond.methodLink RX3 76 yX3_reasonAgainst, Cond.static yX3_reasonAgainst, Cond.code yX3_reasonAgainst cX3_reasonAgainst 4 (some .int), Cond.methodLink RX3 89 yX4_treads, Cond.methodLink RX3 92 yX0_hardOf, Cond.static yX0_hardOf, Cond.code yX0_hardOf cX0_hardOf 1 (some .int)]
def wsL_law_r17 : List Cond := [Cond.methodLink RX3 96 yX0_secondsOf, Cond.static yX0_secondsOf, Cond.code yX0_secondsOf cX0_secondsOf 2 (some .int), Cond.methodLink RL 57 yX8_judge, Cond.instanceMethod yX8_judge, Cond.selects RX8 yX8_judge yX8_judge, Cond.code yX8_judge cX8_judge 2 (some .int), Cond.fieldLink RX8 156 "TandemRideModel" "badStretch" "I", Cond.fieldLink RX8 159 "TandemRideModel" "badWhy" "I", Cond.methodLink RX8 206 yX8_isNobody, Cond.instanceMethod yX8_isNobody, Cond.selects RX8 yX8_isNobody yX8_isNobody, Cond.code yX8_isNobody cX8_isNobody 1 (some .boolean), Cond.methodLink RX8 210 yX8_rideAll, Cond.instanceMethod yX8_rideAll, Cond.selects RX8 yX8_rideAll yX8_rideAll, Cond.code yX8_rideAll cX8_rideAll 1 none, Cond.methodLink RX8 203 yX8_ride, Cond.instanceMethod yX8_ride, Cond.selects RX8 yX8_ride yX8_ride, Cond.code yX8_ride cX8_ride 3 none, Cond.methodLink RX8 196 yX8_begin, Cond.instanceMethod yX8_begin, Cond.selects RX8 yX8_begin yX8_begin]
def wsL_law_r18 : List Cond := [Cond.code yX8_begin cX8_begin 1 none, Cond.fieldLink RX8 162 "TandemRideModel" "secondsSoFar" "I", Cond.fieldLink RX8 165 "TandemRideModel" "windFront" "I", Cond.fieldLink RX8 168 "TandemRideModel" "windBack" "I", Cond.fieldLink RX8 171 "TandemRideModel" "heat" "I", Cond.fieldLink RX8 174 "TandemRideModel" "treadsFront" "I", Cond.fieldLink RX8 177 "TandemRideModel" "treadsBack" "I", Cond.methodLink RX8 199 yX8_rideOne, Cond.instanceMethod yX8_rideOne, Cond.selects RX8 yX8_rideOne yX8_rideOne, Cond.code yX8_rideOne cX8_rideOne 5 none, Cond.methodLink RX8 180 yX8_rest, Cond.instanceMethod yX8_rest, Cond.selects RX8 yX8_rest yX8_rest, Cond.code yX8_rest cX8_rest 1 none, Cond.methodLink RX8 183 yX8_winded, Cond.instanceMethod yX8_winded, Cond.selects RX8 yX8_winded yX8_winded, Cond.code yX8_winded cX8_winded 5 (some .int), Cond.methodLink RX8 186 yX8_heated, Cond.static yX8_heated, Cond.code yX8_heated cX8_heated 3 (some .int), Cond.methodLink RX8 190 yX8_hard, Cond.static yX8_hard]
def wsL_law_r19 : List Cond := [Cond.code yX8_hard cX8_hard 1 (some .int), Cond.methodLink RX8 193 yX8_seconds, Cond.static yX8_seconds, Cond.code yX8_seconds cX8_seconds 2 (some .int), Cond.methodLink RL 58 yX7_ridden, Cond.instanceMethod yX7_ridden, Cond.selects RX7 yX7_ridden yX7_ridden, Cond.code yX7_ridden cX7_ridden 4 (some .int), Cond.fieldLink RX7 139 "TandemRide$Ride" "seconds" "[I", Cond.fieldLink RX7 143 "TandemRide$Ride" "windFront" "[I", Cond.fieldLink RX7 146 "TandemRide$Ride" "windBack" "[I", Cond.fieldLink RX7 149 "TandemRide$Ride" "heat" "[I", Cond.methodLink RX7 136 yX7_planIsRidden, Cond.instanceMethod yX7_planIsRidden, Cond.selects RX7 yX7_planIsRidden yX7_planIsRidden, Cond.code yX7_planIsRidden cX7_planIsRidden 1 (some .boolean), Cond.methodLink RL 61 yX8_ridden, Cond.instanceMethod yX8_ridden, Cond.selects RX8 yX8_ridden yX8_ridden, Cond.code yX8_ridden cX8_ridden 3 (some .int), Cond.constantLong RX8 213 (-1), Cond.methodLink RX8 215 yX8_isRefused, Cond.instanceMethod yX8_isRefused, Cond.selects RX8 yX8_isRefused yX8_isRefused]
def wsL_law_r20 : List Cond := [Cond.code yX8_isRefused cX8_isRefused 1 (some .boolean), Cond.methodLink RL 62 yX7_share, Cond.instanceMethod yX7_share, Cond.selects RX7 yX7_share yX7_share, Cond.code yX7_share cX7_share 3 (some .long), Cond.constantLong RX7 152 (-1000000000000000003), Cond.constantLong RX7 154 (-1000000000000000002), Cond.constantLong RX7 156 (-1000000000000000005), Cond.fieldLink RX7 158 "TandemRide$Ride" "treadsFront" "I", Cond.fieldLink RX7 161 "TandemRide$Ride" "treadsBack" "I", Cond.methodLink RX7 164 yX7_fractionPart, Cond.static yX7_fractionPart, Cond.code yX7_fractionPart cX7_fractionPart 12 (some .long), Cond.methodLink RL 66 yX8_share, Cond.instanceMethod yX8_share, Cond.selects RX8 yX8_share yX8_share, Cond.code yX8_share cX8_share 3 (some .long), Cond.constantLong RX8 218 (-1000000000000000003), Cond.constantLong RX8 220 (-1000000000000000002), Cond.constantLong RX8 222 (-1000000000000000005), Cond.methodLink RX8 224 yX8_lowest, Cond.static yX8_lowest, Cond.code yX8_lowest cX8_lowest 11 (some .long), Cond.methodLink RL 67 yX7_unseen]
def wsL_law_r21 : List Cond := [Cond.instanceMethod yX7_unseen, Cond.selects RX7 yX7_unseen yX7_unseen, Cond.code yX7_unseen cX7_unseen 1 (some .int), Cond.fieldLink RX7 168 "TandemRide$Ride" "unseenBits" "I", Cond.methodLink RL 70 yX8_unseen, Cond.instanceMethod yX8_unseen, Cond.selects RX8 yX8_unseen yX8_unseen, Cond.code yX8_unseen cX8_unseen 6 (some .int), Cond.methodLink RL 71 yX7_soonest, Cond.instanceMethod yX7_soonest, Cond.selects RX7 yX7_soonest yX7_soonest, Cond.code yX7_soonest cX7_soonest 2 (some .int), Cond.fieldLink RX7 182 "TandemRide$Search" "fewest" "I", Cond.fieldLink RX7 185 "TandemRide$Search" "firstStretch" "I", Cond.methodLink RX7 171 yX6_riderInFront, Cond.methodLink RX7 175 yX6_riderInBack, Cond.methodLink RX7 178 yX5_seek, Cond.instanceMethod yX5_seek, Cond.selects RX5 yX5_seek yX5_seek, Cond.code yX5_seek cX5_seek 6 none, Cond.fieldLink RX5 39 "TandemRide$Setup" "hottest" "I", Cond.fieldLink RX5 45 "TandemRide$Search" "hottest" "I", Cond.fieldLink RX5 46 "TandemRide$Rider" "wind" "I", Cond.fieldLink RX5 51 "TandemRide$Search" "mostFront" "I"]
def wsL_law_r22 : List Cond := [Cond.fieldLink RX5 54 "TandemRide$Search" "mostBack" "I", Cond.fieldLink RX5 65 "TandemRide$Setup" "stretches" "I", Cond.fieldLink RX5 68 "TandemRide$Setup" "ground" "[I", Cond.fieldLink RX5 71 "TandemRide$Setup" "pause" "I", Cond.fieldLink RX5 82 "TandemRide$Search" "firstStretch" "I", Cond.static yX7_mostTreads, Cond.code yX7_mostTreads cX7_mostTreads 6 (some .int), Cond.methodLink RX7 206 Lib.Math.max.name, Cond.methodLink RX5 61 yX5_findHeats, Cond.instanceMethod yX5_findHeats, Cond.selects RX5 yX5_findHeats yX5_findHeats, Cond.code yX5_findHeats cX5_findHeats 6 none, Cond.methodLink RX5 94 yX0_heatBehind, Cond.methodLink RX5 74 yX5_stepAhead, Cond.instanceMethod yX5_stepAhead, Cond.selects RX5 yX5_stepAhead yX5_stepAhead, Cond.code yX5_stepAhead cX5_stepAhead 9 none, Cond.constant RX5 102 (1000000000), Cond.methodLink RX5 85 yX0_hardOf, Cond.methodLink RX5 98 yX5_listChoices, Cond.instanceMethod yX5_listChoices, Cond.selects RX5 yX5_listChoices yX5_listChoices, Cond.code yX5_listChoices cX5_listChoices 4 none, Cond.fieldLink RX5 111 "TandemRide$Search" "choices" "I"]
def wsL_law_r23 : List Cond := [Cond.methodLink RX5 114 yX0_secondsOf, Cond.methodLink RX5 103 yX5_fewestOnward, Cond.instanceMethod yX5_fewestOnward, Cond.selects RX5 yX5_fewestOnward yX5_fewestOnward, Cond.code yX5_fewestOnward cX5_fewestOnward 9 (some .int), Cond.methodLink RX5 120 Lib.Math.min.name, Cond.methodLink RX5 117 yX4_windBehind, Cond.methodLink RX5 107 yX5_cellOf, Cond.static yX5_cellOf, Cond.code yX5_cellOf cX5_cellOf 3 (some .int), Cond.methodLink RX5 78 yX5_chooseFirst, Cond.instanceMethod yX5_chooseFirst, Cond.selects RX5 yX5_chooseFirst yX5_chooseFirst, Cond.code yX5_chooseFirst cX5_chooseFirst 9 (some .int), Cond.fieldLink RX5 125 "TandemRide$Search" "fewest" "I", Cond.methodLink RX5 90 yX5_leastBeatFor, Cond.instanceMethod yX5_leastBeatFor, Cond.selects RX5 yX5_leastBeatFor yX5_leastBeatFor, Cond.code yX5_leastBeatFor cX5_leastBeatFor 8 (some .int), Cond.methodLink RX5 128 yX4_treads, Cond.methodLink RL 74 yX8_soonest, Cond.instanceMethod yX8_soonest, Cond.selects RX8 yX8_soonest yX8_soonest, Cond.code yX8_soonest cX8_soonest 5 (some .int)]
def wsL_law_r24 : List Cond := [Cond.methodLink RX8 252 yX8_soonestOf, Cond.instanceMethod yX8_soonestOf, Cond.selects RX8 yX8_soonestOf yX8_soonestOf, Cond.code yX8_soonestOf cX8_soonestOf 4 (some .int), Cond.constant RX8 228 (1000000), Cond.methodLink RX8 248 yX8_goBack, Cond.instanceMethod yX8_goBack, Cond.selects RX8 yX8_goBack yX8_goBack, Cond.code yX8_goBack cX8_goBack 9 none, Cond.methodLink RX8 240 yX8_findQuickest, Cond.instanceMethod yX8_findQuickest, Cond.selects RX8 yX8_findQuickest yX8_findQuickest, Cond.code yX8_findQuickest cX8_findQuickest 7 none, Cond.methodLink RX8 229 yX8_secondsBy, Cond.instanceMethod yX8_secondsBy, Cond.selects RX8 yX8_secondsBy yX8_secondsBy, Cond.code yX8_secondsBy cX8_secondsBy 6 (some .int), Cond.methodLink RX8 244 yX8_bestFrom, Cond.instanceMethod yX8_bestFrom, Cond.selects RX8 yX8_bestFrom yX8_bestFrom, Cond.code yX8_bestFrom cX8_bestFrom 10 (some .int), Cond.methodLink RX8 236 yX8_secondsFrom, Cond.instanceMethod yX8_secondsFrom, Cond.selects RX8 yX8_secondsFrom yX8_secondsFrom]
def wsL_law_r25 : List Cond := [Cond.code yX8_secondsFrom cX8_secondsFrom 11 (some .int), Cond.methodLink RX8 233 yX8_stateOf, Cond.static yX8_stateOf, Cond.code yX8_stateOf cX8_stateOf 3 (some .int), Cond.methodLink RL 75 yX7_oneBeat, Cond.instanceMethod yX7_oneBeat, Cond.selects RX7 yX7_oneBeat yX7_oneBeat, Cond.code yX7_oneBeat cX7_oneBeat 8 (some .int), Cond.methodLink RX7 188 yX7_secondsAtBeat, Cond.instanceMethod yX7_secondsAtBeat, Cond.selects RX7 yX7_secondsAtBeat yX7_secondsAtBeat, Cond.code yX7_secondsAtBeat cX7_secondsAtBeat 5 (some .int), Cond.methodLink RX7 292 yX6_secondsTogether, Cond.instanceMethod yX6_secondsTogether, Cond.selects RX6 yX6_secondsTogether yX6_secondsTogether, Cond.code yX6_secondsTogether cX6_secondsTogether 4 (some .int), Cond.methodLink RX6 112 yX0_hardOf, Cond.methodLink RX6 115 yX0_secondsOf, Cond.methodLink RX7 192 yX4_losesAt, Cond.instanceMethod yX4_losesAt, Cond.selects RX4 yX4_losesAt yX4_losesAt, Cond.code yX4_losesAt cX4_losesAt 3 (some .int), Cond.methodLink RX4 32 yX4_treadsAsLiked, Cond.instanceMethod yX4_treadsAsLiked]
def wsL_law_r26 : List Cond := [Cond.selects RX4 yX4_treadsAsLiked yX4_treadsAsLiked, Cond.code yX4_treadsAsLiked cX4_treadsAsLiked 2 (some .int), Cond.methodLink RX4 35 yX4_treads, Cond.methodLink RL 78 yX8_oneBeat, Cond.instanceMethod yX8_oneBeat, Cond.selects RX8 yX8_oneBeat yX8_oneBeat, Cond.code yX8_oneBeat cX8_oneBeat 7 (some .int), Cond.methodLink RX8 255 yX8_secondsAt, Cond.instanceMethod yX8_secondsAt, Cond.selects RX8 yX8_secondsAt yX8_secondsAt, Cond.code yX8_secondsAt cX8_secondsAt 5 (some .int), Cond.methodLink RX8 258 yX8_lost, Cond.instanceMethod yX8_lost, Cond.selects RX8 yX8_lost yX8_lost, Cond.code yX8_lost cX8_lost 4 (some .int), Cond.methodLink RL 79 yX7_single, Cond.instanceMethod yX7_single, Cond.selects RX7 yX7_single yX7_single, Cond.code yX7_single cX7_single 3 (some .int), Cond.methodLink RX7 195 yX4_treadsAsLiked, Cond.methodLink RX7 199 yX6_secondsAlone, Cond.instanceMethod yX6_secondsAlone, Cond.selects RX6 yX6_secondsAlone yX6_secondsAlone, Cond.code yX6_secondsAlone cX6_secondsAlone 4 (some .int)]
def wsL_law_r27 : List Cond := [Cond.methodLink RL 82 yX8_single, Cond.instanceMethod yX8_single, Cond.selects RX8 yX8_single yX8_single, Cond.code yX8_single cX8_single 5 (some .int), Cond.methodLink RX8 261 yX8_alone, Cond.instanceMethod yX8_alone, Cond.selects RX8 yX8_alone yX8_alone, Cond.code yX8_alone cX8_alone 4 (some .int), Cond.methodLink RL 83 yX7_sorts, Cond.instanceMethod yX7_sorts, Cond.selects RX7 yX7_sorts yX7_sorts, Cond.code yX7_sorts cX7_sorts 7 (some .int), Cond.methodLink RX7 202 yX7_mostTreads, Cond.methodLink RX7 211 yX0_hardOf, Cond.methodLink RX7 216 yX0_secondsOf, Cond.methodLink RL 86 yX8_sorts, Cond.instanceMethod yX8_sorts, Cond.selects RX8 yX8_sorts yX8_sorts, Cond.code yX8_sorts cX8_sorts 6 (some .int), Cond.methodLink RX8 264 yX8_sortOf, Cond.static yX8_sortOf, Cond.code yX8_sortOf cX8_sortOf 1 (some .int), Cond.methodLink RL 87 yX7_uneven, Cond.instanceMethod yX7_uneven]
def wsL_law_r28 : List Cond := [Cond.selects RX7 yX7_uneven yX7_uneven, Cond.code yX7_uneven cX7_uneven 4 (some .int), Cond.methodLink RX7 219 yX7_unevenness, Cond.instanceMethod yX7_unevenness, Cond.selects RX7 yX7_unevenness yX7_unevenness, Cond.code yX7_unevenness cX7_unevenness 10 (some .int), Cond.fieldLink RX7 280 "TandemRide$Rider" "strength" "I", Cond.constant RX7 265 (1000000000), Cond.methodLink RX7 240 Lib.Math.min.name, Cond.methodLink RX7 295 yX7_crankAt, Cond.static yX7_crankAt, Cond.code yX7_crankAt cX7_crankAt 1 (some .int), Cond.methodLink RX7 298 Lib.Math.abs.name, Cond.methodLink RL 90 yX8_uneven, Cond.instanceMethod yX8_uneven, Cond.selects RX8 yX8_uneven yX8_uneven, Cond.code yX8_uneven cX8_uneven 4 (some .int), Cond.constantLong RX8 270 (11), Cond.methodLink RX8 272 yX8_unevenBy, Cond.instanceMethod yX8_unevenBy, Cond.selects RX8 yX8_unevenBy yX8_unevenBy, Cond.code yX8_unevenBy cX8_unevenBy 8 (some .int), Cond.methodLink RX8 267 yX8_fromSix, Cond.static yX8_fromSix]
def wsL_law_r29 : List Cond := [Cond.code yX8_fromSix cX8_fromSix 1 (some .int), Cond.methodLink RL 91 yX7_evenest, Cond.instanceMethod yX7_evenest, Cond.selects RX7 yX7_evenest yX7_evenest, Cond.code yX7_evenest cX7_evenest 7 (some .int), Cond.methodLink RL 94 yX8_evenest, Cond.instanceMethod yX8_evenest, Cond.selects RX8 yX8_evenest yX8_evenest, Cond.code yX8_evenest cX8_evenest 5 (some .int), Cond.methodLink RL 95 yX7_calls, Cond.instanceMethod yX7_calls, Cond.selects RX7 yX7_calls yX7_calls, Cond.code yX7_calls cX7_calls 4 (some .int), Cond.constant RX7 232 (16777215), Cond.methodLink RX7 222 yX6_corners, Cond.instanceMethod yX6_corners, Cond.selects RX6 yX6_corners yX6_corners, Cond.code yX6_corners cX6_corners 1 (some .int), Cond.methodLink RX6 109 yX6_stretchesOf, Cond.instanceMethod yX6_stretchesOf, Cond.selects RX6 yX6_stretchesOf yX6_stretchesOf, Cond.code yX6_stretchesOf cX6_stretchesOf 4 (some .int), Cond.methodLink RX7 225 yX6_bumps, Cond.instanceMethod yX6_bumps]
def wsL_law_r30 : List Cond := [Cond.selects RX6 yX6_bumps yX6_bumps, Cond.code yX6_bumps cX6_bumps 1 (some .int), Cond.methodLink RX7 228 yX5_fewestCalls, Cond.instanceMethod yX5_fewestCalls, Cond.selects RX5 yX5_fewestCalls yX5_fewestCalls, Cond.code yX5_fewestCalls cX5_fewestCalls 8 (some .int), Cond.constant RX5 138 (16777216), Cond.methodLink RX5 131 yX0_soreBehind, Cond.static yX0_soreBehind, Cond.code yX0_soreBehind cX0_soreBehind 2 (some .int), Cond.methodLink RX5 134 yX5_keepFewer, Cond.instanceMethod yX5_keepFewer, Cond.selects RX5 yX5_keepFewer yX5_keepFewer, Cond.code yX5_keepFewer cX5_keepFewer 3 none, Cond.methodLink RL 98 yX8_calls, Cond.instanceMethod yX8_calls, Cond.selects RX8 yX8_calls yX8_calls, Cond.code yX8_calls cX8_calls 6 (some .int), Cond.methodLink RX8 275 yX8_bumps, Cond.instanceMethod yX8_bumps, Cond.selects RX8 yX8_bumps yX8_bumps, Cond.code yX8_bumps cX8_bumps 3 (some .int), Cond.methodLink RX8 278 yX8_isBorne, Cond.instanceMethod yX8_isBorne]
def wsL_law_r31 : List Cond := [Cond.selects RX8 yX8_isBorne yX8_isBorne, Cond.code yX8_isBorne cX8_isBorne 8 (some .boolean), Cond.methodLink RX8 282 yX8_stretchesOf, Cond.instanceMethod yX8_stretchesOf, Cond.selects RX8 yX8_stretchesOf yX8_stretchesOf, Cond.code yX8_stretchesOf cX8_stretchesOf 5 (some .int), Cond.methodLink RL 99 yX7_worth, Cond.instanceMethod yX7_worth, Cond.selects RX7 yX7_worth yX7_worth, Cond.code yX7_worth cX7_worth 3 (some .int), Cond.methodLink RX7 233 yX2_restsIn, Cond.instanceMethod yX2_restsIn, Cond.selects RX2 yX2_restsIn yX2_restsIn, Cond.code yX2_restsIn cX2_restsIn 3 (some .boolean), Cond.methodLink RL 102 yX8_worth, Cond.instanceMethod yX8_worth, Cond.selects RX8 yX8_worth yX8_worth, Cond.code yX8_worth cX8_worth 4 (some .int), Cond.methodLink RL 103 yX7_bestPair, Cond.instanceMethod yX7_bestPair, Cond.selects RX7 yX7_bestPair yX7_bestPair, Cond.code yX7_bestPair cX7_bestPair 6 (some .int), Cond.methodLink RL 106 yX8_bestPair, Cond.instanceMethod yX8_bestPair]
def wsL_law_r32 : List Cond := [Cond.selects RX8 yX8_bestPair yX8_bestPair, Cond.code yX8_bestPair cX8_bestPair 8 (some .int), Cond.methodLink RL 107 yX7_quarrel, Cond.instanceMethod yX7_quarrel, Cond.selects RX7 yX7_quarrel yX7_quarrel, Cond.code yX7_quarrel cX7_quarrel 7 (some .int), Cond.methodLink RX7 236 yX7_believedBy, Cond.instanceMethod yX7_believedBy, Cond.selects RX7 yX7_believedBy yX7_believedBy, Cond.code yX7_believedBy cX7_believedBy 5 (some .int), Cond.fieldLink RX7 289 "TandemRide$Rider" "thinks" "I", Cond.methodLink RL 110 yX8_quarrel, Cond.instanceMethod yX8_quarrel, Cond.selects RX8 yX8_quarrel yX8_quarrel, Cond.code yX8_quarrel cX8_quarrel 5 (some .int), Cond.methodLink RX8 285 yX8_believed, Cond.instanceMethod yX8_believed, Cond.selects RX8 yX8_believed yX8_believed, Cond.code yX8_believed cX8_believed 5 (some .int), Cond.methodLink RL 111 yX7_home, Cond.instanceMethod yX7_home, Cond.selects RX7 yX7_home yX7_home, Cond.code yX7_home cX7_home 8 (some .long), Cond.constantLong RX7 243 (-1000000000000000004)]
def wsL_law_r33 : List Cond := [Cond.constantLong RX7 249 (10), Cond.methodLink RX7 245 yX7_chancesOfSlips, Cond.static yX7_chancesOfSlips, Cond.code yX7_chancesOfSlips cX7_chancesOfSlips 8 (some .long), Cond.methodLink RX7 251 yX7_power, Cond.static yX7_power, Cond.code yX7_power cX7_power 6 (some .long), Cond.methodLink RL 115 yX8_home, Cond.instanceMethod yX8_home, Cond.selects RX8 yX8_home yX8_home, Cond.code yX8_home cX8_home 9 (some .long), Cond.constantLong RX8 288 (9999), Cond.constantLong RX8 293 (-1000000000000000004), Cond.methodLink RX8 290 yX8_corners, Cond.instanceMethod yX8_corners, Cond.selects RX8 yX8_corners yX8_corners, Cond.code yX8_corners cX8_corners 3 (some .int), Cond.methodLink RX8 295 yX8_powers, Cond.static yX8_powers, Cond.code yX8_powers cX8_powers 5 (some .long), Cond.methodLink RL 116 yX7_mean, Cond.instanceMethod yX7_mean, Cond.selects RX7 yX7_mean yX7_mean, Cond.code yX7_mean cX7_mean 4 (some .long)]
def wsL_law_r34 : List Cond := [Cond.methodLink RL 120 yX8_mean, Cond.instanceMethod yX8_mean, Cond.selects RX8 yX8_mean yX8_mean, Cond.code yX8_mean cX8_mean 3 (some .long), Cond.methodLink RL 121 yX7_time, Cond.instanceMethod yX7_time, Cond.selects RX7 yX7_time yX7_time, Cond.code yX7_time cX7_time 5 (some .int), Cond.fieldLink RX7 255 "TandemRide$Setup" "times" "I", Cond.methodLink RX7 258 yX6_addTime, Cond.instanceMethod yX6_addTime, Cond.selects RX6 yX6_addTime yX6_addTime, Cond.code yX6_addTime cX6_addTime 5 none, Cond.methodLink RL 125 yX8_time, Cond.instanceMethod yX8_time, Cond.selects RX8 yX8_time yX8_time, Cond.code yX8_time cX8_time 5 (some .int), Cond.constantLong RX8 299 (300), Cond.fieldLink RX8 301 "TandemRideModel" "times" "I", Cond.methodLink RL 126 yX7_forget, Cond.instanceMethod yX7_forget, Cond.selects RX7 yX7_forget yX7_forget, Cond.code yX7_forget cX7_forget 2 (some .int), Cond.methodLink RL 129 yX8_forget]
def wsL_law_r35 : List Cond := [Cond.instanceMethod yX8_forget, Cond.selects RX8 yX8_forget yX8_forget, Cond.code yX8_forget cX8_forget 2 (some .int), Cond.methodLink RL 130 yX7_strong, Cond.instanceMethod yX7_strong, Cond.selects RX7 yX7_strong yX7_strong, Cond.code yX7_strong cX7_strong 7 (some .int), Cond.methodLink RX7 261 yX6_timesHold, Cond.instanceMethod yX6_timesHold, Cond.selects RX6 yX6_timesHold yX6_timesHold, Cond.code yX6_timesHold cX6_timesHold 5 (some .boolean), Cond.methodLink RL 133 yX8_strong, Cond.instanceMethod yX8_strong, Cond.selects RX8 yX8_strong yX8_strong, Cond.code yX8_strong cX8_strong 7 (some .int), Cond.constantLong RX8 304 (2), Cond.methodLink RX8 306 yX8_holds, Cond.instanceMethod yX8_holds, Cond.selects RX8 yX8_holds yX8_holds, Cond.code yX8_holds cX8_holds 6 (some .boolean), Cond.methodLink RL 134 yX7_year, Cond.instanceMethod yX7_year, Cond.selects RX7 yX7_year yX7_year, Cond.code yX7_year cX7_year 11 (some .int)]
def wsL_law_r36 : List Cond := [Cond.constant RX7 266 (65537), Cond.methodLink RL 137 yX8_year, Cond.instanceMethod yX8_year, Cond.selects RX8 yX8_year yX8_year, Cond.code yX8_year cX8_year 11 (some .int), Cond.constantLong RX8 309 (75), Cond.constantLong RX8 311 (74), Cond.constantLong RX8 313 (65537), Cond.methodLink RL 138 yX7_image, Cond.instanceMethod yX7_image, Cond.selects RX7 yX7_image yX7_image, Cond.code yX7_image cX7_image 2 (some .int), Cond.methodLink RX7 267 yX6_copyFrom, Cond.instanceMethod yX6_copyFrom, Cond.selects RX6 yX6_copyFrom yX6_copyFrom, Cond.code yX6_copyFrom cX6_copyFrom 3 none, Cond.methodLink RX6 63 arraycopyName, Cond.native arraycopyName, Cond.static arraycopyName, Cond.initialized "java/lang/System", Cond.methodLink RX6 59 yX4_copyFrom, Cond.instanceMethod yX4_copyFrom, Cond.selects RX4 yX4_copyFrom yX4_copyFrom, Cond.code yX4_copyFrom cX4_copyFrom 2 none]
def wsL_law_r37 : List Cond := [Cond.methodLink RL 141 yX8_image, Cond.instanceMethod yX8_image, Cond.selects RX8 yX8_image yX8_image, Cond.code yX8_image cX8_image 2 (some .int), Cond.fieldLink RX8 319 "TandemRideModel" "keptAt" "I", Cond.fieldLink RX8 315 "TandemRideModel" "isWriting" "Z", Cond.methodLink RX8 325 yX8_passAll, Cond.instanceMethod yX8_passAll, Cond.selects RX8 yX8_passAll yX8_passAll, Cond.code yX8_passAll cX8_passAll 2 none, Cond.methodLink RX8 322 yX8_pass, Cond.instanceMethod yX8_pass, Cond.selects RX8 yX8_pass yX8_pass, Cond.code yX8_pass cX8_pass 3 (some .int), Cond.methodLink RL 142 yX7_restore, Cond.instanceMethod yX7_restore, Cond.selects RX7 yX7_restore yX7_restore, Cond.code yX7_restore cX7_restore 2 (some .int), Cond.methodLink RL 145 yX8_restore, Cond.instanceMethod yX8_restore, Cond.selects RX8 yX8_restore yX8_restore, Cond.code yX8_restore cX8_restore 2 (some .int), Cond.methodLink RL 146 yX7_told, Cond.instanceMethod yX7_told]
def wsL_law_r38 : List Cond := [Cond.selects RX7 yX7_told yX7_told, Cond.code yX7_told cX7_told 2 (some .int), Cond.fieldLink RX7 274 "TandemRide$Setup" "signs" "[I", Cond.methodLink RX7 271 yX6_riderBits, Cond.methodLink RX7 277 yX7_toldOfRider, Cond.instanceMethod yX7_toldOfRider, Cond.selects RX7 yX7_toldOfRider yX7_toldOfRider, Cond.code yX7_toldOfRider cX7_toldOfRider 4 (some .int), Cond.fieldLink RX7 283 "TandemRide$Rider" "likes" "I", Cond.fieldLink RX7 286 "TandemRide$Rider" "wind" "I", Cond.methodLink RL 149 yX8_told, Cond.instanceMethod yX8_told, Cond.selects RX8 yX8_told yX8_told, Cond.code yX8_told cX8_told 2 (some .int), Cond.constantLong RX8 328 (49), Cond.constantLong RX8 333 (100), Cond.methodLink RX8 330 yX8_toldOf, Cond.instanceMethod yX8_toldOf, Cond.selects RX8 yX8_toldOf yX8_toldOf, Cond.code yX8_toldOf cX8_toldOf 3 (some .int)]
def wsL_law : List Cond := (wsL_law_r1 ++ (wsL_law_r2 ++ (wsL_law_r3 ++ (wsL_law_r4 ++ (wsL_law_r5 ++ (wsL_law_r6 ++ (wsL_law_r7 ++ (wsL_law_r8 ++ (wsL_law_r9 ++ (wsL_law_r10 ++ (wsL_law_r11 ++ (wsL_law_r12 ++ (wsL_law_r13 ++ (wsL_law_r14 ++ (wsL_law_r15 ++ (wsL_law_r16 ++ (wsL_law_r17 ++ (wsL_law_r18 ++ (wsL_law_r19 ++ (wsL_law_r20 ++ (wsL_law_r21 ++ (wsL_law_r22 ++ (wsL_law_r23 ++ (wsL_law_r24 ++ (wsL_law_r25 ++ (wsL_law_r26 ++ (wsL_law_r27 ++ (wsL_law_r28 ++ (wsL_law_r29 ++ (wsL_law_r30 ++ (wsL_law_r31 ++ (wsL_law_r32 ++ (wsL_law_r33 ++ (wsL_law_r34 ++ (wsL_law_r35 ++ (wsL_law_r36 ++ (wsL_law_r37 ++ wsL_law_r38))))))))))))))))))))))))))))))))))))) ++ wsX70 ++ wsX80 ++ wsX60 ++ wsX10 ++ wsX20 ++ wsX30 ++ wsX50 ++ wsX40 ++ ([] : List Cond)
set_option maxRecDepth 20000 in
theorem rt_w_r1 : ∀ w ∈ wsL_law_r1, w ∈ lw_tbl := fun w h => (goodIn_p wsL_law_r1 [63, 66] (by decide +kernel) (by decide +kernel) w h).1
set_option maxRecDepth 20000 in
theorem rt_w_r2 : ∀ w ∈ wsL_law_r2, w ∈ lw_tbl := fun w h => (goodIn_p wsL_law_r2 [71] (by decide +kernel) (by decide +kernel) w h).1
set_option maxRecDepth 20000 in
theorem rt_w_r3 : ∀ w ∈ wsL_law_r3, w ∈ lw_tbl := fun w h => (goodIn_p wsL_law_r3 [78, 170, 187] (by decide +kernel) (by decide +kernel) w h).1
set_option maxRecDepth 20000 in
theorem rt_w_r4 : ∀ w ∈ wsL_law_r4, w ∈ lw_tbl := fun w h => (goodIn_p wsL_law_r4 [210, 253, 722] (by decide +kernel) (by decide +kernel) w h).1
set_option maxRecDepth 20000 in
theorem rt_w_r5 : ∀ w ∈ wsL_law_r5, w ∈ lw_tbl := fun w h => (goodIn_p wsL_law_r5 [] (by decide +kernel) (by decide +kernel) w h).1
set_option maxRecDepth 20000 in
theorem rt_w_r6 : ∀ w ∈ wsL_law_r6, w ∈ lw_tbl := fun w h => (goodIn_p wsL_law_r6 [328, 331, 335, 339, 343] (by decide +kernel) (by decide +kernel) w h).1
set_option maxRecDepth 20000 in
theorem rt_w_r7 : ∀ w ∈ wsL_law_r7, w ∈ lw_tbl := fun w h => (goodIn_p wsL_law_r7 [346, 842, 845, 849] (by decide +kernel) (by decide +kernel) w h).1
set_option maxRecDepth 20000 in
theorem rt_w_r8 : ∀ w ∈ wsL_law_r8, w ∈ lw_tbl := fun w h => (goodIn_p wsL_law_r8 [853, 860, 353, 357, 864, 868] (by decide +kernel) (by decide +kernel) w h).1
set_option maxRecDepth 20000 in
theorem rt_w_r9 : ∀ w ∈ wsL_law_r9, w ∈ lw_tbl := fun w h => (goodIn_p wsL_law_r9 [362, 872, 366, 876] (by decide +kernel) (by decide +kernel) w h).1
set_option maxRecDepth 20000 in
theorem rt_w_r10 : ∀ w ∈ wsL_law_r10, w ∈ lw_tbl := fun w h => (goodIn_p wsL_law_r10 [370, 374, 882, 378, 888] (by decide +kernel) (by decide +kernel) w h).1
set_option maxRecDepth 20000 in
theorem rt_w_r11 : ∀ w ∈ wsL_law_r11, w ∈ lw_tbl := fun w h => (goodIn_p wsL_law_r11 [382, 386, 390, 393, 397] (by decide +kernel) (by decide +kernel) w h).1
set_option maxRecDepth 20000 in
theorem rt_w_r12 : ∀ w ∈ wsL_law_r12, w ∈ lw_tbl := fun w h => (goodIn_p wsL_law_r12 [401, 892, 896, 899, 903, 406] (by decide +kernel) (by decide +kernel) w h).1
set_option maxRecDepth 20000 in
theorem rt_w_r13 : ∀ w ∈ wsL_law_r13, w ∈ lw_tbl := fun w h => (goodIn_p wsL_law_r13 [410, 413, 416, 911, 422] (by decide +kernel) (by decide +kernel) w h).1
set_option maxRecDepth 20000 in
theorem rt_w_r14 : ∀ w ∈ wsL_law_r14, w ∈ lw_tbl := fun w h => (goodIn_p wsL_law_r14 [427, 430, 915, 918, 922, 434] (by decide +kernel) (by decide +kernel) w h).1
set_option maxRecDepth 20000 in
theorem rt_w_r15 : ∀ w ∈ wsL_law_r15, w ∈ lw_tbl := fun w h => (goodIn_p wsL_law_r15 [438, 442] (by decide +kernel) (by decide +kernel) w h).1
set_option maxRecDepth 20000 in
theorem rt_w_r16 : ∀ w ∈ wsL_law_r16, w ∈ lw_tbl := fun w h => (goodIn_p wsL_law_r16 [446, 450, 454, 457, 461, 465, 469] (by decide +kernel) (by decide +kernel) w h).1
set_option maxRecDepth 20000 in
theorem rt_w_r17 : ∀ w ∈ wsL_law_r17, w ∈ lw_tbl := fun w h => (goodIn_p wsL_law_r17 [472, 926, 930, 934, 938] (by decide +kernel) (by decide +kernel) w h).1
set_option maxRecDepth 20000 in
theorem rt_w_r18 : ∀ w ∈ wsL_law_r18, w ∈ lw_tbl := fun w h => (goodIn_p wsL_law_r18 [942, 946, 950, 954, 957] (by decide +kernel) (by decide +kernel) w h).1
set_option maxRecDepth 20000 in
theorem rt_w_r19 : ∀ w ∈ wsL_law_r19, w ∈ lw_tbl := fun w h => (goodIn_p wsL_law_r19 [960, 963, 476, 480, 967] (by decide +kernel) (by decide +kernel) w h).1
set_option maxRecDepth 20000 in
theorem rt_w_r20 : ∀ w ∈ wsL_law_r20, w ∈ lw_tbl := fun w h => (goodIn_p wsL_law_r20 [972, 484, 490, 976, 982] (by decide +kernel) (by decide +kernel) w h).1
set_option maxRecDepth 20000 in
theorem rt_w_r21 : ∀ w ∈ wsL_law_r21, w ∈ lw_tbl := fun w h => (goodIn_p wsL_law_r21 [494, 986, 498, 504] (by decide +kernel) (by decide +kernel) w h).1
set_option maxRecDepth 20000 in
theorem rt_w_r22 : ∀ w ∈ wsL_law_r22, w ∈ lw_tbl := fun w h => (goodIn_p wsL_law_r22 [507, 512, 517, 522] (by decide +kernel) (by decide +kernel) w h).1
set_option maxRecDepth 20000 in
theorem rt_w_r23 : ∀ w ∈ wsL_law_r23, w ∈ lw_tbl := fun w h => (goodIn_p wsL_law_r23 [528, 532, 537, 541, 990] (by decide +kernel) (by decide +kernel) w h).1
set_option maxRecDepth 20000 in
theorem rt_w_r24 : ∀ w ∈ wsL_law_r24, w ∈ lw_tbl := fun w h => (goodIn_p wsL_law_r24 [994, 998, 1002, 1007, 1011] (by decide +kernel) (by decide +kernel) w h).1
set_option maxRecDepth 20000 in
theorem rt_w_r25 : ∀ w ∈ wsL_law_r25, w ∈ lw_tbl := fun w h => (goodIn_p wsL_law_r25 [1015, 1018, 546, 550, 554, 560] (by decide +kernel) (by decide +kernel) w h).1
set_option maxRecDepth 20000 in
theorem rt_w_r26 : ∀ w ∈ wsL_law_r26, w ∈ lw_tbl := fun w h => (goodIn_p wsL_law_r26 [564, 1022, 1026, 1030, 569, 574] (by decide +kernel) (by decide +kernel) w h).1
set_option maxRecDepth 20000 in
theorem rt_w_r27 : ∀ w ∈ wsL_law_r27, w ∈ lw_tbl := fun w h => (goodIn_p wsL_law_r27 [1034, 1038, 578, 1042, 1045] (by decide +kernel) (by decide +kernel) w h).1
set_option maxRecDepth 20000 in
theorem rt_w_r28 : ∀ w ∈ wsL_law_r28, w ∈ lw_tbl := fun w h => (goodIn_p wsL_law_r28 [585, 589, 593, 1049, 1054] (by decide +kernel) (by decide +kernel) w h).1
set_option maxRecDepth 20000 in
theorem rt_w_r29 : ∀ w ∈ wsL_law_r29, w ∈ lw_tbl := fun w h => (goodIn_p wsL_law_r29 [1057, 599, 1061, 603, 607, 611] (by decide +kernel) (by decide +kernel) w h).1
set_option maxRecDepth 20000 in
theorem rt_w_r30 : ∀ w ∈ wsL_law_r30, w ∈ lw_tbl := fun w h => (goodIn_p wsL_law_r30 [615, 619, 622, 626, 1065, 1069] (by decide +kernel) (by decide +kernel) w h).1
set_option maxRecDepth 20000 in
theorem rt_w_r31 : ∀ w ∈ wsL_law_r31, w ∈ lw_tbl := fun w h => (goodIn_p wsL_law_r31 [1073, 1077, 632, 636, 1081, 640] (by decide +kernel) (by decide +kernel) w h).1
set_option maxRecDepth 20000 in
theorem rt_w_r32 : ∀ w ∈ wsL_law_r32, w ∈ lw_tbl := fun w h => (goodIn_p wsL_law_r32 [1085, 644, 648, 1089, 1093, 652] (by decide +kernel) (by decide +kernel) w h).1
set_option maxRecDepth 20000 in
theorem rt_w_r33 : ∀ w ∈ wsL_law_r33, w ∈ lw_tbl := fun w h => (goodIn_p wsL_law_r33 [656, 659, 1097, 1102, 1106, 664] (by decide +kernel) (by decide +kernel) w h).1
set_option maxRecDepth 20000 in
theorem rt_w_r34 : ∀ w ∈ wsL_law_r34, w ∈ lw_tbl := fun w h => (goodIn_p wsL_law_r34 [1110, 668, 672, 1114, 676] (by decide +kernel) (by decide +kernel) w h).1
set_option maxRecDepth 20000 in
theorem rt_w_r35 : ∀ w ∈ wsL_law_r35, w ∈ lw_tbl := fun w h => (goodIn_p wsL_law_r35 [1119, 680, 684, 1123, 1128, 688] (by decide +kernel) (by decide +kernel) w h).1
set_option maxRecDepth 20000 in
theorem rt_w_r36 : ∀ w ∈ wsL_law_r36, w ∈ lw_tbl := fun w h => (goodIn_p wsL_law_r36 [1132, 693, 697, 701] (by decide +kernel) (by decide +kernel) w h).1
set_option maxRecDepth 20000 in
theorem rt_w_r37 : ∀ w ∈ wsL_law_r37, w ∈ lw_tbl := fun w h => (goodIn_p wsL_law_r37 [1139, 1143, 1147, 708, 1151] (by decide +kernel) (by decide +kernel) w h).1
set_option maxRecDepth 20000 in
theorem rt_w_r38 : ∀ w ∈ wsL_law_r38, w ∈ lw_tbl := fun w h => (goodIn_p wsL_law_r38 [712, 717, 1155, 1160] (by decide +kernel) (by decide +kernel) w h).1
set_option maxRecDepth 20000 in
theorem rt_wsX70 : ∀ w ∈ wsX70, w ∈ lw_tbl := fun w h => (goodIn_p wsX70 [] (by decide +kernel) (by decide +kernel) w h).1
set_option maxRecDepth 20000 in
theorem rt_wsX80 : ∀ w ∈ wsX80, w ∈ lw_tbl := fun w h => (goodIn_p wsX80 [] (by decide +kernel) (by decide +kernel) w h).1
set_option maxRecDepth 20000 in
theorem rt_wsX60 : ∀ w ∈ wsX60, w ∈ lw_tbl := fun w h => (goodIn_p wsX60 [] (by decide +kernel) (by decide +kernel) w h).1
set_option maxRecDepth 20000 in
theorem rt_wsX10 : ∀ w ∈ wsX10, w ∈ lw_tbl := fun w h => (goodIn_p wsX10 [] (by decide +kernel) (by decide +kernel) w h).1
set_option maxRecDepth 20000 in
theorem rt_wsX20 : ∀ w ∈ wsX20, w ∈ lw_tbl := fun w h => (goodIn_p wsX20 [] (by decide +kernel) (by decide +kernel) w h).1
set_option maxRecDepth 20000 in
theorem rt_wsX30 : ∀ w ∈ wsX30, w ∈ lw_tbl := fun w h => (goodIn_p wsX30 [] (by decide +kernel) (by decide +kernel) w h).1
set_option maxRecDepth 20000 in
theorem rt_wsX50 : ∀ w ∈ wsX50, w ∈ lw_tbl := fun w h => (goodIn_p wsX50 [] (by decide +kernel) (by decide +kernel) w h).1
set_option maxRecDepth 20000 in
theorem rt_wsX40 : ∀ w ∈ wsX40, w ∈ lw_tbl := fun w h => (goodIn_p wsX40 [] (by decide +kernel) (by decide +kernel) w h).1
theorem wsL_law_in : ∀ w ∈ wsL_law, w ∈ lw_tbl := List.forall_mem_append.mpr ⟨List.forall_mem_append.mpr ⟨List.forall_mem_append.mpr ⟨List.forall_mem_append.mpr ⟨List.forall_mem_append.mpr ⟨List.forall_mem_append.mpr ⟨List.forall_mem_append.mpr ⟨List.forall_mem_append.mpr ⟨List.forall_mem_append.mpr ⟨List.forall_mem_append.mpr ⟨rt_w_r1, List.forall_mem_append.mpr ⟨rt_w_r2, List.forall_mem_append.mpr ⟨rt_w_r3, List.forall_mem_append.mpr ⟨rt_w_r4, List.forall_mem_append.mpr ⟨rt_w_r5, List.forall_mem_append.mpr ⟨rt_w_r6, List.forall_mem_append.mpr ⟨rt_w_r7, List.forall_mem_append.mpr ⟨rt_w_r8, List.forall_mem_append.mpr ⟨rt_w_r9, List.forall_mem_append.mpr ⟨rt_w_r10, List.forall_mem_append.mpr ⟨rt_w_r11, List.forall_mem_append.mpr ⟨rt_w_r12, List.forall_mem_append.mpr ⟨rt_w_r13, List.forall_mem_append.mpr ⟨rt_w_r14, List.forall_mem_append.mpr ⟨rt_w_r15, List.forall_mem_append.mpr ⟨rt_w_r16, List.forall_mem_append.mpr ⟨rt_w_r17, List.forall_mem_append.mpr ⟨rt_w_r18, List.forall_mem_append.mpr ⟨rt_w_r19, List.forall_mem_append.mpr ⟨rt_w_r20, List.forall_mem_append.mpr ⟨rt_w_r21, List.forall_mem_append.mpr ⟨rt_w_r22, List.forall_mem_append.mpr ⟨rt_w_r23, List.forall_mem_append.mpr ⟨rt_w_r24, List.forall_mem_append.mpr ⟨rt_w_r25, List.forall_mem_append.mpr ⟨rt_w_r26, List.forall_mem_append.mpr ⟨rt_w_r27, List.forall_mem_append.mpr ⟨rt_w_r28, List.forall_mem_append.mpr ⟨rt_w_r29, List.forall_mem_append.mpr ⟨rt_w_r30, List.forall_mem_append.mpr ⟨rt_w_r31, List.forall_mem_append.mpr ⟨rt_w_r32, List.forall_mem_append.mpr ⟨rt_w_r33, List.forall_mem_append.mpr ⟨rt_w_r34, List.forall_mem_append.mpr ⟨rt_w_r35, List.forall_mem_append.mpr ⟨rt_w_r36, List.forall_mem_append.mpr ⟨rt_w_r37, rt_w_r38⟩⟩⟩⟩⟩⟩⟩⟩⟩⟩⟩⟩⟩⟩⟩⟩⟩⟩⟩⟩⟩⟩⟩⟩⟩⟩⟩⟩⟩⟩⟩⟩⟩⟩⟩⟩⟩, rt_wsX70⟩, rt_wsX80⟩, rt_wsX60⟩, rt_wsX10⟩, rt_wsX20⟩, rt_wsX30⟩, rt_wsX50⟩, rt_wsX40⟩, fun _ h => absurd h List.not_mem_nil⟩
theorem inX0 : ∀ w ∈ wsX00, w ∈ lw_tbl := by decide +kernel
theorem inlX1 : ∀ w ∈ wsX10, w ∈ wsL_law := fun _ h => List.mem_append_left _ (List.mem_append_left _ (List.mem_append_left _ (List.mem_append_left _ (List.mem_append_left _ (List.mem_append_right _ h)))))
theorem inX1 : ∀ w ∈ wsX10, w ∈ lw_tbl := fun w h => wsL_law_in w (inlX1 w h)
theorem inlX2 : ∀ w ∈ wsX20, w ∈ wsL_law := fun _ h => List.mem_append_left _ (List.mem_append_left _ (List.mem_append_left _ (List.mem_append_left _ (List.mem_append_right _ h))))
theorem inX2 : ∀ w ∈ wsX20, w ∈ lw_tbl := fun w h => wsL_law_in w (inlX2 w h)
theorem inlX3 : ∀ w ∈ wsX30, w ∈ wsL_law := fun _ h => List.mem_append_left _ (List.mem_append_left _ (List.mem_append_left _ (List.mem_append_right _ h)))
theorem inX3 : ∀ w ∈ wsX30, w ∈ lw_tbl := fun w h => wsL_law_in w (inlX3 w h)
theorem inlX4 : ∀ w ∈ wsX40, w ∈ wsL_law := fun _ h => List.mem_append_left _ (List.mem_append_right _ h)
theorem inX4 : ∀ w ∈ wsX40, w ∈ lw_tbl := fun w h => wsL_law_in w (inlX4 w h)
theorem inlX5 : ∀ w ∈ wsX50, w ∈ wsL_law := fun _ h => List.mem_append_left _ (List.mem_append_left _ (List.mem_append_right _ h))
theorem inX5 : ∀ w ∈ wsX50, w ∈ lw_tbl := fun w h => wsL_law_in w (inlX5 w h)
theorem inlX6 : ∀ w ∈ wsX60, w ∈ wsL_law := fun _ h => List.mem_append_left _ (List.mem_append_left _ (List.mem_append_left _ (List.mem_append_left _ (List.mem_append_left _ (List.mem_append_left _ (List.mem_append_right _ h))))))
theorem inX6 : ∀ w ∈ wsX60, w ∈ lw_tbl := fun w h => wsL_law_in w (inlX6 w h)
theorem inlX7 : ∀ w ∈ wsX70, w ∈ wsL_law := fun _ h => List.mem_append_left _ (List.mem_append_left _ (List.mem_append_left _ (List.mem_append_left _ (List.mem_append_left _ (List.mem_append_left _ (List.mem_append_left _ (List.mem_append_left _ (List.mem_append_right _ h))))))))
theorem inX7 : ∀ w ∈ wsX70, w ∈ lw_tbl := fun w h => wsL_law_in w (inlX7 w h)
theorem inlX8 : ∀ w ∈ wsX80, w ∈ wsL_law := fun _ h => List.mem_append_left _ (List.mem_append_left _ (List.mem_append_left _ (List.mem_append_left _ (List.mem_append_left _ (List.mem_append_left _ (List.mem_append_left _ (List.mem_append_right _ h)))))))
theorem inX8 : ∀ w ∈ wsX80, w ∈ lw_tbl := fun w h => wsL_law_in w (inlX8 w h)
theorem inJ6 : ∀ w ∈ wsJ60, w ∈ lw_tbl := by decide +kernel
theorem inJ9 : ∀ w ∈ wsJ90, w ∈ lw_tbl := by decide +kernel
theorem inJ10 : ∀ w ∈ wsJ100, w ∈ lw_tbl := by decide +kernel
abbrev vwCl : List vw_C := [(RX1, TX1, 2), (RX2, TX2, 4), (RX3, TX3, 9), (RX4, TX4, 5), (RX5, TX5, 15), (RX6, TX6, 14), (RX7, TX7, 7), (RX8, TX8, 38)]
