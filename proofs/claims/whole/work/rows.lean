section
-- ===== PART A: goes FIRST, ahead of the names: the tables' words, and 'selects' of the private methods out of them =====
def lw_okq (q : MethodName × Nat) : Prop := (q.1.cls ≠ "java/lang/invoke/MethodHandle" ∧ q.1.cls ≠ "java/lang/invoke/VarHandle") ∧ Cond.instantiable q.1.cls q.2 ∈ tables_1 ∧ Cond.privateMethod q.1 ∈ tables_1 ∧ Cond.instanceMethod q.1 ∈ tables_1
theorem lw_p0 : lw_okq (⟨"TandemRide", "areSeated", "()Z"⟩, 7) := ⟨⟨by decide +kernel, by decide +kernel⟩, List.mem_of_getElem? (i := 14) (by decide +kernel), List.mem_of_getElem? (i := 398) (by decide +kernel), List.mem_of_getElem? (i := 399) (by decide +kernel)⟩
theorem lw_p1 : lw_okq (⟨"TandemRide$Ride", "start", "()V"⟩, 9) := ⟨⟨by decide +kernel, by decide +kernel⟩, List.mem_of_getElem? (i := 161) (by decide +kernel), List.mem_of_getElem? (i := 408) (by decide +kernel), List.mem_of_getElem? (i := 409) (by decide +kernel)⟩
theorem lw_p2 : lw_okq (⟨"TandemRide", "planIsRidden", "()Z"⟩, 7) := ⟨⟨by decide +kernel, by decide +kernel⟩, List.mem_of_getElem? (i := 14) (by decide +kernel), List.mem_of_getElem? (i := 435) (by decide +kernel), List.mem_of_getElem? (i := 436) (by decide +kernel)⟩
theorem lw_p3 : lw_okq (⟨"TandemRide$Search", "findHeats", "()V"⟩, 15) := ⟨⟨by decide +kernel, by decide +kernel⟩, List.mem_of_getElem? (i := 204) (by decide +kernel), List.mem_of_getElem? (i := 467) (by decide +kernel), List.mem_of_getElem? (i := 468) (by decide +kernel)⟩
theorem lw_p4 : lw_okq (⟨"TandemRide$Search", "stepAhead", "(I)V"⟩, 15) := ⟨⟨by decide +kernel, by decide +kernel⟩, List.mem_of_getElem? (i := 204) (by decide +kernel), List.mem_of_getElem? (i := 472) (by decide +kernel), List.mem_of_getElem? (i := 473) (by decide +kernel)⟩
theorem lw_p5 : lw_okq (⟨"TandemRide$Search", "listChoices", "(I)V"⟩, 15) := ⟨⟨by decide +kernel, by decide +kernel⟩, List.mem_of_getElem? (i := 204) (by decide +kernel), List.mem_of_getElem? (i := 477) (by decide +kernel), List.mem_of_getElem? (i := 478) (by decide +kernel)⟩
theorem lw_p6 : lw_okq (⟨"TandemRide$Search", "fewestOnward", "(IIII)I"⟩, 15) := ⟨⟨by decide +kernel, by decide +kernel⟩, List.mem_of_getElem? (i := 204) (by decide +kernel), List.mem_of_getElem? (i := 483) (by decide +kernel), List.mem_of_getElem? (i := 484) (by decide +kernel)⟩
theorem lw_p7 : lw_okq (⟨"TandemRide$Search", "chooseFirst", "()V"⟩, 15) := ⟨⟨by decide +kernel, by decide +kernel⟩, List.mem_of_getElem? (i := 204) (by decide +kernel), List.mem_of_getElem? (i := 492) (by decide +kernel), List.mem_of_getElem? (i := 493) (by decide +kernel)⟩
theorem lw_p8 : lw_okq (⟨"TandemRide$Search", "leastBeatFor", "(III)I"⟩, 15) := ⟨⟨by decide +kernel, by decide +kernel⟩, List.mem_of_getElem? (i := 204) (by decide +kernel), List.mem_of_getElem? (i := 496) (by decide +kernel), List.mem_of_getElem? (i := 497) (by decide +kernel)⟩
theorem lw_p9 : lw_okq (⟨"TandemRide", "secondsAtBeat", "(III)I"⟩, 7) := ⟨⟨by decide +kernel, by decide +kernel⟩, List.mem_of_getElem? (i := 14) (by decide +kernel), List.mem_of_getElem? (i := 505) (by decide +kernel), List.mem_of_getElem? (i := 506) (by decide +kernel)⟩
theorem lw_p10 : lw_okq (⟨"TandemRide", "unevenness", "(III)I"⟩, 7) := ⟨⟨by decide +kernel, by decide +kernel⟩, List.mem_of_getElem? (i := 14) (by decide +kernel), List.mem_of_getElem? (i := 544) (by decide +kernel), List.mem_of_getElem? (i := 545) (by decide +kernel)⟩
theorem lw_p11 : lw_okq (⟨"TandemRide$Setup", "stretchesOf", "(I)I"⟩, 14) := ⟨⟨by decide +kernel, by decide +kernel⟩, List.mem_of_getElem? (i := 22) (by decide +kernel), List.mem_of_getElem? (i := 566) (by decide +kernel), List.mem_of_getElem? (i := 567) (by decide +kernel)⟩
theorem lw_p12 : lw_okq (⟨"TandemRide$Search", "keepFewer", "(II)V"⟩, 15) := ⟨⟨by decide +kernel, by decide +kernel⟩, List.mem_of_getElem? (i := 204) (by decide +kernel), List.mem_of_getElem? (i := 581) (by decide +kernel), List.mem_of_getElem? (i := 582) (by decide +kernel)⟩
theorem lw_p13 : lw_okq (⟨"TandemRide", "believedBy", "(LTandemRide$Rider;I)I"⟩, 7) := ⟨⟨by decide +kernel, by decide +kernel⟩, List.mem_of_getElem? (i := 14) (by decide +kernel), List.mem_of_getElem? (i := 603) (by decide +kernel), List.mem_of_getElem? (i := 604) (by decide +kernel)⟩
theorem lw_p14 : lw_okq (⟨"TandemRide", "toldOfRider", "(II)I"⟩, 7) := ⟨⟨by decide +kernel, by decide +kernel⟩, List.mem_of_getElem? (i := 14) (by decide +kernel), List.mem_of_getElem? (i := 672) (by decide +kernel), List.mem_of_getElem? (i := 673) (by decide +kernel)⟩
theorem lw_p15 : lw_okq (⟨"TandemRideModel", "isThere", "(I)Z"⟩, 38) := ⟨⟨by decide +kernel, by decide +kernel⟩, List.mem_of_getElem? (i := 676) (by decide +kernel), List.mem_of_getElem? (i := 823) (by decide +kernel), List.mem_of_getElem? (i := 824) (by decide +kernel)⟩
def lw_privs_1 : List (MethodName × Nat) := [(⟨"TandemRide", "areSeated", "()Z"⟩, 7), (⟨"TandemRide$Ride", "start", "()V"⟩, 9), (⟨"TandemRide", "planIsRidden", "()Z"⟩, 7), (⟨"TandemRide$Search", "findHeats", "()V"⟩, 15), (⟨"TandemRide$Search", "stepAhead", "(I)V"⟩, 15), (⟨"TandemRide$Search", "listChoices", "(I)V"⟩, 15), (⟨"TandemRide$Search", "fewestOnward", "(IIII)I"⟩, 15), (⟨"TandemRide$Search", "chooseFirst", "()V"⟩, 15), (⟨"TandemRide$Search", "leastBeatFor", "(III)I"⟩, 15), (⟨"TandemRide", "secondsAtBeat", "(III)I"⟩, 7), (⟨"TandemRide", "unevenness", "(III)I"⟩, 7), (⟨"TandemRide$Setup", "stretchesOf", "(I)I"⟩, 14), (⟨"TandemRide$Search", "keepFewer", "(II)V"⟩, 15), (⟨"TandemRide", "believedBy", "(LTandemRide$Rider;I)I"⟩, 7), (⟨"TandemRide", "toldOfRider", "(II)I"⟩, 7), (⟨"TandemRideModel", "isThere", "(I)Z"⟩, 38)]
theorem lw_r1 : ∀ q ∈ lw_privs_1, lw_okq q := List.forall_mem_cons.mpr ⟨lw_p0, List.forall_mem_cons.mpr ⟨lw_p1, List.forall_mem_cons.mpr ⟨lw_p2, List.forall_mem_cons.mpr ⟨lw_p3, List.forall_mem_cons.mpr ⟨lw_p4, List.forall_mem_cons.mpr ⟨lw_p5, List.forall_mem_cons.mpr ⟨lw_p6, List.forall_mem_cons.mpr ⟨lw_p7, List.forall_mem_cons.mpr ⟨lw_p8, List.forall_mem_cons.mpr ⟨lw_p9, List.forall_mem_cons.mpr ⟨lw_p10, List.forall_mem_cons.mpr ⟨lw_p11, List.forall_mem_cons.mpr ⟨lw_p12, List.forall_mem_cons.mpr ⟨lw_p13, List.forall_mem_cons.mpr ⟨lw_p14, List.forall_mem_cons.mpr ⟨lw_p15, fun _ h => absurd h List.not_mem_nil⟩⟩⟩⟩⟩⟩⟩⟩⟩⟩⟩⟩⟩⟩⟩⟩
theorem lw_p16 : lw_okq (⟨"TandemRideModel", "faultOfWay", "()I"⟩, 38) := ⟨⟨by decide +kernel, by decide +kernel⟩, List.mem_of_getElem? (i := 676) (by decide +kernel), List.mem_of_getElem? (i := 851) (by decide +kernel), List.mem_of_getElem? (i := 852) (by decide +kernel)⟩
theorem lw_p17 : lw_okq (⟨"TandemRideModel", "faultOfPlan", "()I"⟩, 38) := ⟨⟨by decide +kernel, by decide +kernel⟩, List.mem_of_getElem? (i := 676) (by decide +kernel), List.mem_of_getElem? (i := 858) (by decide +kernel), List.mem_of_getElem? (i := 859) (by decide +kernel)⟩
theorem lw_p18 : lw_okq (⟨"TandemRideModel", "treadOf", "(III)I"⟩, 38) := ⟨⟨by decide +kernel, by decide +kernel⟩, List.mem_of_getElem? (i := 676) (by decide +kernel), List.mem_of_getElem? (i := 877) (by decide +kernel), List.mem_of_getElem? (i := 878) (by decide +kernel)⟩
theorem lw_p19 : lw_okq (⟨"TandemRideModel", "isNobody", "()Z"⟩, 38) := ⟨⟨by decide +kernel, by decide +kernel⟩, List.mem_of_getElem? (i := 676) (by decide +kernel), List.mem_of_getElem? (i := 885) (by decide +kernel), List.mem_of_getElem? (i := 886) (by decide +kernel)⟩
theorem lw_p20 : lw_okq (⟨"TandemRideModel", "rideAll", "()V"⟩, 38) := ⟨⟨by decide +kernel, by decide +kernel⟩, List.mem_of_getElem? (i := 676) (by decide +kernel), List.mem_of_getElem? (i := 889) (by decide +kernel), List.mem_of_getElem? (i := 890) (by decide +kernel)⟩
theorem lw_p21 : lw_okq (⟨"TandemRideModel", "ride", "(I)V"⟩, 38) := ⟨⟨by decide +kernel, by decide +kernel⟩, List.mem_of_getElem? (i := 676) (by decide +kernel), List.mem_of_getElem? (i := 893) (by decide +kernel), List.mem_of_getElem? (i := 894) (by decide +kernel)⟩
theorem lw_p22 : lw_okq (⟨"TandemRideModel", "begin", "()V"⟩, 38) := ⟨⟨by decide +kernel, by decide +kernel⟩, List.mem_of_getElem? (i := 676) (by decide +kernel), List.mem_of_getElem? (i := 897) (by decide +kernel), List.mem_of_getElem? (i := 898) (by decide +kernel)⟩
theorem lw_p23 : lw_okq (⟨"TandemRideModel", "rideOne", "(I)V"⟩, 38) := ⟨⟨by decide +kernel, by decide +kernel⟩, List.mem_of_getElem? (i := 676) (by decide +kernel), List.mem_of_getElem? (i := 901) (by decide +kernel), List.mem_of_getElem? (i := 902) (by decide +kernel)⟩
theorem lw_p24 : lw_okq (⟨"TandemRideModel", "rest", "()V"⟩, 38) := ⟨⟨by decide +kernel, by decide +kernel⟩, List.mem_of_getElem? (i := 676) (by decide +kernel), List.mem_of_getElem? (i := 905) (by decide +kernel), List.mem_of_getElem? (i := 906) (by decide +kernel)⟩
theorem lw_p25 : lw_okq (⟨"TandemRideModel", "winded", "(III)I"⟩, 38) := ⟨⟨by decide +kernel, by decide +kernel⟩, List.mem_of_getElem? (i := 676) (by decide +kernel), List.mem_of_getElem? (i := 909) (by decide +kernel), List.mem_of_getElem? (i := 910) (by decide +kernel)⟩
theorem lw_p26 : lw_okq (⟨"TandemRideModel", "isRefused", "()Z"⟩, 38) := ⟨⟨by decide +kernel, by decide +kernel⟩, List.mem_of_getElem? (i := 676) (by decide +kernel), List.mem_of_getElem? (i := 927) (by decide +kernel), List.mem_of_getElem? (i := 928) (by decide +kernel)⟩
theorem lw_p27 : lw_okq (⟨"TandemRideModel", "soonestOf", "(II)I"⟩, 38) := ⟨⟨by decide +kernel, by decide +kernel⟩, List.mem_of_getElem? (i := 676) (by decide +kernel), List.mem_of_getElem? (i := 949) (by decide +kernel), List.mem_of_getElem? (i := 950) (by decide +kernel)⟩
theorem lw_p28 : lw_okq (⟨"TandemRideModel", "goBack", "(II)V"⟩, 38) := ⟨⟨by decide +kernel, by decide +kernel⟩, List.mem_of_getElem? (i := 676) (by decide +kernel), List.mem_of_getElem? (i := 953) (by decide +kernel), List.mem_of_getElem? (i := 954) (by decide +kernel)⟩
theorem lw_p29 : lw_okq (⟨"TandemRideModel", "findQuickest", "(III)V"⟩, 38) := ⟨⟨by decide +kernel, by decide +kernel⟩, List.mem_of_getElem? (i := 676) (by decide +kernel), List.mem_of_getElem? (i := 957) (by decide +kernel), List.mem_of_getElem? (i := 958) (by decide +kernel)⟩
theorem lw_p30 : lw_okq (⟨"TandemRideModel", "secondsBy", "(IIIII)I"⟩, 38) := ⟨⟨by decide +kernel, by decide +kernel⟩, List.mem_of_getElem? (i := 676) (by decide +kernel), List.mem_of_getElem? (i := 962) (by decide +kernel), List.mem_of_getElem? (i := 963) (by decide +kernel)⟩
theorem lw_p31 : lw_okq (⟨"TandemRideModel", "bestFrom", "(IIIIII)I"⟩, 38) := ⟨⟨by decide +kernel, by decide +kernel⟩, List.mem_of_getElem? (i := 676) (by decide +kernel), List.mem_of_getElem? (i := 966) (by decide +kernel), List.mem_of_getElem? (i := 967) (by decide +kernel)⟩
def lw_privs_2 : List (MethodName × Nat) := [(⟨"TandemRideModel", "faultOfWay", "()I"⟩, 38), (⟨"TandemRideModel", "faultOfPlan", "()I"⟩, 38), (⟨"TandemRideModel", "treadOf", "(III)I"⟩, 38), (⟨"TandemRideModel", "isNobody", "()Z"⟩, 38), (⟨"TandemRideModel", "rideAll", "()V"⟩, 38), (⟨"TandemRideModel", "ride", "(I)V"⟩, 38), (⟨"TandemRideModel", "begin", "()V"⟩, 38), (⟨"TandemRideModel", "rideOne", "(I)V"⟩, 38), (⟨"TandemRideModel", "rest", "()V"⟩, 38), (⟨"TandemRideModel", "winded", "(III)I"⟩, 38), (⟨"TandemRideModel", "isRefused", "()Z"⟩, 38), (⟨"TandemRideModel", "soonestOf", "(II)I"⟩, 38), (⟨"TandemRideModel", "goBack", "(II)V"⟩, 38), (⟨"TandemRideModel", "findQuickest", "(III)V"⟩, 38), (⟨"TandemRideModel", "secondsBy", "(IIIII)I"⟩, 38), (⟨"TandemRideModel", "bestFrom", "(IIIIII)I"⟩, 38)]
theorem lw_r2 : ∀ q ∈ lw_privs_2, lw_okq q := List.forall_mem_cons.mpr ⟨lw_p16, List.forall_mem_cons.mpr ⟨lw_p17, List.forall_mem_cons.mpr ⟨lw_p18, List.forall_mem_cons.mpr ⟨lw_p19, List.forall_mem_cons.mpr ⟨lw_p20, List.forall_mem_cons.mpr ⟨lw_p21, List.forall_mem_cons.mpr ⟨lw_p22, List.forall_mem_cons.mpr ⟨lw_p23, List.forall_mem_cons.mpr ⟨lw_p24, List.forall_mem_cons.mpr ⟨lw_p25, List.forall_mem_cons.mpr ⟨lw_p26, List.forall_mem_cons.mpr ⟨lw_p27, List.forall_mem_cons.mpr ⟨lw_p28, List.forall_mem_cons.mpr ⟨lw_p29, List.forall_mem_cons.mpr ⟨lw_p30, List.forall_mem_cons.mpr ⟨lw_p31, fun _ h => absurd h List.not_mem_nil⟩⟩⟩⟩⟩⟩⟩⟩⟩⟩⟩⟩⟩⟩⟩⟩
theorem lw_p32 : lw_okq (⟨"TandemRideModel", "secondsFrom", "(IIIIIII)I"⟩, 38) := ⟨⟨by decide +kernel, by decide +kernel⟩, List.mem_of_getElem? (i := 676) (by decide +kernel), List.mem_of_getElem? (i := 970) (by decide +kernel), List.mem_of_getElem? (i := 971) (by decide +kernel)⟩
theorem lw_p33 : lw_okq (⟨"TandemRideModel", "secondsAt", "(II)I"⟩, 38) := ⟨⟨by decide +kernel, by decide +kernel⟩, List.mem_of_getElem? (i := 676) (by decide +kernel), List.mem_of_getElem? (i := 981) (by decide +kernel), List.mem_of_getElem? (i := 982) (by decide +kernel)⟩
theorem lw_p34 : lw_okq (⟨"TandemRideModel", "lost", "(III)I"⟩, 38) := ⟨⟨by decide +kernel, by decide +kernel⟩, List.mem_of_getElem? (i := 676) (by decide +kernel), List.mem_of_getElem? (i := 985) (by decide +kernel), List.mem_of_getElem? (i := 986) (by decide +kernel)⟩
theorem lw_p35 : lw_okq (⟨"TandemRideModel", "alone", "(III)I"⟩, 38) := ⟨⟨by decide +kernel, by decide +kernel⟩, List.mem_of_getElem? (i := 676) (by decide +kernel), List.mem_of_getElem? (i := 993) (by decide +kernel), List.mem_of_getElem? (i := 994) (by decide +kernel)⟩
theorem lw_p36 : lw_okq (⟨"TandemRideModel", "unevenBy", "(III)I"⟩, 38) := ⟨⟨by decide +kernel, by decide +kernel⟩, List.mem_of_getElem? (i := 676) (by decide +kernel), List.mem_of_getElem? (i := 1009) (by decide +kernel), List.mem_of_getElem? (i := 1010) (by decide +kernel)⟩
theorem lw_p37 : lw_okq (⟨"TandemRideModel", "bumps", "()I"⟩, 38) := ⟨⟨by decide +kernel, by decide +kernel⟩, List.mem_of_getElem? (i := 676) (by decide +kernel), List.mem_of_getElem? (i := 1024) (by decide +kernel), List.mem_of_getElem? (i := 1025) (by decide +kernel)⟩
theorem lw_p38 : lw_okq (⟨"TandemRideModel", "isBorne", "(II)Z"⟩, 38) := ⟨⟨by decide +kernel, by decide +kernel⟩, List.mem_of_getElem? (i := 676) (by decide +kernel), List.mem_of_getElem? (i := 1028) (by decide +kernel), List.mem_of_getElem? (i := 1029) (by decide +kernel)⟩
theorem lw_p39 : lw_okq (⟨"TandemRideModel", "stretchesOf", "(I)I"⟩, 38) := ⟨⟨by decide +kernel, by decide +kernel⟩, List.mem_of_getElem? (i := 676) (by decide +kernel), List.mem_of_getElem? (i := 1032) (by decide +kernel), List.mem_of_getElem? (i := 1033) (by decide +kernel)⟩
theorem lw_p40 : lw_okq (⟨"TandemRideModel", "believed", "(II)I"⟩, 38) := ⟨⟨by decide +kernel, by decide +kernel⟩, List.mem_of_getElem? (i := 676) (by decide +kernel), List.mem_of_getElem? (i := 1048) (by decide +kernel), List.mem_of_getElem? (i := 1049) (by decide +kernel)⟩
theorem lw_p41 : lw_okq (⟨"TandemRideModel", "corners", "()I"⟩, 38) := ⟨⟨by decide +kernel, by decide +kernel⟩, List.mem_of_getElem? (i := 676) (by decide +kernel), List.mem_of_getElem? (i := 1057) (by decide +kernel), List.mem_of_getElem? (i := 1058) (by decide +kernel)⟩
theorem lw_p42 : lw_okq (⟨"TandemRideModel", "holds", "(II)Z"⟩, 38) := ⟨⟨by decide +kernel, by decide +kernel⟩, List.mem_of_getElem? (i := 676) (by decide +kernel), List.mem_of_getElem? (i := 1083) (by decide +kernel), List.mem_of_getElem? (i := 1084) (by decide +kernel)⟩
theorem lw_p43 : lw_okq (⟨"TandemRideModel", "passAll", "()V"⟩, 38) := ⟨⟨by decide +kernel, by decide +kernel⟩, List.mem_of_getElem? (i := 676) (by decide +kernel), List.mem_of_getElem? (i := 1098) (by decide +kernel), List.mem_of_getElem? (i := 1099) (by decide +kernel)⟩
theorem lw_p44 : lw_okq (⟨"TandemRideModel", "pass", "(I)I"⟩, 38) := ⟨⟨by decide +kernel, by decide +kernel⟩, List.mem_of_getElem? (i := 676) (by decide +kernel), List.mem_of_getElem? (i := 1102) (by decide +kernel), List.mem_of_getElem? (i := 1103) (by decide +kernel)⟩
theorem lw_p45 : lw_okq (⟨"TandemRideModel", "toldOf", "(II)I"⟩, 38) := ⟨⟨by decide +kernel, by decide +kernel⟩, List.mem_of_getElem? (i := 676) (by decide +kernel), List.mem_of_getElem? (i := 1115) (by decide +kernel), List.mem_of_getElem? (i := 1116) (by decide +kernel)⟩
def lw_privs_3 : List (MethodName × Nat) := [(⟨"TandemRideModel", "secondsFrom", "(IIIIIII)I"⟩, 38), (⟨"TandemRideModel", "secondsAt", "(II)I"⟩, 38), (⟨"TandemRideModel", "lost", "(III)I"⟩, 38), (⟨"TandemRideModel", "alone", "(III)I"⟩, 38), (⟨"TandemRideModel", "unevenBy", "(III)I"⟩, 38), (⟨"TandemRideModel", "bumps", "()I"⟩, 38), (⟨"TandemRideModel", "isBorne", "(II)Z"⟩, 38), (⟨"TandemRideModel", "stretchesOf", "(I)I"⟩, 38), (⟨"TandemRideModel", "believed", "(II)I"⟩, 38), (⟨"TandemRideModel", "corners", "()I"⟩, 38), (⟨"TandemRideModel", "holds", "(II)Z"⟩, 38), (⟨"TandemRideModel", "passAll", "()V"⟩, 38), (⟨"TandemRideModel", "pass", "(I)I"⟩, 38), (⟨"TandemRideModel", "toldOf", "(II)I"⟩, 38)]
theorem lw_r3 : ∀ q ∈ lw_privs_3, lw_okq q := List.forall_mem_cons.mpr ⟨lw_p32, List.forall_mem_cons.mpr ⟨lw_p33, List.forall_mem_cons.mpr ⟨lw_p34, List.forall_mem_cons.mpr ⟨lw_p35, List.forall_mem_cons.mpr ⟨lw_p36, List.forall_mem_cons.mpr ⟨lw_p37, List.forall_mem_cons.mpr ⟨lw_p38, List.forall_mem_cons.mpr ⟨lw_p39, List.forall_mem_cons.mpr ⟨lw_p40, List.forall_mem_cons.mpr ⟨lw_p41, List.forall_mem_cons.mpr ⟨lw_p42, List.forall_mem_cons.mpr ⟨lw_p43, List.forall_mem_cons.mpr ⟨lw_p44, List.forall_mem_cons.mpr ⟨lw_p45, fun _ h => absurd h List.not_mem_nil⟩⟩⟩⟩⟩⟩⟩⟩⟩⟩⟩⟩⟩⟩
def lw_privs : List (MethodName × Nat) := lw_privs_1 ++ (lw_privs_2 ++ (lw_privs_3))
def lw_tbl : List Cond := k2_sels lw_privs ++ tables_1
theorem lw_privs_ok : ∀ q ∈ lw_privs, lw_okq q := by
  show ∀ q ∈ lw_privs_1 ++ (lw_privs_2 ++ (lw_privs_3)), lw_okq q
  exact List.forall_mem_append.mpr ⟨lw_r1, List.forall_mem_append.mpr ⟨lw_r2, lw_r3⟩⟩
theorem goodIn_r {big : List Cond} (ws : List Cond) (ps : List Nat) (hp : ws = ps.filterMap (fun i => big[i]?)) (h : ws.all goodWord = true) : GoodIn big ws := by
  intro w hw
  have h1 := List.all_eq_true.mp h w hw
  rw [hp] at hw
  obtain ⟨i, -, hi⟩ := List.mem_filterMap.mp hw
  have hm : w ∈ big := by first | exact List.mem_of_getElem? hi | exact List.getElem?_mem hi
  exact ⟨hm, good_of_word h1⟩
theorem goodIn_app {big a b : List Cond} (ha : GoodIn big a) (hb : GoodIn big b) : GoodIn big (a ++ b) := fun w h => (List.mem_append.mp h).elim (ha w) (hb w)
theorem goodIn_ca {big a b : List Cond} {c : Cond} (ha : GoodIn big (c :: a)) (hb : GoodIn big b) : GoodIn big (c :: (a ++ b)) := fun w h => (List.mem_cons.mp h).elim (fun e => ha w (List.mem_cons.mpr (Or.inl e))) (fun h => (List.mem_append.mp h).elim (fun h => ha w (List.mem_cons.mpr (Or.inr h))) (hb w))
theorem goodIn_sub {big ws : List Cond} (hm : ∀ w ∈ ws, w ∈ big) (h : ws.all goodWord = true) : GoodIn big ws := fun w hw => ⟨hm w hw, good_of_word (List.all_eq_true.mp h w hw)⟩

def RX0 : String := "TandemRide$Ground"
def TX0 : u_T := fun k => match k with
  | _ => ("", "", "", false)
def tyX0 : Nat → FieldType := fun k => match k with
  | _ => .int
abbrev wsX00 : List Cond := u_ws RX0 TX0 0
theorem nmX0 : ∀ a, a < 0 → ∀ b, b < 0 → a ≠ b → (TX0 a).2.1 ≠ (TX0 b).2.1 := by decide +kernel
theorem tyX0_ok : ∀ k, k < 0 → parseFieldDescriptor (TX0 k).2.2.1 = some (tyX0 k) := by decide +kernel
abbrev cX0_sortOf : ByteArray := prog_2_method_2_code
def yX0_sortOf : MethodName := ⟨RX0, "sortOf", "(I)I"⟩
abbrev cX0_hardOf : ByteArray := prog_2_method_3_code
def yX0_hardOf : MethodName := ⟨RX0, "hardOf", "(I)I"⟩
abbrev cX0_secondsOf : ByteArray := prog_2_method_4_code
def yX0_secondsOf : MethodName := ⟨RX0, "secondsOf", "(II)I"⟩
abbrev cX0_heatBehind : ByteArray := prog_2_method_5_code
def yX0_heatBehind : MethodName := ⟨RX0, "heatBehind", "(II)I"⟩
abbrev cX0_soreBehind : ByteArray := prog_2_method_6_code
def yX0_soreBehind : MethodName := ⟨RX0, "soreBehind", "(II)I"⟩
def RX1 : String := "TandemRide$Pad"
def TX1 : u_T := fun k => match k with
  | 0 => ("TandemRide$Pad", "row", "[I", true)
  | _ => ("TandemRide$Pad", "length", "I", false)
def tyX1 : Nat → FieldType := fun k => match k with
  | 0 => .array .int
  | _ => .int
abbrev wsX10 : List Cond := u_ws RX1 TX1 2
theorem nmX1 : ∀ a, a < 2 → ∀ b, b < 2 → a ≠ b → (TX1 a).2.1 ≠ (TX1 b).2.1 := by decide +kernel
theorem tyX1_ok : ∀ k, k < 2 → parseFieldDescriptor (TX1 k).2.2.1 = some (tyX1 k) := by decide +kernel
abbrev cX1_init : ByteArray := prog_3_method_1_code
def yX1_init : MethodName := ⟨RX1, "<init>", "()V"⟩
abbrev cX1_add : ByteArray := prog_3_method_2_code
def yX1_add : MethodName := ⟨RX1, "add", "(I)V"⟩
abbrev cX1_signAt : ByteArray := prog_3_method_3_code
def yX1_signAt : MethodName := ⟨RX1, "signAt", "(I)I"⟩
abbrev cX1_faultAsWay : ByteArray := prog_3_method_4_code
def yX1_faultAsWay : MethodName := ⟨RX1, "faultAsWay", "()I"⟩
def RX2 : String := "TandemRide$Plan"
def TX2 : u_T := fun k => match k with
  | 0 => ("TandemRide$Plan", "rest", "[Z", true)
  | 1 => ("TandemRide$Plan", "effortFront", "[I", true)
  | 2 => ("TandemRide$Plan", "effortBack", "[I", true)
  | _ => ("TandemRide$Plan", "beat", "[I", true)
def tyX2 : Nat → FieldType := fun k => match k with
  | 0 => .array .boolean
  | 1 => .array .int
  | 2 => .array .int
  | _ => .array .int
abbrev wsX20 : List Cond := u_ws RX2 TX2 4
theorem nmX2 : ∀ a, a < 4 → ∀ b, b < 4 → a ≠ b → (TX2 a).2.1 ≠ (TX2 b).2.1 := by decide +kernel
theorem tyX2_ok : ∀ k, k < 4 → parseFieldDescriptor (TX2 k).2.2.1 = some (tyX2 k) := by decide +kernel
abbrev cX2_init : ByteArray := prog_4_method_1_code
def yX2_init : MethodName := ⟨RX2, "<init>", "()V"⟩
abbrev cX2_read : ByteArray := prog_4_method_2_code
def yX2_read : MethodName := ⟨RX2, "read", "(LTandemRide$Pad;I)I"⟩
abbrev cX2_restsIn : ByteArray := prog_4_method_3_code
def yX2_restsIn : MethodName := ⟨RX2, "restsIn", "(I)Z"⟩
def RX3 : String := "TandemRide$Ride"
def TX3 : u_T := fun k => match k with
  | 0 => ("TandemRide$Ride", "seconds", "[I", true)
  | 1 => ("TandemRide$Ride", "windFront", "[I", true)
  | 2 => ("TandemRide$Ride", "windBack", "[I", true)
  | 3 => ("TandemRide$Ride", "heat", "[I", true)
  | 4 => ("TandemRide$Ride", "stuckAt", "I", false)
  | 5 => ("TandemRide$Ride", "reason", "I", false)
  | 6 => ("TandemRide$Ride", "treadsFront", "I", false)
  | 7 => ("TandemRide$Ride", "treadsBack", "I", false)
  | _ => ("TandemRide$Ride", "unseenBits", "I", false)
def tyX3 : Nat → FieldType := fun k => match k with
  | 0 => .array .int
  | 1 => .array .int
  | 2 => .array .int
  | 3 => .array .int
  | 4 => .int
  | 5 => .int
  | 6 => .int
  | 7 => .int
  | _ => .int
abbrev wsX30 : List Cond := u_ws RX3 TX3 9
theorem nmX3 : ∀ a, a < 9 → ∀ b, b < 9 → a ≠ b → (TX3 a).2.1 ≠ (TX3 b).2.1 := by decide +kernel
theorem tyX3_ok : ∀ k, k < 9 → parseFieldDescriptor (TX3 k).2.2.1 = some (tyX3 k) := by decide +kernel
abbrev cX3_init : ByteArray := prog_5_method_1_code
def yX3_init : MethodName := ⟨RX3, "<init>", "()V"⟩
abbrev cX3_go : ByteArray := prog_5_method_2_code
def yX3_go : MethodName := ⟨RX3, "go", "(LTandemRide$Setup;LTandemRide$Plan;I)V"⟩
abbrev cX3_start : ByteArray := prog_5_method_3_code
def yX3_start : MethodName := ⟨RX3, "start", "()V"⟩
abbrev cX3_reasonAgainst : ByteArray := prog_5_method_4_code
def yX3_reasonAgainst : MethodName := ⟨RX3, "reasonAgainst", "(IIII)I"⟩
def RX4 : String := "TandemRide$Rider"
def TX4 : u_T := fun k => match k with
  | 0 => ("TandemRide$Rider", "there", "Z", false)
  | 1 => ("TandemRide$Rider", "strength", "I", false)
  | 2 => ("TandemRide$Rider", "likes", "I", false)
  | 3 => ("TandemRide$Rider", "wind", "I", false)
  | _ => ("TandemRide$Rider", "thinks", "I", false)
def tyX4 : Nat → FieldType := fun k => match k with
  | 0 => .boolean
  | 1 => .int
  | 2 => .int
  | 3 => .int
  | _ => .int
abbrev wsX40 : List Cond := u_ws RX4 TX4 5
theorem nmX4 : ∀ a, a < 5 → ∀ b, b < 5 → a ≠ b → (TX4 a).2.1 ≠ (TX4 b).2.1 := by decide +kernel
theorem tyX4_ok : ∀ k, k < 5 → parseFieldDescriptor (TX4 k).2.2.1 = some (tyX4 k) := by decide +kernel
abbrev cX4_init : ByteArray := prog_6_method_1_code
def yX4_init : MethodName := ⟨RX4, "<init>", "()V"⟩
abbrev cX4_come : ByteArray := prog_6_method_2_code
def yX4_come : MethodName := ⟨RX4, "come", "(IIII)V"⟩
abbrev cX4_copyFrom : ByteArray := prog_6_method_3_code
def yX4_copyFrom : MethodName := ⟨RX4, "copyFrom", "(LTandemRide$Rider;)V"⟩
abbrev cX4_treads : ByteArray := prog_6_method_4_code
def yX4_treads : MethodName := ⟨RX4, "treads", "(II)I"⟩
abbrev cX4_treadsAsLiked : ByteArray := prog_6_method_5_code
def yX4_treadsAsLiked : MethodName := ⟨RX4, "treadsAsLiked", "(I)I"⟩
abbrev cX4_losesAt : ByteArray := prog_6_method_6_code
def yX4_losesAt : MethodName := ⟨RX4, "losesAt", "(II)I"⟩
abbrev cX4_windBehind : ByteArray := prog_6_method_7_code
def yX4_windBehind : MethodName := ⟨RX4, "windBehind", "(II)I"⟩
def RX5 : String := "TandemRide$Search"
def TX5 : u_T := fun k => match k with
  | 0 => ("TandemRide$Search", "fewest", "I", false)
  | 1 => ("TandemRide$Search", "firstStretch", "I", false)
  | 2 => ("TandemRide$Search", "pairTreads", "[I", true)
  | 3 => ("TandemRide$Search", "choiceFront", "[I", true)
  | 4 => ("TandemRide$Search", "choiceBack", "[I", true)
  | 5 => ("TandemRide$Search", "choiceSeconds", "[I", true)
  | 6 => ("TandemRide$Search", "choices", "I", false)
  | 7 => ("TandemRide$Search", "heatBits", "[I", true)
  | 8 => ("TandemRide$Search", "onward", "[I", false)
  | 9 => ("TandemRide$Search", "spare", "[I", false)
  | 10 => ("TandemRide$Search", "callsBySore", "[I", false)
  | 11 => ("TandemRide$Search", "callsBehind", "[I", false)
  | 12 => ("TandemRide$Search", "setup", "LTandemRide$Setup;", true)
  | 13 => ("TandemRide$Search", "front", "LTandemRide$Rider;", false)
  | _ => ("TandemRide$Search", "back", "LTandemRide$Rider;", false)
def tyX5 : Nat → FieldType := fun k => match k with
  | 0 => .int
  | 1 => .int
  | 2 => .array .int
  | 3 => .array .int
  | 4 => .array .int
  | 5 => .array .int
  | 6 => .int
  | 7 => .array .int
  | 8 => .array .int
  | 9 => .array .int
  | 10 => .array .int
  | 11 => .array .int
  | 12 => .object "TandemRide$Setup"
  | 13 => .object "TandemRide$Rider"
  | _ => .object "TandemRide$Rider"
abbrev wsX50 : List Cond := u_ws RX5 TX5 15
theorem nmX5 : ∀ a, a < 15 → ∀ b, b < 15 → a ≠ b → (TX5 a).2.1 ≠ (TX5 b).2.1 := by decide +kernel
theorem tyX5_ok : ∀ k, k < 15 → parseFieldDescriptor (TX5 k).2.2.1 = some (tyX5 k) := by decide +kernel
abbrev cX5_init : ByteArray := prog_7_method_1_code
def yX5_init : MethodName := ⟨RX5, "<init>", "(LTandemRide$Setup;)V"⟩
abbrev cX5_seek : ByteArray := prog_7_method_2_code
def yX5_seek : MethodName := ⟨RX5, "seek", "(LTandemRide$Rider;LTandemRide$Rider;)V"⟩
abbrev cX5_findHeats : ByteArray := prog_7_method_3_code
def yX5_findHeats : MethodName := ⟨RX5, "findHeats", "()V"⟩
abbrev cX5_stepAhead : ByteArray := prog_7_method_4_code
def yX5_stepAhead : MethodName := ⟨RX5, "stepAhead", "(I)V"⟩
abbrev cX5_listChoices : ByteArray := prog_7_method_5_code
def yX5_listChoices : MethodName := ⟨RX5, "listChoices", "(I)V"⟩
abbrev cX5_fewestOnward : ByteArray := prog_7_method_6_code
def yX5_fewestOnward : MethodName := ⟨RX5, "fewestOnward", "(IIII)I"⟩
abbrev cX5_cellOf : ByteArray := prog_7_method_7_code
def yX5_cellOf : MethodName := ⟨RX5, "cellOf", "(III)I"⟩
abbrev cX5_chooseFirst : ByteArray := prog_7_method_8_code
def yX5_chooseFirst : MethodName := ⟨RX5, "chooseFirst", "()V"⟩
abbrev cX5_leastBeatFor : ByteArray := prog_7_method_9_code
def yX5_leastBeatFor : MethodName := ⟨RX5, "leastBeatFor", "(III)I"⟩
abbrev cX5_fewestCalls : ByteArray := prog_7_method_10_code
def yX5_fewestCalls : MethodName := ⟨RX5, "fewestCalls", "(I)I"⟩
abbrev cX5_keepFewer : ByteArray := prog_7_method_11_code
def yX5_keepFewer : MethodName := ⟨RX5, "keepFewer", "(II)V"⟩
def RX6 : String := "TandemRide$Setup"
def TX6 : u_T := fun k => match k with
  | 0 => ("TandemRide$Setup", "riders", "[LTandemRide$Rider;", true)
  | 1 => ("TandemRide$Setup", "signs", "[I", true)
  | 2 => ("TandemRide$Setup", "ground", "[I", true)
  | 3 => ("TandemRide$Setup", "timeRider", "[I", true)
  | 4 => ("TandemRide$Setup", "timeSort", "[I", true)
  | 5 => ("TandemRide$Setup", "timeEffort", "[I", true)
  | 6 => ("TandemRide$Setup", "timeSeconds", "[I", true)
  | 7 => ("TandemRide$Setup", "front", "I", false)
  | 8 => ("TandemRide$Setup", "back", "I", false)
  | 9 => ("TandemRide$Setup", "hottest", "I", false)
  | 10 => ("TandemRide$Setup", "pause", "I", false)
  | 11 => ("TandemRide$Setup", "calm", "I", false)
  | 12 => ("TandemRide$Setup", "stretches", "I", false)
  | _ => ("TandemRide$Setup", "times", "I", false)
def tyX6 : Nat → FieldType := fun k => match k with
  | 0 => .array (.object "TandemRide$Rider")
  | 1 => .array .int
  | 2 => .array .int
  | 3 => .array .int
  | 4 => .array .int
  | 5 => .array .int
  | 6 => .array .int
  | 7 => .int
  | 8 => .int
  | 9 => .int
  | 10 => .int
  | 11 => .int
  | 12 => .int
  | _ => .int
abbrev wsX60 : List Cond := u_ws RX6 TX6 14
theorem nmX6 : ∀ a, a < 14 → ∀ b, b < 14 → a ≠ b → (TX6 a).2.1 ≠ (TX6 b).2.1 := by decide +kernel
theorem tyX6_ok : ∀ k, k < 14 → parseFieldDescriptor (TX6 k).2.2.1 = some (tyX6 k) := by decide +kernel
abbrev cX6_init : ByteArray := prog_8_method_1_code
def yX6_init : MethodName := ⟨RX6, "<init>", "()V"⟩
abbrev cX6_copyFrom : ByteArray := prog_8_method_2_code
def yX6_copyFrom : MethodName := ⟨RX6, "copyFrom", "(LTandemRide$Setup;)V"⟩
abbrev cX6_isThere : ByteArray := prog_8_method_3_code
def yX6_isThere : MethodName := ⟨RX6, "isThere", "(I)Z"⟩
abbrev cX6_riderInFront : ByteArray := prog_8_method_4_code
def yX6_riderInFront : MethodName := ⟨RX6, "riderInFront", "()LTandemRide$Rider;"⟩
abbrev cX6_riderInBack : ByteArray := prog_8_method_5_code
def yX6_riderInBack : MethodName := ⟨RX6, "riderInBack", "()LTandemRide$Rider;"⟩
abbrev cX6_ridersThere : ByteArray := prog_8_method_6_code
def yX6_ridersThere : MethodName := ⟨RX6, "ridersThere", "()I"⟩
abbrev cX6_riderBits : ByteArray := prog_8_method_7_code
def yX6_riderBits : MethodName := ⟨RX6, "riderBits", "()I"⟩
abbrev cX6_takeWay : ByteArray := prog_8_method_8_code
def yX6_takeWay : MethodName := ⟨RX6, "takeWay", "(LTandemRide$Pad;)V"⟩
abbrev cX6_corners : ByteArray := prog_8_method_9_code
def yX6_corners : MethodName := ⟨RX6, "corners", "()I"⟩
abbrev cX6_bumps : ByteArray := prog_8_method_10_code
def yX6_bumps : MethodName := ⟨RX6, "bumps", "()I"⟩
abbrev cX6_stretchesOf : ByteArray := prog_8_method_11_code
def yX6_stretchesOf : MethodName := ⟨RX6, "stretchesOf", "(I)I"⟩
abbrev cX6_secondsTogether : ByteArray := prog_8_method_12_code
def yX6_secondsTogether : MethodName := ⟨RX6, "secondsTogether", "(I)I"⟩
abbrev cX6_secondsAlone : ByteArray := prog_8_method_13_code
def yX6_secondsAlone : MethodName := ⟨RX6, "secondsAlone", "(I)I"⟩
abbrev cX6_addTime : ByteArray := prog_8_method_14_code
def yX6_addTime : MethodName := ⟨RX6, "addTime", "(IIII)V"⟩
abbrev cX6_timesHold : ByteArray := prog_8_method_15_code
def yX6_timesHold : MethodName := ⟨RX6, "timesHold", "(II)Z"⟩
def RX7 : String := "TandemRide"
def TX7 : u_T := fun k => match k with
  | 0 => ("TandemRide", "now", "LTandemRide$Setup;", true)
  | 1 => ("TandemRide", "images", "[LTandemRide$Setup;", true)
  | 2 => ("TandemRide", "imageKept", "[Z", true)
  | 3 => ("TandemRide", "pad", "LTandemRide$Pad;", true)
  | 4 => ("TandemRide", "plan", "LTandemRide$Plan;", true)
  | 5 => ("TandemRide", "ride", "LTandemRide$Ride;", true)
  | _ => ("TandemRide", "search", "LTandemRide$Search;", true)
def tyX7 : Nat → FieldType := fun k => match k with
  | 0 => .object "TandemRide$Setup"
  | 1 => .array (.object "TandemRide$Setup")
  | 2 => .array .boolean
  | 3 => .object "TandemRide$Pad"
  | 4 => .object "TandemRide$Plan"
  | 5 => .object "TandemRide$Ride"
  | _ => .object "TandemRide$Search"
abbrev wsX70 : List Cond := u_ws RX7 TX7 7
theorem nmX7 : ∀ a, a < 7 → ∀ b, b < 7 → a ≠ b → (TX7 a).2.1 ≠ (TX7 b).2.1 := by decide +kernel
theorem tyX7_ok : ∀ k, k < 7 → parseFieldDescriptor (TX7 k).2.2.1 = some (tyX7 k) := by decide +kernel
abbrev cX7_init : ByteArray := prog_1_method_1_code
def yX7_init : MethodName := ⟨RX7, "<init>", "()V"⟩
abbrev cX7_rider : ByteArray := prog_1_method_2_code
def yX7_rider : MethodName := ⟨RX7, "rider", "(IIIII)I"⟩
abbrev cX7_leave : ByteArray := prog_1_method_3_code
def yX7_leave : MethodName := ⟨RX7, "leave", "(I)I"⟩
abbrev cX7_seat : ByteArray := prog_1_method_4_code
def yX7_seat : MethodName := ⟨RX7, "seat", "(II)I"⟩
abbrev cX7_set : ByteArray := prog_1_method_5_code
def yX7_set : MethodName := ⟨RX7, "set", "(II)I"⟩
abbrev cX7_say : ByteArray := prog_1_method_6_code
def yX7_say : MethodName := ⟨RX7, "say", "(I)I"⟩
abbrev cX7_wipe : ByteArray := prog_1_method_7_code
def yX7_wipe : MethodName := ⟨RX7, "wipe", "()I"⟩
abbrev cX7_fault : ByteArray := prog_1_method_8_code
def yX7_fault : MethodName := ⟨RX7, "fault", "(I)I"⟩
abbrev cX7_way : ByteArray := prog_1_method_9_code
def yX7_way : MethodName := ⟨RX7, "way", "()I"⟩
abbrev cX7_tread : ByteArray := prog_1_method_10_code
def yX7_tread : MethodName := ⟨RX7, "tread", "(III)I"⟩
abbrev cX7_judge : ByteArray := prog_1_method_11_code
def yX7_judge : MethodName := ⟨RX7, "judge", "(I)I"⟩
abbrev cX7_ridden : ByteArray := prog_1_method_12_code
def yX7_ridden : MethodName := ⟨RX7, "ridden", "(II)I"⟩
abbrev cX7_share : ByteArray := prog_1_method_13_code
def yX7_share : MethodName := ⟨RX7, "share", "(I)J"⟩
abbrev cX7_unseen : ByteArray := prog_1_method_14_code
def yX7_unseen : MethodName := ⟨RX7, "unseen", "()I"⟩
abbrev cX7_soonest : ByteArray := prog_1_method_15_code
def yX7_soonest : MethodName := ⟨RX7, "soonest", "(I)I"⟩
abbrev cX7_oneBeat : ByteArray := prog_1_method_16_code
def yX7_oneBeat : MethodName := ⟨RX7, "oneBeat", "(III)I"⟩
abbrev cX7_single : ByteArray := prog_1_method_17_code
def yX7_single : MethodName := ⟨RX7, "single", "(II)I"⟩
abbrev cX7_sorts : ByteArray := prog_1_method_18_code
def yX7_sorts : MethodName := ⟨RX7, "sorts", "(I)I"⟩
abbrev cX7_uneven : ByteArray := prog_1_method_19_code
def yX7_uneven : MethodName := ⟨RX7, "uneven", "(III)I"⟩
abbrev cX7_evenest : ByteArray := prog_1_method_20_code
def yX7_evenest : MethodName := ⟨RX7, "evenest", "(II)I"⟩
abbrev cX7_calls : ByteArray := prog_1_method_21_code
def yX7_calls : MethodName := ⟨RX7, "calls", "(II)I"⟩
abbrev cX7_worth : ByteArray := prog_1_method_22_code
def yX7_worth : MethodName := ⟨RX7, "worth", "()I"⟩
abbrev cX7_bestPair : ByteArray := prog_1_method_23_code
def yX7_bestPair : MethodName := ⟨RX7, "bestPair", "(I)I"⟩
abbrev cX7_quarrel : ByteArray := prog_1_method_24_code
def yX7_quarrel : MethodName := ⟨RX7, "quarrel", "(I)I"⟩
abbrev cX7_home : ByteArray := prog_1_method_25_code
def yX7_home : MethodName := ⟨RX7, "home", "(III)J"⟩
abbrev cX7_mean : ByteArray := prog_1_method_26_code
def yX7_mean : MethodName := ⟨RX7, "mean", "(II)J"⟩
abbrev cX7_time : ByteArray := prog_1_method_27_code
def yX7_time : MethodName := ⟨RX7, "time", "(IIII)I"⟩
abbrev cX7_forget : ByteArray := prog_1_method_28_code
def yX7_forget : MethodName := ⟨RX7, "forget", "()I"⟩
abbrev cX7_strong : ByteArray := prog_1_method_29_code
def yX7_strong : MethodName := ⟨RX7, "strong", "(II)I"⟩
abbrev cX7_year : ByteArray := prog_1_method_30_code
def yX7_year : MethodName := ⟨RX7, "year", "(III)I"⟩
abbrev cX7_image : ByteArray := prog_1_method_31_code
def yX7_image : MethodName := ⟨RX7, "image", "(I)I"⟩
abbrev cX7_restore : ByteArray := prog_1_method_32_code
def yX7_restore : MethodName := ⟨RX7, "restore", "(I)I"⟩
abbrev cX7_told : ByteArray := prog_1_method_33_code
def yX7_told : MethodName := ⟨RX7, "told", "(I)I"⟩
abbrev cX7_toldOfRider : ByteArray := prog_1_method_34_code
def yX7_toldOfRider : MethodName := ⟨RX7, "toldOfRider", "(II)I"⟩
abbrev cX7_isWithin : ByteArray := prog_1_method_35_code
def yX7_isWithin : MethodName := ⟨RX7, "isWithin", "(III)Z"⟩
abbrev cX7_isEffort : ByteArray := prog_1_method_36_code
def yX7_isEffort : MethodName := ⟨RX7, "isEffort", "(I)Z"⟩
abbrev cX7_areSeated : ByteArray := prog_1_method_37_code
def yX7_areSeated : MethodName := ⟨RX7, "areSeated", "()Z"⟩
abbrev cX7_planIsRidden : ByteArray := prog_1_method_38_code
def yX7_planIsRidden : MethodName := ⟨RX7, "planIsRidden", "()Z"⟩
abbrev cX7_secondsAtBeat : ByteArray := prog_1_method_39_code
def yX7_secondsAtBeat : MethodName := ⟨RX7, "secondsAtBeat", "(III)I"⟩
abbrev cX7_mostTreads : ByteArray := prog_1_method_40_code
def yX7_mostTreads : MethodName := ⟨RX7, "mostTreads", "(LTandemRide$Rider;ILTandemRide$Rider;I)I"⟩
abbrev cX7_unevenness : ByteArray := prog_1_method_41_code
def yX7_unevenness : MethodName := ⟨RX7, "unevenness", "(III)I"⟩
abbrev cX7_crankAt : ByteArray := prog_1_method_42_code
def yX7_crankAt : MethodName := ⟨RX7, "crankAt", "(I)I"⟩
abbrev cX7_believedBy : ByteArray := prog_1_method_43_code
def yX7_believedBy : MethodName := ⟨RX7, "believedBy", "(LTandemRide$Rider;I)I"⟩
abbrev cX7_chancesOfSlips : ByteArray := prog_1_method_44_code
def yX7_chancesOfSlips : MethodName := ⟨RX7, "chancesOfSlips", "(III)J"⟩
abbrev cX7_power : ByteArray := prog_1_method_45_code
def yX7_power : MethodName := ⟨RX7, "power", "(JI)J"⟩
abbrev cX7_fractionPart : ByteArray := prog_1_method_46_code
def yX7_fractionPart : MethodName := ⟨RX7, "fractionPart", "(JJI)J"⟩
def RX8 : String := "TandemRideModel"
def TX8 : u_T := fun k => match k with
  | 0 => ("TandemRideModel", "riders", "I", false)
  | 1 => ("TandemRideModel", "strength", "[I", true)
  | 2 => ("TandemRideModel", "likes", "[I", true)
  | 3 => ("TandemRideModel", "wind", "[I", true)
  | 4 => ("TandemRideModel", "thinks", "[I", true)
  | 5 => ("TandemRideModel", "front", "I", false)
  | 6 => ("TandemRideModel", "back", "I", false)
  | 7 => ("TandemRideModel", "hottest", "I", false)
  | 8 => ("TandemRideModel", "pause", "I", false)
  | 9 => ("TandemRideModel", "calm", "I", false)
  | 10 => ("TandemRideModel", "stretch", "[I", true)
  | 11 => ("TandemRideModel", "stretches", "I", false)
  | 12 => ("TandemRideModel", "timeOf", "[I", true)
  | 13 => ("TandemRideModel", "timeSort", "[I", true)
  | 14 => ("TandemRideModel", "timeEffort", "[I", true)
  | 15 => ("TandemRideModel", "timeIs", "[I", true)
  | 16 => ("TandemRideModel", "times", "I", false)
  | 17 => ("TandemRideModel", "pad", "[I", true)
  | 18 => ("TandemRideModel", "padMany", "I", false)
  | 19 => ("TandemRideModel", "rests", "[I", true)
  | 20 => ("TandemRideModel", "hardFront", "[I", true)
  | 21 => ("TandemRideModel", "hardBack", "[I", true)
  | 22 => ("TandemRideModel", "beat", "[I", true)
  | 23 => ("TandemRideModel", "badStretch", "I", false)
  | 24 => ("TandemRideModel", "badWhy", "I", false)
  | 25 => ("TandemRideModel", "secondsSoFar", "I", false)
  | 26 => ("TandemRideModel", "windFront", "I", false)
  | 27 => ("TandemRideModel", "windBack", "I", false)
  | 28 => ("TandemRideModel", "heat", "I", false)
  | 29 => ("TandemRideModel", "treadsFront", "I", false)
  | 30 => ("TandemRideModel", "treadsBack", "I", false)
  | 31 => ("TandemRideModel", "toGo", "[I", true)
  | 32 => ("TandemRideModel", "next", "[I", true)
  | 33 => ("TandemRideModel", "quickest", "[I", true)
  | 34 => ("TandemRideModel", "kept", "[I", true)
  | 35 => ("TandemRideModel", "isKept", "[Z", true)
  | 36 => ("TandemRideModel", "keptAt", "I", false)
  | _ => ("TandemRideModel", "isWriting", "Z", false)
def tyX8 : Nat → FieldType := fun k => match k with
  | 0 => .int
  | 1 => .array .int
  | 2 => .array .int
  | 3 => .array .int
  | 4 => .array .int
  | 5 => .int
  | 6 => .int
  | 7 => .int
  | 8 => .int
  | 9 => .int
  | 10 => .array .int
  | 11 => .int
  | 12 => .array .int
  | 13 => .array .int
  | 14 => .array .int
  | 15 => .array .int
  | 16 => .int
  | 17 => .array .int
  | 18 => .int
  | 19 => .array .int
  | 20 => .array .int
  | 21 => .array .int
  | 22 => .array .int
  | 23 => .int
  | 24 => .int
  | 25 => .int
  | 26 => .int
  | 27 => .int
  | 28 => .int
  | 29 => .int
  | 30 => .int
  | 31 => .array .int
  | 32 => .array .int
  | 33 => .array .int
  | 34 => .array .int
  | 35 => .array .boolean
  | 36 => .int
  | _ => .boolean
abbrev wsX80 : List Cond := u_ws RX8 TX8 38
theorem nmX8 : ∀ a, a < 38 → ∀ b, b < 38 → a ≠ b → (TX8 a).2.1 ≠ (TX8 b).2.1 := by decide +kernel
theorem tyX8_ok : ∀ k, k < 38 → parseFieldDescriptor (TX8 k).2.2.1 = some (tyX8 k) := by decide +kernel
abbrev cX8_init : ByteArray := prog_10_method_1_code
def yX8_init : MethodName := ⟨RX8, "<init>", "()V"⟩
abbrev cX8_in : ByteArray := prog_10_method_3_code
def yX8_in : MethodName := ⟨RX8, "in", "(JJJ)Z"⟩
abbrev cX8_ones : ByteArray := prog_10_method_4_code
def yX8_ones : MethodName := ⟨RX8, "ones", "(I)I"⟩
abbrev cX8_isNumber : ByteArray := prog_10_method_5_code
def yX8_isNumber : MethodName := ⟨RX8, "isNumber", "(I)Z"⟩
abbrev cX8_isThere : ByteArray := prog_10_method_6_code
def yX8_isThere : MethodName := ⟨RX8, "isThere", "(I)Z"⟩
abbrev cX8_rider : ByteArray := prog_10_method_7_code
def yX8_rider : MethodName := ⟨RX8, "rider", "(IIIII)I"⟩
abbrev cX8_leave : ByteArray := prog_10_method_8_code
def yX8_leave : MethodName := ⟨RX8, "leave", "(I)I"⟩
abbrev cX8_seat : ByteArray := prog_10_method_9_code
def yX8_seat : MethodName := ⟨RX8, "seat", "(II)I"⟩
abbrev cX8_set : ByteArray := prog_10_method_10_code
def yX8_set : MethodName := ⟨RX8, "set", "(II)I"⟩
abbrev cX8_say : ByteArray := prog_10_method_11_code
def yX8_say : MethodName := ⟨RX8, "say", "(I)I"⟩
abbrev cX8_wipe : ByteArray := prog_10_method_12_code
def yX8_wipe : MethodName := ⟨RX8, "wipe", "()I"⟩
abbrev cX8_isSort : ByteArray := prog_10_method_13_code
def yX8_isSort : MethodName := ⟨RX8, "isSort", "(I)Z"⟩
abbrev cX8_faultOfWay : ByteArray := prog_10_method_14_code
def yX8_faultOfWay : MethodName := ⟨RX8, "faultOfWay", "()I"⟩
abbrev cX8_faultOfPlan : ByteArray := prog_10_method_15_code
def yX8_faultOfPlan : MethodName := ⟨RX8, "faultOfPlan", "()I"⟩
abbrev cX8_fault : ByteArray := prog_10_method_16_code
def yX8_fault : MethodName := ⟨RX8, "fault", "(I)I"⟩
abbrev cX8_way : ByteArray := prog_10_method_17_code
def yX8_way : MethodName := ⟨RX8, "way", "()I"⟩
abbrev cX8_isBeat : ByteArray := prog_10_method_18_code
def yX8_isBeat : MethodName := ⟨RX8, "isBeat", "(I)Z"⟩
abbrev cX8_isEffort : ByteArray := prog_10_method_19_code
def yX8_isEffort : MethodName := ⟨RX8, "isEffort", "(I)Z"⟩
abbrev cX8_treadOf : ByteArray := prog_10_method_20_code
def yX8_treadOf : MethodName := ⟨RX8, "treadOf", "(III)I"⟩
abbrev cX8_tread : ByteArray := prog_10_method_21_code
def yX8_tread : MethodName := ⟨RX8, "tread", "(III)I"⟩
abbrev cX8_hard : ByteArray := prog_10_method_22_code
def yX8_hard : MethodName := ⟨RX8, "hard", "(I)I"⟩
abbrev cX8_seconds : ByteArray := prog_10_method_23_code
def yX8_seconds : MethodName := ⟨RX8, "seconds", "(II)I"⟩
abbrev cX8_heated : ByteArray := prog_10_method_24_code
def yX8_heated : MethodName := ⟨RX8, "heated", "(II)I"⟩
abbrev cX8_winded : ByteArray := prog_10_method_25_code
def yX8_winded : MethodName := ⟨RX8, "winded", "(III)I"⟩
abbrev cX8_isNobody : ByteArray := prog_10_method_26_code
def yX8_isNobody : MethodName := ⟨RX8, "isNobody", "()Z"⟩
abbrev cX8_begin : ByteArray := prog_10_method_27_code
def yX8_begin : MethodName := ⟨RX8, "begin", "()V"⟩
abbrev cX8_rest : ByteArray := prog_10_method_28_code
def yX8_rest : MethodName := ⟨RX8, "rest", "()V"⟩
abbrev cX8_rideOne : ByteArray := prog_10_method_29_code
def yX8_rideOne : MethodName := ⟨RX8, "rideOne", "(I)V"⟩
abbrev cX8_ride : ByteArray := prog_10_method_30_code
def yX8_ride : MethodName := ⟨RX8, "ride", "(I)V"⟩
abbrev cX8_rideAll : ByteArray := prog_10_method_31_code
def yX8_rideAll : MethodName := ⟨RX8, "rideAll", "()V"⟩
abbrev cX8_judge : ByteArray := prog_10_method_32_code
def yX8_judge : MethodName := ⟨RX8, "judge", "(I)I"⟩
abbrev cX8_isRefused : ByteArray := prog_10_method_33_code
def yX8_isRefused : MethodName := ⟨RX8, "isRefused", "()Z"⟩
abbrev cX8_ridden : ByteArray := prog_10_method_34_code
def yX8_ridden : MethodName := ⟨RX8, "ridden", "(II)I"⟩
abbrev cX8_lowest : ByteArray := prog_10_method_35_code
def yX8_lowest : MethodName := ⟨RX8, "lowest", "(JJI)J"⟩
abbrev cX8_share : ByteArray := prog_10_method_36_code
def yX8_share : MethodName := ⟨RX8, "share", "(I)J"⟩
abbrev cX8_unseen : ByteArray := prog_10_method_37_code
def yX8_unseen : MethodName := ⟨RX8, "unseen", "()I"⟩
abbrev cX8_stateOf : ByteArray := prog_10_method_38_code
def yX8_stateOf : MethodName := ⟨RX8, "stateOf", "(III)I"⟩
abbrev cX8_secondsBy : ByteArray := prog_10_method_39_code
def yX8_secondsBy : MethodName := ⟨RX8, "secondsBy", "(IIIII)I"⟩
abbrev cX8_findQuickest : ByteArray := prog_10_method_40_code
def yX8_findQuickest : MethodName := ⟨RX8, "findQuickest", "(III)V"⟩
abbrev cX8_secondsFrom : ByteArray := prog_10_method_41_code
def yX8_secondsFrom : MethodName := ⟨RX8, "secondsFrom", "(IIIIIII)I"⟩
abbrev cX8_bestFrom : ByteArray := prog_10_method_42_code
def yX8_bestFrom : MethodName := ⟨RX8, "bestFrom", "(IIIIII)I"⟩
abbrev cX8_goBack : ByteArray := prog_10_method_43_code
def yX8_goBack : MethodName := ⟨RX8, "goBack", "(II)V"⟩
abbrev cX8_soonestOf : ByteArray := prog_10_method_44_code
def yX8_soonestOf : MethodName := ⟨RX8, "soonestOf", "(II)I"⟩
abbrev cX8_soonest : ByteArray := prog_10_method_45_code
def yX8_soonest : MethodName := ⟨RX8, "soonest", "(I)I"⟩
abbrev cX8_secondsAt : ByteArray := prog_10_method_46_code
def yX8_secondsAt : MethodName := ⟨RX8, "secondsAt", "(II)I"⟩
abbrev cX8_lost : ByteArray := prog_10_method_47_code
def yX8_lost : MethodName := ⟨RX8, "lost", "(III)I"⟩
abbrev cX8_oneBeat : ByteArray := prog_10_method_48_code
def yX8_oneBeat : MethodName := ⟨RX8, "oneBeat", "(III)I"⟩
abbrev cX8_alone : ByteArray := prog_10_method_49_code
def yX8_alone : MethodName := ⟨RX8, "alone", "(III)I"⟩
abbrev cX8_single : ByteArray := prog_10_method_50_code
def yX8_single : MethodName := ⟨RX8, "single", "(II)I"⟩
abbrev cX8_sortOf : ByteArray := prog_10_method_51_code
def yX8_sortOf : MethodName := ⟨RX8, "sortOf", "(I)I"⟩
abbrev cX8_sorts : ByteArray := prog_10_method_52_code
def yX8_sorts : MethodName := ⟨RX8, "sorts", "(I)I"⟩
abbrev cX8_fromSix : ByteArray := prog_10_method_53_code
def yX8_fromSix : MethodName := ⟨RX8, "fromSix", "(I)I"⟩
abbrev cX8_unevenBy : ByteArray := prog_10_method_54_code
def yX8_unevenBy : MethodName := ⟨RX8, "unevenBy", "(III)I"⟩
abbrev cX8_uneven : ByteArray := prog_10_method_55_code
def yX8_uneven : MethodName := ⟨RX8, "uneven", "(III)I"⟩
abbrev cX8_evenest : ByteArray := prog_10_method_56_code
def yX8_evenest : MethodName := ⟨RX8, "evenest", "(II)I"⟩
abbrev cX8_bumps : ByteArray := prog_10_method_57_code
def yX8_bumps : MethodName := ⟨RX8, "bumps", "()I"⟩
abbrev cX8_isBorne : ByteArray := prog_10_method_58_code
def yX8_isBorne : MethodName := ⟨RX8, "isBorne", "(II)Z"⟩
abbrev cX8_stretchesOf : ByteArray := prog_10_method_59_code
def yX8_stretchesOf : MethodName := ⟨RX8, "stretchesOf", "(I)I"⟩
abbrev cX8_calls : ByteArray := prog_10_method_60_code
def yX8_calls : MethodName := ⟨RX8, "calls", "(II)I"⟩
abbrev cX8_worth : ByteArray := prog_10_method_61_code
def yX8_worth : MethodName := ⟨RX8, "worth", "()I"⟩
abbrev cX8_bestPair : ByteArray := prog_10_method_62_code
def yX8_bestPair : MethodName := ⟨RX8, "bestPair", "(I)I"⟩
abbrev cX8_believed : ByteArray := prog_10_method_63_code
def yX8_believed : MethodName := ⟨RX8, "believed", "(II)I"⟩
abbrev cX8_quarrel : ByteArray := prog_10_method_64_code
def yX8_quarrel : MethodName := ⟨RX8, "quarrel", "(I)I"⟩
abbrev cX8_corners : ByteArray := prog_10_method_65_code
def yX8_corners : MethodName := ⟨RX8, "corners", "()I"⟩
abbrev cX8_powers : ByteArray := prog_10_method_66_code
def yX8_powers : MethodName := ⟨RX8, "powers", "(II)J"⟩
abbrev cX8_home : ByteArray := prog_10_method_67_code
def yX8_home : MethodName := ⟨RX8, "home", "(III)J"⟩
abbrev cX8_mean : ByteArray := prog_10_method_68_code
def yX8_mean : MethodName := ⟨RX8, "mean", "(II)J"⟩
abbrev cX8_time : ByteArray := prog_10_method_69_code
def yX8_time : MethodName := ⟨RX8, "time", "(IIII)I"⟩
abbrev cX8_forget : ByteArray := prog_10_method_70_code
def yX8_forget : MethodName := ⟨RX8, "forget", "()I"⟩
abbrev cX8_holds : ByteArray := prog_10_method_71_code
def yX8_holds : MethodName := ⟨RX8, "holds", "(II)Z"⟩
abbrev cX8_strong : ByteArray := prog_10_method_72_code
def yX8_strong : MethodName := ⟨RX8, "strong", "(II)I"⟩
abbrev cX8_year : ByteArray := prog_10_method_73_code
def yX8_year : MethodName := ⟨RX8, "year", "(III)I"⟩
abbrev cX8_pass : ByteArray := prog_10_method_74_code
def yX8_pass : MethodName := ⟨RX8, "pass", "(I)I"⟩
abbrev cX8_passAll : ByteArray := prog_10_method_75_code
def yX8_passAll : MethodName := ⟨RX8, "passAll", "()V"⟩
abbrev cX8_image : ByteArray := prog_10_method_76_code
def yX8_image : MethodName := ⟨RX8, "image", "(I)I"⟩
abbrev cX8_restore : ByteArray := prog_10_method_77_code
def yX8_restore : MethodName := ⟨RX8, "restore", "(I)I"⟩
abbrev cX8_toldOf : ByteArray := prog_10_method_78_code
def yX8_toldOf : MethodName := ⟨RX8, "toldOf", "(II)I"⟩
abbrev cX8_told : ByteArray := prog_10_method_79_code
def yX8_told : MethodName := ⟨RX8, "told", "(I)I"⟩
def RJ6 : String := "java/lang/Integer"
def TJ6 : u_T := fun k => match k with
  | _ => ("", "", "", false)
def tyJ6 : Nat → FieldType := fun k => match k with
  | _ => .int
abbrev wsJ60 : List Cond := u_ws RJ6 TJ6 0
theorem nmJ6 : ∀ a, a < 0 → ∀ b, b < 0 → a ≠ b → (TJ6 a).2.1 ≠ (TJ6 b).2.1 := by decide +kernel
theorem tyJ6_ok : ∀ k, k < 0 → parseFieldDescriptor (TJ6 k).2.2.1 = some (tyJ6 k) := by decide +kernel
abbrev cJ6_bitCount_0f7a4 : ByteArray := prog_11_method_49_code
def yJ6_bitCount_0f7a4 : MethodName := ⟨RJ6, "bitCount", "(I)I"⟩
def RJ9 : String := "java/lang/Math"
def TJ9 : u_T := fun k => match k with
  | _ => ("", "", "", false)
def tyJ9 : Nat → FieldType := fun k => match k with
  | _ => .int
abbrev wsJ90 : List Cond := u_ws RJ9 TJ9 0
theorem nmJ9 : ∀ a, a < 0 → ∀ b, b < 0 → a ≠ b → (TJ9 a).2.1 ≠ (TJ9 b).2.1 := by decide +kernel
theorem tyJ9_ok : ∀ k, k < 0 → parseFieldDescriptor (TJ9 k).2.2.1 = some (tyJ9 k) := by decide +kernel
abbrev cJ9_abs_0f7a4 : ByteArray := prog_12_method_59_code
def yJ9_abs_0f7a4 : MethodName := ⟨RJ9, "abs", "(I)I"⟩
abbrev cJ9_max_7cf53 : ByteArray := prog_12_method_65_code
def yJ9_max_7cf53 : MethodName := ⟨RJ9, "max", "(II)I"⟩
abbrev cJ9_min_7cf53 : ByteArray := prog_12_method_69_code
def yJ9_min_7cf53 : MethodName := ⟨RJ9, "min", "(II)I"⟩
def RJ10 : String := "java/lang/System"
def TJ10 : u_T := fun k => match k with
  | _ => ("", "", "", false)
def tyJ10 : Nat → FieldType := fun k => match k with
  | _ => .int
abbrev wsJ100 : List Cond := u_ws RJ10 TJ10 0
theorem nmJ10 : ∀ a, a < 0 → ∀ b, b < 0 → a ≠ b → (TJ10 a).2.1 ≠ (TJ10 b).2.1 := by decide +kernel
theorem tyJ10_ok : ∀ k, k < 0 → parseFieldDescriptor (TJ10 k).2.2.1 = some (tyJ10 k) := by decide +kernel
def RL : String := "TandemRideLaw"
abbrev cL_law : ByteArray := code
def yL_law : MethodName := ⟨RL, "law", "([I)Z"⟩
def wsJ6_bitCount_0f7a4 : List Cond := .code yJ6_bitCount_0f7a4 cJ6_bitCount_0f7a4 1 (some .int) :: ([.constant RJ6 265 (1431655765), .constant RJ6 266 (858993459), .constant RJ6 267 (252645135)])
def wsJ9_abs_0f7a4 : List Cond := .code yJ9_abs_0f7a4 cJ9_abs_0f7a4 1 (some .int) :: ([])
def wsJ9_max_7cf53 : List Cond := .code yJ9_max_7cf53 cJ9_max_7cf53 2 (some .int) :: ([])
def wsJ9_min_7cf53 : List Cond := .code yJ9_min_7cf53 cJ9_min_7cf53 2 (some .int) :: ([])
def wsL_law_r1 : List Cond := [Cond.classLink RL 7 RX7, Cond.instantiable RX7 7, Cond.initialized RX7, Cond.classLink RL 10 RX8, Cond.instantiable RX8 38, Cond.initialized RX8, Cond.methodLink RL 9 yX7_init, Cond.instanceMethod yX7_init, Cond.code yX7_init cX7_init 2 none, Cond.methodLink RX7 3 objectInit, Cond.instanceMethod objectInit, Cond.code objectInit ⟨#[0xb1]⟩ 1 none, Cond.classLink RX7 9 RX6, Cond.instantiable RX6 14, Cond.initialized RX6, Cond.fieldLink RX7 12 "TandemRide" "now" "LTandemRide$Setup;", Cond.fieldLink RX7 16 "TandemRide" "images" "[LTandemRide$Setup;", Cond.arrayClass .boolean, Cond.fieldLink RX7 20 "TandemRide" "imageKept" "[Z", Cond.classLink RX7 24 RX1, Cond.instantiable RX1 2, Cond.initialized RX1, Cond.fieldLink RX7 27 "TandemRide" "pad" "LTandemRide$Pad;", Cond.classLink RX7 31 RX2]
def wsL_law_r2 : List Cond := [Cond.instantiable RX2 4, Cond.initialized RX2, Cond.fieldLink RX7 34 "TandemRide" "plan" "LTandemRide$Plan;", Cond.classLink RX7 38 RX3, Cond.instantiable RX3 9, Cond.initialized RX3, Cond.fieldLink RX7 41 "TandemRide" "ride" "LTandemRide$Ride;", Cond.classLink RX7 45 RX5, Cond.instantiable RX5 15, Cond.initialized RX5, Cond.fieldLink RX7 50 "TandemRide" "search" "LTandemRide$Search;", Cond.methodLink RX7 11 yX6_init, Cond.instanceMethod yX6_init, Cond.code yX6_init cX6_init 2 none, Cond.methodLink RX6 3 objectInit, Cond.classLink RX6 9 RX4, Cond.fieldLink RX6 11 "TandemRide$Setup" "riders" "[LTandemRide$Rider;", Cond.arrayClass .int, Cond.fieldLink RX6 17 "TandemRide$Setup" "signs" "[I", Cond.fieldLink RX6 21 "TandemRide$Setup" "ground" "[I", Cond.fieldLink RX6 24 "TandemRide$Setup" "timeRider" "[I", Cond.fieldLink RX6 27 "TandemRide$Setup" "timeSort" "[I", Cond.fieldLink RX6 30 "TandemRide$Setup" "timeEffort" "[I", Cond.fieldLink RX6 33 "TandemRide$Setup" "timeSeconds" "[I"]
def wsL_law_r3 : List Cond := [Cond.fieldLink RX6 36 "TandemRide$Setup" "front" "I", Cond.fieldLink RX6 40 "TandemRide$Setup" "back" "I", Cond.fieldLink RX6 43 "TandemRide$Setup" "hottest" "I", Cond.fieldLink RX6 46 "TandemRide$Setup" "pause" "I", Cond.fieldLink RX6 49 "TandemRide$Setup" "calm" "I", Cond.fieldLink RX6 52 "TandemRide$Setup" "stretches" "I", Cond.fieldLink RX6 55 "TandemRide$Setup" "times" "I", Cond.instantiable RX4 5, Cond.initialized RX4, Cond.instanceMethod yX4_init, Cond.code yX4_init cX4_init 1 none, Cond.methodLink RX4 1 objectInit, Cond.instanceMethod yX1_init, Cond.code yX1_init cX1_init 1 none, Cond.methodLink RX1 3 objectInit, Cond.fieldLink RX1 9 "TandemRide$Pad" "row" "[I", Cond.instanceMethod yX2_init, Cond.code yX2_init cX2_init 1 none, Cond.methodLink RX2 3 objectInit, Cond.fieldLink RX2 9 "TandemRide$Plan" "rest" "[Z", Cond.fieldLink RX2 15 "TandemRide$Plan" "effortFront" "[I", Cond.fieldLink RX2 19 "TandemRide$Plan" "effortBack" "[I", Cond.fieldLink RX2 22 "TandemRide$Plan" "beat" "[I", Cond.instanceMethod yX3_init]
def wsL_law_r4 : List Cond := [Cond.code yX3_init cX3_init 1 none, Cond.methodLink RX3 3 objectInit, Cond.fieldLink RX3 9 "TandemRide$Ride" "seconds" "[I", Cond.fieldLink RX3 15 "TandemRide$Ride" "windFront" "[I", Cond.fieldLink RX3 18 "TandemRide$Ride" "windBack" "[I", Cond.fieldLink RX3 21 "TandemRide$Ride" "heat" "[I", Cond.methodLink RX7 47 yX5_init, Cond.instanceMethod yX5_init, Cond.code yX5_init cX5_init 2 none, Cond.methodLink RX5 3 objectInit, Cond.fieldLink RX5 9 "TandemRide$Search" "pairTreads" "[I", Cond.fieldLink RX5 15 "TandemRide$Search" "choiceFront" "[I", Cond.fieldLink RX5 18 "TandemRide$Search" "choiceBack" "[I", Cond.fieldLink RX5 21 "TandemRide$Search" "choiceSeconds" "[I", Cond.fieldLink RX5 24 "TandemRide$Search" "heatBits" "[I", Cond.fieldLink RX5 27 "TandemRide$Search" "onward" "[I", Cond.fieldLink RX5 30 "TandemRide$Search" "spare" "[I", Cond.fieldLink RX5 33 "TandemRide$Search" "callsBySore" "[I", Cond.fieldLink RX5 36 "TandemRide$Search" "callsBehind" "[I", Cond.fieldLink RX5 39 "TandemRide$Search" "setup" "LTandemRide$Setup;", Cond.fieldLink RX5 49 "TandemRide$Search" "front" "LTandemRide$Rider;", Cond.fieldLink RX5 56 "TandemRide$Search" "back" "LTandemRide$Rider;", Cond.methodLink RX5 43 yX6_riderInFront, Cond.instanceMethod yX6_riderInFront]
def wsL_law_r5 : List Cond := [Cond.selects RX6 yX6_riderInFront yX6_riderInFront, Cond.code yX6_riderInFront cX6_riderInFront 1 (some (.object "TandemRide$Rider")), Cond.methodLink RX5 53 yX6_riderInBack, Cond.instanceMethod yX6_riderInBack, Cond.selects RX6 yX6_riderInBack yX6_riderInBack, Cond.code yX6_riderInBack cX6_riderInBack 1 (some (.object "TandemRide$Rider")), Cond.methodLink RL 12 yX8_init, Cond.instanceMethod yX8_init, Cond.code yX8_init cX8_init 1 none, Cond.methodLink RX8 1 objectInit, Cond.fieldLink RX8 7 "TandemRideModel" "strength" "[I", Cond.fieldLink RX8 13 "TandemRideModel" "likes" "[I", Cond.fieldLink RX8 16 "TandemRideModel" "wind" "[I", Cond.fieldLink RX8 19 "TandemRideModel" "thinks" "[I", Cond.fieldLink RX8 22 "TandemRideModel" "stretch" "[I", Cond.fieldLink RX8 25 "TandemRideModel" "timeOf" "[I", Cond.fieldLink RX8 28 "TandemRideModel" "timeSort" "[I", Cond.fieldLink RX8 31 "TandemRideModel" "timeEffort" "[I", Cond.fieldLink RX8 34 "TandemRideModel" "timeIs" "[I", Cond.fieldLink RX8 37 "TandemRideModel" "pad" "[I", Cond.fieldLink RX8 40 "TandemRideModel" "rests" "[I", Cond.fieldLink RX8 43 "TandemRideModel" "hardFront" "[I", Cond.fieldLink RX8 46 "TandemRideModel" "hardBack" "[I", Cond.fieldLink RX8 49 "TandemRideModel" "beat" "[I"]
def wsL_law_r6 : List Cond := [Cond.fieldLink RX8 52 "TandemRideModel" "toGo" "[I", Cond.fieldLink RX8 55 "TandemRideModel" "next" "[I", Cond.fieldLink RX8 58 "TandemRideModel" "quickest" "[I", Cond.fieldLink RX8 61 "TandemRideModel" "kept" "[I", Cond.fieldLink RX8 64 "TandemRideModel" "isKept" "[Z", Cond.fieldLink RX8 68 "TandemRideModel" "back" "I", Cond.fieldLink RX8 72 "TandemRideModel" "hottest" "I", Cond.fieldLink RX8 75 "TandemRideModel" "pause" "I", Cond.fieldLink RX8 78 "TandemRideModel" "calm" "I", Cond.fieldLink RX8 81 "TandemRideModel" "stretches" "I", Cond.methodLink RL 13 yX7_rider, Cond.instanceMethod yX7_rider, Cond.selects RX7 yX7_rider yX7_rider, Cond.code yX7_rider cX7_rider 6 (some .int), Cond.fieldLink RX7 58 "TandemRide$Setup" "riders" "[LTandemRide$Rider;", Cond.methodLink RX7 54 yX7_isWithin, Cond.static yX7_isWithin, Cond.code yX7_isWithin cX7_isWithin 3 (some .boolean), Cond.methodLink RX7 62 yX4_come, Cond.instanceMethod yX4_come, Cond.selects RX4 yX4_come yX4_come, Cond.code yX4_come cX4_come 5 none, Cond.fieldLink RX4 7 "TandemRide$Rider" "there" "Z", Cond.fieldLink RX4 13 "TandemRide$Rider" "strength" "I"]
def wsL_law_r7 : List Cond := [Cond.fieldLink RX4 17 "TandemRide$Rider" "likes" "I", Cond.fieldLink RX4 20 "TandemRide$Rider" "wind" "I", Cond.fieldLink RX4 23 "TandemRide$Rider" "thinks" "I", Cond.methodLink RX7 68 yX6_ridersThere, Cond.instanceMethod yX6_ridersThere, Cond.selects RX6 yX6_ridersThere yX6_ridersThere, Cond.code yX6_ridersThere cX6_ridersThere 1 (some .int), Cond.methodLink RX6 77 yX6_riderBits, Cond.instanceMethod yX6_riderBits, Cond.selects RX6 yX6_riderBits yX6_riderBits, Cond.code yX6_riderBits cX6_riderBits 3 (some .int), Cond.fieldLink RX6 73 "TandemRide$Rider" "there" "Z", Cond.methodLink RX6 81 yJ6_bitCount_0f7a4, Cond.static yJ6_bitCount_0f7a4, Cond.initialized RJ6, Cond.code yJ6_bitCount_0f7a4 cJ6_bitCount_0f7a4 1 (some .int), Cond.constant RJ6 265 (1431655765), Cond.constant RJ6 266 (858993459), Cond.constant RJ6 267 (252645135), Cond.methodLink RL 17 yX8_rider, Cond.instanceMethod yX8_rider, Cond.selects RX8 yX8_rider yX8_rider, Cond.code yX8_rider cX8_rider 6 (some .int), Cond.constantLong RX8 97 (20)]
def wsL_law_r8 : List Cond := [Cond.constantLong RX8 102 (9), Cond.constantLong RX8 104 (50), Cond.fieldLink RX8 94 "TandemRideModel" "riders" "I", Cond.methodLink RX8 90 yX8_isNumber, Cond.static yX8_isNumber, Cond.code yX8_isNumber cX8_isNumber 1 (some .boolean), Cond.constantLong RX8 84 (3), Cond.methodLink RX8 86 yX8_in, Cond.static yX8_in, Cond.code yX8_in cX8_in 6 (some .boolean), Cond.methodLink RX8 99 yX8_isBeat, Cond.static yX8_isBeat, Cond.code yX8_isBeat cX8_isBeat 1 (some .boolean), Cond.constantLong RX8 145 (4), Cond.constantLong RX8 147 (10), Cond.methodLink RX8 106 yX8_ones, Cond.static yX8_ones, Cond.code yX8_ones cX8_ones 3 (some .int), Cond.methodLink RL 18 yX7_leave, Cond.instanceMethod yX7_leave, Cond.selects RX7 yX7_leave yX7_leave, Cond.code yX7_leave cX7_leave 2 (some .int), Cond.fieldLink RX7 76 "TandemRide$Rider" "there" "Z", Cond.methodLink RX7 72 yX6_isThere]
def wsL_law_r9 : List Cond := [Cond.instanceMethod yX6_isThere, Cond.selects RX6 yX6_isThere yX6_isThere, Cond.code yX6_isThere cX6_isThere 2 (some .boolean), Cond.methodLink RL 22 yX8_leave, Cond.instanceMethod yX8_leave, Cond.selects RX8 yX8_leave yX8_leave, Cond.code yX8_leave cX8_leave 2 (some .int), Cond.methodLink RX8 110 yX8_isThere, Cond.instanceMethod yX8_isThere, Cond.selects RX8 yX8_isThere yX8_isThere, Cond.code yX8_isThere cX8_isThere 2 (some .boolean), Cond.methodLink RL 23 yX7_seat, Cond.instanceMethod yX7_seat, Cond.selects RX7 yX7_seat yX7_seat, Cond.code yX7_seat cX7_seat 3 (some .int), Cond.fieldLink RX7 80 "TandemRide$Setup" "front" "I", Cond.fieldLink RX7 84 "TandemRide$Setup" "back" "I", Cond.methodLink RL 27 yX8_seat, Cond.instanceMethod yX8_seat, Cond.selects RX8 yX8_seat yX8_seat, Cond.code yX8_seat cX8_seat 3 (some .int), Cond.fieldLink RX8 113 "TandemRideModel" "front" "I", Cond.methodLink RL 28 yX7_set, Cond.instanceMethod yX7_set]
def wsL_law_r10 : List Cond := [Cond.selects RX7 yX7_set yX7_set, Cond.code yX7_set cX7_set 4 (some .int), Cond.fieldLink RX7 87 "TandemRide$Setup" "hottest" "I", Cond.fieldLink RX7 90 "TandemRide$Setup" "pause" "I", Cond.fieldLink RX7 93 "TandemRide$Setup" "calm" "I", Cond.methodLink RL 31 yX8_set, Cond.instanceMethod yX8_set, Cond.selects RX8 yX8_set yX8_set, Cond.code yX8_set cX8_set 5 (some .int), Cond.constantLong RX8 116 (5), Cond.constantLong RX8 118 (99), Cond.methodLink RL 32 yX7_say, Cond.instanceMethod yX7_say, Cond.selects RX7 yX7_say yX7_say, Cond.code yX7_say cX7_say 2 (some .int), Cond.fieldLink RX7 96 "TandemRide$Pad" "length" "I", Cond.methodLink RX7 99 yX1_add, Cond.instanceMethod yX1_add, Cond.selects RX1 yX1_add yX1_add, Cond.code yX1_add cX1_add 2 none, Cond.fieldLink RX1 15 "TandemRide$Pad" "length" "I", Cond.methodLink RL 35 yX8_say, Cond.instanceMethod yX8_say, Cond.selects RX8 yX8_say yX8_say]
def wsL_law_r11 : List Cond := [Cond.code yX8_say cX8_say 2 (some .int), Cond.constantLong RX8 120 (33), Cond.constantLong RX8 122 (126), Cond.fieldLink RX8 124 "TandemRideModel" "padMany" "I", Cond.methodLink RL 36 yX7_wipe, Cond.instanceMethod yX7_wipe, Cond.selects RX7 yX7_wipe yX7_wipe, Cond.code yX7_wipe cX7_wipe 2 (some .int), Cond.methodLink RL 40 yX8_wipe, Cond.instanceMethod yX8_wipe, Cond.selects RX8 yX8_wipe yX8_wipe, Cond.code yX8_wipe cX8_wipe 2 (some .int), Cond.methodLink RL 41 yX7_fault, Cond.instanceMethod yX7_fault, Cond.selects RX7 yX7_fault yX7_fault, Cond.code yX7_fault cX7_fault 2 (some .int), Cond.fieldLink RX7 106 "TandemRide$Setup" "stretches" "I", Cond.methodLink RX7 103 yX1_faultAsWay, Cond.instanceMethod yX1_faultAsWay, Cond.selects RX1 yX1_faultAsWay yX1_faultAsWay, Cond.code yX1_faultAsWay cX1_faultAsWay 2 (some .int), Cond.methodLink RX1 19 yX1_signAt, Cond.instanceMethod yX1_signAt, Cond.selects RX1 yX1_signAt yX1_signAt]
def wsL_law_r12 : List Cond := [Cond.code yX1_signAt cX1_signAt 2 (some .int), Cond.methodLink RX1 23 yX0_sortOf, Cond.static yX0_sortOf, Cond.initialized RX0, Cond.code yX0_sortOf cX0_sortOf 1 (some .int), Cond.methodLink RX7 109 yX2_read, Cond.instanceMethod yX2_read, Cond.selects RX2 yX2_read yX2_read, Cond.code yX2_read cX2_read 5 (some .int), Cond.fieldLink RX2 39 "TandemRide$Pad" "length" "I", Cond.methodLink RX2 25 yX1_signAt, Cond.static yX7_isEffort, Cond.code yX7_isEffort cX7_isEffort 1 (some .boolean), Cond.methodLink RL 44 yX8_fault, Cond.instanceMethod yX8_fault, Cond.selects RX8 yX8_fault yX8_fault, Cond.code yX8_fault cX8_fault 2 (some .int), Cond.methodLink RX8 138 yX8_faultOfWay, Cond.instanceMethod yX8_faultOfWay, Cond.selects RX8 yX8_faultOfWay yX8_faultOfWay, Cond.code yX8_faultOfWay cX8_faultOfWay 2 (some .int), Cond.methodLink RX8 127 yX8_isSort, Cond.static yX8_isSort, Cond.code yX8_isSort cX8_isSort 1 (some .boolean)]
def wsL_law_r13 : List Cond := [Cond.methodLink RX8 142 yX8_faultOfPlan, Cond.instanceMethod yX8_faultOfPlan, Cond.selects RX8 yX8_faultOfPlan yX8_faultOfPlan, Cond.code yX8_faultOfPlan cX8_faultOfPlan 7 (some .int), Cond.constantLong RX8 130 (48), Cond.constantLong RX8 132 (52), Cond.constantLong RX8 134 (97), Cond.constantLong RX8 136 (103), Cond.methodLink RL 45 yX7_way, Cond.instanceMethod yX7_way, Cond.selects RX7 yX7_way yX7_way, Cond.code yX7_way cX7_way 1 (some .int), Cond.methodLink RX7 113 yX6_takeWay, Cond.instanceMethod yX6_takeWay, Cond.selects RX6 yX6_takeWay yX6_takeWay, Cond.code yX6_takeWay cX6_takeWay 3 none, Cond.fieldLink RX6 87 "TandemRide$Pad" "length" "I", Cond.methodLink RX6 92 Lib.Math.min.name, Cond.static Lib.Math.min.name, Cond.initialized "java/lang/Math", Cond.code Lib.Math.min.name Lib.Math.min.code 2 (some .int), Cond.methodLink RX6 98 Lib.Math.max.name, Cond.static Lib.Math.max.name, Cond.code Lib.Math.max.name Lib.Math.max.code 2 (some .int)]
def wsL_law_r14 : List Cond := [Cond.methodLink RX6 101 yX1_signAt, Cond.methodLink RX6 104 yX0_sortOf, Cond.methodLink RL 48 yX8_way, Cond.instanceMethod yX8_way, Cond.selects RX8 yX8_way yX8_way, Cond.code yX8_way cX8_way 2 (some .int), Cond.methodLink RL 49 yX7_tread, Cond.instanceMethod yX7_tread, Cond.selects RX7 yX7_tread yX7_tread, Cond.code yX7_tread cX7_tread 4 (some .int), Cond.methodLink RX7 117 yX7_isEffort, Cond.methodLink RX7 120 yX4_treads, Cond.instanceMethod yX4_treads, Cond.selects RX4 yX4_treads yX4_treads, Cond.code yX4_treads cX4_treads 3 (some .int), Cond.methodLink RX4 26 Lib.Math.abs.name, Cond.static Lib.Math.abs.name, Cond.code Lib.Math.abs.name Lib.Math.abs.code 1 (some .int), Cond.methodLink RL 53 yX8_tread, Cond.instanceMethod yX8_tread, Cond.selects RX8 yX8_tread yX8_tread, Cond.code yX8_tread cX8_tread 4 (some .int), Cond.methodLink RX8 149 yX8_isEffort, Cond.static yX8_isEffort]
def wsL_law_r15 : List Cond := [Cond.code yX8_isEffort cX8_isEffort 1 (some .boolean), Cond.methodLink RX8 152 yX8_treadOf, Cond.instanceMethod yX8_treadOf, Cond.selects RX8 yX8_treadOf yX8_treadOf, Cond.code yX8_treadOf cX8_treadOf 5 (some .int), Cond.methodLink RL 54 yX7_judge, Cond.instanceMethod yX7_judge, Cond.selects RX7 yX7_judge yX7_judge, Cond.code yX7_judge cX7_judge 2 (some .int), Cond.fieldLink RX7 132 "TandemRide$Ride" "stuckAt" "I", Cond.fieldLink RX7 135 "TandemRide$Ride" "reason" "I", Cond.methodLink RX7 124 yX7_areSeated, Cond.instanceMethod yX7_areSeated, Cond.selects RX7 yX7_areSeated yX7_areSeated, Cond.code yX7_areSeated cX7_areSeated 1 (some .boolean), Cond.methodLink RX7 128 yX3_go, Cond.instanceMethod yX3_go, Cond.selects RX3 yX3_go yX3_go, Cond.code yX3_go cX3_go 15 none, Cond.fieldLink RX3 33 "TandemRide$Rider" "wind" "I", Cond.fieldLink RX3 42 "TandemRide$Setup" "stretches" "I", Cond.fieldLink RX3 45 "TandemRide$Plan" "rest" "[Z", Cond.fieldLink RX3 51 "TandemRide$Setup" "pause" "I", Cond.fieldLink RX3 54 "TandemRide$Plan" "effortFront" "[I"]
def wsL_law_r16 : List Cond := [Cond.fieldLink RX3 61 "TandemRide$Plan" "effortBack" "[I", Cond.fieldLink RX3 64 "TandemRide$Setup" "ground" "[I", Cond.fieldLink RX3 72 "TandemRide$Setup" "hottest" "I", Cond.fieldLink RX3 79 "TandemRide$Ride" "reason" "I", Cond.fieldLink RX3 82 "TandemRide$Ride" "stuckAt" "I", Cond.fieldLink RX3 85 "TandemRide$Plan" "beat" "[I", Cond.fieldLink RX3 98 "TandemRide$Ride" "unseenBits" "I", Cond.fieldLink RX3 101 "TandemRide$Ride" "treadsFront" "I", Cond.fieldLink RX3 104 "TandemRide$Ride" "treadsBack" "I", Cond.methodLink RX3 24 yX6_riderInFront, Cond.methodLink RX3 30 yX6_riderInBack, Cond.methodLink RX3 39 yX3_start, Cond.instanceMethod yX3_start, Cond.selects RX3 yX3_start yX3_start, Cond.code yX3_start cX3_start 1 none, Cond.methodLink RX3 57 yX4_windBehind, Cond.instanceMethod yX4_windBehind, Cond.selects RX4 yX4_windBehind yX4_windBehind, Cond.code yX4_windBehind cX4_windBehind 3 (some .int), Cond.methodLink RX4 39 Lib.Math.min.name, Cond.methodLink RX3 67 yX0_heatBehind, Cond.static yX0_heatBehind, Cond.code yX0_heatBehind cX0_heatBehind 2 (some .int), Cond.methodLink RX0 9 Lib.Math.max.name]
def wsL_law_r17 : List Cond := [Cond.methodLink RX3 75 yX3_reasonAgainst, Cond.static yX3_reasonAgainst, Cond.code yX3_reasonAgainst cX3_reasonAgainst 4 (some .int), Cond.methodLink RX3 88 yX4_treads, Cond.methodLink RX3 91 yX0_hardOf, Cond.static yX0_hardOf, Cond.code yX0_hardOf cX0_hardOf 1 (some .int), Cond.methodLink RX3 95 yX0_secondsOf, Cond.static yX0_secondsOf, Cond.code yX0_secondsOf cX0_secondsOf 2 (some .int), Cond.methodLink RL 57 yX8_judge, Cond.instanceMethod yX8_judge, Cond.selects RX8 yX8_judge yX8_judge, Cond.code yX8_judge cX8_judge 2 (some .int), Cond.fieldLink RX8 156 "TandemRideModel" "badStretch" "I", Cond.fieldLink RX8 159 "TandemRideModel" "badWhy" "I", Cond.methodLink RX8 206 yX8_isNobody, Cond.instanceMethod yX8_isNobody, Cond.selects RX8 yX8_isNobody yX8_isNobody, Cond.code yX8_isNobody cX8_isNobody 1 (some .boolean), Cond.methodLink RX8 210 yX8_rideAll, Cond.instanceMethod yX8_rideAll, Cond.selects RX8 yX8_rideAll yX8_rideAll, Cond.code yX8_rideAll cX8_rideAll 1 none]
def wsL_law_r18 : List Cond := [Cond.methodLink RX8 203 yX8_ride, Cond.instanceMethod yX8_ride, Cond.selects RX8 yX8_ride yX8_ride, Cond.code yX8_ride cX8_ride 3 none, Cond.methodLink RX8 196 yX8_begin, Cond.instanceMethod yX8_begin, Cond.selects RX8 yX8_begin yX8_begin, Cond.code yX8_begin cX8_begin 1 none, Cond.fieldLink RX8 162 "TandemRideModel" "secondsSoFar" "I", Cond.fieldLink RX8 165 "TandemRideModel" "windFront" "I", Cond.fieldLink RX8 168 "TandemRideModel" "windBack" "I", Cond.fieldLink RX8 171 "TandemRideModel" "heat" "I", Cond.fieldLink RX8 174 "TandemRideModel" "treadsFront" "I", Cond.fieldLink RX8 177 "TandemRideModel" "treadsBack" "I", Cond.methodLink RX8 199 yX8_rideOne, Cond.instanceMethod yX8_rideOne, Cond.selects RX8 yX8_rideOne yX8_rideOne, Cond.code yX8_rideOne cX8_rideOne 5 none, Cond.methodLink RX8 180 yX8_rest, Cond.instanceMethod yX8_rest, Cond.selects RX8 yX8_rest yX8_rest, Cond.code yX8_rest cX8_rest 1 none, Cond.methodLink RX8 183 yX8_winded, Cond.instanceMethod yX8_winded]
def wsL_law_r19 : List Cond := [Cond.selects RX8 yX8_winded yX8_winded, Cond.code yX8_winded cX8_winded 5 (some .int), Cond.methodLink RX8 186 yX8_heated, Cond.static yX8_heated, Cond.code yX8_heated cX8_heated 3 (some .int), Cond.methodLink RX8 190 yX8_hard, Cond.static yX8_hard, Cond.code yX8_hard cX8_hard 1 (some .int), Cond.methodLink RX8 193 yX8_seconds, Cond.static yX8_seconds, Cond.code yX8_seconds cX8_seconds 2 (some .int), Cond.methodLink RL 58 yX7_ridden, Cond.instanceMethod yX7_ridden, Cond.selects RX7 yX7_ridden yX7_ridden, Cond.code yX7_ridden cX7_ridden 4 (some .int), Cond.fieldLink RX7 141 "TandemRide$Ride" "seconds" "[I", Cond.fieldLink RX7 145 "TandemRide$Ride" "windFront" "[I", Cond.fieldLink RX7 148 "TandemRide$Ride" "windBack" "[I", Cond.fieldLink RX7 151 "TandemRide$Ride" "heat" "[I", Cond.methodLink RX7 138 yX7_planIsRidden, Cond.instanceMethod yX7_planIsRidden, Cond.selects RX7 yX7_planIsRidden yX7_planIsRidden, Cond.code yX7_planIsRidden cX7_planIsRidden 1 (some .boolean), Cond.methodLink RL 61 yX8_ridden]
def wsL_law_r20 : List Cond := [Cond.instanceMethod yX8_ridden, Cond.selects RX8 yX8_ridden yX8_ridden, Cond.code yX8_ridden cX8_ridden 3 (some .int), Cond.constantLong RX8 213 (-1), Cond.methodLink RX8 215 yX8_isRefused, Cond.instanceMethod yX8_isRefused, Cond.selects RX8 yX8_isRefused yX8_isRefused, Cond.code yX8_isRefused cX8_isRefused 1 (some .boolean), Cond.methodLink RL 62 yX7_share, Cond.instanceMethod yX7_share, Cond.selects RX7 yX7_share yX7_share, Cond.code yX7_share cX7_share 3 (some .long), Cond.constantLong RX7 154 (-1000000000000000003), Cond.constantLong RX7 156 (-1000000000000000002), Cond.constantLong RX7 158 (-1000000000000000005), Cond.fieldLink RX7 160 "TandemRide$Ride" "treadsFront" "I", Cond.fieldLink RX7 163 "TandemRide$Ride" "treadsBack" "I", Cond.methodLink RX7 166 yX7_fractionPart, Cond.static yX7_fractionPart, Cond.code yX7_fractionPart cX7_fractionPart 12 (some .long), Cond.methodLink RL 66 yX8_share, Cond.instanceMethod yX8_share, Cond.selects RX8 yX8_share yX8_share, Cond.code yX8_share cX8_share 3 (some .long)]
def wsL_law_r21 : List Cond := [Cond.constantLong RX8 218 (-1000000000000000003), Cond.constantLong RX8 220 (-1000000000000000002), Cond.constantLong RX8 222 (-1000000000000000005), Cond.methodLink RX8 224 yX8_lowest, Cond.static yX8_lowest, Cond.code yX8_lowest cX8_lowest 11 (some .long), Cond.methodLink RL 67 yX7_unseen, Cond.instanceMethod yX7_unseen, Cond.selects RX7 yX7_unseen yX7_unseen, Cond.code yX7_unseen cX7_unseen 1 (some .int), Cond.fieldLink RX7 170 "TandemRide$Ride" "unseenBits" "I", Cond.methodLink RL 70 yX8_unseen, Cond.instanceMethod yX8_unseen, Cond.selects RX8 yX8_unseen yX8_unseen, Cond.code yX8_unseen cX8_unseen 6 (some .int), Cond.methodLink RL 71 yX7_soonest, Cond.instanceMethod yX7_soonest, Cond.selects RX7 yX7_soonest yX7_soonest, Cond.code yX7_soonest cX7_soonest 2 (some .int), Cond.fieldLink RX7 184 "TandemRide$Search" "fewest" "I", Cond.fieldLink RX7 187 "TandemRide$Search" "firstStretch" "I", Cond.methodLink RX7 173 yX6_riderInFront, Cond.methodLink RX7 177 yX6_riderInBack, Cond.methodLink RX7 180 yX5_seek]
def wsL_law_r22 : List Cond := [Cond.instanceMethod yX5_seek, Cond.selects RX5 yX5_seek yX5_seek, Cond.code yX5_seek cX5_seek 4 none, Cond.fieldLink RX5 66 "TandemRide$Setup" "stretches" "I", Cond.static yX7_mostTreads, Cond.code yX7_mostTreads cX7_mostTreads 6 (some .int), Cond.methodLink RX7 208 Lib.Math.max.name, Cond.methodLink RX5 63 yX5_findHeats, Cond.instanceMethod yX5_findHeats, Cond.selects RX5 yX5_findHeats yX5_findHeats, Cond.code yX5_findHeats cX5_findHeats 5 none, Cond.fieldLink RX5 77 "TandemRide$Setup" "hottest" "I", Cond.fieldLink RX5 80 "TandemRide$Setup" "ground" "[I", Cond.methodLink RX5 83 yX0_heatBehind, Cond.methodLink RX5 70 yX5_stepAhead, Cond.instanceMethod yX5_stepAhead, Cond.selects RX5 yX5_stepAhead yX5_stepAhead, Cond.code yX5_stepAhead cX5_stepAhead 8 none, Cond.fieldLink RX5 96 "TandemRide$Setup" "pause" "I", Cond.fieldLink RX5 99 "TandemRide$Rider" "wind" "I", Cond.constant RX5 104 (1000000000), Cond.methodLink RX5 89 yX0_hardOf, Cond.methodLink RX5 93 yX5_listChoices, Cond.instanceMethod yX5_listChoices]
def wsL_law_r23 : List Cond := [Cond.selects RX5 yX5_listChoices yX5_listChoices, Cond.code yX5_listChoices cX5_listChoices 4 none, Cond.fieldLink RX5 113 "TandemRide$Search" "choices" "I", Cond.methodLink RX5 116 yX0_secondsOf, Cond.methodLink RX5 105 yX5_fewestOnward, Cond.instanceMethod yX5_fewestOnward, Cond.selects RX5 yX5_fewestOnward yX5_fewestOnward, Cond.code yX5_fewestOnward cX5_fewestOnward 9 (some .int), Cond.methodLink RX5 122 Lib.Math.min.name, Cond.methodLink RX5 119 yX4_windBehind, Cond.methodLink RX5 109 yX5_cellOf, Cond.static yX5_cellOf, Cond.code yX5_cellOf cX5_cellOf 3 (some .int), Cond.methodLink RX5 74 yX5_chooseFirst, Cond.instanceMethod yX5_chooseFirst, Cond.selects RX5 yX5_chooseFirst yX5_chooseFirst, Cond.code yX5_chooseFirst cX5_chooseFirst 8 none, Cond.fieldLink RX5 127 "TandemRide$Search" "fewest" "I", Cond.fieldLink RX5 130 "TandemRide$Search" "firstStretch" "I", Cond.methodLink RX5 133 yX5_leastBeatFor, Cond.instanceMethod yX5_leastBeatFor, Cond.selects RX5 yX5_leastBeatFor yX5_leastBeatFor, Cond.code yX5_leastBeatFor cX5_leastBeatFor 6 (some .int), Cond.methodLink RX5 136 yX4_treads]
def wsL_law_r24 : List Cond := [Cond.methodLink RL 74 yX8_soonest, Cond.instanceMethod yX8_soonest, Cond.selects RX8 yX8_soonest yX8_soonest, Cond.code yX8_soonest cX8_soonest 5 (some .int), Cond.methodLink RX8 252 yX8_soonestOf, Cond.instanceMethod yX8_soonestOf, Cond.selects RX8 yX8_soonestOf yX8_soonestOf, Cond.code yX8_soonestOf cX8_soonestOf 4 (some .int), Cond.constant RX8 228 (1000000), Cond.methodLink RX8 248 yX8_goBack, Cond.instanceMethod yX8_goBack, Cond.selects RX8 yX8_goBack yX8_goBack, Cond.code yX8_goBack cX8_goBack 9 none, Cond.methodLink RX8 240 yX8_findQuickest, Cond.instanceMethod yX8_findQuickest, Cond.selects RX8 yX8_findQuickest yX8_findQuickest, Cond.code yX8_findQuickest cX8_findQuickest 7 none, Cond.methodLink RX8 229 yX8_secondsBy, Cond.instanceMethod yX8_secondsBy, Cond.selects RX8 yX8_secondsBy yX8_secondsBy, Cond.code yX8_secondsBy cX8_secondsBy 6 (some .int), Cond.methodLink RX8 244 yX8_bestFrom, Cond.instanceMethod yX8_bestFrom, Cond.selects RX8 yX8_bestFrom yX8_bestFrom]
def wsL_law_r25 : List Cond := [Cond.code yX8_bestFrom cX8_bestFrom 10 (some .int), Cond.methodLink RX8 236 yX8_secondsFrom, Cond.instanceMethod yX8_secondsFrom, Cond.selects RX8 yX8_secondsFrom yX8_secondsFrom, Cond.code yX8_secondsFrom cX8_secondsFrom 11 (some .int), Cond.methodLink RX8 233 yX8_stateOf, Cond.static yX8_stateOf, Cond.code yX8_stateOf cX8_stateOf 3 (some .int), Cond.methodLink RL 75 yX7_oneBeat, Cond.instanceMethod yX7_oneBeat, Cond.selects RX7 yX7_oneBeat yX7_oneBeat, Cond.code yX7_oneBeat cX7_oneBeat 8 (some .int), Cond.methodLink RX7 190 yX7_secondsAtBeat, Cond.instanceMethod yX7_secondsAtBeat, Cond.selects RX7 yX7_secondsAtBeat yX7_secondsAtBeat, Cond.code yX7_secondsAtBeat cX7_secondsAtBeat 5 (some .int), Cond.methodLink RX7 292 yX6_secondsTogether, Cond.instanceMethod yX6_secondsTogether, Cond.selects RX6 yX6_secondsTogether yX6_secondsTogether, Cond.code yX6_secondsTogether cX6_secondsTogether 4 (some .int), Cond.methodLink RX6 112 yX0_hardOf, Cond.methodLink RX6 115 yX0_secondsOf, Cond.methodLink RX7 194 yX4_losesAt, Cond.instanceMethod yX4_losesAt]
def wsL_law_r26 : List Cond := [Cond.selects RX4 yX4_losesAt yX4_losesAt, Cond.code yX4_losesAt cX4_losesAt 3 (some .int), Cond.methodLink RX4 32 yX4_treadsAsLiked, Cond.instanceMethod yX4_treadsAsLiked, Cond.selects RX4 yX4_treadsAsLiked yX4_treadsAsLiked, Cond.code yX4_treadsAsLiked cX4_treadsAsLiked 2 (some .int), Cond.methodLink RX4 35 yX4_treads, Cond.methodLink RL 78 yX8_oneBeat, Cond.instanceMethod yX8_oneBeat, Cond.selects RX8 yX8_oneBeat yX8_oneBeat, Cond.code yX8_oneBeat cX8_oneBeat 7 (some .int), Cond.methodLink RX8 255 yX8_secondsAt, Cond.instanceMethod yX8_secondsAt, Cond.selects RX8 yX8_secondsAt yX8_secondsAt, Cond.code yX8_secondsAt cX8_secondsAt 5 (some .int), Cond.methodLink RX8 258 yX8_lost, Cond.instanceMethod yX8_lost, Cond.selects RX8 yX8_lost yX8_lost, Cond.code yX8_lost cX8_lost 4 (some .int), Cond.methodLink RL 79 yX7_single, Cond.instanceMethod yX7_single, Cond.selects RX7 yX7_single yX7_single, Cond.code yX7_single cX7_single 3 (some .int), Cond.methodLink RX7 197 yX4_treadsAsLiked]
def wsL_law_r27 : List Cond := [Cond.methodLink RX7 201 yX6_secondsAlone, Cond.instanceMethod yX6_secondsAlone, Cond.selects RX6 yX6_secondsAlone yX6_secondsAlone, Cond.code yX6_secondsAlone cX6_secondsAlone 4 (some .int), Cond.methodLink RL 82 yX8_single, Cond.instanceMethod yX8_single, Cond.selects RX8 yX8_single yX8_single, Cond.code yX8_single cX8_single 5 (some .int), Cond.methodLink RX8 261 yX8_alone, Cond.instanceMethod yX8_alone, Cond.selects RX8 yX8_alone yX8_alone, Cond.code yX8_alone cX8_alone 4 (some .int), Cond.methodLink RL 83 yX7_sorts, Cond.instanceMethod yX7_sorts, Cond.selects RX7 yX7_sorts yX7_sorts, Cond.code yX7_sorts cX7_sorts 7 (some .int), Cond.methodLink RX7 204 yX7_mostTreads, Cond.methodLink RX7 213 yX0_hardOf, Cond.methodLink RX7 218 yX0_secondsOf, Cond.methodLink RL 86 yX8_sorts, Cond.instanceMethod yX8_sorts, Cond.selects RX8 yX8_sorts yX8_sorts, Cond.code yX8_sorts cX8_sorts 6 (some .int), Cond.methodLink RX8 264 yX8_sortOf]
def wsL_law_r28 : List Cond := [Cond.static yX8_sortOf, Cond.code yX8_sortOf cX8_sortOf 1 (some .int), Cond.methodLink RL 87 yX7_uneven, Cond.instanceMethod yX7_uneven, Cond.selects RX7 yX7_uneven yX7_uneven, Cond.code yX7_uneven cX7_uneven 4 (some .int), Cond.methodLink RX7 221 yX7_unevenness, Cond.instanceMethod yX7_unevenness, Cond.selects RX7 yX7_unevenness yX7_unevenness, Cond.code yX7_unevenness cX7_unevenness 10 (some .int), Cond.fieldLink RX7 280 "TandemRide$Rider" "strength" "I", Cond.constant RX7 266 (1000000000), Cond.methodLink RX7 241 Lib.Math.min.name, Cond.methodLink RX7 295 yX7_crankAt, Cond.static yX7_crankAt, Cond.code yX7_crankAt cX7_crankAt 1 (some .int), Cond.methodLink RX7 298 Lib.Math.abs.name, Cond.methodLink RL 90 yX8_uneven, Cond.instanceMethod yX8_uneven, Cond.selects RX8 yX8_uneven yX8_uneven, Cond.code yX8_uneven cX8_uneven 4 (some .int), Cond.constantLong RX8 270 (11), Cond.methodLink RX8 272 yX8_unevenBy, Cond.instanceMethod yX8_unevenBy]
def wsL_law_r29 : List Cond := [Cond.selects RX8 yX8_unevenBy yX8_unevenBy, Cond.code yX8_unevenBy cX8_unevenBy 8 (some .int), Cond.methodLink RX8 267 yX8_fromSix, Cond.static yX8_fromSix, Cond.code yX8_fromSix cX8_fromSix 1 (some .int), Cond.methodLink RL 91 yX7_evenest, Cond.instanceMethod yX7_evenest, Cond.selects RX7 yX7_evenest yX7_evenest, Cond.code yX7_evenest cX7_evenest 7 (some .int), Cond.methodLink RL 94 yX8_evenest, Cond.instanceMethod yX8_evenest, Cond.selects RX8 yX8_evenest yX8_evenest, Cond.code yX8_evenest cX8_evenest 5 (some .int), Cond.methodLink RL 95 yX7_calls, Cond.instanceMethod yX7_calls, Cond.selects RX7 yX7_calls yX7_calls, Cond.code yX7_calls cX7_calls 4 (some .int), Cond.constant RX7 233 (16777215), Cond.methodLink RX7 224 yX6_corners, Cond.instanceMethod yX6_corners, Cond.selects RX6 yX6_corners yX6_corners, Cond.code yX6_corners cX6_corners 1 (some .int), Cond.methodLink RX6 109 yX6_stretchesOf, Cond.instanceMethod yX6_stretchesOf]
def wsL_law_r30 : List Cond := [Cond.selects RX6 yX6_stretchesOf yX6_stretchesOf, Cond.code yX6_stretchesOf cX6_stretchesOf 4 (some .int), Cond.methodLink RX7 227 yX6_bumps, Cond.instanceMethod yX6_bumps, Cond.selects RX6 yX6_bumps yX6_bumps, Cond.code yX6_bumps cX6_bumps 1 (some .int), Cond.methodLink RX7 230 yX5_fewestCalls, Cond.instanceMethod yX5_fewestCalls, Cond.selects RX5 yX5_fewestCalls yX5_fewestCalls, Cond.code yX5_fewestCalls cX5_fewestCalls 7 (some .int), Cond.constant RX5 146 (16777216), Cond.methodLink RX5 139 yX0_soreBehind, Cond.static yX0_soreBehind, Cond.code yX0_soreBehind cX0_soreBehind 2 (some .int), Cond.methodLink RX5 142 yX5_keepFewer, Cond.instanceMethod yX5_keepFewer, Cond.selects RX5 yX5_keepFewer yX5_keepFewer, Cond.code yX5_keepFewer cX5_keepFewer 3 none, Cond.methodLink RL 98 yX8_calls, Cond.instanceMethod yX8_calls, Cond.selects RX8 yX8_calls yX8_calls, Cond.code yX8_calls cX8_calls 6 (some .int), Cond.methodLink RX8 275 yX8_bumps, Cond.instanceMethod yX8_bumps]
def wsL_law_r31 : List Cond := [Cond.selects RX8 yX8_bumps yX8_bumps, Cond.code yX8_bumps cX8_bumps 3 (some .int), Cond.methodLink RX8 278 yX8_isBorne, Cond.instanceMethod yX8_isBorne, Cond.selects RX8 yX8_isBorne yX8_isBorne, Cond.code yX8_isBorne cX8_isBorne 8 (some .boolean), Cond.methodLink RX8 282 yX8_stretchesOf, Cond.instanceMethod yX8_stretchesOf, Cond.selects RX8 yX8_stretchesOf yX8_stretchesOf, Cond.code yX8_stretchesOf cX8_stretchesOf 5 (some .int), Cond.methodLink RL 99 yX7_worth, Cond.instanceMethod yX7_worth, Cond.selects RX7 yX7_worth yX7_worth, Cond.code yX7_worth cX7_worth 3 (some .int), Cond.methodLink RX7 234 yX2_restsIn, Cond.instanceMethod yX2_restsIn, Cond.selects RX2 yX2_restsIn yX2_restsIn, Cond.code yX2_restsIn cX2_restsIn 3 (some .boolean), Cond.methodLink RL 102 yX8_worth, Cond.instanceMethod yX8_worth, Cond.selects RX8 yX8_worth yX8_worth, Cond.code yX8_worth cX8_worth 4 (some .int), Cond.methodLink RL 103 yX7_bestPair, Cond.instanceMethod yX7_bestPair]
def wsL_law_r32 : List Cond := [Cond.selects RX7 yX7_bestPair yX7_bestPair, Cond.code yX7_bestPair cX7_bestPair 6 (some .int), Cond.methodLink RL 106 yX8_bestPair, Cond.instanceMethod yX8_bestPair, Cond.selects RX8 yX8_bestPair yX8_bestPair, Cond.code yX8_bestPair cX8_bestPair 8 (some .int), Cond.methodLink RL 107 yX7_quarrel, Cond.instanceMethod yX7_quarrel, Cond.selects RX7 yX7_quarrel yX7_quarrel, Cond.code yX7_quarrel cX7_quarrel 7 (some .int), Cond.methodLink RX7 237 yX7_believedBy, Cond.instanceMethod yX7_believedBy, Cond.selects RX7 yX7_believedBy yX7_believedBy, Cond.code yX7_believedBy cX7_believedBy 5 (some .int), Cond.fieldLink RX7 289 "TandemRide$Rider" "thinks" "I", Cond.methodLink RL 110 yX8_quarrel, Cond.instanceMethod yX8_quarrel, Cond.selects RX8 yX8_quarrel yX8_quarrel, Cond.code yX8_quarrel cX8_quarrel 5 (some .int), Cond.methodLink RX8 285 yX8_believed, Cond.instanceMethod yX8_believed, Cond.selects RX8 yX8_believed yX8_believed, Cond.code yX8_believed cX8_believed 5 (some .int), Cond.methodLink RL 111 yX7_home]
def wsL_law_r33 : List Cond := [Cond.instanceMethod yX7_home, Cond.selects RX7 yX7_home yX7_home, Cond.code yX7_home cX7_home 8 (some .long), Cond.constantLong RX7 244 (-1000000000000000004), Cond.constantLong RX7 250 (10), Cond.methodLink RX7 246 yX7_chancesOfSlips, Cond.static yX7_chancesOfSlips, Cond.code yX7_chancesOfSlips cX7_chancesOfSlips 8 (some .long), Cond.methodLink RX7 252 yX7_power, Cond.static yX7_power, Cond.code yX7_power cX7_power 6 (some .long), Cond.methodLink RL 115 yX8_home, Cond.instanceMethod yX8_home, Cond.selects RX8 yX8_home yX8_home, Cond.code yX8_home cX8_home 9 (some .long), Cond.constantLong RX8 288 (9999), Cond.constantLong RX8 293 (-1000000000000000004), Cond.methodLink RX8 290 yX8_corners, Cond.instanceMethod yX8_corners, Cond.selects RX8 yX8_corners yX8_corners, Cond.code yX8_corners cX8_corners 3 (some .int), Cond.methodLink RX8 295 yX8_powers, Cond.static yX8_powers, Cond.code yX8_powers cX8_powers 5 (some .long)]
def wsL_law_r34 : List Cond := [Cond.methodLink RL 116 yX7_mean, Cond.instanceMethod yX7_mean, Cond.selects RX7 yX7_mean yX7_mean, Cond.code yX7_mean cX7_mean 4 (some .long), Cond.methodLink RL 120 yX8_mean, Cond.instanceMethod yX8_mean, Cond.selects RX8 yX8_mean yX8_mean, Cond.code yX8_mean cX8_mean 3 (some .long), Cond.methodLink RL 121 yX7_time, Cond.instanceMethod yX7_time, Cond.selects RX7 yX7_time yX7_time, Cond.code yX7_time cX7_time 5 (some .int), Cond.fieldLink RX7 256 "TandemRide$Setup" "times" "I", Cond.methodLink RX7 259 yX6_addTime, Cond.instanceMethod yX6_addTime, Cond.selects RX6 yX6_addTime yX6_addTime, Cond.code yX6_addTime cX6_addTime 5 none, Cond.methodLink RL 125 yX8_time, Cond.instanceMethod yX8_time, Cond.selects RX8 yX8_time yX8_time, Cond.code yX8_time cX8_time 5 (some .int), Cond.constantLong RX8 299 (300), Cond.fieldLink RX8 301 "TandemRideModel" "times" "I", Cond.methodLink RL 126 yX7_forget]
def wsL_law_r35 : List Cond := [Cond.instanceMethod yX7_forget, Cond.selects RX7 yX7_forget yX7_forget, Cond.code yX7_forget cX7_forget 2 (some .int), Cond.methodLink RL 129 yX8_forget, Cond.instanceMethod yX8_forget, Cond.selects RX8 yX8_forget yX8_forget, Cond.code yX8_forget cX8_forget 2 (some .int), Cond.methodLink RL 130 yX7_strong, Cond.instanceMethod yX7_strong, Cond.selects RX7 yX7_strong yX7_strong, Cond.code yX7_strong cX7_strong 7 (some .int), Cond.methodLink RX7 262 yX6_timesHold, Cond.instanceMethod yX6_timesHold, Cond.selects RX6 yX6_timesHold yX6_timesHold, Cond.code yX6_timesHold cX6_timesHold 5 (some .boolean), Cond.methodLink RL 133 yX8_strong, Cond.instanceMethod yX8_strong, Cond.selects RX8 yX8_strong yX8_strong, Cond.code yX8_strong cX8_strong 7 (some .int), Cond.constantLong RX8 304 (2), Cond.methodLink RX8 306 yX8_holds, Cond.instanceMethod yX8_holds, Cond.selects RX8 yX8_holds yX8_holds, Cond.code yX8_holds cX8_holds 6 (some .boolean)]
def wsL_law_r36 : List Cond := [Cond.methodLink RL 134 yX7_year, Cond.instanceMethod yX7_year, Cond.selects RX7 yX7_year yX7_year, Cond.code yX7_year cX7_year 11 (some .int), Cond.constant RX7 267 (65537), Cond.methodLink RL 137 yX8_year, Cond.instanceMethod yX8_year, Cond.selects RX8 yX8_year yX8_year, Cond.code yX8_year cX8_year 11 (some .int), Cond.constantLong RX8 309 (75), Cond.constantLong RX8 311 (74), Cond.constantLong RX8 313 (65537), Cond.methodLink RL 138 yX7_image, Cond.instanceMethod yX7_image, Cond.selects RX7 yX7_image yX7_image, Cond.code yX7_image cX7_image 2 (some .int), Cond.methodLink RX7 268 yX6_copyFrom, Cond.instanceMethod yX6_copyFrom, Cond.selects RX6 yX6_copyFrom yX6_copyFrom, Cond.code yX6_copyFrom cX6_copyFrom 3 none, Cond.methodLink RX6 63 arraycopyName, Cond.native arraycopyName, Cond.static arraycopyName, Cond.initialized "java/lang/System"]
def wsL_law_r37 : List Cond := [Cond.methodLink RX6 59 yX4_copyFrom, Cond.instanceMethod yX4_copyFrom, Cond.selects RX4 yX4_copyFrom yX4_copyFrom, Cond.code yX4_copyFrom cX4_copyFrom 2 none, Cond.methodLink RL 141 yX8_image, Cond.instanceMethod yX8_image, Cond.selects RX8 yX8_image yX8_image, Cond.code yX8_image cX8_image 2 (some .int), Cond.fieldLink RX8 319 "TandemRideModel" "keptAt" "I", Cond.fieldLink RX8 315 "TandemRideModel" "isWriting" "Z", Cond.methodLink RX8 325 yX8_passAll, Cond.instanceMethod yX8_passAll, Cond.selects RX8 yX8_passAll yX8_passAll, Cond.code yX8_passAll cX8_passAll 2 none, Cond.methodLink RX8 322 yX8_pass, Cond.instanceMethod yX8_pass, Cond.selects RX8 yX8_pass yX8_pass, Cond.code yX8_pass cX8_pass 3 (some .int), Cond.methodLink RL 142 yX7_restore, Cond.instanceMethod yX7_restore, Cond.selects RX7 yX7_restore yX7_restore, Cond.code yX7_restore cX7_restore 2 (some .int), Cond.methodLink RL 145 yX8_restore, Cond.instanceMethod yX8_restore]
def wsL_law_r38 : List Cond := [Cond.selects RX8 yX8_restore yX8_restore, Cond.code yX8_restore cX8_restore 2 (some .int), Cond.methodLink RL 146 yX7_told, Cond.instanceMethod yX7_told, Cond.selects RX7 yX7_told yX7_told, Cond.code yX7_told cX7_told 2 (some .int), Cond.fieldLink RX7 274 "TandemRide$Setup" "signs" "[I", Cond.methodLink RX7 271 yX6_riderBits, Cond.methodLink RX7 277 yX7_toldOfRider, Cond.instanceMethod yX7_toldOfRider, Cond.selects RX7 yX7_toldOfRider yX7_toldOfRider, Cond.code yX7_toldOfRider cX7_toldOfRider 4 (some .int), Cond.fieldLink RX7 283 "TandemRide$Rider" "likes" "I", Cond.fieldLink RX7 286 "TandemRide$Rider" "wind" "I", Cond.methodLink RL 149 yX8_told, Cond.instanceMethod yX8_told, Cond.selects RX8 yX8_told yX8_told, Cond.code yX8_told cX8_told 2 (some .int), Cond.constantLong RX8 328 (49), Cond.constantLong RX8 333 (100), Cond.methodLink RX8 330 yX8_toldOf, Cond.instanceMethod yX8_toldOf, Cond.selects RX8 yX8_toldOf yX8_toldOf, Cond.code yX8_toldOf cX8_toldOf 3 (some .int)]
def wsL_law : List Cond := (wsL_law_r1 ++ (wsL_law_r2 ++ (wsL_law_r3 ++ (wsL_law_r4 ++ (wsL_law_r5 ++ (wsL_law_r6 ++ (wsL_law_r7 ++ (wsL_law_r8 ++ (wsL_law_r9 ++ (wsL_law_r10 ++ (wsL_law_r11 ++ (wsL_law_r12 ++ (wsL_law_r13 ++ (wsL_law_r14 ++ (wsL_law_r15 ++ (wsL_law_r16 ++ (wsL_law_r17 ++ (wsL_law_r18 ++ (wsL_law_r19 ++ (wsL_law_r20 ++ (wsL_law_r21 ++ (wsL_law_r22 ++ (wsL_law_r23 ++ (wsL_law_r24 ++ (wsL_law_r25 ++ (wsL_law_r26 ++ (wsL_law_r27 ++ (wsL_law_r28 ++ (wsL_law_r29 ++ (wsL_law_r30 ++ (wsL_law_r31 ++ (wsL_law_r32 ++ (wsL_law_r33 ++ (wsL_law_r34 ++ (wsL_law_r35 ++ (wsL_law_r36 ++ (wsL_law_r37 ++ wsL_law_r38))))))))))))))))))))))))))))))))))))) ++ wsX70 ++ wsX80 ++ wsX60 ++ wsX10 ++ wsX20 ++ wsX30 ++ wsX50 ++ wsX40 ++ ([] : List Cond)
set_option maxRecDepth 20000 in
theorem rt_w_r1 : ∀ w ∈ wsL_law_r1, w ∈ lw_tbl := fun w h => (goodIn_p wsL_law_r1 [63, 66] (by decide +kernel) (by decide +kernel) w h).1
set_option maxRecDepth 20000 in
theorem rt_w_r2 : ∀ w ∈ wsL_law_r2, w ∈ lw_tbl := fun w h => (goodIn_p wsL_law_r2 [71] (by decide +kernel) (by decide +kernel) w h).1
set_option maxRecDepth 20000 in
theorem rt_w_r3 : ∀ w ∈ wsL_law_r3, w ∈ lw_tbl := fun w h => (goodIn_p wsL_law_r3 [78, 170, 187] (by decide +kernel) (by decide +kernel) w h).1
set_option maxRecDepth 20000 in
theorem rt_w_r4 : ∀ w ∈ wsL_law_r4, w ∈ lw_tbl := fun w h => (goodIn_p wsL_law_r4 [210, 253] (by decide +kernel) (by decide +kernel) w h).1
set_option maxRecDepth 20000 in
theorem rt_w_r5 : ∀ w ∈ wsL_law_r5, w ∈ lw_tbl := fun w h => (goodIn_p wsL_law_r5 [258, 262, 725] (by decide +kernel) (by decide +kernel) w h).1
set_option maxRecDepth 20000 in
theorem rt_w_r6 : ∀ w ∈ wsL_law_r6, w ∈ lw_tbl := fun w h => (goodIn_p wsL_law_r6 [336, 339, 343] (by decide +kernel) (by decide +kernel) w h).1
set_option maxRecDepth 20000 in
theorem rt_w_r7 : ∀ w ∈ wsL_law_r7, w ∈ lw_tbl := fun w h => (goodIn_p wsL_law_r7 [347, 351, 354, 845] (by decide +kernel) (by decide +kernel) w h).1
set_option maxRecDepth 20000 in
theorem rt_w_r8 : ∀ w ∈ wsL_law_r8, w ∈ lw_tbl := fun w h => (goodIn_p wsL_law_r8 [848, 852, 856, 863, 361] (by decide +kernel) (by decide +kernel) w h).1
set_option maxRecDepth 20000 in
theorem rt_w_r9 : ∀ w ∈ wsL_law_r9, w ∈ lw_tbl := fun w h => (goodIn_p wsL_law_r9 [365, 867, 871, 370, 875] (by decide +kernel) (by decide +kernel) w h).1
set_option maxRecDepth 20000 in
theorem rt_w_r10 : ∀ w ∈ wsL_law_r10, w ∈ lw_tbl := fun w h => (goodIn_p wsL_law_r10 [374, 879, 378, 382] (by decide +kernel) (by decide +kernel) w h).1
set_option maxRecDepth 20000 in
theorem rt_w_r11 : ∀ w ∈ wsL_law_r11, w ∈ lw_tbl := fun w h => (goodIn_p wsL_law_r11 [885, 386, 891, 390, 394] (by decide +kernel) (by decide +kernel) w h).1
set_option maxRecDepth 20000 in
theorem rt_w_r12 : ∀ w ∈ wsL_law_r12, w ∈ lw_tbl := fun w h => (goodIn_p wsL_law_r12 [398, 401, 405, 409, 895, 899, 902] (by decide +kernel) (by decide +kernel) w h).1
set_option maxRecDepth 20000 in
theorem rt_w_r13 : ∀ w ∈ wsL_law_r13, w ∈ lw_tbl := fun w h => (goodIn_p wsL_law_r13 [906, 414, 418, 421, 424] (by decide +kernel) (by decide +kernel) w h).1
set_option maxRecDepth 20000 in
theorem rt_w_r14 : ∀ w ∈ wsL_law_r14, w ∈ lw_tbl := fun w h => (goodIn_p wsL_law_r14 [914, 430, 435, 438, 918] (by decide +kernel) (by decide +kernel) w h).1
set_option maxRecDepth 20000 in
theorem rt_w_r15 : ∀ w ∈ wsL_law_r15, w ∈ lw_tbl := fun w h => (goodIn_p wsL_law_r15 [921, 925, 442, 446, 450] (by decide +kernel) (by decide +kernel) w h).1
set_option maxRecDepth 20000 in
theorem rt_w_r16 : ∀ w ∈ wsL_law_r16, w ∈ lw_tbl := fun w h => (goodIn_p wsL_law_r16 [456, 460, 464] (by decide +kernel) (by decide +kernel) w h).1
set_option maxRecDepth 20000 in
theorem rt_w_r17 : ∀ w ∈ wsL_law_r17, w ∈ lw_tbl := fun w h => (goodIn_p wsL_law_r17 [468, 472, 475, 929, 933, 937] (by decide +kernel) (by decide +kernel) w h).1
set_option maxRecDepth 20000 in
theorem rt_w_r18 : ∀ w ∈ wsL_law_r18, w ∈ lw_tbl := fun w h => (goodIn_p wsL_law_r18 [941, 945, 949, 953] (by decide +kernel) (by decide +kernel) w h).1
set_option maxRecDepth 20000 in
theorem rt_w_r19 : ∀ w ∈ wsL_law_r19, w ∈ lw_tbl := fun w h => (goodIn_p wsL_law_r19 [957, 960, 963, 966, 479, 483] (by decide +kernel) (by decide +kernel) w h).1
set_option maxRecDepth 20000 in
theorem rt_w_r20 : ∀ w ∈ wsL_law_r20, w ∈ lw_tbl := fun w h => (goodIn_p wsL_law_r20 [970, 975, 487, 493, 979] (by decide +kernel) (by decide +kernel) w h).1
set_option maxRecDepth 20000 in
theorem rt_w_r21 : ∀ w ∈ wsL_law_r21, w ∈ lw_tbl := fun w h => (goodIn_p wsL_law_r21 [985, 497, 989, 501] (by decide +kernel) (by decide +kernel) w h).1
set_option maxRecDepth 20000 in
theorem rt_w_r22 : ∀ w ∈ wsL_law_r22, w ∈ lw_tbl := fun w h => (goodIn_p wsL_law_r22 [507, 510, 515, 520] (by decide +kernel) (by decide +kernel) w h).1
set_option maxRecDepth 20000 in
theorem rt_w_r23 : ∀ w ∈ wsL_law_r23, w ∈ lw_tbl := fun w h => (goodIn_p wsL_law_r23 [525, 531, 535, 540, 544] (by decide +kernel) (by decide +kernel) w h).1
set_option maxRecDepth 20000 in
theorem rt_w_r24 : ∀ w ∈ wsL_law_r24, w ∈ lw_tbl := fun w h => (goodIn_p wsL_law_r24 [993, 997, 1001, 1005, 1010] (by decide +kernel) (by decide +kernel) w h).1
set_option maxRecDepth 20000 in
theorem rt_w_r25 : ∀ w ∈ wsL_law_r25, w ∈ lw_tbl := fun w h => (goodIn_p wsL_law_r25 [1014, 1018, 1021, 549, 553, 557] (by decide +kernel) (by decide +kernel) w h).1
set_option maxRecDepth 20000 in
theorem rt_w_r26 : ∀ w ∈ wsL_law_r26, w ∈ lw_tbl := fun w h => (goodIn_p wsL_law_r26 [563, 567, 1025, 1029, 1033, 572] (by decide +kernel) (by decide +kernel) w h).1
set_option maxRecDepth 20000 in
theorem rt_w_r27 : ∀ w ∈ wsL_law_r27, w ∈ lw_tbl := fun w h => (goodIn_p wsL_law_r27 [577, 1037, 1041, 581, 1045] (by decide +kernel) (by decide +kernel) w h).1
set_option maxRecDepth 20000 in
theorem rt_w_r28 : ∀ w ∈ wsL_law_r28, w ∈ lw_tbl := fun w h => (goodIn_p wsL_law_r28 [1048, 588, 592, 596, 1052] (by decide +kernel) (by decide +kernel) w h).1
set_option maxRecDepth 20000 in
theorem rt_w_r29 : ∀ w ∈ wsL_law_r29, w ∈ lw_tbl := fun w h => (goodIn_p wsL_law_r29 [1057, 1060, 602, 1064, 606, 610] (by decide +kernel) (by decide +kernel) w h).1
set_option maxRecDepth 20000 in
theorem rt_w_r30 : ∀ w ∈ wsL_law_r30, w ∈ lw_tbl := fun w h => (goodIn_p wsL_law_r30 [614, 618, 622, 625, 629, 1068] (by decide +kernel) (by decide +kernel) w h).1
set_option maxRecDepth 20000 in
theorem rt_w_r31 : ∀ w ∈ wsL_law_r31, w ∈ lw_tbl := fun w h => (goodIn_p wsL_law_r31 [1072, 1076, 1080, 635, 639, 1084] (by decide +kernel) (by decide +kernel) w h).1
set_option maxRecDepth 20000 in
theorem rt_w_r32 : ∀ w ∈ wsL_law_r32, w ∈ lw_tbl := fun w h => (goodIn_p wsL_law_r32 [643, 1088, 647, 651, 1092, 1096] (by decide +kernel) (by decide +kernel) w h).1
set_option maxRecDepth 20000 in
theorem rt_w_r33 : ∀ w ∈ wsL_law_r33, w ∈ lw_tbl := fun w h => (goodIn_p wsL_law_r33 [655, 659, 662, 1100, 1105, 1109] (by decide +kernel) (by decide +kernel) w h).1
set_option maxRecDepth 20000 in
theorem rt_w_r34 : ∀ w ∈ wsL_law_r34, w ∈ lw_tbl := fun w h => (goodIn_p wsL_law_r34 [667, 1113, 671, 675, 1117] (by decide +kernel) (by decide +kernel) w h).1
set_option maxRecDepth 20000 in
theorem rt_w_r35 : ∀ w ∈ wsL_law_r35, w ∈ lw_tbl := fun w h => (goodIn_p wsL_law_r35 [679, 1122, 683, 687, 1126, 1131] (by decide +kernel) (by decide +kernel) w h).1
set_option maxRecDepth 20000 in
theorem rt_w_r36 : ∀ w ∈ wsL_law_r36, w ∈ lw_tbl := fun w h => (goodIn_p wsL_law_r36 [691, 1135, 696, 700] (by decide +kernel) (by decide +kernel) w h).1
set_option maxRecDepth 20000 in
theorem rt_w_r37 : ∀ w ∈ wsL_law_r37, w ∈ lw_tbl := fun w h => (goodIn_p wsL_law_r37 [704, 1142, 1146, 1150, 711] (by decide +kernel) (by decide +kernel) w h).1
set_option maxRecDepth 20000 in
theorem rt_w_r38 : ∀ w ∈ wsL_law_r38, w ∈ lw_tbl := fun w h => (goodIn_p wsL_law_r38 [1154, 715, 720, 1158, 1163] (by decide +kernel) (by decide +kernel) w h).1
set_option maxRecDepth 20000 in
theorem rt_wsX70 : ∀ w ∈ wsX70, w ∈ lw_tbl := fun w h => (goodIn_p wsX70 [] (by decide +kernel) (by decide +kernel) w h).1
set_option maxRecDepth 20000 in
theorem rt_wsX80 : ∀ w ∈ wsX80, w ∈ lw_tbl := fun w h => (goodIn_p wsX80 [] (by decide +kernel) (by decide +kernel) w h).1
set_option maxRecDepth 20000 in
theorem rt_wsX60 : ∀ w ∈ wsX60, w ∈ lw_tbl := fun w h => (goodIn_p wsX60 [] (by decide +kernel) (by decide +kernel) w h).1
set_option maxRecDepth 20000 in
theorem rt_wsX10 : ∀ w ∈ wsX10, w ∈ lw_tbl := fun w h => (goodIn_p wsX10 [] (by decide +kernel) (by decide +kernel) w h).1
set_option maxRecDepth 20000 in
theorem rt_wsX20 : ∀ w ∈ wsX20, w ∈ lw_tbl := fun w h => (goodIn_p wsX20 [] (by decide +kernel) (by decide +kernel) w h).1
set_option maxRecDepth 20000 in
theorem rt_wsX30 : ∀ w ∈ wsX30, w ∈ lw_tbl := fun w h => (goodIn_p wsX30 [] (by decide +kernel) (by decide +kernel) w h).1
set_option maxRecDepth 20000 in
theorem rt_wsX50 : ∀ w ∈ wsX50, w ∈ lw_tbl := fun w h => (goodIn_p wsX50 [] (by decide +kernel) (by decide +kernel) w h).1
set_option maxRecDepth 20000 in
theorem rt_wsX40 : ∀ w ∈ wsX40, w ∈ lw_tbl := fun w h => (goodIn_p wsX40 [] (by decide +kernel) (by decide +kernel) w h).1
theorem wsL_law_in : ∀ w ∈ wsL_law, w ∈ lw_tbl := List.forall_mem_append.mpr ⟨List.forall_mem_append.mpr ⟨List.forall_mem_append.mpr ⟨List.forall_mem_append.mpr ⟨List.forall_mem_append.mpr ⟨List.forall_mem_append.mpr ⟨List.forall_mem_append.mpr ⟨List.forall_mem_append.mpr ⟨List.forall_mem_append.mpr ⟨List.forall_mem_append.mpr ⟨rt_w_r1, List.forall_mem_append.mpr ⟨rt_w_r2, List.forall_mem_append.mpr ⟨rt_w_r3, List.forall_mem_append.mpr ⟨rt_w_r4, List.forall_mem_append.mpr ⟨rt_w_r5, List.forall_mem_append.mpr ⟨rt_w_r6, List.forall_mem_append.mpr ⟨rt_w_r7, List.forall_mem_append.mpr ⟨rt_w_r8, List.forall_mem_append.mpr ⟨rt_w_r9, List.forall_mem_append.mpr ⟨rt_w_r10, List.forall_mem_append.mpr ⟨rt_w_r11, List.forall_mem_append.mpr ⟨rt_w_r12, List.forall_mem_append.mpr ⟨rt_w_r13, List.forall_mem_append.mpr ⟨rt_w_r14, List.forall_mem_append.mpr ⟨rt_w_r15, List.forall_mem_append.mpr ⟨rt_w_r16, List.forall_mem_append.mpr ⟨rt_w_r17, List.forall_mem_append.mpr ⟨rt_w_r18, List.forall_mem_append.mpr ⟨rt_w_r19, List.forall_mem_append.mpr ⟨rt_w_r20, List.forall_mem_append.mpr ⟨rt_w_r21, List.forall_mem_append.mpr ⟨rt_w_r22, List.forall_mem_append.mpr ⟨rt_w_r23, List.forall_mem_append.mpr ⟨rt_w_r24, List.forall_mem_append.mpr ⟨rt_w_r25, List.forall_mem_append.mpr ⟨rt_w_r26, List.forall_mem_append.mpr ⟨rt_w_r27, List.forall_mem_append.mpr ⟨rt_w_r28, List.forall_mem_append.mpr ⟨rt_w_r29, List.forall_mem_append.mpr ⟨rt_w_r30, List.forall_mem_append.mpr ⟨rt_w_r31, List.forall_mem_append.mpr ⟨rt_w_r32, List.forall_mem_append.mpr ⟨rt_w_r33, List.forall_mem_append.mpr ⟨rt_w_r34, List.forall_mem_append.mpr ⟨rt_w_r35, List.forall_mem_append.mpr ⟨rt_w_r36, List.forall_mem_append.mpr ⟨rt_w_r37, rt_w_r38⟩⟩⟩⟩⟩⟩⟩⟩⟩⟩⟩⟩⟩⟩⟩⟩⟩⟩⟩⟩⟩⟩⟩⟩⟩⟩⟩⟩⟩⟩⟩⟩⟩⟩⟩⟩⟩, rt_wsX70⟩, rt_wsX80⟩, rt_wsX60⟩, rt_wsX10⟩, rt_wsX20⟩, rt_wsX30⟩, rt_wsX50⟩, rt_wsX40⟩, fun _ h => absurd h List.not_mem_nil⟩
theorem inX0 : ∀ w ∈ wsX00, w ∈ lw_tbl := by decide +kernel
theorem inlX1 : ∀ w ∈ wsX10, w ∈ wsL_law := fun _ h => List.mem_append_left _ (List.mem_append_left _ (List.mem_append_left _ (List.mem_append_left _ (List.mem_append_left _ (List.mem_append_right _ h)))))
theorem inX1 : ∀ w ∈ wsX10, w ∈ lw_tbl := fun w h => wsL_law_in w (inlX1 w h)
theorem inlX2 : ∀ w ∈ wsX20, w ∈ wsL_law := fun _ h => List.mem_append_left _ (List.mem_append_left _ (List.mem_append_left _ (List.mem_append_left _ (List.mem_append_right _ h))))
theorem inX2 : ∀ w ∈ wsX20, w ∈ lw_tbl := fun w h => wsL_law_in w (inlX2 w h)
theorem inlX3 : ∀ w ∈ wsX30, w ∈ wsL_law := fun _ h => List.mem_append_left _ (List.mem_append_left _ (List.mem_append_left _ (List.mem_append_right _ h)))
theorem inX3 : ∀ w ∈ wsX30, w ∈ lw_tbl := fun w h => wsL_law_in w (inlX3 w h)
theorem inlX4 : ∀ w ∈ wsX40, w ∈ wsL_law := fun _ h => List.mem_append_left _ (List.mem_append_right _ h)
theorem inX4 : ∀ w ∈ wsX40, w ∈ lw_tbl := fun w h => wsL_law_in w (inlX4 w h)
theorem inlX5 : ∀ w ∈ wsX50, w ∈ wsL_law := fun _ h => List.mem_append_left _ (List.mem_append_left _ (List.mem_append_right _ h))
theorem inX5 : ∀ w ∈ wsX50, w ∈ lw_tbl := fun w h => wsL_law_in w (inlX5 w h)
theorem inlX6 : ∀ w ∈ wsX60, w ∈ wsL_law := fun _ h => List.mem_append_left _ (List.mem_append_left _ (List.mem_append_left _ (List.mem_append_left _ (List.mem_append_left _ (List.mem_append_left _ (List.mem_append_right _ h))))))
theorem inX6 : ∀ w ∈ wsX60, w ∈ lw_tbl := fun w h => wsL_law_in w (inlX6 w h)
theorem inlX7 : ∀ w ∈ wsX70, w ∈ wsL_law := fun _ h => List.mem_append_left _ (List.mem_append_left _ (List.mem_append_left _ (List.mem_append_left _ (List.mem_append_left _ (List.mem_append_left _ (List.mem_append_left _ (List.mem_append_left _ (List.mem_append_right _ h))))))))
theorem inX7 : ∀ w ∈ wsX70, w ∈ lw_tbl := fun w h => wsL_law_in w (inlX7 w h)
theorem inlX8 : ∀ w ∈ wsX80, w ∈ wsL_law := fun _ h => List.mem_append_left _ (List.mem_append_left _ (List.mem_append_left _ (List.mem_append_left _ (List.mem_append_left _ (List.mem_append_left _ (List.mem_append_left _ (List.mem_append_right _ h)))))))
theorem inX8 : ∀ w ∈ wsX80, w ∈ lw_tbl := fun w h => wsL_law_in w (inlX8 w h)
theorem inJ6 : ∀ w ∈ wsJ60, w ∈ lw_tbl := by decide +kernel
theorem inJ9 : ∀ w ∈ wsJ90, w ∈ lw_tbl := by decide +kernel
theorem inJ10 : ∀ w ∈ wsJ100, w ∈ lw_tbl := by decide +kernel
abbrev vwCl : List vw_C := [(RX1, TX1, 2), (RX2, TX2, 4), (RX3, TX3, 9), (RX4, TX4, 5), (RX5, TX5, 15), (RX6, TX6, 14), (RX7, TX7, 7), (RX8, TX8, 38)]
end
section
theorem ri_w_r1 : ∀ w ∈ wsL_law_r1, w ∈ wsL_law := fun _ h => List.mem_append_left _ (List.mem_append_left _ (List.mem_append_left _ (List.mem_append_left _ (List.mem_append_left _ (List.mem_append_left _ (List.mem_append_left _ (List.mem_append_left _ (List.mem_append_left _ (List.mem_append_left _ h)))))))))
theorem wd_0 : (Cond.classLink RL 7 RX7) ∈ wsL_law := ri_w_r1 _ (List.mem_of_getElem? (i := 0) rfl)
theorem wd_1 : (Cond.instantiable RX7 7) ∈ wsL_law := ri_w_r1 _ (List.mem_of_getElem? (i := 1) rfl)
theorem wd_2 : (Cond.initialized RX7) ∈ wsL_law := ri_w_r1 _ (List.mem_of_getElem? (i := 2) rfl)
theorem wd_3 : (Cond.classLink RL 10 RX8) ∈ wsL_law := ri_w_r1 _ (List.mem_of_getElem? (i := 3) rfl)
theorem wd_4 : (Cond.instantiable RX8 38) ∈ wsL_law := ri_w_r1 _ (List.mem_of_getElem? (i := 4) rfl)
theorem wd_5 : (Cond.initialized RX8) ∈ wsL_law := ri_w_r1 _ (List.mem_of_getElem? (i := 5) rfl)
theorem wd_6 : (Cond.methodLink RL 9 yX7_init) ∈ wsL_law := ri_w_r1 _ (List.mem_of_getElem? (i := 6) rfl)
theorem wd_7 : (Cond.instanceMethod yX7_init) ∈ wsL_law := ri_w_r1 _ (List.mem_of_getElem? (i := 7) rfl)
theorem wd_8 : (Cond.code yX7_init cX7_init 2 none) ∈ wsL_law := ri_w_r1 _ (List.mem_of_getElem? (i := 8) rfl)
theorem wd_9 : (Cond.methodLink RX7 3 objectInit) ∈ wsL_law := ri_w_r1 _ (List.mem_of_getElem? (i := 9) rfl)
theorem wd_10 : (Cond.instanceMethod objectInit) ∈ wsL_law := ri_w_r1 _ (List.mem_of_getElem? (i := 10) rfl)
theorem wd_11 : (Cond.code objectInit ⟨#[0xb1]⟩ 1 none) ∈ wsL_law := ri_w_r1 _ (List.mem_of_getElem? (i := 11) rfl)
theorem wd_12 : (Cond.classLink RX7 9 RX6) ∈ wsL_law := ri_w_r1 _ (List.mem_of_getElem? (i := 12) rfl)
theorem wd_13 : (Cond.instantiable RX6 14) ∈ wsL_law := ri_w_r1 _ (List.mem_of_getElem? (i := 13) rfl)
theorem wd_14 : (Cond.initialized RX6) ∈ wsL_law := ri_w_r1 _ (List.mem_of_getElem? (i := 14) rfl)
theorem wd_15 : (Cond.fieldLink RX7 12 "TandemRide" "now" "LTandemRide$Setup;") ∈ wsL_law := ri_w_r1 _ (List.mem_of_getElem? (i := 15) rfl)
theorem wd_16 : (Cond.fieldLink RX7 16 "TandemRide" "images" "[LTandemRide$Setup;") ∈ wsL_law := ri_w_r1 _ (List.mem_of_getElem? (i := 16) rfl)
theorem wd_17 : (Cond.arrayClass .boolean) ∈ wsL_law := ri_w_r1 _ (List.mem_of_getElem? (i := 17) rfl)
theorem wd_18 : (Cond.fieldLink RX7 20 "TandemRide" "imageKept" "[Z") ∈ wsL_law := ri_w_r1 _ (List.mem_of_getElem? (i := 18) rfl)
theorem wd_19 : (Cond.classLink RX7 24 RX1) ∈ wsL_law := ri_w_r1 _ (List.mem_of_getElem? (i := 19) rfl)
theorem wd_20 : (Cond.instantiable RX1 2) ∈ wsL_law := ri_w_r1 _ (List.mem_of_getElem? (i := 20) rfl)
theorem wd_21 : (Cond.initialized RX1) ∈ wsL_law := ri_w_r1 _ (List.mem_of_getElem? (i := 21) rfl)
theorem wd_22 : (Cond.fieldLink RX7 27 "TandemRide" "pad" "LTandemRide$Pad;") ∈ wsL_law := ri_w_r1 _ (List.mem_of_getElem? (i := 22) rfl)
theorem wd_23 : (Cond.classLink RX7 31 RX2) ∈ wsL_law := ri_w_r1 _ (List.mem_of_getElem? (i := 23) rfl)
theorem ri_w_r2 : ∀ w ∈ wsL_law_r2, w ∈ wsL_law := fun _ h => List.mem_append_left _ (List.mem_append_left _ (List.mem_append_left _ (List.mem_append_left _ (List.mem_append_left _ (List.mem_append_left _ (List.mem_append_left _ (List.mem_append_left _ (List.mem_append_left _ (List.mem_append_right _ (List.mem_append_left _ h))))))))))
theorem wd_24 : (Cond.instantiable RX2 4) ∈ wsL_law := ri_w_r2 _ (List.mem_of_getElem? (i := 0) rfl)
theorem wd_25 : (Cond.initialized RX2) ∈ wsL_law := ri_w_r2 _ (List.mem_of_getElem? (i := 1) rfl)
theorem wd_26 : (Cond.fieldLink RX7 34 "TandemRide" "plan" "LTandemRide$Plan;") ∈ wsL_law := ri_w_r2 _ (List.mem_of_getElem? (i := 2) rfl)
theorem wd_27 : (Cond.classLink RX7 38 RX3) ∈ wsL_law := ri_w_r2 _ (List.mem_of_getElem? (i := 3) rfl)
theorem wd_28 : (Cond.instantiable RX3 9) ∈ wsL_law := ri_w_r2 _ (List.mem_of_getElem? (i := 4) rfl)
theorem wd_29 : (Cond.initialized RX3) ∈ wsL_law := ri_w_r2 _ (List.mem_of_getElem? (i := 5) rfl)
theorem wd_30 : (Cond.fieldLink RX7 41 "TandemRide" "ride" "LTandemRide$Ride;") ∈ wsL_law := ri_w_r2 _ (List.mem_of_getElem? (i := 6) rfl)
theorem wd_31 : (Cond.classLink RX7 45 RX5) ∈ wsL_law := ri_w_r2 _ (List.mem_of_getElem? (i := 7) rfl)
theorem wd_32 : (Cond.instantiable RX5 15) ∈ wsL_law := ri_w_r2 _ (List.mem_of_getElem? (i := 8) rfl)
theorem wd_33 : (Cond.initialized RX5) ∈ wsL_law := ri_w_r2 _ (List.mem_of_getElem? (i := 9) rfl)
theorem wd_34 : (Cond.fieldLink RX7 50 "TandemRide" "search" "LTandemRide$Search;") ∈ wsL_law := ri_w_r2 _ (List.mem_of_getElem? (i := 10) rfl)
theorem wd_35 : (Cond.methodLink RX7 11 yX6_init) ∈ wsL_law := ri_w_r2 _ (List.mem_of_getElem? (i := 11) rfl)
theorem wd_36 : (Cond.instanceMethod yX6_init) ∈ wsL_law := ri_w_r2 _ (List.mem_of_getElem? (i := 12) rfl)
theorem wd_37 : (Cond.code yX6_init cX6_init 2 none) ∈ wsL_law := ri_w_r2 _ (List.mem_of_getElem? (i := 13) rfl)
theorem wd_38 : (Cond.methodLink RX6 3 objectInit) ∈ wsL_law := ri_w_r2 _ (List.mem_of_getElem? (i := 14) rfl)
theorem wd_39 : (Cond.classLink RX6 9 RX4) ∈ wsL_law := ri_w_r2 _ (List.mem_of_getElem? (i := 15) rfl)
theorem wd_40 : (Cond.fieldLink RX6 11 "TandemRide$Setup" "riders" "[LTandemRide$Rider;") ∈ wsL_law := ri_w_r2 _ (List.mem_of_getElem? (i := 16) rfl)
theorem wd_41 : (Cond.arrayClass .int) ∈ wsL_law := ri_w_r2 _ (List.mem_of_getElem? (i := 17) rfl)
theorem wd_42 : (Cond.fieldLink RX6 17 "TandemRide$Setup" "signs" "[I") ∈ wsL_law := ri_w_r2 _ (List.mem_of_getElem? (i := 18) rfl)
theorem wd_43 : (Cond.fieldLink RX6 21 "TandemRide$Setup" "ground" "[I") ∈ wsL_law := ri_w_r2 _ (List.mem_of_getElem? (i := 19) rfl)
theorem wd_44 : (Cond.fieldLink RX6 24 "TandemRide$Setup" "timeRider" "[I") ∈ wsL_law := ri_w_r2 _ (List.mem_of_getElem? (i := 20) rfl)
theorem wd_45 : (Cond.fieldLink RX6 27 "TandemRide$Setup" "timeSort" "[I") ∈ wsL_law := ri_w_r2 _ (List.mem_of_getElem? (i := 21) rfl)
theorem wd_46 : (Cond.fieldLink RX6 30 "TandemRide$Setup" "timeEffort" "[I") ∈ wsL_law := ri_w_r2 _ (List.mem_of_getElem? (i := 22) rfl)
theorem wd_47 : (Cond.fieldLink RX6 33 "TandemRide$Setup" "timeSeconds" "[I") ∈ wsL_law := ri_w_r2 _ (List.mem_of_getElem? (i := 23) rfl)
theorem ri_w_r3 : ∀ w ∈ wsL_law_r3, w ∈ wsL_law := fun _ h => List.mem_append_left _ (List.mem_append_left _ (List.mem_append_left _ (List.mem_append_left _ (List.mem_append_left _ (List.mem_append_left _ (List.mem_append_left _ (List.mem_append_left _ (List.mem_append_left _ (List.mem_append_right _ (List.mem_append_right _ (List.mem_append_left _ h)))))))))))
theorem wd_48 : (Cond.fieldLink RX6 36 "TandemRide$Setup" "front" "I") ∈ wsL_law := ri_w_r3 _ (List.mem_of_getElem? (i := 0) rfl)
theorem wd_49 : (Cond.fieldLink RX6 40 "TandemRide$Setup" "back" "I") ∈ wsL_law := ri_w_r3 _ (List.mem_of_getElem? (i := 1) rfl)
theorem wd_50 : (Cond.fieldLink RX6 43 "TandemRide$Setup" "hottest" "I") ∈ wsL_law := ri_w_r3 _ (List.mem_of_getElem? (i := 2) rfl)
theorem wd_51 : (Cond.fieldLink RX6 46 "TandemRide$Setup" "pause" "I") ∈ wsL_law := ri_w_r3 _ (List.mem_of_getElem? (i := 3) rfl)
theorem wd_52 : (Cond.fieldLink RX6 49 "TandemRide$Setup" "calm" "I") ∈ wsL_law := ri_w_r3 _ (List.mem_of_getElem? (i := 4) rfl)
theorem wd_53 : (Cond.fieldLink RX6 52 "TandemRide$Setup" "stretches" "I") ∈ wsL_law := ri_w_r3 _ (List.mem_of_getElem? (i := 5) rfl)
theorem wd_54 : (Cond.fieldLink RX6 55 "TandemRide$Setup" "times" "I") ∈ wsL_law := ri_w_r3 _ (List.mem_of_getElem? (i := 6) rfl)
theorem wd_55 : (Cond.instantiable RX4 5) ∈ wsL_law := ri_w_r3 _ (List.mem_of_getElem? (i := 7) rfl)
theorem wd_56 : (Cond.initialized RX4) ∈ wsL_law := ri_w_r3 _ (List.mem_of_getElem? (i := 8) rfl)
theorem wd_57 : (Cond.instanceMethod yX4_init) ∈ wsL_law := ri_w_r3 _ (List.mem_of_getElem? (i := 9) rfl)
theorem wd_58 : (Cond.code yX4_init cX4_init 1 none) ∈ wsL_law := ri_w_r3 _ (List.mem_of_getElem? (i := 10) rfl)
theorem wd_59 : (Cond.methodLink RX4 1 objectInit) ∈ wsL_law := ri_w_r3 _ (List.mem_of_getElem? (i := 11) rfl)
theorem wd_60 : (Cond.instanceMethod yX1_init) ∈ wsL_law := ri_w_r3 _ (List.mem_of_getElem? (i := 12) rfl)
theorem wd_61 : (Cond.code yX1_init cX1_init 1 none) ∈ wsL_law := ri_w_r3 _ (List.mem_of_getElem? (i := 13) rfl)
theorem wd_62 : (Cond.methodLink RX1 3 objectInit) ∈ wsL_law := ri_w_r3 _ (List.mem_of_getElem? (i := 14) rfl)
theorem wd_63 : (Cond.fieldLink RX1 9 "TandemRide$Pad" "row" "[I") ∈ wsL_law := ri_w_r3 _ (List.mem_of_getElem? (i := 15) rfl)
theorem wd_64 : (Cond.instanceMethod yX2_init) ∈ wsL_law := ri_w_r3 _ (List.mem_of_getElem? (i := 16) rfl)
theorem wd_65 : (Cond.code yX2_init cX2_init 1 none) ∈ wsL_law := ri_w_r3 _ (List.mem_of_getElem? (i := 17) rfl)
theorem wd_66 : (Cond.methodLink RX2 3 objectInit) ∈ wsL_law := ri_w_r3 _ (List.mem_of_getElem? (i := 18) rfl)
theorem wd_67 : (Cond.fieldLink RX2 9 "TandemRide$Plan" "rest" "[Z") ∈ wsL_law := ri_w_r3 _ (List.mem_of_getElem? (i := 19) rfl)
theorem wd_68 : (Cond.fieldLink RX2 15 "TandemRide$Plan" "effortFront" "[I") ∈ wsL_law := ri_w_r3 _ (List.mem_of_getElem? (i := 20) rfl)
theorem wd_69 : (Cond.fieldLink RX2 19 "TandemRide$Plan" "effortBack" "[I") ∈ wsL_law := ri_w_r3 _ (List.mem_of_getElem? (i := 21) rfl)
theorem wd_70 : (Cond.fieldLink RX2 22 "TandemRide$Plan" "beat" "[I") ∈ wsL_law := ri_w_r3 _ (List.mem_of_getElem? (i := 22) rfl)
theorem wd_71 : (Cond.instanceMethod yX3_init) ∈ wsL_law := ri_w_r3 _ (List.mem_of_getElem? (i := 23) rfl)
theorem ri_w_r4 : ∀ w ∈ wsL_law_r4, w ∈ wsL_law := fun _ h => List.mem_append_left _ (List.mem_append_left _ (List.mem_append_left _ (List.mem_append_left _ (List.mem_append_left _ (List.mem_append_left _ (List.mem_append_left _ (List.mem_append_left _ (List.mem_append_left _ (List.mem_append_right _ (List.mem_append_right _ (List.mem_append_right _ (List.mem_append_left _ h))))))))))))
theorem wd_72 : (Cond.code yX3_init cX3_init 1 none) ∈ wsL_law := ri_w_r4 _ (List.mem_of_getElem? (i := 0) rfl)
theorem wd_73 : (Cond.methodLink RX3 3 objectInit) ∈ wsL_law := ri_w_r4 _ (List.mem_of_getElem? (i := 1) rfl)
theorem wd_74 : (Cond.fieldLink RX3 9 "TandemRide$Ride" "seconds" "[I") ∈ wsL_law := ri_w_r4 _ (List.mem_of_getElem? (i := 2) rfl)
theorem wd_75 : (Cond.fieldLink RX3 15 "TandemRide$Ride" "windFront" "[I") ∈ wsL_law := ri_w_r4 _ (List.mem_of_getElem? (i := 3) rfl)
theorem wd_76 : (Cond.fieldLink RX3 18 "TandemRide$Ride" "windBack" "[I") ∈ wsL_law := ri_w_r4 _ (List.mem_of_getElem? (i := 4) rfl)
theorem wd_77 : (Cond.fieldLink RX3 21 "TandemRide$Ride" "heat" "[I") ∈ wsL_law := ri_w_r4 _ (List.mem_of_getElem? (i := 5) rfl)
theorem wd_78 : (Cond.methodLink RX7 47 yX5_init) ∈ wsL_law := ri_w_r4 _ (List.mem_of_getElem? (i := 6) rfl)
theorem wd_79 : (Cond.instanceMethod yX5_init) ∈ wsL_law := ri_w_r4 _ (List.mem_of_getElem? (i := 7) rfl)
theorem wd_80 : (Cond.code yX5_init cX5_init 2 none) ∈ wsL_law := ri_w_r4 _ (List.mem_of_getElem? (i := 8) rfl)
theorem wd_81 : (Cond.methodLink RX5 3 objectInit) ∈ wsL_law := ri_w_r4 _ (List.mem_of_getElem? (i := 9) rfl)
theorem wd_82 : (Cond.fieldLink RX5 9 "TandemRide$Search" "pairTreads" "[I") ∈ wsL_law := ri_w_r4 _ (List.mem_of_getElem? (i := 10) rfl)
theorem wd_83 : (Cond.fieldLink RX5 15 "TandemRide$Search" "choiceFront" "[I") ∈ wsL_law := ri_w_r4 _ (List.mem_of_getElem? (i := 11) rfl)
theorem wd_84 : (Cond.fieldLink RX5 18 "TandemRide$Search" "choiceBack" "[I") ∈ wsL_law := ri_w_r4 _ (List.mem_of_getElem? (i := 12) rfl)
theorem wd_85 : (Cond.fieldLink RX5 21 "TandemRide$Search" "choiceSeconds" "[I") ∈ wsL_law := ri_w_r4 _ (List.mem_of_getElem? (i := 13) rfl)
theorem wd_86 : (Cond.fieldLink RX5 24 "TandemRide$Search" "heatBits" "[I") ∈ wsL_law := ri_w_r4 _ (List.mem_of_getElem? (i := 14) rfl)
theorem wd_87 : (Cond.fieldLink RX5 27 "TandemRide$Search" "onward" "[I") ∈ wsL_law := ri_w_r4 _ (List.mem_of_getElem? (i := 15) rfl)
theorem wd_88 : (Cond.fieldLink RX5 30 "TandemRide$Search" "spare" "[I") ∈ wsL_law := ri_w_r4 _ (List.mem_of_getElem? (i := 16) rfl)
theorem wd_89 : (Cond.fieldLink RX5 33 "TandemRide$Search" "callsBySore" "[I") ∈ wsL_law := ri_w_r4 _ (List.mem_of_getElem? (i := 17) rfl)
theorem wd_90 : (Cond.fieldLink RX5 36 "TandemRide$Search" "callsBehind" "[I") ∈ wsL_law := ri_w_r4 _ (List.mem_of_getElem? (i := 18) rfl)
theorem wd_91 : (Cond.fieldLink RX5 39 "TandemRide$Search" "setup" "LTandemRide$Setup;") ∈ wsL_law := ri_w_r4 _ (List.mem_of_getElem? (i := 19) rfl)
theorem wd_92 : (Cond.fieldLink RX5 49 "TandemRide$Search" "front" "LTandemRide$Rider;") ∈ wsL_law := ri_w_r4 _ (List.mem_of_getElem? (i := 20) rfl)
theorem wd_93 : (Cond.fieldLink RX5 56 "TandemRide$Search" "back" "LTandemRide$Rider;") ∈ wsL_law := ri_w_r4 _ (List.mem_of_getElem? (i := 21) rfl)
theorem wd_94 : (Cond.methodLink RX5 43 yX6_riderInFront) ∈ wsL_law := ri_w_r4 _ (List.mem_of_getElem? (i := 22) rfl)
theorem wd_95 : (Cond.instanceMethod yX6_riderInFront) ∈ wsL_law := ri_w_r4 _ (List.mem_of_getElem? (i := 23) rfl)
theorem ri_w_r5 : ∀ w ∈ wsL_law_r5, w ∈ wsL_law := fun _ h => List.mem_append_left _ (List.mem_append_left _ (List.mem_append_left _ (List.mem_append_left _ (List.mem_append_left _ (List.mem_append_left _ (List.mem_append_left _ (List.mem_append_left _ (List.mem_append_left _ (List.mem_append_right _ (List.mem_append_right _ (List.mem_append_right _ (List.mem_append_right _ (List.mem_append_left _ h)))))))))))))
theorem wd_96 : (Cond.selects RX6 yX6_riderInFront yX6_riderInFront) ∈ wsL_law := ri_w_r5 _ (List.mem_of_getElem? (i := 0) rfl)
theorem wd_97 : (Cond.code yX6_riderInFront cX6_riderInFront 1 (some (.object "TandemRide$Rider"))) ∈ wsL_law := ri_w_r5 _ (List.mem_of_getElem? (i := 1) rfl)
theorem wd_98 : (Cond.methodLink RX5 53 yX6_riderInBack) ∈ wsL_law := ri_w_r5 _ (List.mem_of_getElem? (i := 2) rfl)
theorem wd_99 : (Cond.instanceMethod yX6_riderInBack) ∈ wsL_law := ri_w_r5 _ (List.mem_of_getElem? (i := 3) rfl)
theorem wd_100 : (Cond.selects RX6 yX6_riderInBack yX6_riderInBack) ∈ wsL_law := ri_w_r5 _ (List.mem_of_getElem? (i := 4) rfl)
theorem wd_101 : (Cond.code yX6_riderInBack cX6_riderInBack 1 (some (.object "TandemRide$Rider"))) ∈ wsL_law := ri_w_r5 _ (List.mem_of_getElem? (i := 5) rfl)
theorem wd_102 : (Cond.methodLink RL 12 yX8_init) ∈ wsL_law := ri_w_r5 _ (List.mem_of_getElem? (i := 6) rfl)
theorem wd_103 : (Cond.instanceMethod yX8_init) ∈ wsL_law := ri_w_r5 _ (List.mem_of_getElem? (i := 7) rfl)
theorem wd_104 : (Cond.code yX8_init cX8_init 1 none) ∈ wsL_law := ri_w_r5 _ (List.mem_of_getElem? (i := 8) rfl)
theorem wd_105 : (Cond.methodLink RX8 1 objectInit) ∈ wsL_law := ri_w_r5 _ (List.mem_of_getElem? (i := 9) rfl)
theorem wd_106 : (Cond.fieldLink RX8 7 "TandemRideModel" "strength" "[I") ∈ wsL_law := ri_w_r5 _ (List.mem_of_getElem? (i := 10) rfl)
theorem wd_107 : (Cond.fieldLink RX8 13 "TandemRideModel" "likes" "[I") ∈ wsL_law := ri_w_r5 _ (List.mem_of_getElem? (i := 11) rfl)
theorem wd_108 : (Cond.fieldLink RX8 16 "TandemRideModel" "wind" "[I") ∈ wsL_law := ri_w_r5 _ (List.mem_of_getElem? (i := 12) rfl)
theorem wd_109 : (Cond.fieldLink RX8 19 "TandemRideModel" "thinks" "[I") ∈ wsL_law := ri_w_r5 _ (List.mem_of_getElem? (i := 13) rfl)
theorem wd_110 : (Cond.fieldLink RX8 22 "TandemRideModel" "stretch" "[I") ∈ wsL_law := ri_w_r5 _ (List.mem_of_getElem? (i := 14) rfl)
theorem wd_111 : (Cond.fieldLink RX8 25 "TandemRideModel" "timeOf" "[I") ∈ wsL_law := ri_w_r5 _ (List.mem_of_getElem? (i := 15) rfl)
theorem wd_112 : (Cond.fieldLink RX8 28 "TandemRideModel" "timeSort" "[I") ∈ wsL_law := ri_w_r5 _ (List.mem_of_getElem? (i := 16) rfl)
theorem wd_113 : (Cond.fieldLink RX8 31 "TandemRideModel" "timeEffort" "[I") ∈ wsL_law := ri_w_r5 _ (List.mem_of_getElem? (i := 17) rfl)
theorem wd_114 : (Cond.fieldLink RX8 34 "TandemRideModel" "timeIs" "[I") ∈ wsL_law := ri_w_r5 _ (List.mem_of_getElem? (i := 18) rfl)
theorem wd_115 : (Cond.fieldLink RX8 37 "TandemRideModel" "pad" "[I") ∈ wsL_law := ri_w_r5 _ (List.mem_of_getElem? (i := 19) rfl)
theorem wd_116 : (Cond.fieldLink RX8 40 "TandemRideModel" "rests" "[I") ∈ wsL_law := ri_w_r5 _ (List.mem_of_getElem? (i := 20) rfl)
theorem wd_117 : (Cond.fieldLink RX8 43 "TandemRideModel" "hardFront" "[I") ∈ wsL_law := ri_w_r5 _ (List.mem_of_getElem? (i := 21) rfl)
theorem wd_118 : (Cond.fieldLink RX8 46 "TandemRideModel" "hardBack" "[I") ∈ wsL_law := ri_w_r5 _ (List.mem_of_getElem? (i := 22) rfl)
theorem wd_119 : (Cond.fieldLink RX8 49 "TandemRideModel" "beat" "[I") ∈ wsL_law := ri_w_r5 _ (List.mem_of_getElem? (i := 23) rfl)
theorem ri_w_r6 : ∀ w ∈ wsL_law_r6, w ∈ wsL_law := fun _ h => List.mem_append_left _ (List.mem_append_left _ (List.mem_append_left _ (List.mem_append_left _ (List.mem_append_left _ (List.mem_append_left _ (List.mem_append_left _ (List.mem_append_left _ (List.mem_append_left _ (List.mem_append_right _ (List.mem_append_right _ (List.mem_append_right _ (List.mem_append_right _ (List.mem_append_right _ (List.mem_append_left _ h))))))))))))))
theorem wd_120 : (Cond.fieldLink RX8 52 "TandemRideModel" "toGo" "[I") ∈ wsL_law := ri_w_r6 _ (List.mem_of_getElem? (i := 0) rfl)
theorem wd_121 : (Cond.fieldLink RX8 55 "TandemRideModel" "next" "[I") ∈ wsL_law := ri_w_r6 _ (List.mem_of_getElem? (i := 1) rfl)
theorem wd_122 : (Cond.fieldLink RX8 58 "TandemRideModel" "quickest" "[I") ∈ wsL_law := ri_w_r6 _ (List.mem_of_getElem? (i := 2) rfl)
theorem wd_123 : (Cond.fieldLink RX8 61 "TandemRideModel" "kept" "[I") ∈ wsL_law := ri_w_r6 _ (List.mem_of_getElem? (i := 3) rfl)
theorem wd_124 : (Cond.fieldLink RX8 64 "TandemRideModel" "isKept" "[Z") ∈ wsL_law := ri_w_r6 _ (List.mem_of_getElem? (i := 4) rfl)
theorem wd_125 : (Cond.fieldLink RX8 68 "TandemRideModel" "back" "I") ∈ wsL_law := ri_w_r6 _ (List.mem_of_getElem? (i := 5) rfl)
theorem wd_126 : (Cond.fieldLink RX8 72 "TandemRideModel" "hottest" "I") ∈ wsL_law := ri_w_r6 _ (List.mem_of_getElem? (i := 6) rfl)
theorem wd_127 : (Cond.fieldLink RX8 75 "TandemRideModel" "pause" "I") ∈ wsL_law := ri_w_r6 _ (List.mem_of_getElem? (i := 7) rfl)
theorem wd_128 : (Cond.fieldLink RX8 78 "TandemRideModel" "calm" "I") ∈ wsL_law := ri_w_r6 _ (List.mem_of_getElem? (i := 8) rfl)
theorem wd_129 : (Cond.fieldLink RX8 81 "TandemRideModel" "stretches" "I") ∈ wsL_law := ri_w_r6 _ (List.mem_of_getElem? (i := 9) rfl)
theorem wd_130 : (Cond.methodLink RL 13 yX7_rider) ∈ wsL_law := ri_w_r6 _ (List.mem_of_getElem? (i := 10) rfl)
theorem wd_131 : (Cond.instanceMethod yX7_rider) ∈ wsL_law := ri_w_r6 _ (List.mem_of_getElem? (i := 11) rfl)
theorem wd_132 : (Cond.selects RX7 yX7_rider yX7_rider) ∈ wsL_law := ri_w_r6 _ (List.mem_of_getElem? (i := 12) rfl)
theorem wd_133 : (Cond.code yX7_rider cX7_rider 6 (some .int)) ∈ wsL_law := ri_w_r6 _ (List.mem_of_getElem? (i := 13) rfl)
theorem wd_134 : (Cond.fieldLink RX7 58 "TandemRide$Setup" "riders" "[LTandemRide$Rider;") ∈ wsL_law := ri_w_r6 _ (List.mem_of_getElem? (i := 14) rfl)
theorem wd_135 : (Cond.methodLink RX7 54 yX7_isWithin) ∈ wsL_law := ri_w_r6 _ (List.mem_of_getElem? (i := 15) rfl)
theorem wd_136 : (Cond.static yX7_isWithin) ∈ wsL_law := ri_w_r6 _ (List.mem_of_getElem? (i := 16) rfl)
theorem wd_137 : (Cond.code yX7_isWithin cX7_isWithin 3 (some .boolean)) ∈ wsL_law := ri_w_r6 _ (List.mem_of_getElem? (i := 17) rfl)
theorem wd_138 : (Cond.methodLink RX7 62 yX4_come) ∈ wsL_law := ri_w_r6 _ (List.mem_of_getElem? (i := 18) rfl)
theorem wd_139 : (Cond.instanceMethod yX4_come) ∈ wsL_law := ri_w_r6 _ (List.mem_of_getElem? (i := 19) rfl)
theorem wd_140 : (Cond.selects RX4 yX4_come yX4_come) ∈ wsL_law := ri_w_r6 _ (List.mem_of_getElem? (i := 20) rfl)
theorem wd_141 : (Cond.code yX4_come cX4_come 5 none) ∈ wsL_law := ri_w_r6 _ (List.mem_of_getElem? (i := 21) rfl)
theorem wd_142 : (Cond.fieldLink RX4 7 "TandemRide$Rider" "there" "Z") ∈ wsL_law := ri_w_r6 _ (List.mem_of_getElem? (i := 22) rfl)
theorem wd_143 : (Cond.fieldLink RX4 13 "TandemRide$Rider" "strength" "I") ∈ wsL_law := ri_w_r6 _ (List.mem_of_getElem? (i := 23) rfl)
theorem ri_w_r7 : ∀ w ∈ wsL_law_r7, w ∈ wsL_law := fun _ h => List.mem_append_left _ (List.mem_append_left _ (List.mem_append_left _ (List.mem_append_left _ (List.mem_append_left _ (List.mem_append_left _ (List.mem_append_left _ (List.mem_append_left _ (List.mem_append_left _ (List.mem_append_right _ (List.mem_append_right _ (List.mem_append_right _ (List.mem_append_right _ (List.mem_append_right _ (List.mem_append_right _ (List.mem_append_left _ h)))))))))))))))
theorem wd_144 : (Cond.fieldLink RX4 17 "TandemRide$Rider" "likes" "I") ∈ wsL_law := ri_w_r7 _ (List.mem_of_getElem? (i := 0) rfl)
theorem wd_145 : (Cond.fieldLink RX4 20 "TandemRide$Rider" "wind" "I") ∈ wsL_law := ri_w_r7 _ (List.mem_of_getElem? (i := 1) rfl)
theorem wd_146 : (Cond.fieldLink RX4 23 "TandemRide$Rider" "thinks" "I") ∈ wsL_law := ri_w_r7 _ (List.mem_of_getElem? (i := 2) rfl)
theorem wd_147 : (Cond.methodLink RX7 68 yX6_ridersThere) ∈ wsL_law := ri_w_r7 _ (List.mem_of_getElem? (i := 3) rfl)
theorem wd_148 : (Cond.instanceMethod yX6_ridersThere) ∈ wsL_law := ri_w_r7 _ (List.mem_of_getElem? (i := 4) rfl)
theorem wd_149 : (Cond.selects RX6 yX6_ridersThere yX6_ridersThere) ∈ wsL_law := ri_w_r7 _ (List.mem_of_getElem? (i := 5) rfl)
theorem wd_150 : (Cond.code yX6_ridersThere cX6_ridersThere 1 (some .int)) ∈ wsL_law := ri_w_r7 _ (List.mem_of_getElem? (i := 6) rfl)
theorem wd_151 : (Cond.methodLink RX6 77 yX6_riderBits) ∈ wsL_law := ri_w_r7 _ (List.mem_of_getElem? (i := 7) rfl)
theorem wd_152 : (Cond.instanceMethod yX6_riderBits) ∈ wsL_law := ri_w_r7 _ (List.mem_of_getElem? (i := 8) rfl)
theorem wd_153 : (Cond.selects RX6 yX6_riderBits yX6_riderBits) ∈ wsL_law := ri_w_r7 _ (List.mem_of_getElem? (i := 9) rfl)
theorem wd_154 : (Cond.code yX6_riderBits cX6_riderBits 3 (some .int)) ∈ wsL_law := ri_w_r7 _ (List.mem_of_getElem? (i := 10) rfl)
theorem wd_155 : (Cond.fieldLink RX6 73 "TandemRide$Rider" "there" "Z") ∈ wsL_law := ri_w_r7 _ (List.mem_of_getElem? (i := 11) rfl)
theorem wd_156 : (Cond.methodLink RX6 81 yJ6_bitCount_0f7a4) ∈ wsL_law := ri_w_r7 _ (List.mem_of_getElem? (i := 12) rfl)
theorem wd_157 : (Cond.static yJ6_bitCount_0f7a4) ∈ wsL_law := ri_w_r7 _ (List.mem_of_getElem? (i := 13) rfl)
theorem wd_158 : (Cond.initialized RJ6) ∈ wsL_law := ri_w_r7 _ (List.mem_of_getElem? (i := 14) rfl)
theorem wd_159 : (Cond.code yJ6_bitCount_0f7a4 cJ6_bitCount_0f7a4 1 (some .int)) ∈ wsL_law := ri_w_r7 _ (List.mem_of_getElem? (i := 15) rfl)
theorem wd_160 : (Cond.constant RJ6 265 (1431655765)) ∈ wsL_law := ri_w_r7 _ (List.mem_of_getElem? (i := 16) rfl)
theorem wd_161 : (Cond.constant RJ6 266 (858993459)) ∈ wsL_law := ri_w_r7 _ (List.mem_of_getElem? (i := 17) rfl)
theorem wd_162 : (Cond.constant RJ6 267 (252645135)) ∈ wsL_law := ri_w_r7 _ (List.mem_of_getElem? (i := 18) rfl)
theorem wd_163 : (Cond.methodLink RL 17 yX8_rider) ∈ wsL_law := ri_w_r7 _ (List.mem_of_getElem? (i := 19) rfl)
theorem wd_164 : (Cond.instanceMethod yX8_rider) ∈ wsL_law := ri_w_r7 _ (List.mem_of_getElem? (i := 20) rfl)
theorem wd_165 : (Cond.selects RX8 yX8_rider yX8_rider) ∈ wsL_law := ri_w_r7 _ (List.mem_of_getElem? (i := 21) rfl)
theorem wd_166 : (Cond.code yX8_rider cX8_rider 6 (some .int)) ∈ wsL_law := ri_w_r7 _ (List.mem_of_getElem? (i := 22) rfl)
theorem wd_167 : (Cond.constantLong RX8 97 (20)) ∈ wsL_law := ri_w_r7 _ (List.mem_of_getElem? (i := 23) rfl)
theorem ri_w_r8 : ∀ w ∈ wsL_law_r8, w ∈ wsL_law := fun _ h => List.mem_append_left _ (List.mem_append_left _ (List.mem_append_left _ (List.mem_append_left _ (List.mem_append_left _ (List.mem_append_left _ (List.mem_append_left _ (List.mem_append_left _ (List.mem_append_left _ (List.mem_append_right _ (List.mem_append_right _ (List.mem_append_right _ (List.mem_append_right _ (List.mem_append_right _ (List.mem_append_right _ (List.mem_append_right _ (List.mem_append_left _ h))))))))))))))))
theorem wd_168 : (Cond.constantLong RX8 102 (9)) ∈ wsL_law := ri_w_r8 _ (List.mem_of_getElem? (i := 0) rfl)
theorem wd_169 : (Cond.constantLong RX8 104 (50)) ∈ wsL_law := ri_w_r8 _ (List.mem_of_getElem? (i := 1) rfl)
theorem wd_170 : (Cond.fieldLink RX8 94 "TandemRideModel" "riders" "I") ∈ wsL_law := ri_w_r8 _ (List.mem_of_getElem? (i := 2) rfl)
theorem wd_171 : (Cond.methodLink RX8 90 yX8_isNumber) ∈ wsL_law := ri_w_r8 _ (List.mem_of_getElem? (i := 3) rfl)
theorem wd_172 : (Cond.static yX8_isNumber) ∈ wsL_law := ri_w_r8 _ (List.mem_of_getElem? (i := 4) rfl)
theorem wd_173 : (Cond.code yX8_isNumber cX8_isNumber 1 (some .boolean)) ∈ wsL_law := ri_w_r8 _ (List.mem_of_getElem? (i := 5) rfl)
theorem wd_174 : (Cond.constantLong RX8 84 (3)) ∈ wsL_law := ri_w_r8 _ (List.mem_of_getElem? (i := 6) rfl)
theorem wd_175 : (Cond.methodLink RX8 86 yX8_in) ∈ wsL_law := ri_w_r8 _ (List.mem_of_getElem? (i := 7) rfl)
theorem wd_176 : (Cond.static yX8_in) ∈ wsL_law := ri_w_r8 _ (List.mem_of_getElem? (i := 8) rfl)
theorem wd_177 : (Cond.code yX8_in cX8_in 6 (some .boolean)) ∈ wsL_law := ri_w_r8 _ (List.mem_of_getElem? (i := 9) rfl)
theorem wd_178 : (Cond.methodLink RX8 99 yX8_isBeat) ∈ wsL_law := ri_w_r8 _ (List.mem_of_getElem? (i := 10) rfl)
theorem wd_179 : (Cond.static yX8_isBeat) ∈ wsL_law := ri_w_r8 _ (List.mem_of_getElem? (i := 11) rfl)
theorem wd_180 : (Cond.code yX8_isBeat cX8_isBeat 1 (some .boolean)) ∈ wsL_law := ri_w_r8 _ (List.mem_of_getElem? (i := 12) rfl)
theorem wd_181 : (Cond.constantLong RX8 145 (4)) ∈ wsL_law := ri_w_r8 _ (List.mem_of_getElem? (i := 13) rfl)
theorem wd_182 : (Cond.constantLong RX8 147 (10)) ∈ wsL_law := ri_w_r8 _ (List.mem_of_getElem? (i := 14) rfl)
theorem wd_183 : (Cond.methodLink RX8 106 yX8_ones) ∈ wsL_law := ri_w_r8 _ (List.mem_of_getElem? (i := 15) rfl)
theorem wd_184 : (Cond.static yX8_ones) ∈ wsL_law := ri_w_r8 _ (List.mem_of_getElem? (i := 16) rfl)
theorem wd_185 : (Cond.code yX8_ones cX8_ones 3 (some .int)) ∈ wsL_law := ri_w_r8 _ (List.mem_of_getElem? (i := 17) rfl)
theorem wd_186 : (Cond.methodLink RL 18 yX7_leave) ∈ wsL_law := ri_w_r8 _ (List.mem_of_getElem? (i := 18) rfl)
theorem wd_187 : (Cond.instanceMethod yX7_leave) ∈ wsL_law := ri_w_r8 _ (List.mem_of_getElem? (i := 19) rfl)
theorem wd_188 : (Cond.selects RX7 yX7_leave yX7_leave) ∈ wsL_law := ri_w_r8 _ (List.mem_of_getElem? (i := 20) rfl)
theorem wd_189 : (Cond.code yX7_leave cX7_leave 2 (some .int)) ∈ wsL_law := ri_w_r8 _ (List.mem_of_getElem? (i := 21) rfl)
theorem wd_190 : (Cond.fieldLink RX7 76 "TandemRide$Rider" "there" "Z") ∈ wsL_law := ri_w_r8 _ (List.mem_of_getElem? (i := 22) rfl)
theorem wd_191 : (Cond.methodLink RX7 72 yX6_isThere) ∈ wsL_law := ri_w_r8 _ (List.mem_of_getElem? (i := 23) rfl)
theorem ri_w_r9 : ∀ w ∈ wsL_law_r9, w ∈ wsL_law := fun _ h => List.mem_append_left _ (List.mem_append_left _ (List.mem_append_left _ (List.mem_append_left _ (List.mem_append_left _ (List.mem_append_left _ (List.mem_append_left _ (List.mem_append_left _ (List.mem_append_left _ (List.mem_append_right _ (List.mem_append_right _ (List.mem_append_right _ (List.mem_append_right _ (List.mem_append_right _ (List.mem_append_right _ (List.mem_append_right _ (List.mem_append_right _ (List.mem_append_left _ h)))))))))))))))))
theorem wd_192 : (Cond.instanceMethod yX6_isThere) ∈ wsL_law := ri_w_r9 _ (List.mem_of_getElem? (i := 0) rfl)
theorem wd_193 : (Cond.selects RX6 yX6_isThere yX6_isThere) ∈ wsL_law := ri_w_r9 _ (List.mem_of_getElem? (i := 1) rfl)
theorem wd_194 : (Cond.code yX6_isThere cX6_isThere 2 (some .boolean)) ∈ wsL_law := ri_w_r9 _ (List.mem_of_getElem? (i := 2) rfl)
theorem wd_195 : (Cond.methodLink RL 22 yX8_leave) ∈ wsL_law := ri_w_r9 _ (List.mem_of_getElem? (i := 3) rfl)
theorem wd_196 : (Cond.instanceMethod yX8_leave) ∈ wsL_law := ri_w_r9 _ (List.mem_of_getElem? (i := 4) rfl)
theorem wd_197 : (Cond.selects RX8 yX8_leave yX8_leave) ∈ wsL_law := ri_w_r9 _ (List.mem_of_getElem? (i := 5) rfl)
theorem wd_198 : (Cond.code yX8_leave cX8_leave 2 (some .int)) ∈ wsL_law := ri_w_r9 _ (List.mem_of_getElem? (i := 6) rfl)
theorem wd_199 : (Cond.methodLink RX8 110 yX8_isThere) ∈ wsL_law := ri_w_r9 _ (List.mem_of_getElem? (i := 7) rfl)
theorem wd_200 : (Cond.instanceMethod yX8_isThere) ∈ wsL_law := ri_w_r9 _ (List.mem_of_getElem? (i := 8) rfl)
theorem wd_201 : (Cond.selects RX8 yX8_isThere yX8_isThere) ∈ wsL_law := ri_w_r9 _ (List.mem_of_getElem? (i := 9) rfl)
theorem wd_202 : (Cond.code yX8_isThere cX8_isThere 2 (some .boolean)) ∈ wsL_law := ri_w_r9 _ (List.mem_of_getElem? (i := 10) rfl)
theorem wd_203 : (Cond.methodLink RL 23 yX7_seat) ∈ wsL_law := ri_w_r9 _ (List.mem_of_getElem? (i := 11) rfl)
theorem wd_204 : (Cond.instanceMethod yX7_seat) ∈ wsL_law := ri_w_r9 _ (List.mem_of_getElem? (i := 12) rfl)
theorem wd_205 : (Cond.selects RX7 yX7_seat yX7_seat) ∈ wsL_law := ri_w_r9 _ (List.mem_of_getElem? (i := 13) rfl)
theorem wd_206 : (Cond.code yX7_seat cX7_seat 3 (some .int)) ∈ wsL_law := ri_w_r9 _ (List.mem_of_getElem? (i := 14) rfl)
theorem wd_207 : (Cond.fieldLink RX7 80 "TandemRide$Setup" "front" "I") ∈ wsL_law := ri_w_r9 _ (List.mem_of_getElem? (i := 15) rfl)
theorem wd_208 : (Cond.fieldLink RX7 84 "TandemRide$Setup" "back" "I") ∈ wsL_law := ri_w_r9 _ (List.mem_of_getElem? (i := 16) rfl)
theorem wd_209 : (Cond.methodLink RL 27 yX8_seat) ∈ wsL_law := ri_w_r9 _ (List.mem_of_getElem? (i := 17) rfl)
theorem wd_210 : (Cond.instanceMethod yX8_seat) ∈ wsL_law := ri_w_r9 _ (List.mem_of_getElem? (i := 18) rfl)
theorem wd_211 : (Cond.selects RX8 yX8_seat yX8_seat) ∈ wsL_law := ri_w_r9 _ (List.mem_of_getElem? (i := 19) rfl)
theorem wd_212 : (Cond.code yX8_seat cX8_seat 3 (some .int)) ∈ wsL_law := ri_w_r9 _ (List.mem_of_getElem? (i := 20) rfl)
theorem wd_213 : (Cond.fieldLink RX8 113 "TandemRideModel" "front" "I") ∈ wsL_law := ri_w_r9 _ (List.mem_of_getElem? (i := 21) rfl)
theorem wd_214 : (Cond.methodLink RL 28 yX7_set) ∈ wsL_law := ri_w_r9 _ (List.mem_of_getElem? (i := 22) rfl)
theorem wd_215 : (Cond.instanceMethod yX7_set) ∈ wsL_law := ri_w_r9 _ (List.mem_of_getElem? (i := 23) rfl)
theorem ri_w_r10 : ∀ w ∈ wsL_law_r10, w ∈ wsL_law := fun _ h => List.mem_append_left _ (List.mem_append_left _ (List.mem_append_left _ (List.mem_append_left _ (List.mem_append_left _ (List.mem_append_left _ (List.mem_append_left _ (List.mem_append_left _ (List.mem_append_left _ (List.mem_append_right _ (List.mem_append_right _ (List.mem_append_right _ (List.mem_append_right _ (List.mem_append_right _ (List.mem_append_right _ (List.mem_append_right _ (List.mem_append_right _ (List.mem_append_right _ (List.mem_append_left _ h))))))))))))))))))
theorem wd_216 : (Cond.selects RX7 yX7_set yX7_set) ∈ wsL_law := ri_w_r10 _ (List.mem_of_getElem? (i := 0) rfl)
theorem wd_217 : (Cond.code yX7_set cX7_set 4 (some .int)) ∈ wsL_law := ri_w_r10 _ (List.mem_of_getElem? (i := 1) rfl)
theorem wd_218 : (Cond.fieldLink RX7 87 "TandemRide$Setup" "hottest" "I") ∈ wsL_law := ri_w_r10 _ (List.mem_of_getElem? (i := 2) rfl)
theorem wd_219 : (Cond.fieldLink RX7 90 "TandemRide$Setup" "pause" "I") ∈ wsL_law := ri_w_r10 _ (List.mem_of_getElem? (i := 3) rfl)
theorem wd_220 : (Cond.fieldLink RX7 93 "TandemRide$Setup" "calm" "I") ∈ wsL_law := ri_w_r10 _ (List.mem_of_getElem? (i := 4) rfl)
theorem wd_221 : (Cond.methodLink RL 31 yX8_set) ∈ wsL_law := ri_w_r10 _ (List.mem_of_getElem? (i := 5) rfl)
theorem wd_222 : (Cond.instanceMethod yX8_set) ∈ wsL_law := ri_w_r10 _ (List.mem_of_getElem? (i := 6) rfl)
theorem wd_223 : (Cond.selects RX8 yX8_set yX8_set) ∈ wsL_law := ri_w_r10 _ (List.mem_of_getElem? (i := 7) rfl)
theorem wd_224 : (Cond.code yX8_set cX8_set 5 (some .int)) ∈ wsL_law := ri_w_r10 _ (List.mem_of_getElem? (i := 8) rfl)
theorem wd_225 : (Cond.constantLong RX8 116 (5)) ∈ wsL_law := ri_w_r10 _ (List.mem_of_getElem? (i := 9) rfl)
theorem wd_226 : (Cond.constantLong RX8 118 (99)) ∈ wsL_law := ri_w_r10 _ (List.mem_of_getElem? (i := 10) rfl)
theorem wd_227 : (Cond.methodLink RL 32 yX7_say) ∈ wsL_law := ri_w_r10 _ (List.mem_of_getElem? (i := 11) rfl)
theorem wd_228 : (Cond.instanceMethod yX7_say) ∈ wsL_law := ri_w_r10 _ (List.mem_of_getElem? (i := 12) rfl)
theorem wd_229 : (Cond.selects RX7 yX7_say yX7_say) ∈ wsL_law := ri_w_r10 _ (List.mem_of_getElem? (i := 13) rfl)
theorem wd_230 : (Cond.code yX7_say cX7_say 2 (some .int)) ∈ wsL_law := ri_w_r10 _ (List.mem_of_getElem? (i := 14) rfl)
theorem wd_231 : (Cond.fieldLink RX7 96 "TandemRide$Pad" "length" "I") ∈ wsL_law := ri_w_r10 _ (List.mem_of_getElem? (i := 15) rfl)
theorem wd_232 : (Cond.methodLink RX7 99 yX1_add) ∈ wsL_law := ri_w_r10 _ (List.mem_of_getElem? (i := 16) rfl)
theorem wd_233 : (Cond.instanceMethod yX1_add) ∈ wsL_law := ri_w_r10 _ (List.mem_of_getElem? (i := 17) rfl)
theorem wd_234 : (Cond.selects RX1 yX1_add yX1_add) ∈ wsL_law := ri_w_r10 _ (List.mem_of_getElem? (i := 18) rfl)
theorem wd_235 : (Cond.code yX1_add cX1_add 2 none) ∈ wsL_law := ri_w_r10 _ (List.mem_of_getElem? (i := 19) rfl)
theorem wd_236 : (Cond.fieldLink RX1 15 "TandemRide$Pad" "length" "I") ∈ wsL_law := ri_w_r10 _ (List.mem_of_getElem? (i := 20) rfl)
theorem wd_237 : (Cond.methodLink RL 35 yX8_say) ∈ wsL_law := ri_w_r10 _ (List.mem_of_getElem? (i := 21) rfl)
theorem wd_238 : (Cond.instanceMethod yX8_say) ∈ wsL_law := ri_w_r10 _ (List.mem_of_getElem? (i := 22) rfl)
theorem wd_239 : (Cond.selects RX8 yX8_say yX8_say) ∈ wsL_law := ri_w_r10 _ (List.mem_of_getElem? (i := 23) rfl)
theorem ri_w_r11 : ∀ w ∈ wsL_law_r11, w ∈ wsL_law := fun _ h => List.mem_append_left _ (List.mem_append_left _ (List.mem_append_left _ (List.mem_append_left _ (List.mem_append_left _ (List.mem_append_left _ (List.mem_append_left _ (List.mem_append_left _ (List.mem_append_left _ (List.mem_append_right _ (List.mem_append_right _ (List.mem_append_right _ (List.mem_append_right _ (List.mem_append_right _ (List.mem_append_right _ (List.mem_append_right _ (List.mem_append_right _ (List.mem_append_right _ (List.mem_append_right _ (List.mem_append_left _ h)))))))))))))))))))
theorem wd_240 : (Cond.code yX8_say cX8_say 2 (some .int)) ∈ wsL_law := ri_w_r11 _ (List.mem_of_getElem? (i := 0) rfl)
theorem wd_241 : (Cond.constantLong RX8 120 (33)) ∈ wsL_law := ri_w_r11 _ (List.mem_of_getElem? (i := 1) rfl)
theorem wd_242 : (Cond.constantLong RX8 122 (126)) ∈ wsL_law := ri_w_r11 _ (List.mem_of_getElem? (i := 2) rfl)
theorem wd_243 : (Cond.fieldLink RX8 124 "TandemRideModel" "padMany" "I") ∈ wsL_law := ri_w_r11 _ (List.mem_of_getElem? (i := 3) rfl)
theorem wd_244 : (Cond.methodLink RL 36 yX7_wipe) ∈ wsL_law := ri_w_r11 _ (List.mem_of_getElem? (i := 4) rfl)
theorem wd_245 : (Cond.instanceMethod yX7_wipe) ∈ wsL_law := ri_w_r11 _ (List.mem_of_getElem? (i := 5) rfl)
theorem wd_246 : (Cond.selects RX7 yX7_wipe yX7_wipe) ∈ wsL_law := ri_w_r11 _ (List.mem_of_getElem? (i := 6) rfl)
theorem wd_247 : (Cond.code yX7_wipe cX7_wipe 2 (some .int)) ∈ wsL_law := ri_w_r11 _ (List.mem_of_getElem? (i := 7) rfl)
theorem wd_248 : (Cond.methodLink RL 40 yX8_wipe) ∈ wsL_law := ri_w_r11 _ (List.mem_of_getElem? (i := 8) rfl)
theorem wd_249 : (Cond.instanceMethod yX8_wipe) ∈ wsL_law := ri_w_r11 _ (List.mem_of_getElem? (i := 9) rfl)
theorem wd_250 : (Cond.selects RX8 yX8_wipe yX8_wipe) ∈ wsL_law := ri_w_r11 _ (List.mem_of_getElem? (i := 10) rfl)
theorem wd_251 : (Cond.code yX8_wipe cX8_wipe 2 (some .int)) ∈ wsL_law := ri_w_r11 _ (List.mem_of_getElem? (i := 11) rfl)
theorem wd_252 : (Cond.methodLink RL 41 yX7_fault) ∈ wsL_law := ri_w_r11 _ (List.mem_of_getElem? (i := 12) rfl)
theorem wd_253 : (Cond.instanceMethod yX7_fault) ∈ wsL_law := ri_w_r11 _ (List.mem_of_getElem? (i := 13) rfl)
theorem wd_254 : (Cond.selects RX7 yX7_fault yX7_fault) ∈ wsL_law := ri_w_r11 _ (List.mem_of_getElem? (i := 14) rfl)
theorem wd_255 : (Cond.code yX7_fault cX7_fault 2 (some .int)) ∈ wsL_law := ri_w_r11 _ (List.mem_of_getElem? (i := 15) rfl)
theorem wd_256 : (Cond.fieldLink RX7 106 "TandemRide$Setup" "stretches" "I") ∈ wsL_law := ri_w_r11 _ (List.mem_of_getElem? (i := 16) rfl)
theorem wd_257 : (Cond.methodLink RX7 103 yX1_faultAsWay) ∈ wsL_law := ri_w_r11 _ (List.mem_of_getElem? (i := 17) rfl)
theorem wd_258 : (Cond.instanceMethod yX1_faultAsWay) ∈ wsL_law := ri_w_r11 _ (List.mem_of_getElem? (i := 18) rfl)
theorem wd_259 : (Cond.selects RX1 yX1_faultAsWay yX1_faultAsWay) ∈ wsL_law := ri_w_r11 _ (List.mem_of_getElem? (i := 19) rfl)
theorem wd_260 : (Cond.code yX1_faultAsWay cX1_faultAsWay 2 (some .int)) ∈ wsL_law := ri_w_r11 _ (List.mem_of_getElem? (i := 20) rfl)
theorem wd_261 : (Cond.methodLink RX1 19 yX1_signAt) ∈ wsL_law := ri_w_r11 _ (List.mem_of_getElem? (i := 21) rfl)
theorem wd_262 : (Cond.instanceMethod yX1_signAt) ∈ wsL_law := ri_w_r11 _ (List.mem_of_getElem? (i := 22) rfl)
theorem wd_263 : (Cond.selects RX1 yX1_signAt yX1_signAt) ∈ wsL_law := ri_w_r11 _ (List.mem_of_getElem? (i := 23) rfl)
theorem ri_w_r12 : ∀ w ∈ wsL_law_r12, w ∈ wsL_law := fun _ h => List.mem_append_left _ (List.mem_append_left _ (List.mem_append_left _ (List.mem_append_left _ (List.mem_append_left _ (List.mem_append_left _ (List.mem_append_left _ (List.mem_append_left _ (List.mem_append_left _ (List.mem_append_right _ (List.mem_append_right _ (List.mem_append_right _ (List.mem_append_right _ (List.mem_append_right _ (List.mem_append_right _ (List.mem_append_right _ (List.mem_append_right _ (List.mem_append_right _ (List.mem_append_right _ (List.mem_append_right _ (List.mem_append_left _ h))))))))))))))))))))
theorem wd_264 : (Cond.code yX1_signAt cX1_signAt 2 (some .int)) ∈ wsL_law := ri_w_r12 _ (List.mem_of_getElem? (i := 0) rfl)
theorem wd_265 : (Cond.methodLink RX1 23 yX0_sortOf) ∈ wsL_law := ri_w_r12 _ (List.mem_of_getElem? (i := 1) rfl)
theorem wd_266 : (Cond.static yX0_sortOf) ∈ wsL_law := ri_w_r12 _ (List.mem_of_getElem? (i := 2) rfl)
theorem wd_267 : (Cond.initialized RX0) ∈ wsL_law := ri_w_r12 _ (List.mem_of_getElem? (i := 3) rfl)
theorem wd_268 : (Cond.code yX0_sortOf cX0_sortOf 1 (some .int)) ∈ wsL_law := ri_w_r12 _ (List.mem_of_getElem? (i := 4) rfl)
theorem wd_269 : (Cond.methodLink RX7 109 yX2_read) ∈ wsL_law := ri_w_r12 _ (List.mem_of_getElem? (i := 5) rfl)
theorem wd_270 : (Cond.instanceMethod yX2_read) ∈ wsL_law := ri_w_r12 _ (List.mem_of_getElem? (i := 6) rfl)
theorem wd_271 : (Cond.selects RX2 yX2_read yX2_read) ∈ wsL_law := ri_w_r12 _ (List.mem_of_getElem? (i := 7) rfl)
theorem wd_272 : (Cond.code yX2_read cX2_read 5 (some .int)) ∈ wsL_law := ri_w_r12 _ (List.mem_of_getElem? (i := 8) rfl)
theorem wd_273 : (Cond.fieldLink RX2 39 "TandemRide$Pad" "length" "I") ∈ wsL_law := ri_w_r12 _ (List.mem_of_getElem? (i := 9) rfl)
theorem wd_274 : (Cond.methodLink RX2 25 yX1_signAt) ∈ wsL_law := ri_w_r12 _ (List.mem_of_getElem? (i := 10) rfl)
theorem wd_275 : (Cond.static yX7_isEffort) ∈ wsL_law := ri_w_r12 _ (List.mem_of_getElem? (i := 11) rfl)
theorem wd_276 : (Cond.code yX7_isEffort cX7_isEffort 1 (some .boolean)) ∈ wsL_law := ri_w_r12 _ (List.mem_of_getElem? (i := 12) rfl)
theorem wd_277 : (Cond.methodLink RL 44 yX8_fault) ∈ wsL_law := ri_w_r12 _ (List.mem_of_getElem? (i := 13) rfl)
theorem wd_278 : (Cond.instanceMethod yX8_fault) ∈ wsL_law := ri_w_r12 _ (List.mem_of_getElem? (i := 14) rfl)
theorem wd_279 : (Cond.selects RX8 yX8_fault yX8_fault) ∈ wsL_law := ri_w_r12 _ (List.mem_of_getElem? (i := 15) rfl)
theorem wd_280 : (Cond.code yX8_fault cX8_fault 2 (some .int)) ∈ wsL_law := ri_w_r12 _ (List.mem_of_getElem? (i := 16) rfl)
theorem wd_281 : (Cond.methodLink RX8 138 yX8_faultOfWay) ∈ wsL_law := ri_w_r12 _ (List.mem_of_getElem? (i := 17) rfl)
theorem wd_282 : (Cond.instanceMethod yX8_faultOfWay) ∈ wsL_law := ri_w_r12 _ (List.mem_of_getElem? (i := 18) rfl)
theorem wd_283 : (Cond.selects RX8 yX8_faultOfWay yX8_faultOfWay) ∈ wsL_law := ri_w_r12 _ (List.mem_of_getElem? (i := 19) rfl)
theorem wd_284 : (Cond.code yX8_faultOfWay cX8_faultOfWay 2 (some .int)) ∈ wsL_law := ri_w_r12 _ (List.mem_of_getElem? (i := 20) rfl)
theorem wd_285 : (Cond.methodLink RX8 127 yX8_isSort) ∈ wsL_law := ri_w_r12 _ (List.mem_of_getElem? (i := 21) rfl)
theorem wd_286 : (Cond.static yX8_isSort) ∈ wsL_law := ri_w_r12 _ (List.mem_of_getElem? (i := 22) rfl)
theorem wd_287 : (Cond.code yX8_isSort cX8_isSort 1 (some .boolean)) ∈ wsL_law := ri_w_r12 _ (List.mem_of_getElem? (i := 23) rfl)
theorem ri_w_r13 : ∀ w ∈ wsL_law_r13, w ∈ wsL_law := fun _ h => List.mem_append_left _ (List.mem_append_left _ (List.mem_append_left _ (List.mem_append_left _ (List.mem_append_left _ (List.mem_append_left _ (List.mem_append_left _ (List.mem_append_left _ (List.mem_append_left _ (List.mem_append_right _ (List.mem_append_right _ (List.mem_append_right _ (List.mem_append_right _ (List.mem_append_right _ (List.mem_append_right _ (List.mem_append_right _ (List.mem_append_right _ (List.mem_append_right _ (List.mem_append_right _ (List.mem_append_right _ (List.mem_append_right _ (List.mem_append_left _ h)))))))))))))))))))))
theorem wd_288 : (Cond.methodLink RX8 142 yX8_faultOfPlan) ∈ wsL_law := ri_w_r13 _ (List.mem_of_getElem? (i := 0) rfl)
theorem wd_289 : (Cond.instanceMethod yX8_faultOfPlan) ∈ wsL_law := ri_w_r13 _ (List.mem_of_getElem? (i := 1) rfl)
theorem wd_290 : (Cond.selects RX8 yX8_faultOfPlan yX8_faultOfPlan) ∈ wsL_law := ri_w_r13 _ (List.mem_of_getElem? (i := 2) rfl)
theorem wd_291 : (Cond.code yX8_faultOfPlan cX8_faultOfPlan 7 (some .int)) ∈ wsL_law := ri_w_r13 _ (List.mem_of_getElem? (i := 3) rfl)
theorem wd_292 : (Cond.constantLong RX8 130 (48)) ∈ wsL_law := ri_w_r13 _ (List.mem_of_getElem? (i := 4) rfl)
theorem wd_293 : (Cond.constantLong RX8 132 (52)) ∈ wsL_law := ri_w_r13 _ (List.mem_of_getElem? (i := 5) rfl)
theorem wd_294 : (Cond.constantLong RX8 134 (97)) ∈ wsL_law := ri_w_r13 _ (List.mem_of_getElem? (i := 6) rfl)
theorem wd_295 : (Cond.constantLong RX8 136 (103)) ∈ wsL_law := ri_w_r13 _ (List.mem_of_getElem? (i := 7) rfl)
theorem wd_296 : (Cond.methodLink RL 45 yX7_way) ∈ wsL_law := ri_w_r13 _ (List.mem_of_getElem? (i := 8) rfl)
theorem wd_297 : (Cond.instanceMethod yX7_way) ∈ wsL_law := ri_w_r13 _ (List.mem_of_getElem? (i := 9) rfl)
theorem wd_298 : (Cond.selects RX7 yX7_way yX7_way) ∈ wsL_law := ri_w_r13 _ (List.mem_of_getElem? (i := 10) rfl)
theorem wd_299 : (Cond.code yX7_way cX7_way 1 (some .int)) ∈ wsL_law := ri_w_r13 _ (List.mem_of_getElem? (i := 11) rfl)
theorem wd_300 : (Cond.methodLink RX7 113 yX6_takeWay) ∈ wsL_law := ri_w_r13 _ (List.mem_of_getElem? (i := 12) rfl)
theorem wd_301 : (Cond.instanceMethod yX6_takeWay) ∈ wsL_law := ri_w_r13 _ (List.mem_of_getElem? (i := 13) rfl)
theorem wd_302 : (Cond.selects RX6 yX6_takeWay yX6_takeWay) ∈ wsL_law := ri_w_r13 _ (List.mem_of_getElem? (i := 14) rfl)
theorem wd_303 : (Cond.code yX6_takeWay cX6_takeWay 3 none) ∈ wsL_law := ri_w_r13 _ (List.mem_of_getElem? (i := 15) rfl)
theorem wd_304 : (Cond.fieldLink RX6 87 "TandemRide$Pad" "length" "I") ∈ wsL_law := ri_w_r13 _ (List.mem_of_getElem? (i := 16) rfl)
theorem wd_305 : (Cond.methodLink RX6 92 Lib.Math.min.name) ∈ wsL_law := ri_w_r13 _ (List.mem_of_getElem? (i := 17) rfl)
theorem wd_306 : (Cond.static Lib.Math.min.name) ∈ wsL_law := ri_w_r13 _ (List.mem_of_getElem? (i := 18) rfl)
theorem wd_307 : (Cond.initialized "java/lang/Math") ∈ wsL_law := ri_w_r13 _ (List.mem_of_getElem? (i := 19) rfl)
theorem wd_308 : (Cond.code Lib.Math.min.name Lib.Math.min.code 2 (some .int)) ∈ wsL_law := ri_w_r13 _ (List.mem_of_getElem? (i := 20) rfl)
theorem wd_309 : (Cond.methodLink RX6 98 Lib.Math.max.name) ∈ wsL_law := ri_w_r13 _ (List.mem_of_getElem? (i := 21) rfl)
theorem wd_310 : (Cond.static Lib.Math.max.name) ∈ wsL_law := ri_w_r13 _ (List.mem_of_getElem? (i := 22) rfl)
theorem wd_311 : (Cond.code Lib.Math.max.name Lib.Math.max.code 2 (some .int)) ∈ wsL_law := ri_w_r13 _ (List.mem_of_getElem? (i := 23) rfl)
theorem ri_w_r14 : ∀ w ∈ wsL_law_r14, w ∈ wsL_law := fun _ h => List.mem_append_left _ (List.mem_append_left _ (List.mem_append_left _ (List.mem_append_left _ (List.mem_append_left _ (List.mem_append_left _ (List.mem_append_left _ (List.mem_append_left _ (List.mem_append_left _ (List.mem_append_right _ (List.mem_append_right _ (List.mem_append_right _ (List.mem_append_right _ (List.mem_append_right _ (List.mem_append_right _ (List.mem_append_right _ (List.mem_append_right _ (List.mem_append_right _ (List.mem_append_right _ (List.mem_append_right _ (List.mem_append_right _ (List.mem_append_right _ (List.mem_append_left _ h))))))))))))))))))))))
theorem wd_312 : (Cond.methodLink RX6 101 yX1_signAt) ∈ wsL_law := ri_w_r14 _ (List.mem_of_getElem? (i := 0) rfl)
theorem wd_313 : (Cond.methodLink RX6 104 yX0_sortOf) ∈ wsL_law := ri_w_r14 _ (List.mem_of_getElem? (i := 1) rfl)
theorem wd_314 : (Cond.methodLink RL 48 yX8_way) ∈ wsL_law := ri_w_r14 _ (List.mem_of_getElem? (i := 2) rfl)
theorem wd_315 : (Cond.instanceMethod yX8_way) ∈ wsL_law := ri_w_r14 _ (List.mem_of_getElem? (i := 3) rfl)
theorem wd_316 : (Cond.selects RX8 yX8_way yX8_way) ∈ wsL_law := ri_w_r14 _ (List.mem_of_getElem? (i := 4) rfl)
theorem wd_317 : (Cond.code yX8_way cX8_way 2 (some .int)) ∈ wsL_law := ri_w_r14 _ (List.mem_of_getElem? (i := 5) rfl)
theorem wd_318 : (Cond.methodLink RL 49 yX7_tread) ∈ wsL_law := ri_w_r14 _ (List.mem_of_getElem? (i := 6) rfl)
theorem wd_319 : (Cond.instanceMethod yX7_tread) ∈ wsL_law := ri_w_r14 _ (List.mem_of_getElem? (i := 7) rfl)
theorem wd_320 : (Cond.selects RX7 yX7_tread yX7_tread) ∈ wsL_law := ri_w_r14 _ (List.mem_of_getElem? (i := 8) rfl)
theorem wd_321 : (Cond.code yX7_tread cX7_tread 4 (some .int)) ∈ wsL_law := ri_w_r14 _ (List.mem_of_getElem? (i := 9) rfl)
theorem wd_322 : (Cond.methodLink RX7 117 yX7_isEffort) ∈ wsL_law := ri_w_r14 _ (List.mem_of_getElem? (i := 10) rfl)
theorem wd_323 : (Cond.methodLink RX7 120 yX4_treads) ∈ wsL_law := ri_w_r14 _ (List.mem_of_getElem? (i := 11) rfl)
theorem wd_324 : (Cond.instanceMethod yX4_treads) ∈ wsL_law := ri_w_r14 _ (List.mem_of_getElem? (i := 12) rfl)
theorem wd_325 : (Cond.selects RX4 yX4_treads yX4_treads) ∈ wsL_law := ri_w_r14 _ (List.mem_of_getElem? (i := 13) rfl)
theorem wd_326 : (Cond.code yX4_treads cX4_treads 3 (some .int)) ∈ wsL_law := ri_w_r14 _ (List.mem_of_getElem? (i := 14) rfl)
theorem wd_327 : (Cond.methodLink RX4 26 Lib.Math.abs.name) ∈ wsL_law := ri_w_r14 _ (List.mem_of_getElem? (i := 15) rfl)
theorem wd_328 : (Cond.static Lib.Math.abs.name) ∈ wsL_law := ri_w_r14 _ (List.mem_of_getElem? (i := 16) rfl)
theorem wd_329 : (Cond.code Lib.Math.abs.name Lib.Math.abs.code 1 (some .int)) ∈ wsL_law := ri_w_r14 _ (List.mem_of_getElem? (i := 17) rfl)
theorem wd_330 : (Cond.methodLink RL 53 yX8_tread) ∈ wsL_law := ri_w_r14 _ (List.mem_of_getElem? (i := 18) rfl)
theorem wd_331 : (Cond.instanceMethod yX8_tread) ∈ wsL_law := ri_w_r14 _ (List.mem_of_getElem? (i := 19) rfl)
theorem wd_332 : (Cond.selects RX8 yX8_tread yX8_tread) ∈ wsL_law := ri_w_r14 _ (List.mem_of_getElem? (i := 20) rfl)
theorem wd_333 : (Cond.code yX8_tread cX8_tread 4 (some .int)) ∈ wsL_law := ri_w_r14 _ (List.mem_of_getElem? (i := 21) rfl)
theorem wd_334 : (Cond.methodLink RX8 149 yX8_isEffort) ∈ wsL_law := ri_w_r14 _ (List.mem_of_getElem? (i := 22) rfl)
theorem wd_335 : (Cond.static yX8_isEffort) ∈ wsL_law := ri_w_r14 _ (List.mem_of_getElem? (i := 23) rfl)
theorem ri_w_r15 : ∀ w ∈ wsL_law_r15, w ∈ wsL_law := fun _ h => List.mem_append_left _ (List.mem_append_left _ (List.mem_append_left _ (List.mem_append_left _ (List.mem_append_left _ (List.mem_append_left _ (List.mem_append_left _ (List.mem_append_left _ (List.mem_append_left _ (List.mem_append_right _ (List.mem_append_right _ (List.mem_append_right _ (List.mem_append_right _ (List.mem_append_right _ (List.mem_append_right _ (List.mem_append_right _ (List.mem_append_right _ (List.mem_append_right _ (List.mem_append_right _ (List.mem_append_right _ (List.mem_append_right _ (List.mem_append_right _ (List.mem_append_right _ (List.mem_append_left _ h)))))))))))))))))))))))
theorem wd_336 : (Cond.code yX8_isEffort cX8_isEffort 1 (some .boolean)) ∈ wsL_law := ri_w_r15 _ (List.mem_of_getElem? (i := 0) rfl)
theorem wd_337 : (Cond.methodLink RX8 152 yX8_treadOf) ∈ wsL_law := ri_w_r15 _ (List.mem_of_getElem? (i := 1) rfl)
theorem wd_338 : (Cond.instanceMethod yX8_treadOf) ∈ wsL_law := ri_w_r15 _ (List.mem_of_getElem? (i := 2) rfl)
theorem wd_339 : (Cond.selects RX8 yX8_treadOf yX8_treadOf) ∈ wsL_law := ri_w_r15 _ (List.mem_of_getElem? (i := 3) rfl)
theorem wd_340 : (Cond.code yX8_treadOf cX8_treadOf 5 (some .int)) ∈ wsL_law := ri_w_r15 _ (List.mem_of_getElem? (i := 4) rfl)
theorem wd_341 : (Cond.methodLink RL 54 yX7_judge) ∈ wsL_law := ri_w_r15 _ (List.mem_of_getElem? (i := 5) rfl)
theorem wd_342 : (Cond.instanceMethod yX7_judge) ∈ wsL_law := ri_w_r15 _ (List.mem_of_getElem? (i := 6) rfl)
theorem wd_343 : (Cond.selects RX7 yX7_judge yX7_judge) ∈ wsL_law := ri_w_r15 _ (List.mem_of_getElem? (i := 7) rfl)
theorem wd_344 : (Cond.code yX7_judge cX7_judge 2 (some .int)) ∈ wsL_law := ri_w_r15 _ (List.mem_of_getElem? (i := 8) rfl)
theorem wd_345 : (Cond.fieldLink RX7 132 "TandemRide$Ride" "stuckAt" "I") ∈ wsL_law := ri_w_r15 _ (List.mem_of_getElem? (i := 9) rfl)
theorem wd_346 : (Cond.fieldLink RX7 135 "TandemRide$Ride" "reason" "I") ∈ wsL_law := ri_w_r15 _ (List.mem_of_getElem? (i := 10) rfl)
theorem wd_347 : (Cond.methodLink RX7 124 yX7_areSeated) ∈ wsL_law := ri_w_r15 _ (List.mem_of_getElem? (i := 11) rfl)
theorem wd_348 : (Cond.instanceMethod yX7_areSeated) ∈ wsL_law := ri_w_r15 _ (List.mem_of_getElem? (i := 12) rfl)
theorem wd_349 : (Cond.selects RX7 yX7_areSeated yX7_areSeated) ∈ wsL_law := ri_w_r15 _ (List.mem_of_getElem? (i := 13) rfl)
theorem wd_350 : (Cond.code yX7_areSeated cX7_areSeated 1 (some .boolean)) ∈ wsL_law := ri_w_r15 _ (List.mem_of_getElem? (i := 14) rfl)
theorem wd_351 : (Cond.methodLink RX7 128 yX3_go) ∈ wsL_law := ri_w_r15 _ (List.mem_of_getElem? (i := 15) rfl)
theorem wd_352 : (Cond.instanceMethod yX3_go) ∈ wsL_law := ri_w_r15 _ (List.mem_of_getElem? (i := 16) rfl)
theorem wd_353 : (Cond.selects RX3 yX3_go yX3_go) ∈ wsL_law := ri_w_r15 _ (List.mem_of_getElem? (i := 17) rfl)
theorem wd_354 : (Cond.code yX3_go cX3_go 15 none) ∈ wsL_law := ri_w_r15 _ (List.mem_of_getElem? (i := 18) rfl)
theorem wd_355 : (Cond.fieldLink RX3 33 "TandemRide$Rider" "wind" "I") ∈ wsL_law := ri_w_r15 _ (List.mem_of_getElem? (i := 19) rfl)
theorem wd_356 : (Cond.fieldLink RX3 42 "TandemRide$Setup" "stretches" "I") ∈ wsL_law := ri_w_r15 _ (List.mem_of_getElem? (i := 20) rfl)
theorem wd_357 : (Cond.fieldLink RX3 45 "TandemRide$Plan" "rest" "[Z") ∈ wsL_law := ri_w_r15 _ (List.mem_of_getElem? (i := 21) rfl)
theorem wd_358 : (Cond.fieldLink RX3 51 "TandemRide$Setup" "pause" "I") ∈ wsL_law := ri_w_r15 _ (List.mem_of_getElem? (i := 22) rfl)
theorem wd_359 : (Cond.fieldLink RX3 54 "TandemRide$Plan" "effortFront" "[I") ∈ wsL_law := ri_w_r15 _ (List.mem_of_getElem? (i := 23) rfl)
theorem ri_w_r16 : ∀ w ∈ wsL_law_r16, w ∈ wsL_law := fun _ h => List.mem_append_left _ (List.mem_append_left _ (List.mem_append_left _ (List.mem_append_left _ (List.mem_append_left _ (List.mem_append_left _ (List.mem_append_left _ (List.mem_append_left _ (List.mem_append_left _ (List.mem_append_right _ (List.mem_append_right _ (List.mem_append_right _ (List.mem_append_right _ (List.mem_append_right _ (List.mem_append_right _ (List.mem_append_right _ (List.mem_append_right _ (List.mem_append_right _ (List.mem_append_right _ (List.mem_append_right _ (List.mem_append_right _ (List.mem_append_right _ (List.mem_append_right _ (List.mem_append_right _ (List.mem_append_left _ h))))))))))))))))))))))))
theorem wd_360 : (Cond.fieldLink RX3 61 "TandemRide$Plan" "effortBack" "[I") ∈ wsL_law := ri_w_r16 _ (List.mem_of_getElem? (i := 0) rfl)
theorem wd_361 : (Cond.fieldLink RX3 64 "TandemRide$Setup" "ground" "[I") ∈ wsL_law := ri_w_r16 _ (List.mem_of_getElem? (i := 1) rfl)
theorem wd_362 : (Cond.fieldLink RX3 72 "TandemRide$Setup" "hottest" "I") ∈ wsL_law := ri_w_r16 _ (List.mem_of_getElem? (i := 2) rfl)
theorem wd_363 : (Cond.fieldLink RX3 79 "TandemRide$Ride" "reason" "I") ∈ wsL_law := ri_w_r16 _ (List.mem_of_getElem? (i := 3) rfl)
theorem wd_364 : (Cond.fieldLink RX3 82 "TandemRide$Ride" "stuckAt" "I") ∈ wsL_law := ri_w_r16 _ (List.mem_of_getElem? (i := 4) rfl)
theorem wd_365 : (Cond.fieldLink RX3 85 "TandemRide$Plan" "beat" "[I") ∈ wsL_law := ri_w_r16 _ (List.mem_of_getElem? (i := 5) rfl)
theorem wd_366 : (Cond.fieldLink RX3 98 "TandemRide$Ride" "unseenBits" "I") ∈ wsL_law := ri_w_r16 _ (List.mem_of_getElem? (i := 6) rfl)
theorem wd_367 : (Cond.fieldLink RX3 101 "TandemRide$Ride" "treadsFront" "I") ∈ wsL_law := ri_w_r16 _ (List.mem_of_getElem? (i := 7) rfl)
theorem wd_368 : (Cond.fieldLink RX3 104 "TandemRide$Ride" "treadsBack" "I") ∈ wsL_law := ri_w_r16 _ (List.mem_of_getElem? (i := 8) rfl)
theorem wd_369 : (Cond.methodLink RX3 24 yX6_riderInFront) ∈ wsL_law := ri_w_r16 _ (List.mem_of_getElem? (i := 9) rfl)
theorem wd_370 : (Cond.methodLink RX3 30 yX6_riderInBack) ∈ wsL_law := ri_w_r16 _ (List.mem_of_getElem? (i := 10) rfl)
theorem wd_371 : (Cond.methodLink RX3 39 yX3_start) ∈ wsL_law := ri_w_r16 _ (List.mem_of_getElem? (i := 11) rfl)
theorem wd_372 : (Cond.instanceMethod yX3_start) ∈ wsL_law := ri_w_r16 _ (List.mem_of_getElem? (i := 12) rfl)
theorem wd_373 : (Cond.selects RX3 yX3_start yX3_start) ∈ wsL_law := ri_w_r16 _ (List.mem_of_getElem? (i := 13) rfl)
theorem wd_374 : (Cond.code yX3_start cX3_start 1 none) ∈ wsL_law := ri_w_r16 _ (List.mem_of_getElem? (i := 14) rfl)
theorem wd_375 : (Cond.methodLink RX3 57 yX4_windBehind) ∈ wsL_law := ri_w_r16 _ (List.mem_of_getElem? (i := 15) rfl)
theorem wd_376 : (Cond.instanceMethod yX4_windBehind) ∈ wsL_law := ri_w_r16 _ (List.mem_of_getElem? (i := 16) rfl)
theorem wd_377 : (Cond.selects RX4 yX4_windBehind yX4_windBehind) ∈ wsL_law := ri_w_r16 _ (List.mem_of_getElem? (i := 17) rfl)
theorem wd_378 : (Cond.code yX4_windBehind cX4_windBehind 3 (some .int)) ∈ wsL_law := ri_w_r16 _ (List.mem_of_getElem? (i := 18) rfl)
theorem wd_379 : (Cond.methodLink RX4 39 Lib.Math.min.name) ∈ wsL_law := ri_w_r16 _ (List.mem_of_getElem? (i := 19) rfl)
theorem wd_380 : (Cond.methodLink RX3 67 yX0_heatBehind) ∈ wsL_law := ri_w_r16 _ (List.mem_of_getElem? (i := 20) rfl)
theorem wd_381 : (Cond.static yX0_heatBehind) ∈ wsL_law := ri_w_r16 _ (List.mem_of_getElem? (i := 21) rfl)
theorem wd_382 : (Cond.code yX0_heatBehind cX0_heatBehind 2 (some .int)) ∈ wsL_law := ri_w_r16 _ (List.mem_of_getElem? (i := 22) rfl)
theorem wd_383 : (Cond.methodLink RX0 9 Lib.Math.max.name) ∈ wsL_law := ri_w_r16 _ (List.mem_of_getElem? (i := 23) rfl)
theorem ri_w_r17 : ∀ w ∈ wsL_law_r17, w ∈ wsL_law := fun _ h => List.mem_append_left _ (List.mem_append_left _ (List.mem_append_left _ (List.mem_append_left _ (List.mem_append_left _ (List.mem_append_left _ (List.mem_append_left _ (List.mem_append_left _ (List.mem_append_left _ (List.mem_append_right _ (List.mem_append_right _ (List.mem_append_right _ (List.mem_append_right _ (List.mem_append_right _ (List.mem_append_right _ (List.mem_append_right _ (List.mem_append_right _ (List.mem_append_right _ (List.mem_append_right _ (List.mem_append_right _ (List.mem_append_right _ (List.mem_append_right _ (List.mem_append_right _ (List.mem_append_right _ (List.mem_append_right _ (List.mem_append_left _ h)))))))))))))))))))))))))
theorem wd_384 : (Cond.methodLink RX3 75 yX3_reasonAgainst) ∈ wsL_law := ri_w_r17 _ (List.mem_of_getElem? (i := 0) rfl)
theorem wd_385 : (Cond.static yX3_reasonAgainst) ∈ wsL_law := ri_w_r17 _ (List.mem_of_getElem? (i := 1) rfl)
theorem wd_386 : (Cond.code yX3_reasonAgainst cX3_reasonAgainst 4 (some .int)) ∈ wsL_law := ri_w_r17 _ (List.mem_of_getElem? (i := 2) rfl)
theorem wd_387 : (Cond.methodLink RX3 88 yX4_treads) ∈ wsL_law := ri_w_r17 _ (List.mem_of_getElem? (i := 3) rfl)
theorem wd_388 : (Cond.methodLink RX3 91 yX0_hardOf) ∈ wsL_law := ri_w_r17 _ (List.mem_of_getElem? (i := 4) rfl)
theorem wd_389 : (Cond.static yX0_hardOf) ∈ wsL_law := ri_w_r17 _ (List.mem_of_getElem? (i := 5) rfl)
theorem wd_390 : (Cond.code yX0_hardOf cX0_hardOf 1 (some .int)) ∈ wsL_law := ri_w_r17 _ (List.mem_of_getElem? (i := 6) rfl)
theorem wd_391 : (Cond.methodLink RX3 95 yX0_secondsOf) ∈ wsL_law := ri_w_r17 _ (List.mem_of_getElem? (i := 7) rfl)
theorem wd_392 : (Cond.static yX0_secondsOf) ∈ wsL_law := ri_w_r17 _ (List.mem_of_getElem? (i := 8) rfl)
theorem wd_393 : (Cond.code yX0_secondsOf cX0_secondsOf 2 (some .int)) ∈ wsL_law := ri_w_r17 _ (List.mem_of_getElem? (i := 9) rfl)
theorem wd_394 : (Cond.methodLink RL 57 yX8_judge) ∈ wsL_law := ri_w_r17 _ (List.mem_of_getElem? (i := 10) rfl)
theorem wd_395 : (Cond.instanceMethod yX8_judge) ∈ wsL_law := ri_w_r17 _ (List.mem_of_getElem? (i := 11) rfl)
theorem wd_396 : (Cond.selects RX8 yX8_judge yX8_judge) ∈ wsL_law := ri_w_r17 _ (List.mem_of_getElem? (i := 12) rfl)
theorem wd_397 : (Cond.code yX8_judge cX8_judge 2 (some .int)) ∈ wsL_law := ri_w_r17 _ (List.mem_of_getElem? (i := 13) rfl)
theorem wd_398 : (Cond.fieldLink RX8 156 "TandemRideModel" "badStretch" "I") ∈ wsL_law := ri_w_r17 _ (List.mem_of_getElem? (i := 14) rfl)
theorem wd_399 : (Cond.fieldLink RX8 159 "TandemRideModel" "badWhy" "I") ∈ wsL_law := ri_w_r17 _ (List.mem_of_getElem? (i := 15) rfl)
theorem wd_400 : (Cond.methodLink RX8 206 yX8_isNobody) ∈ wsL_law := ri_w_r17 _ (List.mem_of_getElem? (i := 16) rfl)
theorem wd_401 : (Cond.instanceMethod yX8_isNobody) ∈ wsL_law := ri_w_r17 _ (List.mem_of_getElem? (i := 17) rfl)
theorem wd_402 : (Cond.selects RX8 yX8_isNobody yX8_isNobody) ∈ wsL_law := ri_w_r17 _ (List.mem_of_getElem? (i := 18) rfl)
theorem wd_403 : (Cond.code yX8_isNobody cX8_isNobody 1 (some .boolean)) ∈ wsL_law := ri_w_r17 _ (List.mem_of_getElem? (i := 19) rfl)
theorem wd_404 : (Cond.methodLink RX8 210 yX8_rideAll) ∈ wsL_law := ri_w_r17 _ (List.mem_of_getElem? (i := 20) rfl)
theorem wd_405 : (Cond.instanceMethod yX8_rideAll) ∈ wsL_law := ri_w_r17 _ (List.mem_of_getElem? (i := 21) rfl)
theorem wd_406 : (Cond.selects RX8 yX8_rideAll yX8_rideAll) ∈ wsL_law := ri_w_r17 _ (List.mem_of_getElem? (i := 22) rfl)
theorem wd_407 : (Cond.code yX8_rideAll cX8_rideAll 1 none) ∈ wsL_law := ri_w_r17 _ (List.mem_of_getElem? (i := 23) rfl)
theorem ri_w_r18 : ∀ w ∈ wsL_law_r18, w ∈ wsL_law := fun _ h => List.mem_append_left _ (List.mem_append_left _ (List.mem_append_left _ (List.mem_append_left _ (List.mem_append_left _ (List.mem_append_left _ (List.mem_append_left _ (List.mem_append_left _ (List.mem_append_left _ (List.mem_append_right _ (List.mem_append_right _ (List.mem_append_right _ (List.mem_append_right _ (List.mem_append_right _ (List.mem_append_right _ (List.mem_append_right _ (List.mem_append_right _ (List.mem_append_right _ (List.mem_append_right _ (List.mem_append_right _ (List.mem_append_right _ (List.mem_append_right _ (List.mem_append_right _ (List.mem_append_right _ (List.mem_append_right _ (List.mem_append_right _ (List.mem_append_left _ h))))))))))))))))))))))))))
theorem wd_408 : (Cond.methodLink RX8 203 yX8_ride) ∈ wsL_law := ri_w_r18 _ (List.mem_of_getElem? (i := 0) rfl)
theorem wd_409 : (Cond.instanceMethod yX8_ride) ∈ wsL_law := ri_w_r18 _ (List.mem_of_getElem? (i := 1) rfl)
theorem wd_410 : (Cond.selects RX8 yX8_ride yX8_ride) ∈ wsL_law := ri_w_r18 _ (List.mem_of_getElem? (i := 2) rfl)
theorem wd_411 : (Cond.code yX8_ride cX8_ride 3 none) ∈ wsL_law := ri_w_r18 _ (List.mem_of_getElem? (i := 3) rfl)
theorem wd_412 : (Cond.methodLink RX8 196 yX8_begin) ∈ wsL_law := ri_w_r18 _ (List.mem_of_getElem? (i := 4) rfl)
theorem wd_413 : (Cond.instanceMethod yX8_begin) ∈ wsL_law := ri_w_r18 _ (List.mem_of_getElem? (i := 5) rfl)
theorem wd_414 : (Cond.selects RX8 yX8_begin yX8_begin) ∈ wsL_law := ri_w_r18 _ (List.mem_of_getElem? (i := 6) rfl)
theorem wd_415 : (Cond.code yX8_begin cX8_begin 1 none) ∈ wsL_law := ri_w_r18 _ (List.mem_of_getElem? (i := 7) rfl)
theorem wd_416 : (Cond.fieldLink RX8 162 "TandemRideModel" "secondsSoFar" "I") ∈ wsL_law := ri_w_r18 _ (List.mem_of_getElem? (i := 8) rfl)
theorem wd_417 : (Cond.fieldLink RX8 165 "TandemRideModel" "windFront" "I") ∈ wsL_law := ri_w_r18 _ (List.mem_of_getElem? (i := 9) rfl)
theorem wd_418 : (Cond.fieldLink RX8 168 "TandemRideModel" "windBack" "I") ∈ wsL_law := ri_w_r18 _ (List.mem_of_getElem? (i := 10) rfl)
theorem wd_419 : (Cond.fieldLink RX8 171 "TandemRideModel" "heat" "I") ∈ wsL_law := ri_w_r18 _ (List.mem_of_getElem? (i := 11) rfl)
theorem wd_420 : (Cond.fieldLink RX8 174 "TandemRideModel" "treadsFront" "I") ∈ wsL_law := ri_w_r18 _ (List.mem_of_getElem? (i := 12) rfl)
theorem wd_421 : (Cond.fieldLink RX8 177 "TandemRideModel" "treadsBack" "I") ∈ wsL_law := ri_w_r18 _ (List.mem_of_getElem? (i := 13) rfl)
theorem wd_422 : (Cond.methodLink RX8 199 yX8_rideOne) ∈ wsL_law := ri_w_r18 _ (List.mem_of_getElem? (i := 14) rfl)
theorem wd_423 : (Cond.instanceMethod yX8_rideOne) ∈ wsL_law := ri_w_r18 _ (List.mem_of_getElem? (i := 15) rfl)
theorem wd_424 : (Cond.selects RX8 yX8_rideOne yX8_rideOne) ∈ wsL_law := ri_w_r18 _ (List.mem_of_getElem? (i := 16) rfl)
theorem wd_425 : (Cond.code yX8_rideOne cX8_rideOne 5 none) ∈ wsL_law := ri_w_r18 _ (List.mem_of_getElem? (i := 17) rfl)
theorem wd_426 : (Cond.methodLink RX8 180 yX8_rest) ∈ wsL_law := ri_w_r18 _ (List.mem_of_getElem? (i := 18) rfl)
theorem wd_427 : (Cond.instanceMethod yX8_rest) ∈ wsL_law := ri_w_r18 _ (List.mem_of_getElem? (i := 19) rfl)
theorem wd_428 : (Cond.selects RX8 yX8_rest yX8_rest) ∈ wsL_law := ri_w_r18 _ (List.mem_of_getElem? (i := 20) rfl)
theorem wd_429 : (Cond.code yX8_rest cX8_rest 1 none) ∈ wsL_law := ri_w_r18 _ (List.mem_of_getElem? (i := 21) rfl)
theorem wd_430 : (Cond.methodLink RX8 183 yX8_winded) ∈ wsL_law := ri_w_r18 _ (List.mem_of_getElem? (i := 22) rfl)
theorem wd_431 : (Cond.instanceMethod yX8_winded) ∈ wsL_law := ri_w_r18 _ (List.mem_of_getElem? (i := 23) rfl)
theorem ri_w_r19 : ∀ w ∈ wsL_law_r19, w ∈ wsL_law := fun _ h => List.mem_append_left _ (List.mem_append_left _ (List.mem_append_left _ (List.mem_append_left _ (List.mem_append_left _ (List.mem_append_left _ (List.mem_append_left _ (List.mem_append_left _ (List.mem_append_left _ (List.mem_append_right _ (List.mem_append_right _ (List.mem_append_right _ (List.mem_append_right _ (List.mem_append_right _ (List.mem_append_right _ (List.mem_append_right _ (List.mem_append_right _ (List.mem_append_right _ (List.mem_append_right _ (List.mem_append_right _ (List.mem_append_right _ (List.mem_append_right _ (List.mem_append_right _ (List.mem_append_right _ (List.mem_append_right _ (List.mem_append_right _ (List.mem_append_right _ (List.mem_append_left _ h)))))))))))))))))))))))))))
theorem wd_432 : (Cond.selects RX8 yX8_winded yX8_winded) ∈ wsL_law := ri_w_r19 _ (List.mem_of_getElem? (i := 0) rfl)
theorem wd_433 : (Cond.code yX8_winded cX8_winded 5 (some .int)) ∈ wsL_law := ri_w_r19 _ (List.mem_of_getElem? (i := 1) rfl)
theorem wd_434 : (Cond.methodLink RX8 186 yX8_heated) ∈ wsL_law := ri_w_r19 _ (List.mem_of_getElem? (i := 2) rfl)
theorem wd_435 : (Cond.static yX8_heated) ∈ wsL_law := ri_w_r19 _ (List.mem_of_getElem? (i := 3) rfl)
theorem wd_436 : (Cond.code yX8_heated cX8_heated 3 (some .int)) ∈ wsL_law := ri_w_r19 _ (List.mem_of_getElem? (i := 4) rfl)
theorem wd_437 : (Cond.methodLink RX8 190 yX8_hard) ∈ wsL_law := ri_w_r19 _ (List.mem_of_getElem? (i := 5) rfl)
theorem wd_438 : (Cond.static yX8_hard) ∈ wsL_law := ri_w_r19 _ (List.mem_of_getElem? (i := 6) rfl)
theorem wd_439 : (Cond.code yX8_hard cX8_hard 1 (some .int)) ∈ wsL_law := ri_w_r19 _ (List.mem_of_getElem? (i := 7) rfl)
theorem wd_440 : (Cond.methodLink RX8 193 yX8_seconds) ∈ wsL_law := ri_w_r19 _ (List.mem_of_getElem? (i := 8) rfl)
theorem wd_441 : (Cond.static yX8_seconds) ∈ wsL_law := ri_w_r19 _ (List.mem_of_getElem? (i := 9) rfl)
theorem wd_442 : (Cond.code yX8_seconds cX8_seconds 2 (some .int)) ∈ wsL_law := ri_w_r19 _ (List.mem_of_getElem? (i := 10) rfl)
theorem wd_443 : (Cond.methodLink RL 58 yX7_ridden) ∈ wsL_law := ri_w_r19 _ (List.mem_of_getElem? (i := 11) rfl)
theorem wd_444 : (Cond.instanceMethod yX7_ridden) ∈ wsL_law := ri_w_r19 _ (List.mem_of_getElem? (i := 12) rfl)
theorem wd_445 : (Cond.selects RX7 yX7_ridden yX7_ridden) ∈ wsL_law := ri_w_r19 _ (List.mem_of_getElem? (i := 13) rfl)
theorem wd_446 : (Cond.code yX7_ridden cX7_ridden 4 (some .int)) ∈ wsL_law := ri_w_r19 _ (List.mem_of_getElem? (i := 14) rfl)
theorem wd_447 : (Cond.fieldLink RX7 141 "TandemRide$Ride" "seconds" "[I") ∈ wsL_law := ri_w_r19 _ (List.mem_of_getElem? (i := 15) rfl)
theorem wd_448 : (Cond.fieldLink RX7 145 "TandemRide$Ride" "windFront" "[I") ∈ wsL_law := ri_w_r19 _ (List.mem_of_getElem? (i := 16) rfl)
theorem wd_449 : (Cond.fieldLink RX7 148 "TandemRide$Ride" "windBack" "[I") ∈ wsL_law := ri_w_r19 _ (List.mem_of_getElem? (i := 17) rfl)
theorem wd_450 : (Cond.fieldLink RX7 151 "TandemRide$Ride" "heat" "[I") ∈ wsL_law := ri_w_r19 _ (List.mem_of_getElem? (i := 18) rfl)
theorem wd_451 : (Cond.methodLink RX7 138 yX7_planIsRidden) ∈ wsL_law := ri_w_r19 _ (List.mem_of_getElem? (i := 19) rfl)
theorem wd_452 : (Cond.instanceMethod yX7_planIsRidden) ∈ wsL_law := ri_w_r19 _ (List.mem_of_getElem? (i := 20) rfl)
theorem wd_453 : (Cond.selects RX7 yX7_planIsRidden yX7_planIsRidden) ∈ wsL_law := ri_w_r19 _ (List.mem_of_getElem? (i := 21) rfl)
theorem wd_454 : (Cond.code yX7_planIsRidden cX7_planIsRidden 1 (some .boolean)) ∈ wsL_law := ri_w_r19 _ (List.mem_of_getElem? (i := 22) rfl)
theorem wd_455 : (Cond.methodLink RL 61 yX8_ridden) ∈ wsL_law := ri_w_r19 _ (List.mem_of_getElem? (i := 23) rfl)
theorem ri_w_r20 : ∀ w ∈ wsL_law_r20, w ∈ wsL_law := fun _ h => List.mem_append_left _ (List.mem_append_left _ (List.mem_append_left _ (List.mem_append_left _ (List.mem_append_left _ (List.mem_append_left _ (List.mem_append_left _ (List.mem_append_left _ (List.mem_append_left _ (List.mem_append_right _ (List.mem_append_right _ (List.mem_append_right _ (List.mem_append_right _ (List.mem_append_right _ (List.mem_append_right _ (List.mem_append_right _ (List.mem_append_right _ (List.mem_append_right _ (List.mem_append_right _ (List.mem_append_right _ (List.mem_append_right _ (List.mem_append_right _ (List.mem_append_right _ (List.mem_append_right _ (List.mem_append_right _ (List.mem_append_right _ (List.mem_append_right _ (List.mem_append_right _ (List.mem_append_left _ h))))))))))))))))))))))))))))
theorem wd_456 : (Cond.instanceMethod yX8_ridden) ∈ wsL_law := ri_w_r20 _ (List.mem_of_getElem? (i := 0) rfl)
theorem wd_457 : (Cond.selects RX8 yX8_ridden yX8_ridden) ∈ wsL_law := ri_w_r20 _ (List.mem_of_getElem? (i := 1) rfl)
theorem wd_458 : (Cond.code yX8_ridden cX8_ridden 3 (some .int)) ∈ wsL_law := ri_w_r20 _ (List.mem_of_getElem? (i := 2) rfl)
theorem wd_459 : (Cond.constantLong RX8 213 (-1)) ∈ wsL_law := ri_w_r20 _ (List.mem_of_getElem? (i := 3) rfl)
theorem wd_460 : (Cond.methodLink RX8 215 yX8_isRefused) ∈ wsL_law := ri_w_r20 _ (List.mem_of_getElem? (i := 4) rfl)
theorem wd_461 : (Cond.instanceMethod yX8_isRefused) ∈ wsL_law := ri_w_r20 _ (List.mem_of_getElem? (i := 5) rfl)
theorem wd_462 : (Cond.selects RX8 yX8_isRefused yX8_isRefused) ∈ wsL_law := ri_w_r20 _ (List.mem_of_getElem? (i := 6) rfl)
theorem wd_463 : (Cond.code yX8_isRefused cX8_isRefused 1 (some .boolean)) ∈ wsL_law := ri_w_r20 _ (List.mem_of_getElem? (i := 7) rfl)
theorem wd_464 : (Cond.methodLink RL 62 yX7_share) ∈ wsL_law := ri_w_r20 _ (List.mem_of_getElem? (i := 8) rfl)
theorem wd_465 : (Cond.instanceMethod yX7_share) ∈ wsL_law := ri_w_r20 _ (List.mem_of_getElem? (i := 9) rfl)
theorem wd_466 : (Cond.selects RX7 yX7_share yX7_share) ∈ wsL_law := ri_w_r20 _ (List.mem_of_getElem? (i := 10) rfl)
theorem wd_467 : (Cond.code yX7_share cX7_share 3 (some .long)) ∈ wsL_law := ri_w_r20 _ (List.mem_of_getElem? (i := 11) rfl)
theorem wd_468 : (Cond.constantLong RX7 154 (-1000000000000000003)) ∈ wsL_law := ri_w_r20 _ (List.mem_of_getElem? (i := 12) rfl)
theorem wd_469 : (Cond.constantLong RX7 156 (-1000000000000000002)) ∈ wsL_law := ri_w_r20 _ (List.mem_of_getElem? (i := 13) rfl)
theorem wd_470 : (Cond.constantLong RX7 158 (-1000000000000000005)) ∈ wsL_law := ri_w_r20 _ (List.mem_of_getElem? (i := 14) rfl)
theorem wd_471 : (Cond.fieldLink RX7 160 "TandemRide$Ride" "treadsFront" "I") ∈ wsL_law := ri_w_r20 _ (List.mem_of_getElem? (i := 15) rfl)
theorem wd_472 : (Cond.fieldLink RX7 163 "TandemRide$Ride" "treadsBack" "I") ∈ wsL_law := ri_w_r20 _ (List.mem_of_getElem? (i := 16) rfl)
theorem wd_473 : (Cond.methodLink RX7 166 yX7_fractionPart) ∈ wsL_law := ri_w_r20 _ (List.mem_of_getElem? (i := 17) rfl)
theorem wd_474 : (Cond.static yX7_fractionPart) ∈ wsL_law := ri_w_r20 _ (List.mem_of_getElem? (i := 18) rfl)
theorem wd_475 : (Cond.code yX7_fractionPart cX7_fractionPart 12 (some .long)) ∈ wsL_law := ri_w_r20 _ (List.mem_of_getElem? (i := 19) rfl)
theorem wd_476 : (Cond.methodLink RL 66 yX8_share) ∈ wsL_law := ri_w_r20 _ (List.mem_of_getElem? (i := 20) rfl)
theorem wd_477 : (Cond.instanceMethod yX8_share) ∈ wsL_law := ri_w_r20 _ (List.mem_of_getElem? (i := 21) rfl)
theorem wd_478 : (Cond.selects RX8 yX8_share yX8_share) ∈ wsL_law := ri_w_r20 _ (List.mem_of_getElem? (i := 22) rfl)
theorem wd_479 : (Cond.code yX8_share cX8_share 3 (some .long)) ∈ wsL_law := ri_w_r20 _ (List.mem_of_getElem? (i := 23) rfl)
theorem ri_w_r21 : ∀ w ∈ wsL_law_r21, w ∈ wsL_law := fun _ h => List.mem_append_left _ (List.mem_append_left _ (List.mem_append_left _ (List.mem_append_left _ (List.mem_append_left _ (List.mem_append_left _ (List.mem_append_left _ (List.mem_append_left _ (List.mem_append_left _ (List.mem_append_right _ (List.mem_append_right _ (List.mem_append_right _ (List.mem_append_right _ (List.mem_append_right _ (List.mem_append_right _ (List.mem_append_right _ (List.mem_append_right _ (List.mem_append_right _ (List.mem_append_right _ (List.mem_append_right _ (List.mem_append_right _ (List.mem_append_right _ (List.mem_append_right _ (List.mem_append_right _ (List.mem_append_right _ (List.mem_append_right _ (List.mem_append_right _ (List.mem_append_right _ (List.mem_append_right _ (List.mem_append_left _ h)))))))))))))))))))))))))))))
theorem wd_480 : (Cond.constantLong RX8 218 (-1000000000000000003)) ∈ wsL_law := ri_w_r21 _ (List.mem_of_getElem? (i := 0) rfl)
theorem wd_481 : (Cond.constantLong RX8 220 (-1000000000000000002)) ∈ wsL_law := ri_w_r21 _ (List.mem_of_getElem? (i := 1) rfl)
theorem wd_482 : (Cond.constantLong RX8 222 (-1000000000000000005)) ∈ wsL_law := ri_w_r21 _ (List.mem_of_getElem? (i := 2) rfl)
theorem wd_483 : (Cond.methodLink RX8 224 yX8_lowest) ∈ wsL_law := ri_w_r21 _ (List.mem_of_getElem? (i := 3) rfl)
theorem wd_484 : (Cond.static yX8_lowest) ∈ wsL_law := ri_w_r21 _ (List.mem_of_getElem? (i := 4) rfl)
theorem wd_485 : (Cond.code yX8_lowest cX8_lowest 11 (some .long)) ∈ wsL_law := ri_w_r21 _ (List.mem_of_getElem? (i := 5) rfl)
theorem wd_486 : (Cond.methodLink RL 67 yX7_unseen) ∈ wsL_law := ri_w_r21 _ (List.mem_of_getElem? (i := 6) rfl)
theorem wd_487 : (Cond.instanceMethod yX7_unseen) ∈ wsL_law := ri_w_r21 _ (List.mem_of_getElem? (i := 7) rfl)
theorem wd_488 : (Cond.selects RX7 yX7_unseen yX7_unseen) ∈ wsL_law := ri_w_r21 _ (List.mem_of_getElem? (i := 8) rfl)
theorem wd_489 : (Cond.code yX7_unseen cX7_unseen 1 (some .int)) ∈ wsL_law := ri_w_r21 _ (List.mem_of_getElem? (i := 9) rfl)
theorem wd_490 : (Cond.fieldLink RX7 170 "TandemRide$Ride" "unseenBits" "I") ∈ wsL_law := ri_w_r21 _ (List.mem_of_getElem? (i := 10) rfl)
theorem wd_491 : (Cond.methodLink RL 70 yX8_unseen) ∈ wsL_law := ri_w_r21 _ (List.mem_of_getElem? (i := 11) rfl)
theorem wd_492 : (Cond.instanceMethod yX8_unseen) ∈ wsL_law := ri_w_r21 _ (List.mem_of_getElem? (i := 12) rfl)
theorem wd_493 : (Cond.selects RX8 yX8_unseen yX8_unseen) ∈ wsL_law := ri_w_r21 _ (List.mem_of_getElem? (i := 13) rfl)
theorem wd_494 : (Cond.code yX8_unseen cX8_unseen 6 (some .int)) ∈ wsL_law := ri_w_r21 _ (List.mem_of_getElem? (i := 14) rfl)
theorem wd_495 : (Cond.methodLink RL 71 yX7_soonest) ∈ wsL_law := ri_w_r21 _ (List.mem_of_getElem? (i := 15) rfl)
theorem wd_496 : (Cond.instanceMethod yX7_soonest) ∈ wsL_law := ri_w_r21 _ (List.mem_of_getElem? (i := 16) rfl)
theorem wd_497 : (Cond.selects RX7 yX7_soonest yX7_soonest) ∈ wsL_law := ri_w_r21 _ (List.mem_of_getElem? (i := 17) rfl)
theorem wd_498 : (Cond.code yX7_soonest cX7_soonest 2 (some .int)) ∈ wsL_law := ri_w_r21 _ (List.mem_of_getElem? (i := 18) rfl)
theorem wd_499 : (Cond.fieldLink RX7 184 "TandemRide$Search" "fewest" "I") ∈ wsL_law := ri_w_r21 _ (List.mem_of_getElem? (i := 19) rfl)
theorem wd_500 : (Cond.fieldLink RX7 187 "TandemRide$Search" "firstStretch" "I") ∈ wsL_law := ri_w_r21 _ (List.mem_of_getElem? (i := 20) rfl)
theorem wd_501 : (Cond.methodLink RX7 173 yX6_riderInFront) ∈ wsL_law := ri_w_r21 _ (List.mem_of_getElem? (i := 21) rfl)
theorem wd_502 : (Cond.methodLink RX7 177 yX6_riderInBack) ∈ wsL_law := ri_w_r21 _ (List.mem_of_getElem? (i := 22) rfl)
theorem wd_503 : (Cond.methodLink RX7 180 yX5_seek) ∈ wsL_law := ri_w_r21 _ (List.mem_of_getElem? (i := 23) rfl)
theorem ri_w_r22 : ∀ w ∈ wsL_law_r22, w ∈ wsL_law := fun _ h => List.mem_append_left _ (List.mem_append_left _ (List.mem_append_left _ (List.mem_append_left _ (List.mem_append_left _ (List.mem_append_left _ (List.mem_append_left _ (List.mem_append_left _ (List.mem_append_left _ (List.mem_append_right _ (List.mem_append_right _ (List.mem_append_right _ (List.mem_append_right _ (List.mem_append_right _ (List.mem_append_right _ (List.mem_append_right _ (List.mem_append_right _ (List.mem_append_right _ (List.mem_append_right _ (List.mem_append_right _ (List.mem_append_right _ (List.mem_append_right _ (List.mem_append_right _ (List.mem_append_right _ (List.mem_append_right _ (List.mem_append_right _ (List.mem_append_right _ (List.mem_append_right _ (List.mem_append_right _ (List.mem_append_right _ (List.mem_append_left _ h))))))))))))))))))))))))))))))
theorem wd_504 : (Cond.instanceMethod yX5_seek) ∈ wsL_law := ri_w_r22 _ (List.mem_of_getElem? (i := 0) rfl)
theorem wd_505 : (Cond.selects RX5 yX5_seek yX5_seek) ∈ wsL_law := ri_w_r22 _ (List.mem_of_getElem? (i := 1) rfl)
theorem wd_506 : (Cond.code yX5_seek cX5_seek 4 none) ∈ wsL_law := ri_w_r22 _ (List.mem_of_getElem? (i := 2) rfl)
theorem wd_507 : (Cond.fieldLink RX5 66 "TandemRide$Setup" "stretches" "I") ∈ wsL_law := ri_w_r22 _ (List.mem_of_getElem? (i := 3) rfl)
theorem wd_508 : (Cond.static yX7_mostTreads) ∈ wsL_law := ri_w_r22 _ (List.mem_of_getElem? (i := 4) rfl)
theorem wd_509 : (Cond.code yX7_mostTreads cX7_mostTreads 6 (some .int)) ∈ wsL_law := ri_w_r22 _ (List.mem_of_getElem? (i := 5) rfl)
theorem wd_510 : (Cond.methodLink RX7 208 Lib.Math.max.name) ∈ wsL_law := ri_w_r22 _ (List.mem_of_getElem? (i := 6) rfl)
theorem wd_511 : (Cond.methodLink RX5 63 yX5_findHeats) ∈ wsL_law := ri_w_r22 _ (List.mem_of_getElem? (i := 7) rfl)
theorem wd_512 : (Cond.instanceMethod yX5_findHeats) ∈ wsL_law := ri_w_r22 _ (List.mem_of_getElem? (i := 8) rfl)
theorem wd_513 : (Cond.selects RX5 yX5_findHeats yX5_findHeats) ∈ wsL_law := ri_w_r22 _ (List.mem_of_getElem? (i := 9) rfl)
theorem wd_514 : (Cond.code yX5_findHeats cX5_findHeats 5 none) ∈ wsL_law := ri_w_r22 _ (List.mem_of_getElem? (i := 10) rfl)
theorem wd_515 : (Cond.fieldLink RX5 77 "TandemRide$Setup" "hottest" "I") ∈ wsL_law := ri_w_r22 _ (List.mem_of_getElem? (i := 11) rfl)
theorem wd_516 : (Cond.fieldLink RX5 80 "TandemRide$Setup" "ground" "[I") ∈ wsL_law := ri_w_r22 _ (List.mem_of_getElem? (i := 12) rfl)
theorem wd_517 : (Cond.methodLink RX5 83 yX0_heatBehind) ∈ wsL_law := ri_w_r22 _ (List.mem_of_getElem? (i := 13) rfl)
theorem wd_518 : (Cond.methodLink RX5 70 yX5_stepAhead) ∈ wsL_law := ri_w_r22 _ (List.mem_of_getElem? (i := 14) rfl)
theorem wd_519 : (Cond.instanceMethod yX5_stepAhead) ∈ wsL_law := ri_w_r22 _ (List.mem_of_getElem? (i := 15) rfl)
theorem wd_520 : (Cond.selects RX5 yX5_stepAhead yX5_stepAhead) ∈ wsL_law := ri_w_r22 _ (List.mem_of_getElem? (i := 16) rfl)
theorem wd_521 : (Cond.code yX5_stepAhead cX5_stepAhead 8 none) ∈ wsL_law := ri_w_r22 _ (List.mem_of_getElem? (i := 17) rfl)
theorem wd_522 : (Cond.fieldLink RX5 96 "TandemRide$Setup" "pause" "I") ∈ wsL_law := ri_w_r22 _ (List.mem_of_getElem? (i := 18) rfl)
theorem wd_523 : (Cond.fieldLink RX5 99 "TandemRide$Rider" "wind" "I") ∈ wsL_law := ri_w_r22 _ (List.mem_of_getElem? (i := 19) rfl)
theorem wd_524 : (Cond.constant RX5 104 (1000000000)) ∈ wsL_law := ri_w_r22 _ (List.mem_of_getElem? (i := 20) rfl)
theorem wd_525 : (Cond.methodLink RX5 89 yX0_hardOf) ∈ wsL_law := ri_w_r22 _ (List.mem_of_getElem? (i := 21) rfl)
theorem wd_526 : (Cond.methodLink RX5 93 yX5_listChoices) ∈ wsL_law := ri_w_r22 _ (List.mem_of_getElem? (i := 22) rfl)
theorem wd_527 : (Cond.instanceMethod yX5_listChoices) ∈ wsL_law := ri_w_r22 _ (List.mem_of_getElem? (i := 23) rfl)
theorem ri_w_r23 : ∀ w ∈ wsL_law_r23, w ∈ wsL_law := fun _ h => List.mem_append_left _ (List.mem_append_left _ (List.mem_append_left _ (List.mem_append_left _ (List.mem_append_left _ (List.mem_append_left _ (List.mem_append_left _ (List.mem_append_left _ (List.mem_append_left _ (List.mem_append_right _ (List.mem_append_right _ (List.mem_append_right _ (List.mem_append_right _ (List.mem_append_right _ (List.mem_append_right _ (List.mem_append_right _ (List.mem_append_right _ (List.mem_append_right _ (List.mem_append_right _ (List.mem_append_right _ (List.mem_append_right _ (List.mem_append_right _ (List.mem_append_right _ (List.mem_append_right _ (List.mem_append_right _ (List.mem_append_right _ (List.mem_append_right _ (List.mem_append_right _ (List.mem_append_right _ (List.mem_append_right _ (List.mem_append_right _ (List.mem_append_left _ h)))))))))))))))))))))))))))))))
theorem wd_528 : (Cond.selects RX5 yX5_listChoices yX5_listChoices) ∈ wsL_law := ri_w_r23 _ (List.mem_of_getElem? (i := 0) rfl)
theorem wd_529 : (Cond.code yX5_listChoices cX5_listChoices 4 none) ∈ wsL_law := ri_w_r23 _ (List.mem_of_getElem? (i := 1) rfl)
theorem wd_530 : (Cond.fieldLink RX5 113 "TandemRide$Search" "choices" "I") ∈ wsL_law := ri_w_r23 _ (List.mem_of_getElem? (i := 2) rfl)
theorem wd_531 : (Cond.methodLink RX5 116 yX0_secondsOf) ∈ wsL_law := ri_w_r23 _ (List.mem_of_getElem? (i := 3) rfl)
theorem wd_532 : (Cond.methodLink RX5 105 yX5_fewestOnward) ∈ wsL_law := ri_w_r23 _ (List.mem_of_getElem? (i := 4) rfl)
theorem wd_533 : (Cond.instanceMethod yX5_fewestOnward) ∈ wsL_law := ri_w_r23 _ (List.mem_of_getElem? (i := 5) rfl)
theorem wd_534 : (Cond.selects RX5 yX5_fewestOnward yX5_fewestOnward) ∈ wsL_law := ri_w_r23 _ (List.mem_of_getElem? (i := 6) rfl)
theorem wd_535 : (Cond.code yX5_fewestOnward cX5_fewestOnward 9 (some .int)) ∈ wsL_law := ri_w_r23 _ (List.mem_of_getElem? (i := 7) rfl)
theorem wd_536 : (Cond.methodLink RX5 122 Lib.Math.min.name) ∈ wsL_law := ri_w_r23 _ (List.mem_of_getElem? (i := 8) rfl)
theorem wd_537 : (Cond.methodLink RX5 119 yX4_windBehind) ∈ wsL_law := ri_w_r23 _ (List.mem_of_getElem? (i := 9) rfl)
theorem wd_538 : (Cond.methodLink RX5 109 yX5_cellOf) ∈ wsL_law := ri_w_r23 _ (List.mem_of_getElem? (i := 10) rfl)
theorem wd_539 : (Cond.static yX5_cellOf) ∈ wsL_law := ri_w_r23 _ (List.mem_of_getElem? (i := 11) rfl)
theorem wd_540 : (Cond.code yX5_cellOf cX5_cellOf 3 (some .int)) ∈ wsL_law := ri_w_r23 _ (List.mem_of_getElem? (i := 12) rfl)
theorem wd_541 : (Cond.methodLink RX5 74 yX5_chooseFirst) ∈ wsL_law := ri_w_r23 _ (List.mem_of_getElem? (i := 13) rfl)
theorem wd_542 : (Cond.instanceMethod yX5_chooseFirst) ∈ wsL_law := ri_w_r23 _ (List.mem_of_getElem? (i := 14) rfl)
theorem wd_543 : (Cond.selects RX5 yX5_chooseFirst yX5_chooseFirst) ∈ wsL_law := ri_w_r23 _ (List.mem_of_getElem? (i := 15) rfl)
theorem wd_544 : (Cond.code yX5_chooseFirst cX5_chooseFirst 8 none) ∈ wsL_law := ri_w_r23 _ (List.mem_of_getElem? (i := 16) rfl)
theorem wd_545 : (Cond.fieldLink RX5 127 "TandemRide$Search" "fewest" "I") ∈ wsL_law := ri_w_r23 _ (List.mem_of_getElem? (i := 17) rfl)
theorem wd_546 : (Cond.fieldLink RX5 130 "TandemRide$Search" "firstStretch" "I") ∈ wsL_law := ri_w_r23 _ (List.mem_of_getElem? (i := 18) rfl)
theorem wd_547 : (Cond.methodLink RX5 133 yX5_leastBeatFor) ∈ wsL_law := ri_w_r23 _ (List.mem_of_getElem? (i := 19) rfl)
theorem wd_548 : (Cond.instanceMethod yX5_leastBeatFor) ∈ wsL_law := ri_w_r23 _ (List.mem_of_getElem? (i := 20) rfl)
theorem wd_549 : (Cond.selects RX5 yX5_leastBeatFor yX5_leastBeatFor) ∈ wsL_law := ri_w_r23 _ (List.mem_of_getElem? (i := 21) rfl)
theorem wd_550 : (Cond.code yX5_leastBeatFor cX5_leastBeatFor 6 (some .int)) ∈ wsL_law := ri_w_r23 _ (List.mem_of_getElem? (i := 22) rfl)
theorem wd_551 : (Cond.methodLink RX5 136 yX4_treads) ∈ wsL_law := ri_w_r23 _ (List.mem_of_getElem? (i := 23) rfl)
theorem ri_w_r24 : ∀ w ∈ wsL_law_r24, w ∈ wsL_law := fun _ h => List.mem_append_left _ (List.mem_append_left _ (List.mem_append_left _ (List.mem_append_left _ (List.mem_append_left _ (List.mem_append_left _ (List.mem_append_left _ (List.mem_append_left _ (List.mem_append_left _ (List.mem_append_right _ (List.mem_append_right _ (List.mem_append_right _ (List.mem_append_right _ (List.mem_append_right _ (List.mem_append_right _ (List.mem_append_right _ (List.mem_append_right _ (List.mem_append_right _ (List.mem_append_right _ (List.mem_append_right _ (List.mem_append_right _ (List.mem_append_right _ (List.mem_append_right _ (List.mem_append_right _ (List.mem_append_right _ (List.mem_append_right _ (List.mem_append_right _ (List.mem_append_right _ (List.mem_append_right _ (List.mem_append_right _ (List.mem_append_right _ (List.mem_append_right _ (List.mem_append_left _ h))))))))))))))))))))))))))))))))
theorem wd_552 : (Cond.methodLink RL 74 yX8_soonest) ∈ wsL_law := ri_w_r24 _ (List.mem_of_getElem? (i := 0) rfl)
theorem wd_553 : (Cond.instanceMethod yX8_soonest) ∈ wsL_law := ri_w_r24 _ (List.mem_of_getElem? (i := 1) rfl)
theorem wd_554 : (Cond.selects RX8 yX8_soonest yX8_soonest) ∈ wsL_law := ri_w_r24 _ (List.mem_of_getElem? (i := 2) rfl)
theorem wd_555 : (Cond.code yX8_soonest cX8_soonest 5 (some .int)) ∈ wsL_law := ri_w_r24 _ (List.mem_of_getElem? (i := 3) rfl)
theorem wd_556 : (Cond.methodLink RX8 252 yX8_soonestOf) ∈ wsL_law := ri_w_r24 _ (List.mem_of_getElem? (i := 4) rfl)
theorem wd_557 : (Cond.instanceMethod yX8_soonestOf) ∈ wsL_law := ri_w_r24 _ (List.mem_of_getElem? (i := 5) rfl)
theorem wd_558 : (Cond.selects RX8 yX8_soonestOf yX8_soonestOf) ∈ wsL_law := ri_w_r24 _ (List.mem_of_getElem? (i := 6) rfl)
theorem wd_559 : (Cond.code yX8_soonestOf cX8_soonestOf 4 (some .int)) ∈ wsL_law := ri_w_r24 _ (List.mem_of_getElem? (i := 7) rfl)
theorem wd_560 : (Cond.constant RX8 228 (1000000)) ∈ wsL_law := ri_w_r24 _ (List.mem_of_getElem? (i := 8) rfl)
theorem wd_561 : (Cond.methodLink RX8 248 yX8_goBack) ∈ wsL_law := ri_w_r24 _ (List.mem_of_getElem? (i := 9) rfl)
theorem wd_562 : (Cond.instanceMethod yX8_goBack) ∈ wsL_law := ri_w_r24 _ (List.mem_of_getElem? (i := 10) rfl)
theorem wd_563 : (Cond.selects RX8 yX8_goBack yX8_goBack) ∈ wsL_law := ri_w_r24 _ (List.mem_of_getElem? (i := 11) rfl)
theorem wd_564 : (Cond.code yX8_goBack cX8_goBack 9 none) ∈ wsL_law := ri_w_r24 _ (List.mem_of_getElem? (i := 12) rfl)
theorem wd_565 : (Cond.methodLink RX8 240 yX8_findQuickest) ∈ wsL_law := ri_w_r24 _ (List.mem_of_getElem? (i := 13) rfl)
theorem wd_566 : (Cond.instanceMethod yX8_findQuickest) ∈ wsL_law := ri_w_r24 _ (List.mem_of_getElem? (i := 14) rfl)
theorem wd_567 : (Cond.selects RX8 yX8_findQuickest yX8_findQuickest) ∈ wsL_law := ri_w_r24 _ (List.mem_of_getElem? (i := 15) rfl)
theorem wd_568 : (Cond.code yX8_findQuickest cX8_findQuickest 7 none) ∈ wsL_law := ri_w_r24 _ (List.mem_of_getElem? (i := 16) rfl)
theorem wd_569 : (Cond.methodLink RX8 229 yX8_secondsBy) ∈ wsL_law := ri_w_r24 _ (List.mem_of_getElem? (i := 17) rfl)
theorem wd_570 : (Cond.instanceMethod yX8_secondsBy) ∈ wsL_law := ri_w_r24 _ (List.mem_of_getElem? (i := 18) rfl)
theorem wd_571 : (Cond.selects RX8 yX8_secondsBy yX8_secondsBy) ∈ wsL_law := ri_w_r24 _ (List.mem_of_getElem? (i := 19) rfl)
theorem wd_572 : (Cond.code yX8_secondsBy cX8_secondsBy 6 (some .int)) ∈ wsL_law := ri_w_r24 _ (List.mem_of_getElem? (i := 20) rfl)
theorem wd_573 : (Cond.methodLink RX8 244 yX8_bestFrom) ∈ wsL_law := ri_w_r24 _ (List.mem_of_getElem? (i := 21) rfl)
theorem wd_574 : (Cond.instanceMethod yX8_bestFrom) ∈ wsL_law := ri_w_r24 _ (List.mem_of_getElem? (i := 22) rfl)
theorem wd_575 : (Cond.selects RX8 yX8_bestFrom yX8_bestFrom) ∈ wsL_law := ri_w_r24 _ (List.mem_of_getElem? (i := 23) rfl)
theorem ri_w_r25 : ∀ w ∈ wsL_law_r25, w ∈ wsL_law := fun _ h => List.mem_append_left _ (List.mem_append_left _ (List.mem_append_left _ (List.mem_append_left _ (List.mem_append_left _ (List.mem_append_left _ (List.mem_append_left _ (List.mem_append_left _ (List.mem_append_left _ (List.mem_append_right _ (List.mem_append_right _ (List.mem_append_right _ (List.mem_append_right _ (List.mem_append_right _ (List.mem_append_right _ (List.mem_append_right _ (List.mem_append_right _ (List.mem_append_right _ (List.mem_append_right _ (List.mem_append_right _ (List.mem_append_right _ (List.mem_append_right _ (List.mem_append_right _ (List.mem_append_right _ (List.mem_append_right _ (List.mem_append_right _ (List.mem_append_right _ (List.mem_append_right _ (List.mem_append_right _ (List.mem_append_right _ (List.mem_append_right _ (List.mem_append_right _ (List.mem_append_right _ (List.mem_append_left _ h)))))))))))))))))))))))))))))))))
theorem wd_576 : (Cond.code yX8_bestFrom cX8_bestFrom 10 (some .int)) ∈ wsL_law := ri_w_r25 _ (List.mem_of_getElem? (i := 0) rfl)
theorem wd_577 : (Cond.methodLink RX8 236 yX8_secondsFrom) ∈ wsL_law := ri_w_r25 _ (List.mem_of_getElem? (i := 1) rfl)
theorem wd_578 : (Cond.instanceMethod yX8_secondsFrom) ∈ wsL_law := ri_w_r25 _ (List.mem_of_getElem? (i := 2) rfl)
theorem wd_579 : (Cond.selects RX8 yX8_secondsFrom yX8_secondsFrom) ∈ wsL_law := ri_w_r25 _ (List.mem_of_getElem? (i := 3) rfl)
theorem wd_580 : (Cond.code yX8_secondsFrom cX8_secondsFrom 11 (some .int)) ∈ wsL_law := ri_w_r25 _ (List.mem_of_getElem? (i := 4) rfl)
theorem wd_581 : (Cond.methodLink RX8 233 yX8_stateOf) ∈ wsL_law := ri_w_r25 _ (List.mem_of_getElem? (i := 5) rfl)
theorem wd_582 : (Cond.static yX8_stateOf) ∈ wsL_law := ri_w_r25 _ (List.mem_of_getElem? (i := 6) rfl)
theorem wd_583 : (Cond.code yX8_stateOf cX8_stateOf 3 (some .int)) ∈ wsL_law := ri_w_r25 _ (List.mem_of_getElem? (i := 7) rfl)
theorem wd_584 : (Cond.methodLink RL 75 yX7_oneBeat) ∈ wsL_law := ri_w_r25 _ (List.mem_of_getElem? (i := 8) rfl)
theorem wd_585 : (Cond.instanceMethod yX7_oneBeat) ∈ wsL_law := ri_w_r25 _ (List.mem_of_getElem? (i := 9) rfl)
theorem wd_586 : (Cond.selects RX7 yX7_oneBeat yX7_oneBeat) ∈ wsL_law := ri_w_r25 _ (List.mem_of_getElem? (i := 10) rfl)
theorem wd_587 : (Cond.code yX7_oneBeat cX7_oneBeat 8 (some .int)) ∈ wsL_law := ri_w_r25 _ (List.mem_of_getElem? (i := 11) rfl)
theorem wd_588 : (Cond.methodLink RX7 190 yX7_secondsAtBeat) ∈ wsL_law := ri_w_r25 _ (List.mem_of_getElem? (i := 12) rfl)
theorem wd_589 : (Cond.instanceMethod yX7_secondsAtBeat) ∈ wsL_law := ri_w_r25 _ (List.mem_of_getElem? (i := 13) rfl)
theorem wd_590 : (Cond.selects RX7 yX7_secondsAtBeat yX7_secondsAtBeat) ∈ wsL_law := ri_w_r25 _ (List.mem_of_getElem? (i := 14) rfl)
theorem wd_591 : (Cond.code yX7_secondsAtBeat cX7_secondsAtBeat 5 (some .int)) ∈ wsL_law := ri_w_r25 _ (List.mem_of_getElem? (i := 15) rfl)
theorem wd_592 : (Cond.methodLink RX7 292 yX6_secondsTogether) ∈ wsL_law := ri_w_r25 _ (List.mem_of_getElem? (i := 16) rfl)
theorem wd_593 : (Cond.instanceMethod yX6_secondsTogether) ∈ wsL_law := ri_w_r25 _ (List.mem_of_getElem? (i := 17) rfl)
theorem wd_594 : (Cond.selects RX6 yX6_secondsTogether yX6_secondsTogether) ∈ wsL_law := ri_w_r25 _ (List.mem_of_getElem? (i := 18) rfl)
theorem wd_595 : (Cond.code yX6_secondsTogether cX6_secondsTogether 4 (some .int)) ∈ wsL_law := ri_w_r25 _ (List.mem_of_getElem? (i := 19) rfl)
theorem wd_596 : (Cond.methodLink RX6 112 yX0_hardOf) ∈ wsL_law := ri_w_r25 _ (List.mem_of_getElem? (i := 20) rfl)
theorem wd_597 : (Cond.methodLink RX6 115 yX0_secondsOf) ∈ wsL_law := ri_w_r25 _ (List.mem_of_getElem? (i := 21) rfl)
theorem wd_598 : (Cond.methodLink RX7 194 yX4_losesAt) ∈ wsL_law := ri_w_r25 _ (List.mem_of_getElem? (i := 22) rfl)
theorem wd_599 : (Cond.instanceMethod yX4_losesAt) ∈ wsL_law := ri_w_r25 _ (List.mem_of_getElem? (i := 23) rfl)
theorem ri_w_r26 : ∀ w ∈ wsL_law_r26, w ∈ wsL_law := fun _ h => List.mem_append_left _ (List.mem_append_left _ (List.mem_append_left _ (List.mem_append_left _ (List.mem_append_left _ (List.mem_append_left _ (List.mem_append_left _ (List.mem_append_left _ (List.mem_append_left _ (List.mem_append_right _ (List.mem_append_right _ (List.mem_append_right _ (List.mem_append_right _ (List.mem_append_right _ (List.mem_append_right _ (List.mem_append_right _ (List.mem_append_right _ (List.mem_append_right _ (List.mem_append_right _ (List.mem_append_right _ (List.mem_append_right _ (List.mem_append_right _ (List.mem_append_right _ (List.mem_append_right _ (List.mem_append_right _ (List.mem_append_right _ (List.mem_append_right _ (List.mem_append_right _ (List.mem_append_right _ (List.mem_append_right _ (List.mem_append_right _ (List.mem_append_right _ (List.mem_append_right _ (List.mem_append_right _ (List.mem_append_left _ h))))))))))))))))))))))))))))))))))
theorem wd_600 : (Cond.selects RX4 yX4_losesAt yX4_losesAt) ∈ wsL_law := ri_w_r26 _ (List.mem_of_getElem? (i := 0) rfl)
theorem wd_601 : (Cond.code yX4_losesAt cX4_losesAt 3 (some .int)) ∈ wsL_law := ri_w_r26 _ (List.mem_of_getElem? (i := 1) rfl)
theorem wd_602 : (Cond.methodLink RX4 32 yX4_treadsAsLiked) ∈ wsL_law := ri_w_r26 _ (List.mem_of_getElem? (i := 2) rfl)
theorem wd_603 : (Cond.instanceMethod yX4_treadsAsLiked) ∈ wsL_law := ri_w_r26 _ (List.mem_of_getElem? (i := 3) rfl)
theorem wd_604 : (Cond.selects RX4 yX4_treadsAsLiked yX4_treadsAsLiked) ∈ wsL_law := ri_w_r26 _ (List.mem_of_getElem? (i := 4) rfl)
theorem wd_605 : (Cond.code yX4_treadsAsLiked cX4_treadsAsLiked 2 (some .int)) ∈ wsL_law := ri_w_r26 _ (List.mem_of_getElem? (i := 5) rfl)
theorem wd_606 : (Cond.methodLink RX4 35 yX4_treads) ∈ wsL_law := ri_w_r26 _ (List.mem_of_getElem? (i := 6) rfl)
theorem wd_607 : (Cond.methodLink RL 78 yX8_oneBeat) ∈ wsL_law := ri_w_r26 _ (List.mem_of_getElem? (i := 7) rfl)
theorem wd_608 : (Cond.instanceMethod yX8_oneBeat) ∈ wsL_law := ri_w_r26 _ (List.mem_of_getElem? (i := 8) rfl)
theorem wd_609 : (Cond.selects RX8 yX8_oneBeat yX8_oneBeat) ∈ wsL_law := ri_w_r26 _ (List.mem_of_getElem? (i := 9) rfl)
theorem wd_610 : (Cond.code yX8_oneBeat cX8_oneBeat 7 (some .int)) ∈ wsL_law := ri_w_r26 _ (List.mem_of_getElem? (i := 10) rfl)
theorem wd_611 : (Cond.methodLink RX8 255 yX8_secondsAt) ∈ wsL_law := ri_w_r26 _ (List.mem_of_getElem? (i := 11) rfl)
theorem wd_612 : (Cond.instanceMethod yX8_secondsAt) ∈ wsL_law := ri_w_r26 _ (List.mem_of_getElem? (i := 12) rfl)
theorem wd_613 : (Cond.selects RX8 yX8_secondsAt yX8_secondsAt) ∈ wsL_law := ri_w_r26 _ (List.mem_of_getElem? (i := 13) rfl)
theorem wd_614 : (Cond.code yX8_secondsAt cX8_secondsAt 5 (some .int)) ∈ wsL_law := ri_w_r26 _ (List.mem_of_getElem? (i := 14) rfl)
theorem wd_615 : (Cond.methodLink RX8 258 yX8_lost) ∈ wsL_law := ri_w_r26 _ (List.mem_of_getElem? (i := 15) rfl)
theorem wd_616 : (Cond.instanceMethod yX8_lost) ∈ wsL_law := ri_w_r26 _ (List.mem_of_getElem? (i := 16) rfl)
theorem wd_617 : (Cond.selects RX8 yX8_lost yX8_lost) ∈ wsL_law := ri_w_r26 _ (List.mem_of_getElem? (i := 17) rfl)
theorem wd_618 : (Cond.code yX8_lost cX8_lost 4 (some .int)) ∈ wsL_law := ri_w_r26 _ (List.mem_of_getElem? (i := 18) rfl)
theorem wd_619 : (Cond.methodLink RL 79 yX7_single) ∈ wsL_law := ri_w_r26 _ (List.mem_of_getElem? (i := 19) rfl)
theorem wd_620 : (Cond.instanceMethod yX7_single) ∈ wsL_law := ri_w_r26 _ (List.mem_of_getElem? (i := 20) rfl)
theorem wd_621 : (Cond.selects RX7 yX7_single yX7_single) ∈ wsL_law := ri_w_r26 _ (List.mem_of_getElem? (i := 21) rfl)
theorem wd_622 : (Cond.code yX7_single cX7_single 3 (some .int)) ∈ wsL_law := ri_w_r26 _ (List.mem_of_getElem? (i := 22) rfl)
theorem wd_623 : (Cond.methodLink RX7 197 yX4_treadsAsLiked) ∈ wsL_law := ri_w_r26 _ (List.mem_of_getElem? (i := 23) rfl)
theorem ri_w_r27 : ∀ w ∈ wsL_law_r27, w ∈ wsL_law := fun _ h => List.mem_append_left _ (List.mem_append_left _ (List.mem_append_left _ (List.mem_append_left _ (List.mem_append_left _ (List.mem_append_left _ (List.mem_append_left _ (List.mem_append_left _ (List.mem_append_left _ (List.mem_append_right _ (List.mem_append_right _ (List.mem_append_right _ (List.mem_append_right _ (List.mem_append_right _ (List.mem_append_right _ (List.mem_append_right _ (List.mem_append_right _ (List.mem_append_right _ (List.mem_append_right _ (List.mem_append_right _ (List.mem_append_right _ (List.mem_append_right _ (List.mem_append_right _ (List.mem_append_right _ (List.mem_append_right _ (List.mem_append_right _ (List.mem_append_right _ (List.mem_append_right _ (List.mem_append_right _ (List.mem_append_right _ (List.mem_append_right _ (List.mem_append_right _ (List.mem_append_right _ (List.mem_append_right _ (List.mem_append_right _ (List.mem_append_left _ h)))))))))))))))))))))))))))))))))))
theorem wd_624 : (Cond.methodLink RX7 201 yX6_secondsAlone) ∈ wsL_law := ri_w_r27 _ (List.mem_of_getElem? (i := 0) rfl)
theorem wd_625 : (Cond.instanceMethod yX6_secondsAlone) ∈ wsL_law := ri_w_r27 _ (List.mem_of_getElem? (i := 1) rfl)
theorem wd_626 : (Cond.selects RX6 yX6_secondsAlone yX6_secondsAlone) ∈ wsL_law := ri_w_r27 _ (List.mem_of_getElem? (i := 2) rfl)
theorem wd_627 : (Cond.code yX6_secondsAlone cX6_secondsAlone 4 (some .int)) ∈ wsL_law := ri_w_r27 _ (List.mem_of_getElem? (i := 3) rfl)
theorem wd_628 : (Cond.methodLink RL 82 yX8_single) ∈ wsL_law := ri_w_r27 _ (List.mem_of_getElem? (i := 4) rfl)
theorem wd_629 : (Cond.instanceMethod yX8_single) ∈ wsL_law := ri_w_r27 _ (List.mem_of_getElem? (i := 5) rfl)
theorem wd_630 : (Cond.selects RX8 yX8_single yX8_single) ∈ wsL_law := ri_w_r27 _ (List.mem_of_getElem? (i := 6) rfl)
theorem wd_631 : (Cond.code yX8_single cX8_single 5 (some .int)) ∈ wsL_law := ri_w_r27 _ (List.mem_of_getElem? (i := 7) rfl)
theorem wd_632 : (Cond.methodLink RX8 261 yX8_alone) ∈ wsL_law := ri_w_r27 _ (List.mem_of_getElem? (i := 8) rfl)
theorem wd_633 : (Cond.instanceMethod yX8_alone) ∈ wsL_law := ri_w_r27 _ (List.mem_of_getElem? (i := 9) rfl)
theorem wd_634 : (Cond.selects RX8 yX8_alone yX8_alone) ∈ wsL_law := ri_w_r27 _ (List.mem_of_getElem? (i := 10) rfl)
theorem wd_635 : (Cond.code yX8_alone cX8_alone 4 (some .int)) ∈ wsL_law := ri_w_r27 _ (List.mem_of_getElem? (i := 11) rfl)
theorem wd_636 : (Cond.methodLink RL 83 yX7_sorts) ∈ wsL_law := ri_w_r27 _ (List.mem_of_getElem? (i := 12) rfl)
theorem wd_637 : (Cond.instanceMethod yX7_sorts) ∈ wsL_law := ri_w_r27 _ (List.mem_of_getElem? (i := 13) rfl)
theorem wd_638 : (Cond.selects RX7 yX7_sorts yX7_sorts) ∈ wsL_law := ri_w_r27 _ (List.mem_of_getElem? (i := 14) rfl)
theorem wd_639 : (Cond.code yX7_sorts cX7_sorts 7 (some .int)) ∈ wsL_law := ri_w_r27 _ (List.mem_of_getElem? (i := 15) rfl)
theorem wd_640 : (Cond.methodLink RX7 204 yX7_mostTreads) ∈ wsL_law := ri_w_r27 _ (List.mem_of_getElem? (i := 16) rfl)
theorem wd_641 : (Cond.methodLink RX7 213 yX0_hardOf) ∈ wsL_law := ri_w_r27 _ (List.mem_of_getElem? (i := 17) rfl)
theorem wd_642 : (Cond.methodLink RX7 218 yX0_secondsOf) ∈ wsL_law := ri_w_r27 _ (List.mem_of_getElem? (i := 18) rfl)
theorem wd_643 : (Cond.methodLink RL 86 yX8_sorts) ∈ wsL_law := ri_w_r27 _ (List.mem_of_getElem? (i := 19) rfl)
theorem wd_644 : (Cond.instanceMethod yX8_sorts) ∈ wsL_law := ri_w_r27 _ (List.mem_of_getElem? (i := 20) rfl)
theorem wd_645 : (Cond.selects RX8 yX8_sorts yX8_sorts) ∈ wsL_law := ri_w_r27 _ (List.mem_of_getElem? (i := 21) rfl)
theorem wd_646 : (Cond.code yX8_sorts cX8_sorts 6 (some .int)) ∈ wsL_law := ri_w_r27 _ (List.mem_of_getElem? (i := 22) rfl)
theorem wd_647 : (Cond.methodLink RX8 264 yX8_sortOf) ∈ wsL_law := ri_w_r27 _ (List.mem_of_getElem? (i := 23) rfl)
theorem ri_w_r28 : ∀ w ∈ wsL_law_r28, w ∈ wsL_law := fun _ h => List.mem_append_left _ (List.mem_append_left _ (List.mem_append_left _ (List.mem_append_left _ (List.mem_append_left _ (List.mem_append_left _ (List.mem_append_left _ (List.mem_append_left _ (List.mem_append_left _ (List.mem_append_right _ (List.mem_append_right _ (List.mem_append_right _ (List.mem_append_right _ (List.mem_append_right _ (List.mem_append_right _ (List.mem_append_right _ (List.mem_append_right _ (List.mem_append_right _ (List.mem_append_right _ (List.mem_append_right _ (List.mem_append_right _ (List.mem_append_right _ (List.mem_append_right _ (List.mem_append_right _ (List.mem_append_right _ (List.mem_append_right _ (List.mem_append_right _ (List.mem_append_right _ (List.mem_append_right _ (List.mem_append_right _ (List.mem_append_right _ (List.mem_append_right _ (List.mem_append_right _ (List.mem_append_right _ (List.mem_append_right _ (List.mem_append_right _ (List.mem_append_left _ h))))))))))))))))))))))))))))))))))))
theorem wd_648 : (Cond.static yX8_sortOf) ∈ wsL_law := ri_w_r28 _ (List.mem_of_getElem? (i := 0) rfl)
theorem wd_649 : (Cond.code yX8_sortOf cX8_sortOf 1 (some .int)) ∈ wsL_law := ri_w_r28 _ (List.mem_of_getElem? (i := 1) rfl)
theorem wd_650 : (Cond.methodLink RL 87 yX7_uneven) ∈ wsL_law := ri_w_r28 _ (List.mem_of_getElem? (i := 2) rfl)
theorem wd_651 : (Cond.instanceMethod yX7_uneven) ∈ wsL_law := ri_w_r28 _ (List.mem_of_getElem? (i := 3) rfl)
theorem wd_652 : (Cond.selects RX7 yX7_uneven yX7_uneven) ∈ wsL_law := ri_w_r28 _ (List.mem_of_getElem? (i := 4) rfl)
theorem wd_653 : (Cond.code yX7_uneven cX7_uneven 4 (some .int)) ∈ wsL_law := ri_w_r28 _ (List.mem_of_getElem? (i := 5) rfl)
theorem wd_654 : (Cond.methodLink RX7 221 yX7_unevenness) ∈ wsL_law := ri_w_r28 _ (List.mem_of_getElem? (i := 6) rfl)
theorem wd_655 : (Cond.instanceMethod yX7_unevenness) ∈ wsL_law := ri_w_r28 _ (List.mem_of_getElem? (i := 7) rfl)
theorem wd_656 : (Cond.selects RX7 yX7_unevenness yX7_unevenness) ∈ wsL_law := ri_w_r28 _ (List.mem_of_getElem? (i := 8) rfl)
theorem wd_657 : (Cond.code yX7_unevenness cX7_unevenness 10 (some .int)) ∈ wsL_law := ri_w_r28 _ (List.mem_of_getElem? (i := 9) rfl)
theorem wd_658 : (Cond.fieldLink RX7 280 "TandemRide$Rider" "strength" "I") ∈ wsL_law := ri_w_r28 _ (List.mem_of_getElem? (i := 10) rfl)
theorem wd_659 : (Cond.constant RX7 266 (1000000000)) ∈ wsL_law := ri_w_r28 _ (List.mem_of_getElem? (i := 11) rfl)
theorem wd_660 : (Cond.methodLink RX7 241 Lib.Math.min.name) ∈ wsL_law := ri_w_r28 _ (List.mem_of_getElem? (i := 12) rfl)
theorem wd_661 : (Cond.methodLink RX7 295 yX7_crankAt) ∈ wsL_law := ri_w_r28 _ (List.mem_of_getElem? (i := 13) rfl)
theorem wd_662 : (Cond.static yX7_crankAt) ∈ wsL_law := ri_w_r28 _ (List.mem_of_getElem? (i := 14) rfl)
theorem wd_663 : (Cond.code yX7_crankAt cX7_crankAt 1 (some .int)) ∈ wsL_law := ri_w_r28 _ (List.mem_of_getElem? (i := 15) rfl)
theorem wd_664 : (Cond.methodLink RX7 298 Lib.Math.abs.name) ∈ wsL_law := ri_w_r28 _ (List.mem_of_getElem? (i := 16) rfl)
theorem wd_665 : (Cond.methodLink RL 90 yX8_uneven) ∈ wsL_law := ri_w_r28 _ (List.mem_of_getElem? (i := 17) rfl)
theorem wd_666 : (Cond.instanceMethod yX8_uneven) ∈ wsL_law := ri_w_r28 _ (List.mem_of_getElem? (i := 18) rfl)
theorem wd_667 : (Cond.selects RX8 yX8_uneven yX8_uneven) ∈ wsL_law := ri_w_r28 _ (List.mem_of_getElem? (i := 19) rfl)
theorem wd_668 : (Cond.code yX8_uneven cX8_uneven 4 (some .int)) ∈ wsL_law := ri_w_r28 _ (List.mem_of_getElem? (i := 20) rfl)
theorem wd_669 : (Cond.constantLong RX8 270 (11)) ∈ wsL_law := ri_w_r28 _ (List.mem_of_getElem? (i := 21) rfl)
theorem wd_670 : (Cond.methodLink RX8 272 yX8_unevenBy) ∈ wsL_law := ri_w_r28 _ (List.mem_of_getElem? (i := 22) rfl)
theorem wd_671 : (Cond.instanceMethod yX8_unevenBy) ∈ wsL_law := ri_w_r28 _ (List.mem_of_getElem? (i := 23) rfl)
theorem ri_w_r29 : ∀ w ∈ wsL_law_r29, w ∈ wsL_law := fun _ h => List.mem_append_left _ (List.mem_append_left _ (List.mem_append_left _ (List.mem_append_left _ (List.mem_append_left _ (List.mem_append_left _ (List.mem_append_left _ (List.mem_append_left _ (List.mem_append_left _ (List.mem_append_right _ (List.mem_append_right _ (List.mem_append_right _ (List.mem_append_right _ (List.mem_append_right _ (List.mem_append_right _ (List.mem_append_right _ (List.mem_append_right _ (List.mem_append_right _ (List.mem_append_right _ (List.mem_append_right _ (List.mem_append_right _ (List.mem_append_right _ (List.mem_append_right _ (List.mem_append_right _ (List.mem_append_right _ (List.mem_append_right _ (List.mem_append_right _ (List.mem_append_right _ (List.mem_append_right _ (List.mem_append_right _ (List.mem_append_right _ (List.mem_append_right _ (List.mem_append_right _ (List.mem_append_right _ (List.mem_append_right _ (List.mem_append_right _ (List.mem_append_right _ (List.mem_append_left _ h)))))))))))))))))))))))))))))))))))))
theorem wd_672 : (Cond.selects RX8 yX8_unevenBy yX8_unevenBy) ∈ wsL_law := ri_w_r29 _ (List.mem_of_getElem? (i := 0) rfl)
theorem wd_673 : (Cond.code yX8_unevenBy cX8_unevenBy 8 (some .int)) ∈ wsL_law := ri_w_r29 _ (List.mem_of_getElem? (i := 1) rfl)
theorem wd_674 : (Cond.methodLink RX8 267 yX8_fromSix) ∈ wsL_law := ri_w_r29 _ (List.mem_of_getElem? (i := 2) rfl)
theorem wd_675 : (Cond.static yX8_fromSix) ∈ wsL_law := ri_w_r29 _ (List.mem_of_getElem? (i := 3) rfl)
theorem wd_676 : (Cond.code yX8_fromSix cX8_fromSix 1 (some .int)) ∈ wsL_law := ri_w_r29 _ (List.mem_of_getElem? (i := 4) rfl)
theorem wd_677 : (Cond.methodLink RL 91 yX7_evenest) ∈ wsL_law := ri_w_r29 _ (List.mem_of_getElem? (i := 5) rfl)
theorem wd_678 : (Cond.instanceMethod yX7_evenest) ∈ wsL_law := ri_w_r29 _ (List.mem_of_getElem? (i := 6) rfl)
theorem wd_679 : (Cond.selects RX7 yX7_evenest yX7_evenest) ∈ wsL_law := ri_w_r29 _ (List.mem_of_getElem? (i := 7) rfl)
theorem wd_680 : (Cond.code yX7_evenest cX7_evenest 7 (some .int)) ∈ wsL_law := ri_w_r29 _ (List.mem_of_getElem? (i := 8) rfl)
theorem wd_681 : (Cond.methodLink RL 94 yX8_evenest) ∈ wsL_law := ri_w_r29 _ (List.mem_of_getElem? (i := 9) rfl)
theorem wd_682 : (Cond.instanceMethod yX8_evenest) ∈ wsL_law := ri_w_r29 _ (List.mem_of_getElem? (i := 10) rfl)
theorem wd_683 : (Cond.selects RX8 yX8_evenest yX8_evenest) ∈ wsL_law := ri_w_r29 _ (List.mem_of_getElem? (i := 11) rfl)
theorem wd_684 : (Cond.code yX8_evenest cX8_evenest 5 (some .int)) ∈ wsL_law := ri_w_r29 _ (List.mem_of_getElem? (i := 12) rfl)
theorem wd_685 : (Cond.methodLink RL 95 yX7_calls) ∈ wsL_law := ri_w_r29 _ (List.mem_of_getElem? (i := 13) rfl)
theorem wd_686 : (Cond.instanceMethod yX7_calls) ∈ wsL_law := ri_w_r29 _ (List.mem_of_getElem? (i := 14) rfl)
theorem wd_687 : (Cond.selects RX7 yX7_calls yX7_calls) ∈ wsL_law := ri_w_r29 _ (List.mem_of_getElem? (i := 15) rfl)
theorem wd_688 : (Cond.code yX7_calls cX7_calls 4 (some .int)) ∈ wsL_law := ri_w_r29 _ (List.mem_of_getElem? (i := 16) rfl)
theorem wd_689 : (Cond.constant RX7 233 (16777215)) ∈ wsL_law := ri_w_r29 _ (List.mem_of_getElem? (i := 17) rfl)
theorem wd_690 : (Cond.methodLink RX7 224 yX6_corners) ∈ wsL_law := ri_w_r29 _ (List.mem_of_getElem? (i := 18) rfl)
theorem wd_691 : (Cond.instanceMethod yX6_corners) ∈ wsL_law := ri_w_r29 _ (List.mem_of_getElem? (i := 19) rfl)
theorem wd_692 : (Cond.selects RX6 yX6_corners yX6_corners) ∈ wsL_law := ri_w_r29 _ (List.mem_of_getElem? (i := 20) rfl)
theorem wd_693 : (Cond.code yX6_corners cX6_corners 1 (some .int)) ∈ wsL_law := ri_w_r29 _ (List.mem_of_getElem? (i := 21) rfl)
theorem wd_694 : (Cond.methodLink RX6 109 yX6_stretchesOf) ∈ wsL_law := ri_w_r29 _ (List.mem_of_getElem? (i := 22) rfl)
theorem wd_695 : (Cond.instanceMethod yX6_stretchesOf) ∈ wsL_law := ri_w_r29 _ (List.mem_of_getElem? (i := 23) rfl)
theorem ri_w_r30 : ∀ w ∈ wsL_law_r30, w ∈ wsL_law := fun _ h => List.mem_append_left _ (List.mem_append_left _ (List.mem_append_left _ (List.mem_append_left _ (List.mem_append_left _ (List.mem_append_left _ (List.mem_append_left _ (List.mem_append_left _ (List.mem_append_left _ (List.mem_append_right _ (List.mem_append_right _ (List.mem_append_right _ (List.mem_append_right _ (List.mem_append_right _ (List.mem_append_right _ (List.mem_append_right _ (List.mem_append_right _ (List.mem_append_right _ (List.mem_append_right _ (List.mem_append_right _ (List.mem_append_right _ (List.mem_append_right _ (List.mem_append_right _ (List.mem_append_right _ (List.mem_append_right _ (List.mem_append_right _ (List.mem_append_right _ (List.mem_append_right _ (List.mem_append_right _ (List.mem_append_right _ (List.mem_append_right _ (List.mem_append_right _ (List.mem_append_right _ (List.mem_append_right _ (List.mem_append_right _ (List.mem_append_right _ (List.mem_append_right _ (List.mem_append_right _ (List.mem_append_left _ h))))))))))))))))))))))))))))))))))))))
theorem wd_696 : (Cond.selects RX6 yX6_stretchesOf yX6_stretchesOf) ∈ wsL_law := ri_w_r30 _ (List.mem_of_getElem? (i := 0) rfl)
theorem wd_697 : (Cond.code yX6_stretchesOf cX6_stretchesOf 4 (some .int)) ∈ wsL_law := ri_w_r30 _ (List.mem_of_getElem? (i := 1) rfl)
theorem wd_698 : (Cond.methodLink RX7 227 yX6_bumps) ∈ wsL_law := ri_w_r30 _ (List.mem_of_getElem? (i := 2) rfl)
theorem wd_699 : (Cond.instanceMethod yX6_bumps) ∈ wsL_law := ri_w_r30 _ (List.mem_of_getElem? (i := 3) rfl)
theorem wd_700 : (Cond.selects RX6 yX6_bumps yX6_bumps) ∈ wsL_law := ri_w_r30 _ (List.mem_of_getElem? (i := 4) rfl)
theorem wd_701 : (Cond.code yX6_bumps cX6_bumps 1 (some .int)) ∈ wsL_law := ri_w_r30 _ (List.mem_of_getElem? (i := 5) rfl)
theorem wd_702 : (Cond.methodLink RX7 230 yX5_fewestCalls) ∈ wsL_law := ri_w_r30 _ (List.mem_of_getElem? (i := 6) rfl)
theorem wd_703 : (Cond.instanceMethod yX5_fewestCalls) ∈ wsL_law := ri_w_r30 _ (List.mem_of_getElem? (i := 7) rfl)
theorem wd_704 : (Cond.selects RX5 yX5_fewestCalls yX5_fewestCalls) ∈ wsL_law := ri_w_r30 _ (List.mem_of_getElem? (i := 8) rfl)
theorem wd_705 : (Cond.code yX5_fewestCalls cX5_fewestCalls 7 (some .int)) ∈ wsL_law := ri_w_r30 _ (List.mem_of_getElem? (i := 9) rfl)
theorem wd_706 : (Cond.constant RX5 146 (16777216)) ∈ wsL_law := ri_w_r30 _ (List.mem_of_getElem? (i := 10) rfl)
theorem wd_707 : (Cond.methodLink RX5 139 yX0_soreBehind) ∈ wsL_law := ri_w_r30 _ (List.mem_of_getElem? (i := 11) rfl)
theorem wd_708 : (Cond.static yX0_soreBehind) ∈ wsL_law := ri_w_r30 _ (List.mem_of_getElem? (i := 12) rfl)
theorem wd_709 : (Cond.code yX0_soreBehind cX0_soreBehind 2 (some .int)) ∈ wsL_law := ri_w_r30 _ (List.mem_of_getElem? (i := 13) rfl)
theorem wd_710 : (Cond.methodLink RX5 142 yX5_keepFewer) ∈ wsL_law := ri_w_r30 _ (List.mem_of_getElem? (i := 14) rfl)
theorem wd_711 : (Cond.instanceMethod yX5_keepFewer) ∈ wsL_law := ri_w_r30 _ (List.mem_of_getElem? (i := 15) rfl)
theorem wd_712 : (Cond.selects RX5 yX5_keepFewer yX5_keepFewer) ∈ wsL_law := ri_w_r30 _ (List.mem_of_getElem? (i := 16) rfl)
theorem wd_713 : (Cond.code yX5_keepFewer cX5_keepFewer 3 none) ∈ wsL_law := ri_w_r30 _ (List.mem_of_getElem? (i := 17) rfl)
theorem wd_714 : (Cond.methodLink RL 98 yX8_calls) ∈ wsL_law := ri_w_r30 _ (List.mem_of_getElem? (i := 18) rfl)
theorem wd_715 : (Cond.instanceMethod yX8_calls) ∈ wsL_law := ri_w_r30 _ (List.mem_of_getElem? (i := 19) rfl)
theorem wd_716 : (Cond.selects RX8 yX8_calls yX8_calls) ∈ wsL_law := ri_w_r30 _ (List.mem_of_getElem? (i := 20) rfl)
theorem wd_717 : (Cond.code yX8_calls cX8_calls 6 (some .int)) ∈ wsL_law := ri_w_r30 _ (List.mem_of_getElem? (i := 21) rfl)
theorem wd_718 : (Cond.methodLink RX8 275 yX8_bumps) ∈ wsL_law := ri_w_r30 _ (List.mem_of_getElem? (i := 22) rfl)
theorem wd_719 : (Cond.instanceMethod yX8_bumps) ∈ wsL_law := ri_w_r30 _ (List.mem_of_getElem? (i := 23) rfl)
theorem ri_w_r31 : ∀ w ∈ wsL_law_r31, w ∈ wsL_law := fun _ h => List.mem_append_left _ (List.mem_append_left _ (List.mem_append_left _ (List.mem_append_left _ (List.mem_append_left _ (List.mem_append_left _ (List.mem_append_left _ (List.mem_append_left _ (List.mem_append_left _ (List.mem_append_right _ (List.mem_append_right _ (List.mem_append_right _ (List.mem_append_right _ (List.mem_append_right _ (List.mem_append_right _ (List.mem_append_right _ (List.mem_append_right _ (List.mem_append_right _ (List.mem_append_right _ (List.mem_append_right _ (List.mem_append_right _ (List.mem_append_right _ (List.mem_append_right _ (List.mem_append_right _ (List.mem_append_right _ (List.mem_append_right _ (List.mem_append_right _ (List.mem_append_right _ (List.mem_append_right _ (List.mem_append_right _ (List.mem_append_right _ (List.mem_append_right _ (List.mem_append_right _ (List.mem_append_right _ (List.mem_append_right _ (List.mem_append_right _ (List.mem_append_right _ (List.mem_append_right _ (List.mem_append_right _ (List.mem_append_left _ h)))))))))))))))))))))))))))))))))))))))
theorem wd_720 : (Cond.selects RX8 yX8_bumps yX8_bumps) ∈ wsL_law := ri_w_r31 _ (List.mem_of_getElem? (i := 0) rfl)
theorem wd_721 : (Cond.code yX8_bumps cX8_bumps 3 (some .int)) ∈ wsL_law := ri_w_r31 _ (List.mem_of_getElem? (i := 1) rfl)
theorem wd_722 : (Cond.methodLink RX8 278 yX8_isBorne) ∈ wsL_law := ri_w_r31 _ (List.mem_of_getElem? (i := 2) rfl)
theorem wd_723 : (Cond.instanceMethod yX8_isBorne) ∈ wsL_law := ri_w_r31 _ (List.mem_of_getElem? (i := 3) rfl)
theorem wd_724 : (Cond.selects RX8 yX8_isBorne yX8_isBorne) ∈ wsL_law := ri_w_r31 _ (List.mem_of_getElem? (i := 4) rfl)
theorem wd_725 : (Cond.code yX8_isBorne cX8_isBorne 8 (some .boolean)) ∈ wsL_law := ri_w_r31 _ (List.mem_of_getElem? (i := 5) rfl)
theorem wd_726 : (Cond.methodLink RX8 282 yX8_stretchesOf) ∈ wsL_law := ri_w_r31 _ (List.mem_of_getElem? (i := 6) rfl)
theorem wd_727 : (Cond.instanceMethod yX8_stretchesOf) ∈ wsL_law := ri_w_r31 _ (List.mem_of_getElem? (i := 7) rfl)
theorem wd_728 : (Cond.selects RX8 yX8_stretchesOf yX8_stretchesOf) ∈ wsL_law := ri_w_r31 _ (List.mem_of_getElem? (i := 8) rfl)
theorem wd_729 : (Cond.code yX8_stretchesOf cX8_stretchesOf 5 (some .int)) ∈ wsL_law := ri_w_r31 _ (List.mem_of_getElem? (i := 9) rfl)
theorem wd_730 : (Cond.methodLink RL 99 yX7_worth) ∈ wsL_law := ri_w_r31 _ (List.mem_of_getElem? (i := 10) rfl)
theorem wd_731 : (Cond.instanceMethod yX7_worth) ∈ wsL_law := ri_w_r31 _ (List.mem_of_getElem? (i := 11) rfl)
theorem wd_732 : (Cond.selects RX7 yX7_worth yX7_worth) ∈ wsL_law := ri_w_r31 _ (List.mem_of_getElem? (i := 12) rfl)
theorem wd_733 : (Cond.code yX7_worth cX7_worth 3 (some .int)) ∈ wsL_law := ri_w_r31 _ (List.mem_of_getElem? (i := 13) rfl)
theorem wd_734 : (Cond.methodLink RX7 234 yX2_restsIn) ∈ wsL_law := ri_w_r31 _ (List.mem_of_getElem? (i := 14) rfl)
theorem wd_735 : (Cond.instanceMethod yX2_restsIn) ∈ wsL_law := ri_w_r31 _ (List.mem_of_getElem? (i := 15) rfl)
theorem wd_736 : (Cond.selects RX2 yX2_restsIn yX2_restsIn) ∈ wsL_law := ri_w_r31 _ (List.mem_of_getElem? (i := 16) rfl)
theorem wd_737 : (Cond.code yX2_restsIn cX2_restsIn 3 (some .boolean)) ∈ wsL_law := ri_w_r31 _ (List.mem_of_getElem? (i := 17) rfl)
theorem wd_738 : (Cond.methodLink RL 102 yX8_worth) ∈ wsL_law := ri_w_r31 _ (List.mem_of_getElem? (i := 18) rfl)
theorem wd_739 : (Cond.instanceMethod yX8_worth) ∈ wsL_law := ri_w_r31 _ (List.mem_of_getElem? (i := 19) rfl)
theorem wd_740 : (Cond.selects RX8 yX8_worth yX8_worth) ∈ wsL_law := ri_w_r31 _ (List.mem_of_getElem? (i := 20) rfl)
theorem wd_741 : (Cond.code yX8_worth cX8_worth 4 (some .int)) ∈ wsL_law := ri_w_r31 _ (List.mem_of_getElem? (i := 21) rfl)
theorem wd_742 : (Cond.methodLink RL 103 yX7_bestPair) ∈ wsL_law := ri_w_r31 _ (List.mem_of_getElem? (i := 22) rfl)
theorem wd_743 : (Cond.instanceMethod yX7_bestPair) ∈ wsL_law := ri_w_r31 _ (List.mem_of_getElem? (i := 23) rfl)
theorem ri_w_r32 : ∀ w ∈ wsL_law_r32, w ∈ wsL_law := fun _ h => List.mem_append_left _ (List.mem_append_left _ (List.mem_append_left _ (List.mem_append_left _ (List.mem_append_left _ (List.mem_append_left _ (List.mem_append_left _ (List.mem_append_left _ (List.mem_append_left _ (List.mem_append_right _ (List.mem_append_right _ (List.mem_append_right _ (List.mem_append_right _ (List.mem_append_right _ (List.mem_append_right _ (List.mem_append_right _ (List.mem_append_right _ (List.mem_append_right _ (List.mem_append_right _ (List.mem_append_right _ (List.mem_append_right _ (List.mem_append_right _ (List.mem_append_right _ (List.mem_append_right _ (List.mem_append_right _ (List.mem_append_right _ (List.mem_append_right _ (List.mem_append_right _ (List.mem_append_right _ (List.mem_append_right _ (List.mem_append_right _ (List.mem_append_right _ (List.mem_append_right _ (List.mem_append_right _ (List.mem_append_right _ (List.mem_append_right _ (List.mem_append_right _ (List.mem_append_right _ (List.mem_append_right _ (List.mem_append_right _ (List.mem_append_left _ h))))))))))))))))))))))))))))))))))))))))
theorem wd_744 : (Cond.selects RX7 yX7_bestPair yX7_bestPair) ∈ wsL_law := ri_w_r32 _ (List.mem_of_getElem? (i := 0) rfl)
theorem wd_745 : (Cond.code yX7_bestPair cX7_bestPair 6 (some .int)) ∈ wsL_law := ri_w_r32 _ (List.mem_of_getElem? (i := 1) rfl)
theorem wd_746 : (Cond.methodLink RL 106 yX8_bestPair) ∈ wsL_law := ri_w_r32 _ (List.mem_of_getElem? (i := 2) rfl)
theorem wd_747 : (Cond.instanceMethod yX8_bestPair) ∈ wsL_law := ri_w_r32 _ (List.mem_of_getElem? (i := 3) rfl)
theorem wd_748 : (Cond.selects RX8 yX8_bestPair yX8_bestPair) ∈ wsL_law := ri_w_r32 _ (List.mem_of_getElem? (i := 4) rfl)
theorem wd_749 : (Cond.code yX8_bestPair cX8_bestPair 8 (some .int)) ∈ wsL_law := ri_w_r32 _ (List.mem_of_getElem? (i := 5) rfl)
theorem wd_750 : (Cond.methodLink RL 107 yX7_quarrel) ∈ wsL_law := ri_w_r32 _ (List.mem_of_getElem? (i := 6) rfl)
theorem wd_751 : (Cond.instanceMethod yX7_quarrel) ∈ wsL_law := ri_w_r32 _ (List.mem_of_getElem? (i := 7) rfl)
theorem wd_752 : (Cond.selects RX7 yX7_quarrel yX7_quarrel) ∈ wsL_law := ri_w_r32 _ (List.mem_of_getElem? (i := 8) rfl)
theorem wd_753 : (Cond.code yX7_quarrel cX7_quarrel 7 (some .int)) ∈ wsL_law := ri_w_r32 _ (List.mem_of_getElem? (i := 9) rfl)
theorem wd_754 : (Cond.methodLink RX7 237 yX7_believedBy) ∈ wsL_law := ri_w_r32 _ (List.mem_of_getElem? (i := 10) rfl)
theorem wd_755 : (Cond.instanceMethod yX7_believedBy) ∈ wsL_law := ri_w_r32 _ (List.mem_of_getElem? (i := 11) rfl)
theorem wd_756 : (Cond.selects RX7 yX7_believedBy yX7_believedBy) ∈ wsL_law := ri_w_r32 _ (List.mem_of_getElem? (i := 12) rfl)
theorem wd_757 : (Cond.code yX7_believedBy cX7_believedBy 5 (some .int)) ∈ wsL_law := ri_w_r32 _ (List.mem_of_getElem? (i := 13) rfl)
theorem wd_758 : (Cond.fieldLink RX7 289 "TandemRide$Rider" "thinks" "I") ∈ wsL_law := ri_w_r32 _ (List.mem_of_getElem? (i := 14) rfl)
theorem wd_759 : (Cond.methodLink RL 110 yX8_quarrel) ∈ wsL_law := ri_w_r32 _ (List.mem_of_getElem? (i := 15) rfl)
theorem wd_760 : (Cond.instanceMethod yX8_quarrel) ∈ wsL_law := ri_w_r32 _ (List.mem_of_getElem? (i := 16) rfl)
theorem wd_761 : (Cond.selects RX8 yX8_quarrel yX8_quarrel) ∈ wsL_law := ri_w_r32 _ (List.mem_of_getElem? (i := 17) rfl)
theorem wd_762 : (Cond.code yX8_quarrel cX8_quarrel 5 (some .int)) ∈ wsL_law := ri_w_r32 _ (List.mem_of_getElem? (i := 18) rfl)
theorem wd_763 : (Cond.methodLink RX8 285 yX8_believed) ∈ wsL_law := ri_w_r32 _ (List.mem_of_getElem? (i := 19) rfl)
theorem wd_764 : (Cond.instanceMethod yX8_believed) ∈ wsL_law := ri_w_r32 _ (List.mem_of_getElem? (i := 20) rfl)
theorem wd_765 : (Cond.selects RX8 yX8_believed yX8_believed) ∈ wsL_law := ri_w_r32 _ (List.mem_of_getElem? (i := 21) rfl)
theorem wd_766 : (Cond.code yX8_believed cX8_believed 5 (some .int)) ∈ wsL_law := ri_w_r32 _ (List.mem_of_getElem? (i := 22) rfl)
theorem wd_767 : (Cond.methodLink RL 111 yX7_home) ∈ wsL_law := ri_w_r32 _ (List.mem_of_getElem? (i := 23) rfl)
theorem ri_w_r33 : ∀ w ∈ wsL_law_r33, w ∈ wsL_law := fun _ h => List.mem_append_left _ (List.mem_append_left _ (List.mem_append_left _ (List.mem_append_left _ (List.mem_append_left _ (List.mem_append_left _ (List.mem_append_left _ (List.mem_append_left _ (List.mem_append_left _ (List.mem_append_right _ (List.mem_append_right _ (List.mem_append_right _ (List.mem_append_right _ (List.mem_append_right _ (List.mem_append_right _ (List.mem_append_right _ (List.mem_append_right _ (List.mem_append_right _ (List.mem_append_right _ (List.mem_append_right _ (List.mem_append_right _ (List.mem_append_right _ (List.mem_append_right _ (List.mem_append_right _ (List.mem_append_right _ (List.mem_append_right _ (List.mem_append_right _ (List.mem_append_right _ (List.mem_append_right _ (List.mem_append_right _ (List.mem_append_right _ (List.mem_append_right _ (List.mem_append_right _ (List.mem_append_right _ (List.mem_append_right _ (List.mem_append_right _ (List.mem_append_right _ (List.mem_append_right _ (List.mem_append_right _ (List.mem_append_right _ (List.mem_append_right _ (List.mem_append_left _ h)))))))))))))))))))))))))))))))))))))))))
theorem wd_768 : (Cond.instanceMethod yX7_home) ∈ wsL_law := ri_w_r33 _ (List.mem_of_getElem? (i := 0) rfl)
theorem wd_769 : (Cond.selects RX7 yX7_home yX7_home) ∈ wsL_law := ri_w_r33 _ (List.mem_of_getElem? (i := 1) rfl)
theorem wd_770 : (Cond.code yX7_home cX7_home 8 (some .long)) ∈ wsL_law := ri_w_r33 _ (List.mem_of_getElem? (i := 2) rfl)
theorem wd_771 : (Cond.constantLong RX7 244 (-1000000000000000004)) ∈ wsL_law := ri_w_r33 _ (List.mem_of_getElem? (i := 3) rfl)
theorem wd_772 : (Cond.constantLong RX7 250 (10)) ∈ wsL_law := ri_w_r33 _ (List.mem_of_getElem? (i := 4) rfl)
theorem wd_773 : (Cond.methodLink RX7 246 yX7_chancesOfSlips) ∈ wsL_law := ri_w_r33 _ (List.mem_of_getElem? (i := 5) rfl)
theorem wd_774 : (Cond.static yX7_chancesOfSlips) ∈ wsL_law := ri_w_r33 _ (List.mem_of_getElem? (i := 6) rfl)
theorem wd_775 : (Cond.code yX7_chancesOfSlips cX7_chancesOfSlips 8 (some .long)) ∈ wsL_law := ri_w_r33 _ (List.mem_of_getElem? (i := 7) rfl)
theorem wd_776 : (Cond.methodLink RX7 252 yX7_power) ∈ wsL_law := ri_w_r33 _ (List.mem_of_getElem? (i := 8) rfl)
theorem wd_777 : (Cond.static yX7_power) ∈ wsL_law := ri_w_r33 _ (List.mem_of_getElem? (i := 9) rfl)
theorem wd_778 : (Cond.code yX7_power cX7_power 6 (some .long)) ∈ wsL_law := ri_w_r33 _ (List.mem_of_getElem? (i := 10) rfl)
theorem wd_779 : (Cond.methodLink RL 115 yX8_home) ∈ wsL_law := ri_w_r33 _ (List.mem_of_getElem? (i := 11) rfl)
theorem wd_780 : (Cond.instanceMethod yX8_home) ∈ wsL_law := ri_w_r33 _ (List.mem_of_getElem? (i := 12) rfl)
theorem wd_781 : (Cond.selects RX8 yX8_home yX8_home) ∈ wsL_law := ri_w_r33 _ (List.mem_of_getElem? (i := 13) rfl)
theorem wd_782 : (Cond.code yX8_home cX8_home 9 (some .long)) ∈ wsL_law := ri_w_r33 _ (List.mem_of_getElem? (i := 14) rfl)
theorem wd_783 : (Cond.constantLong RX8 288 (9999)) ∈ wsL_law := ri_w_r33 _ (List.mem_of_getElem? (i := 15) rfl)
theorem wd_784 : (Cond.constantLong RX8 293 (-1000000000000000004)) ∈ wsL_law := ri_w_r33 _ (List.mem_of_getElem? (i := 16) rfl)
theorem wd_785 : (Cond.methodLink RX8 290 yX8_corners) ∈ wsL_law := ri_w_r33 _ (List.mem_of_getElem? (i := 17) rfl)
theorem wd_786 : (Cond.instanceMethod yX8_corners) ∈ wsL_law := ri_w_r33 _ (List.mem_of_getElem? (i := 18) rfl)
theorem wd_787 : (Cond.selects RX8 yX8_corners yX8_corners) ∈ wsL_law := ri_w_r33 _ (List.mem_of_getElem? (i := 19) rfl)
theorem wd_788 : (Cond.code yX8_corners cX8_corners 3 (some .int)) ∈ wsL_law := ri_w_r33 _ (List.mem_of_getElem? (i := 20) rfl)
theorem wd_789 : (Cond.methodLink RX8 295 yX8_powers) ∈ wsL_law := ri_w_r33 _ (List.mem_of_getElem? (i := 21) rfl)
theorem wd_790 : (Cond.static yX8_powers) ∈ wsL_law := ri_w_r33 _ (List.mem_of_getElem? (i := 22) rfl)
theorem wd_791 : (Cond.code yX8_powers cX8_powers 5 (some .long)) ∈ wsL_law := ri_w_r33 _ (List.mem_of_getElem? (i := 23) rfl)
theorem ri_w_r34 : ∀ w ∈ wsL_law_r34, w ∈ wsL_law := fun _ h => List.mem_append_left _ (List.mem_append_left _ (List.mem_append_left _ (List.mem_append_left _ (List.mem_append_left _ (List.mem_append_left _ (List.mem_append_left _ (List.mem_append_left _ (List.mem_append_left _ (List.mem_append_right _ (List.mem_append_right _ (List.mem_append_right _ (List.mem_append_right _ (List.mem_append_right _ (List.mem_append_right _ (List.mem_append_right _ (List.mem_append_right _ (List.mem_append_right _ (List.mem_append_right _ (List.mem_append_right _ (List.mem_append_right _ (List.mem_append_right _ (List.mem_append_right _ (List.mem_append_right _ (List.mem_append_right _ (List.mem_append_right _ (List.mem_append_right _ (List.mem_append_right _ (List.mem_append_right _ (List.mem_append_right _ (List.mem_append_right _ (List.mem_append_right _ (List.mem_append_right _ (List.mem_append_right _ (List.mem_append_right _ (List.mem_append_right _ (List.mem_append_right _ (List.mem_append_right _ (List.mem_append_right _ (List.mem_append_right _ (List.mem_append_right _ (List.mem_append_right _ (List.mem_append_left _ h))))))))))))))))))))))))))))))))))))))))))
theorem wd_792 : (Cond.methodLink RL 116 yX7_mean) ∈ wsL_law := ri_w_r34 _ (List.mem_of_getElem? (i := 0) rfl)
theorem wd_793 : (Cond.instanceMethod yX7_mean) ∈ wsL_law := ri_w_r34 _ (List.mem_of_getElem? (i := 1) rfl)
theorem wd_794 : (Cond.selects RX7 yX7_mean yX7_mean) ∈ wsL_law := ri_w_r34 _ (List.mem_of_getElem? (i := 2) rfl)
theorem wd_795 : (Cond.code yX7_mean cX7_mean 4 (some .long)) ∈ wsL_law := ri_w_r34 _ (List.mem_of_getElem? (i := 3) rfl)
theorem wd_796 : (Cond.methodLink RL 120 yX8_mean) ∈ wsL_law := ri_w_r34 _ (List.mem_of_getElem? (i := 4) rfl)
theorem wd_797 : (Cond.instanceMethod yX8_mean) ∈ wsL_law := ri_w_r34 _ (List.mem_of_getElem? (i := 5) rfl)
theorem wd_798 : (Cond.selects RX8 yX8_mean yX8_mean) ∈ wsL_law := ri_w_r34 _ (List.mem_of_getElem? (i := 6) rfl)
theorem wd_799 : (Cond.code yX8_mean cX8_mean 3 (some .long)) ∈ wsL_law := ri_w_r34 _ (List.mem_of_getElem? (i := 7) rfl)
theorem wd_800 : (Cond.methodLink RL 121 yX7_time) ∈ wsL_law := ri_w_r34 _ (List.mem_of_getElem? (i := 8) rfl)
theorem wd_801 : (Cond.instanceMethod yX7_time) ∈ wsL_law := ri_w_r34 _ (List.mem_of_getElem? (i := 9) rfl)
theorem wd_802 : (Cond.selects RX7 yX7_time yX7_time) ∈ wsL_law := ri_w_r34 _ (List.mem_of_getElem? (i := 10) rfl)
theorem wd_803 : (Cond.code yX7_time cX7_time 5 (some .int)) ∈ wsL_law := ri_w_r34 _ (List.mem_of_getElem? (i := 11) rfl)
theorem wd_804 : (Cond.fieldLink RX7 256 "TandemRide$Setup" "times" "I") ∈ wsL_law := ri_w_r34 _ (List.mem_of_getElem? (i := 12) rfl)
theorem wd_805 : (Cond.methodLink RX7 259 yX6_addTime) ∈ wsL_law := ri_w_r34 _ (List.mem_of_getElem? (i := 13) rfl)
theorem wd_806 : (Cond.instanceMethod yX6_addTime) ∈ wsL_law := ri_w_r34 _ (List.mem_of_getElem? (i := 14) rfl)
theorem wd_807 : (Cond.selects RX6 yX6_addTime yX6_addTime) ∈ wsL_law := ri_w_r34 _ (List.mem_of_getElem? (i := 15) rfl)
theorem wd_808 : (Cond.code yX6_addTime cX6_addTime 5 none) ∈ wsL_law := ri_w_r34 _ (List.mem_of_getElem? (i := 16) rfl)
theorem wd_809 : (Cond.methodLink RL 125 yX8_time) ∈ wsL_law := ri_w_r34 _ (List.mem_of_getElem? (i := 17) rfl)
theorem wd_810 : (Cond.instanceMethod yX8_time) ∈ wsL_law := ri_w_r34 _ (List.mem_of_getElem? (i := 18) rfl)
theorem wd_811 : (Cond.selects RX8 yX8_time yX8_time) ∈ wsL_law := ri_w_r34 _ (List.mem_of_getElem? (i := 19) rfl)
theorem wd_812 : (Cond.code yX8_time cX8_time 5 (some .int)) ∈ wsL_law := ri_w_r34 _ (List.mem_of_getElem? (i := 20) rfl)
theorem wd_813 : (Cond.constantLong RX8 299 (300)) ∈ wsL_law := ri_w_r34 _ (List.mem_of_getElem? (i := 21) rfl)
theorem wd_814 : (Cond.fieldLink RX8 301 "TandemRideModel" "times" "I") ∈ wsL_law := ri_w_r34 _ (List.mem_of_getElem? (i := 22) rfl)
theorem wd_815 : (Cond.methodLink RL 126 yX7_forget) ∈ wsL_law := ri_w_r34 _ (List.mem_of_getElem? (i := 23) rfl)
theorem ri_w_r35 : ∀ w ∈ wsL_law_r35, w ∈ wsL_law := fun _ h => List.mem_append_left _ (List.mem_append_left _ (List.mem_append_left _ (List.mem_append_left _ (List.mem_append_left _ (List.mem_append_left _ (List.mem_append_left _ (List.mem_append_left _ (List.mem_append_left _ (List.mem_append_right _ (List.mem_append_right _ (List.mem_append_right _ (List.mem_append_right _ (List.mem_append_right _ (List.mem_append_right _ (List.mem_append_right _ (List.mem_append_right _ (List.mem_append_right _ (List.mem_append_right _ (List.mem_append_right _ (List.mem_append_right _ (List.mem_append_right _ (List.mem_append_right _ (List.mem_append_right _ (List.mem_append_right _ (List.mem_append_right _ (List.mem_append_right _ (List.mem_append_right _ (List.mem_append_right _ (List.mem_append_right _ (List.mem_append_right _ (List.mem_append_right _ (List.mem_append_right _ (List.mem_append_right _ (List.mem_append_right _ (List.mem_append_right _ (List.mem_append_right _ (List.mem_append_right _ (List.mem_append_right _ (List.mem_append_right _ (List.mem_append_right _ (List.mem_append_right _ (List.mem_append_right _ (List.mem_append_left _ h)))))))))))))))))))))))))))))))))))))))))))
theorem wd_816 : (Cond.instanceMethod yX7_forget) ∈ wsL_law := ri_w_r35 _ (List.mem_of_getElem? (i := 0) rfl)
theorem wd_817 : (Cond.selects RX7 yX7_forget yX7_forget) ∈ wsL_law := ri_w_r35 _ (List.mem_of_getElem? (i := 1) rfl)
theorem wd_818 : (Cond.code yX7_forget cX7_forget 2 (some .int)) ∈ wsL_law := ri_w_r35 _ (List.mem_of_getElem? (i := 2) rfl)
theorem wd_819 : (Cond.methodLink RL 129 yX8_forget) ∈ wsL_law := ri_w_r35 _ (List.mem_of_getElem? (i := 3) rfl)
theorem wd_820 : (Cond.instanceMethod yX8_forget) ∈ wsL_law := ri_w_r35 _ (List.mem_of_getElem? (i := 4) rfl)
theorem wd_821 : (Cond.selects RX8 yX8_forget yX8_forget) ∈ wsL_law := ri_w_r35 _ (List.mem_of_getElem? (i := 5) rfl)
theorem wd_822 : (Cond.code yX8_forget cX8_forget 2 (some .int)) ∈ wsL_law := ri_w_r35 _ (List.mem_of_getElem? (i := 6) rfl)
theorem wd_823 : (Cond.methodLink RL 130 yX7_strong) ∈ wsL_law := ri_w_r35 _ (List.mem_of_getElem? (i := 7) rfl)
theorem wd_824 : (Cond.instanceMethod yX7_strong) ∈ wsL_law := ri_w_r35 _ (List.mem_of_getElem? (i := 8) rfl)
theorem wd_825 : (Cond.selects RX7 yX7_strong yX7_strong) ∈ wsL_law := ri_w_r35 _ (List.mem_of_getElem? (i := 9) rfl)
theorem wd_826 : (Cond.code yX7_strong cX7_strong 7 (some .int)) ∈ wsL_law := ri_w_r35 _ (List.mem_of_getElem? (i := 10) rfl)
theorem wd_827 : (Cond.methodLink RX7 262 yX6_timesHold) ∈ wsL_law := ri_w_r35 _ (List.mem_of_getElem? (i := 11) rfl)
theorem wd_828 : (Cond.instanceMethod yX6_timesHold) ∈ wsL_law := ri_w_r35 _ (List.mem_of_getElem? (i := 12) rfl)
theorem wd_829 : (Cond.selects RX6 yX6_timesHold yX6_timesHold) ∈ wsL_law := ri_w_r35 _ (List.mem_of_getElem? (i := 13) rfl)
theorem wd_830 : (Cond.code yX6_timesHold cX6_timesHold 5 (some .boolean)) ∈ wsL_law := ri_w_r35 _ (List.mem_of_getElem? (i := 14) rfl)
theorem wd_831 : (Cond.methodLink RL 133 yX8_strong) ∈ wsL_law := ri_w_r35 _ (List.mem_of_getElem? (i := 15) rfl)
theorem wd_832 : (Cond.instanceMethod yX8_strong) ∈ wsL_law := ri_w_r35 _ (List.mem_of_getElem? (i := 16) rfl)
theorem wd_833 : (Cond.selects RX8 yX8_strong yX8_strong) ∈ wsL_law := ri_w_r35 _ (List.mem_of_getElem? (i := 17) rfl)
theorem wd_834 : (Cond.code yX8_strong cX8_strong 7 (some .int)) ∈ wsL_law := ri_w_r35 _ (List.mem_of_getElem? (i := 18) rfl)
theorem wd_835 : (Cond.constantLong RX8 304 (2)) ∈ wsL_law := ri_w_r35 _ (List.mem_of_getElem? (i := 19) rfl)
theorem wd_836 : (Cond.methodLink RX8 306 yX8_holds) ∈ wsL_law := ri_w_r35 _ (List.mem_of_getElem? (i := 20) rfl)
theorem wd_837 : (Cond.instanceMethod yX8_holds) ∈ wsL_law := ri_w_r35 _ (List.mem_of_getElem? (i := 21) rfl)
theorem wd_838 : (Cond.selects RX8 yX8_holds yX8_holds) ∈ wsL_law := ri_w_r35 _ (List.mem_of_getElem? (i := 22) rfl)
theorem wd_839 : (Cond.code yX8_holds cX8_holds 6 (some .boolean)) ∈ wsL_law := ri_w_r35 _ (List.mem_of_getElem? (i := 23) rfl)
theorem ri_w_r36 : ∀ w ∈ wsL_law_r36, w ∈ wsL_law := fun _ h => List.mem_append_left _ (List.mem_append_left _ (List.mem_append_left _ (List.mem_append_left _ (List.mem_append_left _ (List.mem_append_left _ (List.mem_append_left _ (List.mem_append_left _ (List.mem_append_left _ (List.mem_append_right _ (List.mem_append_right _ (List.mem_append_right _ (List.mem_append_right _ (List.mem_append_right _ (List.mem_append_right _ (List.mem_append_right _ (List.mem_append_right _ (List.mem_append_right _ (List.mem_append_right _ (List.mem_append_right _ (List.mem_append_right _ (List.mem_append_right _ (List.mem_append_right _ (List.mem_append_right _ (List.mem_append_right _ (List.mem_append_right _ (List.mem_append_right _ (List.mem_append_right _ (List.mem_append_right _ (List.mem_append_right _ (List.mem_append_right _ (List.mem_append_right _ (List.mem_append_right _ (List.mem_append_right _ (List.mem_append_right _ (List.mem_append_right _ (List.mem_append_right _ (List.mem_append_right _ (List.mem_append_right _ (List.mem_append_right _ (List.mem_append_right _ (List.mem_append_right _ (List.mem_append_right _ (List.mem_append_right _ (List.mem_append_left _ h))))))))))))))))))))))))))))))))))))))))))))
theorem wd_840 : (Cond.methodLink RL 134 yX7_year) ∈ wsL_law := ri_w_r36 _ (List.mem_of_getElem? (i := 0) rfl)
theorem wd_841 : (Cond.instanceMethod yX7_year) ∈ wsL_law := ri_w_r36 _ (List.mem_of_getElem? (i := 1) rfl)
theorem wd_842 : (Cond.selects RX7 yX7_year yX7_year) ∈ wsL_law := ri_w_r36 _ (List.mem_of_getElem? (i := 2) rfl)
theorem wd_843 : (Cond.code yX7_year cX7_year 11 (some .int)) ∈ wsL_law := ri_w_r36 _ (List.mem_of_getElem? (i := 3) rfl)
theorem wd_844 : (Cond.constant RX7 267 (65537)) ∈ wsL_law := ri_w_r36 _ (List.mem_of_getElem? (i := 4) rfl)
theorem wd_845 : (Cond.methodLink RL 137 yX8_year) ∈ wsL_law := ri_w_r36 _ (List.mem_of_getElem? (i := 5) rfl)
theorem wd_846 : (Cond.instanceMethod yX8_year) ∈ wsL_law := ri_w_r36 _ (List.mem_of_getElem? (i := 6) rfl)
theorem wd_847 : (Cond.selects RX8 yX8_year yX8_year) ∈ wsL_law := ri_w_r36 _ (List.mem_of_getElem? (i := 7) rfl)
theorem wd_848 : (Cond.code yX8_year cX8_year 11 (some .int)) ∈ wsL_law := ri_w_r36 _ (List.mem_of_getElem? (i := 8) rfl)
theorem wd_849 : (Cond.constantLong RX8 309 (75)) ∈ wsL_law := ri_w_r36 _ (List.mem_of_getElem? (i := 9) rfl)
theorem wd_850 : (Cond.constantLong RX8 311 (74)) ∈ wsL_law := ri_w_r36 _ (List.mem_of_getElem? (i := 10) rfl)
theorem wd_851 : (Cond.constantLong RX8 313 (65537)) ∈ wsL_law := ri_w_r36 _ (List.mem_of_getElem? (i := 11) rfl)
theorem wd_852 : (Cond.methodLink RL 138 yX7_image) ∈ wsL_law := ri_w_r36 _ (List.mem_of_getElem? (i := 12) rfl)
theorem wd_853 : (Cond.instanceMethod yX7_image) ∈ wsL_law := ri_w_r36 _ (List.mem_of_getElem? (i := 13) rfl)
theorem wd_854 : (Cond.selects RX7 yX7_image yX7_image) ∈ wsL_law := ri_w_r36 _ (List.mem_of_getElem? (i := 14) rfl)
theorem wd_855 : (Cond.code yX7_image cX7_image 2 (some .int)) ∈ wsL_law := ri_w_r36 _ (List.mem_of_getElem? (i := 15) rfl)
theorem wd_856 : (Cond.methodLink RX7 268 yX6_copyFrom) ∈ wsL_law := ri_w_r36 _ (List.mem_of_getElem? (i := 16) rfl)
theorem wd_857 : (Cond.instanceMethod yX6_copyFrom) ∈ wsL_law := ri_w_r36 _ (List.mem_of_getElem? (i := 17) rfl)
theorem wd_858 : (Cond.selects RX6 yX6_copyFrom yX6_copyFrom) ∈ wsL_law := ri_w_r36 _ (List.mem_of_getElem? (i := 18) rfl)
theorem wd_859 : (Cond.code yX6_copyFrom cX6_copyFrom 3 none) ∈ wsL_law := ri_w_r36 _ (List.mem_of_getElem? (i := 19) rfl)
theorem wd_860 : (Cond.methodLink RX6 63 arraycopyName) ∈ wsL_law := ri_w_r36 _ (List.mem_of_getElem? (i := 20) rfl)
theorem wd_861 : (Cond.native arraycopyName) ∈ wsL_law := ri_w_r36 _ (List.mem_of_getElem? (i := 21) rfl)
theorem wd_862 : (Cond.static arraycopyName) ∈ wsL_law := ri_w_r36 _ (List.mem_of_getElem? (i := 22) rfl)
theorem wd_863 : (Cond.initialized "java/lang/System") ∈ wsL_law := ri_w_r36 _ (List.mem_of_getElem? (i := 23) rfl)
theorem ri_w_r37 : ∀ w ∈ wsL_law_r37, w ∈ wsL_law := fun _ h => List.mem_append_left _ (List.mem_append_left _ (List.mem_append_left _ (List.mem_append_left _ (List.mem_append_left _ (List.mem_append_left _ (List.mem_append_left _ (List.mem_append_left _ (List.mem_append_left _ (List.mem_append_right _ (List.mem_append_right _ (List.mem_append_right _ (List.mem_append_right _ (List.mem_append_right _ (List.mem_append_right _ (List.mem_append_right _ (List.mem_append_right _ (List.mem_append_right _ (List.mem_append_right _ (List.mem_append_right _ (List.mem_append_right _ (List.mem_append_right _ (List.mem_append_right _ (List.mem_append_right _ (List.mem_append_right _ (List.mem_append_right _ (List.mem_append_right _ (List.mem_append_right _ (List.mem_append_right _ (List.mem_append_right _ (List.mem_append_right _ (List.mem_append_right _ (List.mem_append_right _ (List.mem_append_right _ (List.mem_append_right _ (List.mem_append_right _ (List.mem_append_right _ (List.mem_append_right _ (List.mem_append_right _ (List.mem_append_right _ (List.mem_append_right _ (List.mem_append_right _ (List.mem_append_right _ (List.mem_append_right _ (List.mem_append_right _ (List.mem_append_left _ h)))))))))))))))))))))))))))))))))))))))))))))
theorem wd_864 : (Cond.methodLink RX6 59 yX4_copyFrom) ∈ wsL_law := ri_w_r37 _ (List.mem_of_getElem? (i := 0) rfl)
theorem wd_865 : (Cond.instanceMethod yX4_copyFrom) ∈ wsL_law := ri_w_r37 _ (List.mem_of_getElem? (i := 1) rfl)
theorem wd_866 : (Cond.selects RX4 yX4_copyFrom yX4_copyFrom) ∈ wsL_law := ri_w_r37 _ (List.mem_of_getElem? (i := 2) rfl)
theorem wd_867 : (Cond.code yX4_copyFrom cX4_copyFrom 2 none) ∈ wsL_law := ri_w_r37 _ (List.mem_of_getElem? (i := 3) rfl)
theorem wd_868 : (Cond.methodLink RL 141 yX8_image) ∈ wsL_law := ri_w_r37 _ (List.mem_of_getElem? (i := 4) rfl)
theorem wd_869 : (Cond.instanceMethod yX8_image) ∈ wsL_law := ri_w_r37 _ (List.mem_of_getElem? (i := 5) rfl)
theorem wd_870 : (Cond.selects RX8 yX8_image yX8_image) ∈ wsL_law := ri_w_r37 _ (List.mem_of_getElem? (i := 6) rfl)
theorem wd_871 : (Cond.code yX8_image cX8_image 2 (some .int)) ∈ wsL_law := ri_w_r37 _ (List.mem_of_getElem? (i := 7) rfl)
theorem wd_872 : (Cond.fieldLink RX8 319 "TandemRideModel" "keptAt" "I") ∈ wsL_law := ri_w_r37 _ (List.mem_of_getElem? (i := 8) rfl)
theorem wd_873 : (Cond.fieldLink RX8 315 "TandemRideModel" "isWriting" "Z") ∈ wsL_law := ri_w_r37 _ (List.mem_of_getElem? (i := 9) rfl)
theorem wd_874 : (Cond.methodLink RX8 325 yX8_passAll) ∈ wsL_law := ri_w_r37 _ (List.mem_of_getElem? (i := 10) rfl)
theorem wd_875 : (Cond.instanceMethod yX8_passAll) ∈ wsL_law := ri_w_r37 _ (List.mem_of_getElem? (i := 11) rfl)
theorem wd_876 : (Cond.selects RX8 yX8_passAll yX8_passAll) ∈ wsL_law := ri_w_r37 _ (List.mem_of_getElem? (i := 12) rfl)
theorem wd_877 : (Cond.code yX8_passAll cX8_passAll 2 none) ∈ wsL_law := ri_w_r37 _ (List.mem_of_getElem? (i := 13) rfl)
theorem wd_878 : (Cond.methodLink RX8 322 yX8_pass) ∈ wsL_law := ri_w_r37 _ (List.mem_of_getElem? (i := 14) rfl)
theorem wd_879 : (Cond.instanceMethod yX8_pass) ∈ wsL_law := ri_w_r37 _ (List.mem_of_getElem? (i := 15) rfl)
theorem wd_880 : (Cond.selects RX8 yX8_pass yX8_pass) ∈ wsL_law := ri_w_r37 _ (List.mem_of_getElem? (i := 16) rfl)
theorem wd_881 : (Cond.code yX8_pass cX8_pass 3 (some .int)) ∈ wsL_law := ri_w_r37 _ (List.mem_of_getElem? (i := 17) rfl)
theorem wd_882 : (Cond.methodLink RL 142 yX7_restore) ∈ wsL_law := ri_w_r37 _ (List.mem_of_getElem? (i := 18) rfl)
theorem wd_883 : (Cond.instanceMethod yX7_restore) ∈ wsL_law := ri_w_r37 _ (List.mem_of_getElem? (i := 19) rfl)
theorem wd_884 : (Cond.selects RX7 yX7_restore yX7_restore) ∈ wsL_law := ri_w_r37 _ (List.mem_of_getElem? (i := 20) rfl)
theorem wd_885 : (Cond.code yX7_restore cX7_restore 2 (some .int)) ∈ wsL_law := ri_w_r37 _ (List.mem_of_getElem? (i := 21) rfl)
theorem wd_886 : (Cond.methodLink RL 145 yX8_restore) ∈ wsL_law := ri_w_r37 _ (List.mem_of_getElem? (i := 22) rfl)
theorem wd_887 : (Cond.instanceMethod yX8_restore) ∈ wsL_law := ri_w_r37 _ (List.mem_of_getElem? (i := 23) rfl)
theorem ri_w_r38 : ∀ w ∈ wsL_law_r38, w ∈ wsL_law := fun _ h => List.mem_append_left _ (List.mem_append_left _ (List.mem_append_left _ (List.mem_append_left _ (List.mem_append_left _ (List.mem_append_left _ (List.mem_append_left _ (List.mem_append_left _ (List.mem_append_left _ (List.mem_append_right _ (List.mem_append_right _ (List.mem_append_right _ (List.mem_append_right _ (List.mem_append_right _ (List.mem_append_right _ (List.mem_append_right _ (List.mem_append_right _ (List.mem_append_right _ (List.mem_append_right _ (List.mem_append_right _ (List.mem_append_right _ (List.mem_append_right _ (List.mem_append_right _ (List.mem_append_right _ (List.mem_append_right _ (List.mem_append_right _ (List.mem_append_right _ (List.mem_append_right _ (List.mem_append_right _ (List.mem_append_right _ (List.mem_append_right _ (List.mem_append_right _ (List.mem_append_right _ (List.mem_append_right _ (List.mem_append_right _ (List.mem_append_right _ (List.mem_append_right _ (List.mem_append_right _ (List.mem_append_right _ (List.mem_append_right _ (List.mem_append_right _ (List.mem_append_right _ (List.mem_append_right _ (List.mem_append_right _ (List.mem_append_right _ (List.mem_append_right _ (h))))))))))))))))))))))))))))))))))))))))))))))
theorem wd_888 : (Cond.selects RX8 yX8_restore yX8_restore) ∈ wsL_law := ri_w_r38 _ (List.mem_of_getElem? (i := 0) rfl)
theorem wd_889 : (Cond.code yX8_restore cX8_restore 2 (some .int)) ∈ wsL_law := ri_w_r38 _ (List.mem_of_getElem? (i := 1) rfl)
theorem wd_890 : (Cond.methodLink RL 146 yX7_told) ∈ wsL_law := ri_w_r38 _ (List.mem_of_getElem? (i := 2) rfl)
theorem wd_891 : (Cond.instanceMethod yX7_told) ∈ wsL_law := ri_w_r38 _ (List.mem_of_getElem? (i := 3) rfl)
theorem wd_892 : (Cond.selects RX7 yX7_told yX7_told) ∈ wsL_law := ri_w_r38 _ (List.mem_of_getElem? (i := 4) rfl)
theorem wd_893 : (Cond.code yX7_told cX7_told 2 (some .int)) ∈ wsL_law := ri_w_r38 _ (List.mem_of_getElem? (i := 5) rfl)
theorem wd_894 : (Cond.fieldLink RX7 274 "TandemRide$Setup" "signs" "[I") ∈ wsL_law := ri_w_r38 _ (List.mem_of_getElem? (i := 6) rfl)
theorem wd_895 : (Cond.methodLink RX7 271 yX6_riderBits) ∈ wsL_law := ri_w_r38 _ (List.mem_of_getElem? (i := 7) rfl)
theorem wd_896 : (Cond.methodLink RX7 277 yX7_toldOfRider) ∈ wsL_law := ri_w_r38 _ (List.mem_of_getElem? (i := 8) rfl)
theorem wd_897 : (Cond.instanceMethod yX7_toldOfRider) ∈ wsL_law := ri_w_r38 _ (List.mem_of_getElem? (i := 9) rfl)
theorem wd_898 : (Cond.selects RX7 yX7_toldOfRider yX7_toldOfRider) ∈ wsL_law := ri_w_r38 _ (List.mem_of_getElem? (i := 10) rfl)
theorem wd_899 : (Cond.code yX7_toldOfRider cX7_toldOfRider 4 (some .int)) ∈ wsL_law := ri_w_r38 _ (List.mem_of_getElem? (i := 11) rfl)
theorem wd_900 : (Cond.fieldLink RX7 283 "TandemRide$Rider" "likes" "I") ∈ wsL_law := ri_w_r38 _ (List.mem_of_getElem? (i := 12) rfl)
theorem wd_901 : (Cond.fieldLink RX7 286 "TandemRide$Rider" "wind" "I") ∈ wsL_law := ri_w_r38 _ (List.mem_of_getElem? (i := 13) rfl)
theorem wd_902 : (Cond.methodLink RL 149 yX8_told) ∈ wsL_law := ri_w_r38 _ (List.mem_of_getElem? (i := 14) rfl)
theorem wd_903 : (Cond.instanceMethod yX8_told) ∈ wsL_law := ri_w_r38 _ (List.mem_of_getElem? (i := 15) rfl)
theorem wd_904 : (Cond.selects RX8 yX8_told yX8_told) ∈ wsL_law := ri_w_r38 _ (List.mem_of_getElem? (i := 16) rfl)
theorem wd_905 : (Cond.code yX8_told cX8_told 2 (some .int)) ∈ wsL_law := ri_w_r38 _ (List.mem_of_getElem? (i := 17) rfl)
theorem wd_906 : (Cond.constantLong RX8 328 (49)) ∈ wsL_law := ri_w_r38 _ (List.mem_of_getElem? (i := 18) rfl)
theorem wd_907 : (Cond.constantLong RX8 333 (100)) ∈ wsL_law := ri_w_r38 _ (List.mem_of_getElem? (i := 19) rfl)
theorem wd_908 : (Cond.methodLink RX8 330 yX8_toldOf) ∈ wsL_law := ri_w_r38 _ (List.mem_of_getElem? (i := 20) rfl)
theorem wd_909 : (Cond.instanceMethod yX8_toldOf) ∈ wsL_law := ri_w_r38 _ (List.mem_of_getElem? (i := 21) rfl)
theorem wd_910 : (Cond.selects RX8 yX8_toldOf yX8_toldOf) ∈ wsL_law := ri_w_r38 _ (List.mem_of_getElem? (i := 22) rfl)
theorem wd_911 : (Cond.code yX8_toldOf cX8_toldOf 3 (some .int)) ∈ wsL_law := ri_w_r38 _ (List.mem_of_getElem? (i := 23) rfl)
end
section
-- ===== whole numbers: every int of a walk is iI z, every long jI z =====
def iI (z : Int) : Int32 := Int32.ofInt z
def jI (z : Int) : Int64 := Int64.ofInt z
abbrev R3 (z : Int) : Prop := -2147483648 ≤ z ∧ z < 2147483648
abbrev R6 (z : Int) : Prop := -9223372036854775808 ≤ z ∧ z < 9223372036854775808
theorem iI_toInt {z : Int} (h : R3 z) : (iI z).toInt = z := Int32.toInt_ofInt_of_le (by have := h.1; omega) (by have := h.2; omega)
theorem jI_toInt {z : Int} (h : R6 z) : (jI z).toInt = z := Int64.toInt_ofInt_of_le (by have := h.1; omega) (by have := h.2; omega)
theorem iI_add (x y : Int) : iI x + iI y = iI (x + y) := (Int32.ofInt_add x y).symm
theorem iI_sub (x y : Int) : iI x - iI y = iI (x - y) := (Int32.ofInt_sub x y).symm
theorem iI_mul (x y : Int) : iI x * iI y = iI (x * y) := (Int32.ofInt_mul x y).symm
theorem iI_neg (x : Int) : -iI x = iI (-x) := (Int32.ofInt_neg x).symm
theorem jI_add (x y : Int) : jI x + jI y = jI (x + y) := (Int64.ofInt_add x y).symm
theorem jI_sub (x y : Int) : jI x - jI y = jI (x - y) := (Int64.ofInt_sub x y).symm
theorem jI_mul (x y : Int) : jI x * jI y = jI (x * y) := (Int64.ofInt_mul x y).symm
theorem iI_of (x : Int32) : ∃ z : Int, R3 z ∧ x = iI z := ⟨x.toInt, ⟨Int32.le_toInt x, Int32.toInt_lt x⟩, (Int32.ofInt_toInt x).symm⟩
theorem jI_of (x : Int64) : ∃ z : Int, R6 z ∧ x = jI z := ⟨x.toInt, ⟨Int64.le_toInt x, Int64.toInt_lt x⟩, (Int64.ofInt_toInt x).symm⟩
theorem iI_inj {x y : Int} (hx : R3 x) (hy : R3 y) : iI x = iI y ↔ x = y := ⟨fun h => by have := congrArg Int32.toInt h; rwa [iI_toInt hx, iI_toInt hy] at this, fun h => by rw [h]⟩
theorem jI_inj {x y : Int} (hx : R6 x) (hy : R6 y) : jI x = jI y ↔ x = y := ⟨fun h => by have := congrArg Int64.toInt h; rwa [jI_toInt hx, jI_toInt hy] at this, fun h => by rw [h]⟩
theorem iI_lt {x y : Int} (hx : R3 x) (hy : R3 y) : iI x < iI y ↔ x < y := by rw [Int32.lt_iff_toInt_lt, iI_toInt hx, iI_toInt hy]
theorem iI_le {x y : Int} (hx : R3 x) (hy : R3 y) : iI x ≤ iI y ↔ x ≤ y := by rw [Int32.le_iff_toInt_le, iI_toInt hx, iI_toInt hy]
theorem jI_lt {x y : Int} (hx : R6 x) (hy : R6 y) : jI x < jI y ↔ x < y := by rw [Int64.lt_iff_toInt_lt, jI_toInt hx, jI_toInt hy]
theorem iI_nat (n : Nat) : iI (n : Int) = nI n := by unfold iI nI; exact Int32.ofInt_eq_ofNat
theorem iI_cl {z : Int} (h0 : 0 ≤ z) (h : z < 2147483648) : (iI z).toNatClampNeg = z.toNat := by
  show (iI z).toInt.toNat = z.toNat
  rw [iI_toInt ⟨by omega, h⟩]
theorem iI_in {z : Int} {n : Nat} (h0 : 0 ≤ z) (h : z < n) (hn : n < 2147483648) : vp_in (iI z) n := by
  rw [vp_in_iff, iI_toInt ⟨by omega, by omega⟩]
  exact ⟨h0, h⟩
theorem iI_div {x y : Int} (hx : 0 ≤ x) (hx2 : x < 2147483648) (hy : 0 < y) (hy2 : y < 2147483648) : iI x / iI y = iI (x / y) := by
  apply Int32.toInt_inj.mp
  have hd : x / y ≤ x := Int.ediv_le_self _ hx
  have hp : 0 ≤ x / y := Int.ediv_nonneg hx (Int.le_of_lt hy)
  rw [iI_toInt ⟨by omega, by omega⟩, Int32.toInt_div, iI_toInt ⟨by omega, hx2⟩, iI_toInt ⟨by omega, hy2⟩, Int.tdiv_eq_ediv_of_nonneg hx, Int.bmod_eq_of_le (by omega) (by omega)]
theorem iI_rem {x y : Int} (hx : 0 ≤ x) (hx2 : x < 2147483648) (hy : 0 < y) (hy2 : y < 2147483648) : iI x - iI x / iI y * iI y = iI (x % y) := by
  rw [iI_div hx hx2 hy hy2, iI_mul, iI_sub]
  congr 1
  have := Int.emod_def x y
  rw [Int.mul_comm] at this
  omega
theorem jI_div {x y : Int} (hx : 0 ≤ x) (hx2 : x < 9223372036854775808) (hy : 0 < y) (hy2 : y < 9223372036854775808) : jI x / jI y = jI (x / y) := by
  apply Int64.toInt_inj.mp
  have hd : x / y ≤ x := Int.ediv_le_self _ hx
  have hp : 0 ≤ x / y := Int.ediv_nonneg hx (Int.le_of_lt hy)
  rw [jI_toInt ⟨by omega, by omega⟩, Int64.toInt_div, jI_toInt ⟨by omega, hx2⟩, jI_toInt ⟨by omega, hy2⟩, Int.tdiv_eq_ediv_of_nonneg hx, Int.bmod_eq_of_le (by omega) (by omega)]
theorem jI_rem {x y : Int} (hx : 0 ≤ x) (hx2 : x < 9223372036854775808) (hy : 0 < y) (hy2 : y < 9223372036854775808) : jI x - jI x / jI y * jI y = jI (x % y) := by
  rw [jI_div hx hx2 hy hy2, jI_mul, jI_sub]
  congr 1
  have := Int.emod_def x y
  rw [Int.mul_comm] at this
  omega
theorem iI_j {x : Int} (h : R3 x) : (iI x).toInt64 = jI x := by
  apply Int64.toInt_inj.mp
  rw [Int32.toInt_toInt64, iI_toInt h, jI_toInt ⟨by have := h.1; omega, by have := h.2; omega⟩]
theorem jI_i (x : Int) : (jI x).toInt32 = iI x := by unfold jI iI; simp
-- ===== the one world: cells by number, what they hold by number and place =====
abbrev zS : Type := Int → Int → Int
def zU (σ : zS) (k j v : Int) : zS := fun a b => if a = k ∧ b = j then v else σ a b
theorem zU_same (σ : zS) (k j v : Int) : zU σ k j v k j = v := by simp [zU]
theorem zU_cell {σ : zS} {k j v a : Int} (h : a ≠ k) : zU σ k j v a = σ a := by funext b; simp [zU, h]
theorem zU_place {σ : zS} {k j v a b : Int} (h : b ≠ j) : zU σ k j v a b = σ a b := by simp [zU, h]
def zL : List Int := [0,1,2,3,4,5,6,7,8,9,10,11,12,13,14,15,16,17,18,19,20,21,22,23,24,32,33,34,35,36,37,38,39,40,41,42,43,48,49,50,51,52,53,54,55,56,57,58,59,64,65,66,67,68,69,70,71,72,73,74,75,100,101,102,103,104,105,106,107,108,109,110,111,112,113,114,115,116,117,118,119]
def zLen (k : Int) : Nat :=
  if k = 4 ∨ k = 110 then 110 else if k = 6 ∨ k = 7 ∨ k = 8 ∨ k = 9 ∨ k = 11 ∨ k = 12 ∨ k = 13 ∨ k = 14 then 24 else if k = 16 ∨ k = 17 ∨ k = 18 ∨ k = 19 then 25 else if k = 20 then 25 else if k = 21 ∨ k = 22 then 2100 else if k = 23 ∨ k = 24 then 21
  else if k = 34 ∨ k = 35 ∨ k = 50 ∨ k = 51 ∨ k = 66 ∨ k = 67 then 24 else if k < 100 then 6
  else if k = 101 ∨ k = 102 ∨ k = 103 ∨ k = 104 then 4 else if k = 105 then 24 else if k = 106 ∨ k = 107 ∨ k = 108 ∨ k = 109 then 6 else if k = 111 ∨ k = 112 ∨ k = 113 ∨ k = 114 then 24 else if k = 115 ∨ k = 116 then 2100 else if k = 117 then 25 else if k = 118 then 160 else 2
def zRid (k : Int) : Prop := (40 ≤ k ∧ k ≤ 43) ∨ (56 ≤ k ∧ k ≤ 59) ∨ (72 ≤ k ∧ k ≤ 75)
def zSet (k : Int) : Prop := k = 32 ∨ k = 48 ∨ k = 64
def zRdec (k : Int) : Decidable (zRid k) := by unfold zRid; infer_instance
def zRidB (k : Int) : Bool := (decide (40 ≤ k) && decide (k ≤ 43)) || (decide (56 ≤ k) && decide (k ≤ 59)) || (decide (72 ≤ k) && decide (k ≤ 75))
def zRefs (a : Int → Nat) (k : Int) : Nat → Option Nat := fun j => some (a (k + (j : Int)))
def zRefs16 (a : Int → Nat) (k : Int) : Nat → Option Nat := fun j => some (a (k + 16 * (j : Int)))
def sh (Y : Nat → ClassId) (a : Int → Nat) (k : Int) (s : Int → Int) : va_E :=
  if k = 0 then .inr (6, [.ref (a 32), .ref (a 1), .ref (a 2), .ref (a 3), .ref (a 5), .ref (a 10), .ref (a 15)])
  else if k = 1 then .inl (Y 3, 2, .inr (.inr (.inr (.inr (zRefs16 a 48)))))
  else if k = 2 ∨ k = 6 ∨ k = 119 then .inl (Y 1, (if k = 6 then 24 else 2), .inl (fun j => iI (s (j : Int))))
  else if k = 3 then .inr (0, [.ref (a 4), .int (iI (s 1))])
  else if k = 5 then .inr (1, [.ref (a 6), .ref (a 7), .ref (a 8), .ref (a 9)])
  else if k = 10 then .inr (2, [.ref (a 11), .ref (a 12), .ref (a 13), .ref (a 14), .int (iI (s 4)), .int (iI (s 5)), .int (iI (s 6)), .int (iI (s 7)), .int (iI (s 8))])
  else if k = 15 then .inr (4, [.int (iI (s 0)), .int (iI (s 1)), .ref (a 16), .ref (a 17), .ref (a 18), .ref (a 19), .int (iI (s 6)), .ref (a 20), .ref (a (s 8)), .ref (a (s 9)), .ref (a (s 10)), .ref (a (s 11)), .ref (a 32), .ref (a (s 13)), .ref (a (s 14))])
  else if k = 32 ∨ k = 48 ∨ k = 64 then .inr (5, [.ref (a (k + 1)), .ref (a (k + 2)), .ref (a (k + 3)), .ref (a (k + 4)), .ref (a (k + 5)), .ref (a (k + 6)), .ref (a (k + 7)), .int (iI (s 7)), .int (iI (s 8)), .int (iI (s 9)), .int (iI (s 10)), .int (iI (s 11)), .int (iI (s 12)), .int (iI (s 13))])
  else if k = 33 ∨ k = 49 ∨ k = 65 then .inl (Y 2, 4, .inr (.inr (.inr (.inr (zRefs a (k + 7))))))
  else if zRidB k = true then .inr (3, [.int (iI (s 0)), .int (iI (s 1)), .int (iI (s 2)), .int (iI (s 3)), .int (iI (s 4))])
  else if k = 100 then .inr (7, [.int (iI (s 0)), .ref (a 101), .ref (a 102), .ref (a 103), .ref (a 104), .int (iI (s 5)), .int (iI (s 6)), .int (iI (s 7)), .int (iI (s 8)), .int (iI (s 9)), .ref (a 105), .int (iI (s 11)), .ref (a 106), .ref (a 107), .ref (a 108), .ref (a 109), .int (iI (s 16)), .ref (a 110), .int (iI (s 18)), .ref (a 111), .ref (a 112), .ref (a 113), .ref (a 114), .int (iI (s 23)), .int (iI (s 24)), .int (iI (s 25)), .int (iI (s 26)), .int (iI (s 27)), .int (iI (s 28)), .int (iI (s 29)), .int (iI (s 30)), .ref (a 115), .ref (a 116), .ref (a 117), .ref (a 118), .ref (a 119), .int (iI (s 36)), .int (iI (s 37))])
  else .inl (Y 0, zLen k, .inl (fun j => iI (s (j : Int))))
def inA (a : Int → Nat) : Nat → Prop := fun q => ∃ k, k ∈ zL ∧ q = a k
def zI (a : Int → Nat) : Prop := ∀ i j : Int, i ∈ zL → j ∈ zL → a i = a j → i = j
def zW (Y : Nat → ClassId) (a : Int → Nat) (σ : zS) : va_W := zL.map (fun k => (a k, sh Y a k (σ k)))
def GP (D : va_G) (Y : Nat → ClassId) (a : Int → Nat) (σ : zS) (H : Heap) : Prop := va_P D vwCl (zW Y a σ) H
def zT (Y : Nat → ClassId) : List (ClassId × FieldType) := [(Y 0, .int), (Y 1, .boolean), (Y 2, .object "TandemRide$Rider"), (Y 3, .object "TandemRide$Setup")]
theorem zL_nodup : zL.Nodup := by decide +kernel
theorem zL_inj {q n : Nat} {k : Int} (h1 : zL[q]? = some k) (h2 : zL[n]? = some k) : q = n := by
  exact List.getElem?_inj (List.getElem?_eq_some_iff.mp h1).1 zL_nodup |>.mp (h1.trans h2.symm)
theorem zW_at {Y : Nat → ClassId} {a : Int → Nat} {σ : zS} {k : Int} (h : k ∈ zL) : ∃ q : Nat, zL[q]? = some k ∧ (zW Y a σ)[q]? = some (a k, sh Y a k (σ k)) := by
  obtain ⟨q, hq⟩ := List.getElem?_of_mem h
  exact ⟨q, hq, by unfold zW; rw [List.getElem?_map, hq]; rfl⟩
theorem zW_of {Y : Nat → ClassId} {a : Int → Nat} {σ : zS} {n : Nat} {p : Nat × va_E} (h : (zW Y a σ)[n]? = some p) : ∃ k, zL[n]? = some k ∧ p = (a k, sh Y a k (σ k)) := by
  unfold zW at h
  rw [List.getElem?_map] at h
  cases hk : zL[n]? with
  | none => rw [hk] at h; cases h
  | some k => rw [hk] at h; exact ⟨k, rfl, (Option.some.inj h).symm⟩
theorem zD {Y : Nat → ClassId} {a : Int → Nat} (hI : zI a) (σ : zS) : va_D (inA a) (zW Y a σ) := by
  refine ⟨fun i j p q hi hj e => ?_, fun n p hn => ?_⟩
  · obtain ⟨k, hk, rfl⟩ := zW_of hi
    obtain ⟨k2, hk2, rfl⟩ := zW_of hj
    have he := hI k k2 (List.mem_of_getElem? hk) (List.mem_of_getElem? hk2) e
    subst he
    exact zL_inj hk hk2
  · obtain ⟨k, hk, rfl⟩ := zW_of hn
    exact ⟨k, List.mem_of_getElem? hk, rfl⟩
theorem zW_set {Y : Nat → ClassId} {a : Int → Nat} {σ σ' : zS} {q : Nat} {k : Int} {e : va_E} (hq : zL[q]? = some k) (he : sh Y a k (σ' k) = e) (ho : ∀ j, j ≠ k → σ' j = σ j) : (zW Y a σ).set q (a k, e) = zW Y a σ' := by
  apply List.ext_getElem?
  intro n
  rw [List.getElem?_set]
  by_cases h : q = n
  · subst h
    have hl : q < (zW Y a σ).length := by unfold zW; rw [List.length_map]; exact (List.getElem?_eq_some_iff.mp hq).1
    rw [if_pos rfl, if_pos hl]
    unfold zW
    rw [List.getElem?_map, hq]
    show some (a k, e) = some (a k, sh Y a k (σ' k))
    rw [he]
  · rw [if_neg h]
    unfold zW
    rw [List.getElem?_map, List.getElem?_map]
    cases hk : zL[n]? with
    | none => rfl
    | some j =>
      have hj : j ≠ k := fun z => h (zL_inj hq (by rw [hk, z]))
      show some (a j, sh Y a j (σ j)) = some (a j, sh Y a j (σ' j))
      rw [ho j hj]
-- what the walk of a method stands on
def Cx (p : Program) (s : State) (m : MethodId) (args : Array Value) (c : Code) (cc : ByteArray) (own : String) (nL : Nat) (D : va_G) (Y : Nat → ClassId) (a : Int → Nat) : Prop :=
  p.tables.exec = Jvm.exec ∧ c.code = cc ∧ c.maxLocals = nL ∧ s.vm.findClass own = some m.cls ∧ (∀ w ∈ wsL_law, w.before args s = true) ∧ va_K D vwCl (zT Y) s ∧ zI a
def zPc (D : va_G) (Y : Nat → ClassId) (a : Int → Nat) (σ : zS) (av : List Value) : Array Value → State → Prop := va_Pc av (fun U => GP D Y a σ U.heap ∧ va_K D vwCl (zT Y) U)
def zSi (r : Int) : Array Value → State → Outcome → State → Prop := fun _ st o t => o = .returned (some (.int (iI r))) ∧ t.heap = st.heap
def zSl (r : Int) : Array Value → State → Outcome → State → Prop := fun _ st o t => o = .returned (some (.long (jI r))) ∧ t.heap = st.heap
def zSr (r : Nat) : Array Value → State → Outcome → State → Prop := fun _ st o t => o = .returned (some (.ref r)) ∧ t.heap = st.heap
def zQi (D : va_G) (Y : Nat → ClassId) (a : Int → Nat) (post : Int → zS → Prop) : Array Value → State → Outcome → State → Prop := fun _ st o t => (∃ (r : Int) (σ' : zS), o = .returned (some (.int (iI r))) ∧ post r σ' ∧ GP D Y a σ' t.heap) ∧ va_F (inA a) st t
def zQl (D : va_G) (Y : Nat → ClassId) (a : Int → Nat) (post : Int → zS → Prop) : Array Value → State → Outcome → State → Prop := fun _ st o t => (∃ (r : Int) (σ' : zS), o = .returned (some (.long (jI r))) ∧ post r σ' ∧ GP D Y a σ' t.heap) ∧ va_F (inA a) st t
def zQv (D : va_G) (Y : Nat → ClassId) (a : Int → Nat) (post : zS → Prop) : Array Value → State → Outcome → State → Prop := fun _ st o t => (∃ σ' : zS, o = .returned none ∧ post σ' ∧ GP D Y a σ' t.heap) ∧ va_F (inA a) st t
def zR (h : Nat) : Room := { frames := h, cells := 0, slots := 0, locals := 31 * h }
def zMet (l : Launch) (y : MethodName) (bytes : ByteArray) (maxL : Nat) (ret : Option FieldType) (h : Nat) (Pc : Array Value → State → Prop) (Qc : Array Value → State → Outcome → State → Prop) (free : Addr → Prop) : Prop := Met l y (.code y bytes maxL ret :: wsL_law) (zR h) Pc Qc 0 0 free
def zNo : Addr → Prop := fun _ => False
theorem zPc_blind {D : va_G} {Y : Nat → ClassId} {a : Int → Nat} {σ : zS} {av : List Value} : FrameBlind (zPc D Y a σ av) := fun b U g mk q => ⟨q.1, q.2.1, va_K.moved (u := U) (U := U.calling g mk b) (Vm.Alike.refl U.vm) q.2.2⟩
-- kinds of cells
def zIA (Y : Nat → ClassId) (a : Int → Nat) (k : Int) (n : Nat) : Prop := k ∈ zL ∧ n < 2147483648 ∧ ∀ s, sh Y a k s = .inl (Y 0, n, .inl (fun j => iI (s (j : Int))))
def zZA (Y : Nat → ClassId) (a : Int → Nat) (k : Int) (n : Nat) : Prop := k ∈ zL ∧ n < 2147483648 ∧ ∀ s, sh Y a k s = .inl (Y 1, n, .inl (fun j => iI (s (j : Int))))
def zOb (Y : Nat → ClassId) (a : Int → Nat) (k : Int) (ci : Nat) : Prop := k ∈ zL ∧ ∀ s, ∃ fs, sh Y a k s = .inr (ci, fs)
theorem gA : GoodIn wsL_law wsL_law := goodIn_sub (fun _ h => h) (by decide +kernel)
theorem gA1 {c1 : Cond} {ws : List Cond} (h1 : c1 ∈ wsL_law) (h : GoodIn wsL_law ws) : GoodIn wsL_law (c1 :: ws) := fun w hw => (List.mem_cons.mp hw).elim (fun e => by rw [e]; exact gA c1 h1) (h w)
end
section
theorem iI_ne0 {y : Int} (h0 : 0 < y) (h : y < 2147483648) : ¬ iI y = 0 := fun z => by
  have h1 : iI y = iI 0 := z
  rw [iI_inj ⟨by omega, h⟩ ⟨by omega, by omega⟩] at h1
  omega
theorem jI_ne0 {y : Int} (h0 : 0 < y) (h : y < 9223372036854775808) : ¬ jI y = 0 := fun z => by
  have h1 : jI y = jI 0 := z
  rw [jI_inj ⟨by omega, h⟩ ⟨by omega, by omega⟩] at h1
  omega
theorem zR3_0 : R3 0 := ⟨by omega, by omega⟩
theorem iI_max {x y : Int} (hx : R3 x) (hy : R3 y) : (if iI x < iI y then iI y else iI x) = iI (max x y) := by
  by_cases h : x < y
  · rw [if_pos ((iI_lt hx hy).mpr h), Int.max_eq_right (by omega)]
  · rw [if_neg (fun z => h ((iI_lt hx hy).mp z)), Int.max_eq_left (by omega)]
theorem iI_min {x y : Int} (hx : R3 x) (hy : R3 y) : (if iI y < iI x then iI y else iI x) = iI (min x y) := by
  by_cases h : y < x
  · rw [if_pos ((iI_lt hy hx).mpr h), Int.min_eq_right (by omega)]
  · rw [if_neg (fun z => h ((iI_lt hy hx).mp z)), Int.min_eq_left (by omega)]
theorem iI_abs {x : Int} (hx : -2147483648 < x ∧ x < 2147483648) : (if 0 ≤ iI x then iI x else 0 - iI x) = iI (if 0 ≤ x then x else -x) := by
  have e : (0 : Int32) = iI 0 := rfl
  by_cases h : 0 ≤ x
  · rw [if_pos h, if_pos (by rw [e]; exact (iI_le zR3_0 ⟨by omega, hx.2⟩).mpr h)]
  · rw [if_neg h, if_neg (by rw [e]; exact fun z => h ((iI_le zR3_0 ⟨by omega, hx.2⟩).mp z)), e, iI_sub]
    congr 1
    omega
theorem z_upd (σ : zS) (k0 : Int) {i : Int} (h0 : 0 ≤ i) (h1 : i < 2147483648) (x : Int) : upd (fun j : Nat => iI (σ k0 (j : Int))) (iI i).toNatClampNeg (iI x) = fun j : Nat => iI (zU σ k0 i x k0 (j : Int)) := by
  funext j
  rw [iI_cl h0 h1]
  unfold upd zU
  by_cases h : j = i.toNat
  · rw [if_pos h, if_pos ⟨rfl, by omega⟩]
  · rw [if_neg h, if_neg (fun z => h (by omega))]
theorem zwMathI : Cond.initialized "java/lang/Math" ∈ wsL_law := wd_307
theorem zwMaxS : Cond.static Lib.Math.max.name ∈ wsL_law := wd_310
theorem zwMaxC : Cond.code Lib.Math.max.name Lib.Math.max.code 2 (some .int) ∈ wsL_law := wd_311
theorem zwMinS : Cond.static Lib.Math.min.name ∈ wsL_law := wd_306
theorem zwMinC : Cond.code Lib.Math.min.name Lib.Math.min.code 2 (some .int) ∈ wsL_law := wd_308
theorem zwAbsS : Cond.static Lib.Math.abs.name ∈ wsL_law := wd_328
theorem zwAbsC : Cond.code Lib.Math.abs.name Lib.Math.abs.code 1 (some .int) ∈ wsL_law := wd_329
section ZROWS
variable {p : Program} {l : Launch} {e : Env} {R : Room} {s : State} {m : MethodId} {args : Array Value} {below : List Frame} {meth : Method} {c : Code} {H : Heap} {locs : List Loc} {cells slots : Nat} {Q : State → Prop} {cc : ByteArray} {pc : Nat} {ls : Array Slot} {rest : List Value} {own : String} {nL : Nat} {D : va_G} {Y : Nat → ClassId} {a : Int → Nat}
theorem z_iconst (C : Cx p s m args c cc own nL D Y a) {n : Int} (hdg : decode cc pc = .ok (.iconst n, 1)) (k : W p l e R s m args below meth c H locs cells slots Q (F0 m (pc + 1) ls (.int (iI n) :: rest))) : W p l e R s m args below meth c H locs cells slots Q (F0 m pc ls rest) := lv_iconst C.1 C.2.1 hdg rfl k
theorem z_bipush (C : Cx p s m args c cc own nL D Y a) {n : Int} (hv : (Int8.ofInt n).toInt32 = iI n) (hdg : decode cc pc = .ok (.bipush n, 2)) (k : W p l e R s m args below meth c H locs cells slots Q (F0 m (pc + 2) ls (.int (iI n) :: rest))) : W p l e R s m args below meth c H locs cells slots Q (F0 m pc ls rest) := lv_bipush C.1 C.2.1 hdg hv k
theorem z_sipush (C : Cx p s m args c cc own nL D Y a) {n : Int} (hv : (Int16.ofInt n).toInt32 = iI n) (hdg : decode cc pc = .ok (.sipush n, 3)) (k : W p l e R s m args below meth c H locs cells slots Q (F0 m (pc + 3) ls (.int (iI n) :: rest))) : W p l e R s m args below meth c H locs cells slots Q (F0 m pc ls rest) := lv_sipush C.1 C.2.1 hdg hv k
theorem z_lconst (C : Cx p s m args c cc own nL D Y a) {n : Fin 2} {z : Int} (hv : Int64.ofNat (n : Nat) = jI z) (hdg : decode cc pc = .ok (.lconst n, 1)) (k : W p l e R s m args below meth c H locs cells slots Q (F0 m (pc + 1) ls (.long (jI z) :: rest))) : W p l e R s m args below meth c H locs cells slots Q (F0 m pc ls rest) := lv_lconst C.1 C.2.1 hdg hv k
theorem z_ldc (C : Cx p s m args c cc own nL D Y a) {ix : Nat} {v : Int32} {z : Int} (hw : Cond.constant own ix v ∈ wsL_law) (hv : v = iI z) (hdg : decode cc pc = .ok (.ldc ix, 2)) (k : W p l e R s m args below meth c H locs cells slots Q (F0 m (pc + 2) ls (.int (iI z) :: rest))) : W p l e R s m args below meth c H locs cells slots Q (F0 m pc ls rest) := lv_ldc C.1 C.2.1 C.2.2.2.1 (by rw [← hv]; exact C.2.2.2.2.1 _ hw) hdg k
theorem z_ldc2 (C : Cx p s m args c cc own nL D Y a) {ix : Nat} {v : Int64} {z : Int} (hw : Cond.constantLong own ix v ∈ wsL_law) (hv : v = jI z) (hdg : decode cc pc = .ok (.ldc2_w ix, 3)) (k : W p l e R s m args below meth c H locs cells slots Q (F0 m (pc + 3) ls (.long (jI z) :: rest))) : W p l e R s m args below meth c H locs cells slots Q (F0 m pc ls rest) := lv_ldc2 C.1 C.2.1 C.2.2.2.1 (by rw [← hv]; exact C.2.2.2.2.1 _ hw) hdg k
theorem z_iload_n (C : Cx p s m args c cc own nL D Y a) {f : Fin 4} {x : Int} {lv : List (Nat × Value)} (hl : lv_has ls nL lv) (q : Nat) (hq : lv[q]? = some ((f : Nat), .int (iI x))) (hdg : decode cc pc = .ok (.iload_n f, 1)) (k : W p l e R s m args below meth c H locs cells slots Q (F0 m (pc + 1) ls (.int (iI x) :: rest))) : W p l e R s m args below meth c H locs cells slots Q (F0 m pc ls rest) := lv_iload_n C.1 C.2.1 hdg rfl (lv_at hl q hq) k
theorem z_iload (C : Cx p s m args c cc own nL D Y a) {f : Nat} {x : Int} {lv : List (Nat × Value)} (hl : lv_has ls nL lv) (q : Nat) (hq : lv[q]? = some (f, .int (iI x))) (hdg : decode cc pc = .ok (.iload f, 2)) (k : W p l e R s m args below meth c H locs cells slots Q (F0 m (pc + 2) ls (.int (iI x) :: rest))) : W p l e R s m args below meth c H locs cells slots Q (F0 m pc ls rest) := lv_iload C.1 C.2.1 hdg (lv_at hl q hq) k
theorem z_lload_n (C : Cx p s m args c cc own nL D Y a) {f : Fin 4} {x : Int} {lv : List (Nat × Value)} (hl : lv_has ls nL lv) (q : Nat) (hq : lv[q]? = some ((f : Nat), .long (jI x))) (hdg : decode cc pc = .ok (.lload_n f, 1)) (k : W p l e R s m args below meth c H locs cells slots Q (F0 m (pc + 1) ls (.long (jI x) :: rest))) : W p l e R s m args below meth c H locs cells slots Q (F0 m pc ls rest) := lv_lload_n C.1 C.2.1 hdg rfl (lv_at hl q hq) k
theorem z_lload (C : Cx p s m args c cc own nL D Y a) {f : Nat} {x : Int} {lv : List (Nat × Value)} (hl : lv_has ls nL lv) (q : Nat) (hq : lv[q]? = some (f, .long (jI x))) (hdg : decode cc pc = .ok (.lload f, 2)) (k : W p l e R s m args below meth c H locs cells slots Q (F0 m (pc + 2) ls (.long (jI x) :: rest))) : W p l e R s m args below meth c H locs cells slots Q (F0 m pc ls rest) := lv_lload C.1 C.2.1 hdg (lv_at hl q hq) k
theorem z_aload_n (C : Cx p s m args c cc own nL D Y a) {f : Fin 4} {x : Nat} {lv : List (Nat × Value)} (hl : lv_has ls nL lv) (q : Nat) (hq : lv[q]? = some ((f : Nat), .ref x)) (hdg : decode cc pc = .ok (.aload_n f, 1)) (k : W p l e R s m args below meth c H locs cells slots Q (F0 m (pc + 1) ls (.ref x :: rest))) : W p l e R s m args below meth c H locs cells slots Q (F0 m pc ls rest) := lv_aload_n C.1 C.2.1 hdg rfl (lv_at hl q hq) k
theorem z_aload (C : Cx p s m args c cc own nL D Y a) {f : Nat} {x : Nat} {lv : List (Nat × Value)} (hl : lv_has ls nL lv) (q : Nat) (hq : lv[q]? = some (f, .ref x)) (hdg : decode cc pc = .ok (.aload f, 2)) (k : W p l e R s m args below meth c H locs cells slots Q (F0 m (pc + 2) ls (.ref x :: rest))) : W p l e R s m args below meth c H locs cells slots Q (F0 m pc ls rest) := lv_aload C.1 C.2.1 hdg (lv_at hl q hq) k
theorem z_istore_n (C : Cx p s m args c cc own nL D Y a) {f : Fin 4} {x : Int} {lv : List (Nat × Value)} (ps : List Nat) (lv' : List (Nat × Value)) (hl : lv_has ls nL lv) (hn : (f : Nat) < nL) (he : lv_pick (((f : Nat), Value.int (iI x)) :: lv.filter (fun q => !(q.1 == (f : Nat)) && !(q.1 + 1 == (f : Nat) && q.2.category == 2))) ps = lv') (hdg : decode cc pc = .ok (.istore_n f, 1)) (k : ∀ ls', lv_has ls' nL lv' → W p l e R s m args below meth c H locs cells slots Q (F0 m (pc + 1) ls' rest)) : W p l e R s m args below meth c H locs cells slots Q (F0 m pc ls (.int (iI x) :: rest)) := lv_istore_n C.1 C.2.1 hdg rfl hl hn rfl (fun ls' h => k ls' (lv_sub h ps he))
theorem z_istore (C : Cx p s m args c cc own nL D Y a) {f : Nat} {x : Int} {lv : List (Nat × Value)} (ps : List Nat) (lv' : List (Nat × Value)) (hl : lv_has ls nL lv) (hn : (f : Nat) < nL) (he : lv_pick (((f : Nat), Value.int (iI x)) :: lv.filter (fun q => !(q.1 == (f : Nat)) && !(q.1 + 1 == (f : Nat) && q.2.category == 2))) ps = lv') (hdg : decode cc pc = .ok (.istore f, 2)) (k : ∀ ls', lv_has ls' nL lv' → W p l e R s m args below meth c H locs cells slots Q (F0 m (pc + 2) ls' rest)) : W p l e R s m args below meth c H locs cells slots Q (F0 m pc ls (.int (iI x) :: rest)) := lv_istore C.1 C.2.1 hdg hl hn rfl (fun ls' h => k ls' (lv_sub h ps he))
theorem z_astore_n (C : Cx p s m args c cc own nL D Y a) {f : Fin 4} {x : Nat} {lv : List (Nat × Value)} (ps : List Nat) (lv' : List (Nat × Value)) (hl : lv_has ls nL lv) (hn : (f : Nat) < nL) (he : lv_pick (((f : Nat), Value.ref x) :: lv.filter (fun q => !(q.1 == (f : Nat)) && !(q.1 + 1 == (f : Nat) && q.2.category == 2))) ps = lv') (hdg : decode cc pc = .ok (.astore_n f, 1)) (k : ∀ ls', lv_has ls' nL lv' → W p l e R s m args below meth c H locs cells slots Q (F0 m (pc + 1) ls' rest)) : W p l e R s m args below meth c H locs cells slots Q (F0 m pc ls (.ref x :: rest)) := lv_astore_n C.1 C.2.1 hdg rfl hl hn rfl (fun ls' h => k ls' (lv_sub h ps he))
theorem z_astore (C : Cx p s m args c cc own nL D Y a) {f : Nat} {x : Nat} {lv : List (Nat × Value)} (ps : List Nat) (lv' : List (Nat × Value)) (hl : lv_has ls nL lv) (hn : (f : Nat) < nL) (he : lv_pick (((f : Nat), Value.ref x) :: lv.filter (fun q => !(q.1 == (f : Nat)) && !(q.1 + 1 == (f : Nat) && q.2.category == 2))) ps = lv') (hdg : decode cc pc = .ok (.astore f, 2)) (k : ∀ ls', lv_has ls' nL lv' → W p l e R s m args below meth c H locs cells slots Q (F0 m (pc + 2) ls' rest)) : W p l e R s m args below meth c H locs cells slots Q (F0 m pc ls (.ref x :: rest)) := lv_astore C.1 C.2.1 hdg hl hn rfl (fun ls' h => k ls' (lv_sub h ps he))
theorem z_lstore_n (C : Cx p s m args c cc own nL D Y a) {f : Fin 4} {x : Int} {lv : List (Nat × Value)} (ps : List Nat) (lv' : List (Nat × Value)) (hl : lv_has ls nL lv) (hn : (f : Nat) + 1 < nL) (he : lv_pick (((f : Nat), Value.long (jI x)) :: lv.filter (fun q => !(q.1 == (f : Nat)) && (!(q.1 == (f : Nat) + 1) && !(q.1 + 1 == (f : Nat) && q.2.category == 2)))) ps = lv') (hdg : decode cc pc = .ok (.lstore_n f, 1)) (k : ∀ ls', lv_has ls' nL lv' → W p l e R s m args below meth c H locs cells slots Q (F0 m (pc + 1) ls' rest)) : W p l e R s m args below meth c H locs cells slots Q (F0 m pc ls (.long (jI x) :: rest)) := lv_lstore_n C.1 C.2.1 hdg rfl hl hn rfl (fun ls' h => k ls' (lv_sub h ps he))
theorem z_lstore (C : Cx p s m args c cc own nL D Y a) {f : Nat} {x : Int} {lv : List (Nat × Value)} (ps : List Nat) (lv' : List (Nat × Value)) (hl : lv_has ls nL lv) (hn : (f : Nat) + 1 < nL) (he : lv_pick (((f : Nat), Value.long (jI x)) :: lv.filter (fun q => !(q.1 == (f : Nat)) && (!(q.1 == (f : Nat) + 1) && !(q.1 + 1 == (f : Nat) && q.2.category == 2)))) ps = lv') (hdg : decode cc pc = .ok (.lstore f, 2)) (k : ∀ ls', lv_has ls' nL lv' → W p l e R s m args below meth c H locs cells slots Q (F0 m (pc + 2) ls' rest)) : W p l e R s m args below meth c H locs cells slots Q (F0 m pc ls (.long (jI x) :: rest)) := lv_lstore C.1 C.2.1 hdg hl hn rfl (fun ls' h => k ls' (lv_sub h ps he))
theorem z_iinc (C : Cx p s m args c cc own nL D Y a) {f : Nat} {n x : Int} {lv : List (Nat × Value)} (q : Nat) (ps : List Nat) (lv' : List (Nat × Value)) (hl : lv_has ls nL lv) (hq : lv[q]? = some (f, .int (iI x))) (hn : f < nL) (he : lv_pick ((f, Value.int (iI (x + n))) :: lv.filter (fun q => !(q.1 == f) && !(q.1 + 1 == f && q.2.category == 2))) ps = lv') (hdg : decode cc pc = .ok (.iinc f n, 3)) (k : ∀ ls', lv_has ls' nL lv' → W p l e R s m args below meth c H locs cells slots Q (F0 m (pc + 3) ls' rest)) : W p l e R s m args below meth c H locs cells slots Q (F0 m pc ls rest) := lv_iinc C.1 C.2.1 hdg hl hq (iI_add x n) hn rfl (fun ls' h => k ls' (lv_sub h ps he))
theorem z_iadd (C : Cx p s m args c cc own nL D Y a) {x y : Int} (hdg : decode cc pc = .ok (.iadd, 1)) (k : W p l e R s m args below meth c H locs cells slots Q (F0 m (pc + 1) ls (.int (iI (x + y)) :: rest))) : W p l e R s m args below meth c H locs cells slots Q (F0 m pc ls (.int (iI y) :: .int (iI x) :: rest)) := lv_iadd C.1 C.2.1 hdg (by rw [iI_add]; exact k)
theorem z_ladd (C : Cx p s m args c cc own nL D Y a) {x y : Int} (hdg : decode cc pc = .ok (.ladd, 1)) (k : W p l e R s m args below meth c H locs cells slots Q (F0 m (pc + 1) ls (.long (jI (x + y)) :: rest))) : W p l e R s m args below meth c H locs cells slots Q (F0 m pc ls (.long (jI y) :: .long (jI x) :: rest)) := lv_ladd C.1 C.2.1 hdg (by rw [jI_add]; exact k)
theorem z_isub (C : Cx p s m args c cc own nL D Y a) {x y : Int} (hdg : decode cc pc = .ok (.isub, 1)) (k : W p l e R s m args below meth c H locs cells slots Q (F0 m (pc + 1) ls (.int (iI (x - y)) :: rest))) : W p l e R s m args below meth c H locs cells slots Q (F0 m pc ls (.int (iI y) :: .int (iI x) :: rest)) := lv_isub C.1 C.2.1 hdg (by rw [iI_sub]; exact k)
theorem z_lsub (C : Cx p s m args c cc own nL D Y a) {x y : Int} (hdg : decode cc pc = .ok (.lsub, 1)) (k : W p l e R s m args below meth c H locs cells slots Q (F0 m (pc + 1) ls (.long (jI (x - y)) :: rest))) : W p l e R s m args below meth c H locs cells slots Q (F0 m pc ls (.long (jI y) :: .long (jI x) :: rest)) := lv_lsub C.1 C.2.1 hdg (by rw [jI_sub]; exact k)
theorem z_imul (C : Cx p s m args c cc own nL D Y a) {x y : Int} (hdg : decode cc pc = .ok (.imul, 1)) (k : W p l e R s m args below meth c H locs cells slots Q (F0 m (pc + 1) ls (.int (iI (x * y)) :: rest))) : W p l e R s m args below meth c H locs cells slots Q (F0 m pc ls (.int (iI y) :: .int (iI x) :: rest)) := lv_imul C.1 C.2.1 hdg (by rw [iI_mul]; exact k)
theorem z_lmul (C : Cx p s m args c cc own nL D Y a) {x y : Int} (hdg : decode cc pc = .ok (.lmul, 1)) (k : W p l e R s m args below meth c H locs cells slots Q (F0 m (pc + 1) ls (.long (jI (x * y)) :: rest))) : W p l e R s m args below meth c H locs cells slots Q (F0 m pc ls (.long (jI y) :: .long (jI x) :: rest)) := lv_lmul C.1 C.2.1 hdg (by rw [jI_mul]; exact k)
theorem z_ineg (C : Cx p s m args c cc own nL D Y a) {x : Int} (hdg : decode cc pc = .ok (.ineg, 1)) (k : W p l e R s m args below meth c H locs cells slots Q (F0 m (pc + 1) ls (.int (iI (-x)) :: rest))) : W p l e R s m args below meth c H locs cells slots Q (F0 m pc ls (.int (iI x) :: rest)) := lv_ineg C.1 C.2.1 hdg (by rw [iI_neg]; exact k)
theorem z_idiv (C : Cx p s m args c cc own nL D Y a) {x y : Int} (h : 0 ≤ x ∧ x < 2147483648 ∧ 0 < y ∧ y < 2147483648) (hdg : decode cc pc = .ok (.idiv, 1)) (k : W p l e R s m args below meth c H locs cells slots Q (F0 m (pc + 1) ls (.int (iI (x / y)) :: rest))) : W p l e R s m args below meth c H locs cells slots Q (F0 m pc ls (.int (iI y) :: .int (iI x) :: rest)) := lv_idiv C.1 C.2.1 hdg (iI_ne0 (by omega) (by omega)) (by rw [iI_div h.1 h.2.1 h.2.2.1 h.2.2.2]; exact k)
theorem z_irem (C : Cx p s m args c cc own nL D Y a) {x y : Int} (h : 0 ≤ x ∧ x < 2147483648 ∧ 0 < y ∧ y < 2147483648) (hdg : decode cc pc = .ok (.irem, 1)) (k : W p l e R s m args below meth c H locs cells slots Q (F0 m (pc + 1) ls (.int (iI (x % y)) :: rest))) : W p l e R s m args below meth c H locs cells slots Q (F0 m pc ls (.int (iI y) :: .int (iI x) :: rest)) := lv_irem C.1 C.2.1 hdg (iI_ne0 (by omega) (by omega)) (by rw [iI_rem h.1 h.2.1 h.2.2.1 h.2.2.2]; exact k)
theorem z_ldiv (C : Cx p s m args c cc own nL D Y a) {x y : Int} (h : 0 ≤ x ∧ x < 9223372036854775808 ∧ 0 < y ∧ y < 9223372036854775808) (hdg : decode cc pc = .ok (.ldiv, 1)) (k : W p l e R s m args below meth c H locs cells slots Q (F0 m (pc + 1) ls (.long (jI (x / y)) :: rest))) : W p l e R s m args below meth c H locs cells slots Q (F0 m pc ls (.long (jI y) :: .long (jI x) :: rest)) := lv_ldiv C.1 C.2.1 hdg (jI_ne0 (by omega) (by omega)) (by rw [jI_div h.1 h.2.1 h.2.2.1 h.2.2.2]; exact k)
theorem z_lrem (C : Cx p s m args c cc own nL D Y a) {x y : Int} (h : 0 ≤ x ∧ x < 9223372036854775808 ∧ 0 < y ∧ y < 9223372036854775808) (hdg : decode cc pc = .ok (.lrem, 1)) (k : W p l e R s m args below meth c H locs cells slots Q (F0 m (pc + 1) ls (.long (jI (x % y)) :: rest))) : W p l e R s m args below meth c H locs cells slots Q (F0 m pc ls (.long (jI y) :: .long (jI x) :: rest)) := lv_lrem C.1 C.2.1 hdg (jI_ne0 (by omega) (by omega)) (by rw [jI_rem h.1 h.2.1 h.2.2.1 h.2.2.2]; exact k)
theorem z_i2l (C : Cx p s m args c cc own nL D Y a) {x : Int} (h : R3 x) (hdg : decode cc pc = .ok (.i2l, 1)) (k : W p l e R s m args below meth c H locs cells slots Q (F0 m (pc + 1) ls (.long (jI x) :: rest))) : W p l e R s m args below meth c H locs cells slots Q (F0 m pc ls (.int (iI x) :: rest)) := lv_i2l C.1 C.2.1 hdg (iI_j h) k
theorem z_l2i (C : Cx p s m args c cc own nL D Y a) {x : Int} (hdg : decode cc pc = .ok (.l2i, 1)) (k : W p l e R s m args below meth c H locs cells slots Q (F0 m (pc + 1) ls (.int (iI x) :: rest))) : W p l e R s m args below meth c H locs cells slots Q (F0 m pc ls (.long (jI x) :: rest)) := lv_l2i C.1 C.2.1 hdg (jI_i x) k
theorem z_iand (C : Cx p s m args c cc own nL D Y a) {x y : Int} (z : Int) (hz : iI x &&& iI y = iI z) (hdg : decode cc pc = .ok (.iand, 1)) (k : W p l e R s m args below meth c H locs cells slots Q (F0 m (pc + 1) ls (.int (iI z) :: rest))) : W p l e R s m args below meth c H locs cells slots Q (F0 m pc ls (.int (iI y) :: .int (iI x) :: rest)) := lv_iand C.1 C.2.1 hdg (by rw [hz]; exact k)
theorem z_ior (C : Cx p s m args c cc own nL D Y a) {x y : Int} (z : Int) (hz : iI x ||| iI y = iI z) (hdg : decode cc pc = .ok (.ior, 1)) (k : W p l e R s m args below meth c H locs cells slots Q (F0 m (pc + 1) ls (.int (iI z) :: rest))) : W p l e R s m args below meth c H locs cells slots Q (F0 m pc ls (.int (iI y) :: .int (iI x) :: rest)) := lv_ior C.1 C.2.1 hdg (by rw [hz]; exact k)
theorem z_ixor (C : Cx p s m args c cc own nL D Y a) {x y : Int} (z : Int) (hz : iI x ^^^ iI y = iI z) (hdg : decode cc pc = .ok (.ixor, 1)) (k : W p l e R s m args below meth c H locs cells slots Q (F0 m (pc + 1) ls (.int (iI z) :: rest))) : W p l e R s m args below meth c H locs cells slots Q (F0 m pc ls (.int (iI y) :: .int (iI x) :: rest)) := lv_ixor C.1 C.2.1 hdg (by rw [hz]; exact k)
theorem z_ishl (C : Cx p s m args c cc own nL D Y a) {x y : Int} (z : Int) (hz : iI x <<< (iI y &&& 31) = iI z) (hdg : decode cc pc = .ok (.ishl, 1)) (k : W p l e R s m args below meth c H locs cells slots Q (F0 m (pc + 1) ls (.int (iI z) :: rest))) : W p l e R s m args below meth c H locs cells slots Q (F0 m pc ls (.int (iI y) :: .int (iI x) :: rest)) := lv_ishl C.1 C.2.1 hdg (by rw [hz]; exact k)
theorem z_ishr (C : Cx p s m args c cc own nL D Y a) {x y : Int} (z : Int) (hz : iI x >>> (iI y &&& 31) = iI z) (hdg : decode cc pc = .ok (.ishr, 1)) (k : W p l e R s m args below meth c H locs cells slots Q (F0 m (pc + 1) ls (.int (iI z) :: rest))) : W p l e R s m args below meth c H locs cells slots Q (F0 m pc ls (.int (iI y) :: .int (iI x) :: rest)) := lv_ishr C.1 C.2.1 hdg (by rw [hz]; exact k)
theorem z_dup (C : Cx p s m args c cc own nL D Y a) {v : Value} (hv : v.category = 1) (hdg : decode cc pc = .ok (.dup, 1)) (k : W p l e R s m args below meth c H locs cells slots Q (F0 m (pc + 1) ls (v :: v :: rest))) : W p l e R s m args below meth c H locs cells slots Q (F0 m pc ls (v :: rest)) := lv_dup C.1 C.2.1 hdg hv k
theorem z_pop (C : Cx p s m args c cc own nL D Y a) {v : Value} (hv : v.category = 1) (hdg : decode cc pc = .ok (.pop, 1)) (k : W p l e R s m args below meth c H locs cells slots Q (F0 m (pc + 1) ls rest)) : W p l e R s m args below meth c H locs cells slots Q (F0 m pc ls (v :: rest)) := lv_pop C.1 C.2.1 hdg hv k
theorem z_dup_x1 (C : Cx p s m args c cc own nL D Y a) {v w : Value} (hv : v.category = 1) (hw : w.category = 1) (hdg : decode cc pc = .ok (.dup_x1, 1)) (k : W p l e R s m args below meth c H locs cells slots Q (F0 m (pc + 1) ls (v :: w :: v :: rest))) : W p l e R s m args below meth c H locs cells slots Q (F0 m pc ls (v :: w :: rest)) := lv_dup_x1 C.1 C.2.1 hdg hv hw k
theorem z_dup2 (C : Cx p s m args c cc own nL D Y a) {v w : Value} (hv : v.category = 1) (hw : w.category = 1) (hdg : decode cc pc = .ok (.dup2, 1)) (k : W p l e R s m args below meth c H locs cells slots Q (F0 m (pc + 1) ls (v :: w :: v :: w :: rest))) : W p l e R s m args below meth c H locs cells slots Q (F0 m pc ls (v :: w :: rest)) := lv_dup2_11 C.1 C.2.1 hdg hv hw k
theorem z_nm {Z : Int → Prop} (x : Int) (k : ∀ y : Int, y = x → Z y) : Z x := k x rfl
theorem z_goto (C : Cx p s m args c cc own nL D Y a) {off : Int} (tgt : Nat) (hdg : decode cc pc = .ok (.goto off, 3)) (ht : (pc : Int) + off = (tgt : Int)) (k : W p l e R s m args below meth c H locs cells slots Q (F0 m tgt ls rest)) : W p l e R s m args below meth c H locs cells slots Q (F0 m pc ls rest) := lv_goto C.1 C.2.1 hdg ht k
theorem z_icmp_eq (C : Cx p s m args c cc own nL D Y a) {x y : Int} {off : Int} (tgt : Nat) (hdg : decode cc pc = .ok (.if_icmp .eq off, 3)) (ht : (pc : Int) + off = (tgt : Int)) (hx : R3 x) (hy : R3 y) (kt : x = y → W p l e R s m args below meth c H locs cells slots Q (F0 m tgt ls rest)) (kf : ¬ (x = y) → W p l e R s m args below meth c H locs cells slots Q (F0 m (pc + 3) ls rest)) : W p l e R s m args below meth c H locs cells slots Q (F0 m pc ls (.int (iI y) :: .int (iI x) :: rest)) := lv_icmp_eq C.1 C.2.1 hdg ht (kt ∘ (iI_inj hx hy).mp) (fun h => kf (fun z => h ((iI_inj hx hy).mpr z)))
theorem z_if_eq (C : Cx p s m args c cc own nL D Y a) {x : Int} {off : Int} (tgt : Nat) (hdg : decode cc pc = .ok (.ifCond .eq off, 3)) (ht : (pc : Int) + off = (tgt : Int)) (hx : R3 x) (kt : x = 0 → W p l e R s m args below meth c H locs cells slots Q (F0 m tgt ls rest)) (kf : ¬ (x = 0) → W p l e R s m args below meth c H locs cells slots Q (F0 m (pc + 3) ls rest)) : W p l e R s m args below meth c H locs cells slots Q (F0 m pc ls (.int (iI x) :: rest)) := lv_if_eq C.1 C.2.1 hdg ht (kt ∘ (iI_inj hx zR3_0).mp) (fun h => kf (fun z => h ((iI_inj hx zR3_0).mpr z)))
theorem z_icmp_ne (C : Cx p s m args c cc own nL D Y a) {x y : Int} {off : Int} (tgt : Nat) (hdg : decode cc pc = .ok (.if_icmp .ne off, 3)) (ht : (pc : Int) + off = (tgt : Int)) (hx : R3 x) (hy : R3 y) (kt : ¬ x = y → W p l e R s m args below meth c H locs cells slots Q (F0 m tgt ls rest)) (kf : x = y → W p l e R s m args below meth c H locs cells slots Q (F0 m (pc + 3) ls rest)) : W p l e R s m args below meth c H locs cells slots Q (F0 m pc ls (.int (iI y) :: .int (iI x) :: rest)) := lv_icmp_ne C.1 C.2.1 hdg ht (fun h => kt (fun z => h ((iI_inj hx hy).mpr z))) (fun h => kf ((iI_inj hx hy).mp h))
theorem z_if_ne (C : Cx p s m args c cc own nL D Y a) {x : Int} {off : Int} (tgt : Nat) (hdg : decode cc pc = .ok (.ifCond .ne off, 3)) (ht : (pc : Int) + off = (tgt : Int)) (hx : R3 x) (kt : ¬ x = 0 → W p l e R s m args below meth c H locs cells slots Q (F0 m tgt ls rest)) (kf : x = 0 → W p l e R s m args below meth c H locs cells slots Q (F0 m (pc + 3) ls rest)) : W p l e R s m args below meth c H locs cells slots Q (F0 m pc ls (.int (iI x) :: rest)) := lv_if_ne C.1 C.2.1 hdg ht (fun h => kt (fun z => h ((iI_inj hx zR3_0).mpr z))) (fun h => kf ((iI_inj hx zR3_0).mp h))
theorem z_icmp_lt (C : Cx p s m args c cc own nL D Y a) {x y : Int} {off : Int} (tgt : Nat) (hdg : decode cc pc = .ok (.if_icmp .lt off, 3)) (ht : (pc : Int) + off = (tgt : Int)) (hx : R3 x) (hy : R3 y) (kt : x < y → W p l e R s m args below meth c H locs cells slots Q (F0 m tgt ls rest)) (kf : ¬ (x < y) → W p l e R s m args below meth c H locs cells slots Q (F0 m (pc + 3) ls rest)) : W p l e R s m args below meth c H locs cells slots Q (F0 m pc ls (.int (iI y) :: .int (iI x) :: rest)) := lv_icmp_lt C.1 C.2.1 hdg ht (fun h => kt ((iI_lt hx hy).mp h)) (fun h => kf (fun z => h ((iI_lt hx hy).mpr z)))
theorem z_if_lt (C : Cx p s m args c cc own nL D Y a) {x : Int} {off : Int} (tgt : Nat) (hdg : decode cc pc = .ok (.ifCond .lt off, 3)) (ht : (pc : Int) + off = (tgt : Int)) (hx : R3 x) (kt : x < 0 → W p l e R s m args below meth c H locs cells slots Q (F0 m tgt ls rest)) (kf : ¬ (x < 0) → W p l e R s m args below meth c H locs cells slots Q (F0 m (pc + 3) ls rest)) : W p l e R s m args below meth c H locs cells slots Q (F0 m pc ls (.int (iI x) :: rest)) := lv_if_lt C.1 C.2.1 hdg ht (fun h => kt ((iI_lt hx zR3_0).mp h)) (fun h => kf (fun z => h ((iI_lt hx zR3_0).mpr z)))
theorem z_icmp_ge (C : Cx p s m args c cc own nL D Y a) {x y : Int} {off : Int} (tgt : Nat) (hdg : decode cc pc = .ok (.if_icmp .ge off, 3)) (ht : (pc : Int) + off = (tgt : Int)) (hx : R3 x) (hy : R3 y) (kt : y ≤ x → W p l e R s m args below meth c H locs cells slots Q (F0 m tgt ls rest)) (kf : ¬ (y ≤ x) → W p l e R s m args below meth c H locs cells slots Q (F0 m (pc + 3) ls rest)) : W p l e R s m args below meth c H locs cells slots Q (F0 m pc ls (.int (iI y) :: .int (iI x) :: rest)) := lv_icmp_ge C.1 C.2.1 hdg ht (fun h => kt ((iI_le hy hx).mp h)) (fun h => kf (fun z => h ((iI_le hy hx).mpr z)))
theorem z_if_ge (C : Cx p s m args c cc own nL D Y a) {x : Int} {off : Int} (tgt : Nat) (hdg : decode cc pc = .ok (.ifCond .ge off, 3)) (ht : (pc : Int) + off = (tgt : Int)) (hx : R3 x) (kt : 0 ≤ x → W p l e R s m args below meth c H locs cells slots Q (F0 m tgt ls rest)) (kf : ¬ (0 ≤ x) → W p l e R s m args below meth c H locs cells slots Q (F0 m (pc + 3) ls rest)) : W p l e R s m args below meth c H locs cells slots Q (F0 m pc ls (.int (iI x) :: rest)) := lv_if_ge C.1 C.2.1 hdg ht (fun h => kt ((iI_le zR3_0 hx).mp h)) (fun h => kf (fun z => h ((iI_le zR3_0 hx).mpr z)))
theorem z_icmp_gt (C : Cx p s m args c cc own nL D Y a) {x y : Int} {off : Int} (tgt : Nat) (hdg : decode cc pc = .ok (.if_icmp .gt off, 3)) (ht : (pc : Int) + off = (tgt : Int)) (hx : R3 x) (hy : R3 y) (kt : y < x → W p l e R s m args below meth c H locs cells slots Q (F0 m tgt ls rest)) (kf : ¬ (y < x) → W p l e R s m args below meth c H locs cells slots Q (F0 m (pc + 3) ls rest)) : W p l e R s m args below meth c H locs cells slots Q (F0 m pc ls (.int (iI y) :: .int (iI x) :: rest)) := lv_icmp_gt C.1 C.2.1 hdg ht (fun h => kt ((iI_lt hy hx).mp h)) (fun h => kf (fun z => h ((iI_lt hy hx).mpr z)))
theorem z_if_gt (C : Cx p s m args c cc own nL D Y a) {x : Int} {off : Int} (tgt : Nat) (hdg : decode cc pc = .ok (.ifCond .gt off, 3)) (ht : (pc : Int) + off = (tgt : Int)) (hx : R3 x) (kt : 0 < x → W p l e R s m args below meth c H locs cells slots Q (F0 m tgt ls rest)) (kf : ¬ (0 < x) → W p l e R s m args below meth c H locs cells slots Q (F0 m (pc + 3) ls rest)) : W p l e R s m args below meth c H locs cells slots Q (F0 m pc ls (.int (iI x) :: rest)) := lv_if_gt C.1 C.2.1 hdg ht (fun h => kt ((iI_lt zR3_0 hx).mp h)) (fun h => kf (fun z => h ((iI_lt zR3_0 hx).mpr z)))
theorem z_icmp_le (C : Cx p s m args c cc own nL D Y a) {x y : Int} {off : Int} (tgt : Nat) (hdg : decode cc pc = .ok (.if_icmp .le off, 3)) (ht : (pc : Int) + off = (tgt : Int)) (hx : R3 x) (hy : R3 y) (kt : x ≤ y → W p l e R s m args below meth c H locs cells slots Q (F0 m tgt ls rest)) (kf : ¬ (x ≤ y) → W p l e R s m args below meth c H locs cells slots Q (F0 m (pc + 3) ls rest)) : W p l e R s m args below meth c H locs cells slots Q (F0 m pc ls (.int (iI y) :: .int (iI x) :: rest)) := lv_icmp_le C.1 C.2.1 hdg ht (fun h => kt ((iI_le hx hy).mp h)) (fun h => kf (fun z => h ((iI_le hx hy).mpr z)))
theorem z_if_le (C : Cx p s m args c cc own nL D Y a) {x : Int} {off : Int} (tgt : Nat) (hdg : decode cc pc = .ok (.ifCond .le off, 3)) (ht : (pc : Int) + off = (tgt : Int)) (hx : R3 x) (kt : x ≤ 0 → W p l e R s m args below meth c H locs cells slots Q (F0 m tgt ls rest)) (kf : ¬ (x ≤ 0) → W p l e R s m args below meth c H locs cells slots Q (F0 m (pc + 3) ls rest)) : W p l e R s m args below meth c H locs cells slots Q (F0 m pc ls (.int (iI x) :: rest)) := lv_if_le C.1 C.2.1 hdg ht (fun h => kt ((iI_le hx zR3_0).mp h)) (fun h => kf (fun z => h ((iI_le hx zR3_0).mpr z)))
theorem z_max (C : Cx p s m args c cc own nL D Y a) {ix : Nat} {x y : Int} (hx : R3 x) (hy : R3 y) (hw : Cond.methodLink own ix Lib.Math.max.name ∈ wsL_law) (hl : ls.size = nL) (hR : 1 ≤ R.frames ∧ (rest.map fun v => v.category).sum + 13 ≤ R.locals) (hc : cells ≤ R.cells ∧ slots ≤ R.slots) (hdg : decode cc pc = .ok (.invokestatic ix, 3)) (k : W p l e R s m args below meth c H locs cells slots Q (F0 m (pc + 3) ls (.int (iI (max x y)) :: rest))) : W p l e R s m args below meth c H locs cells slots Q (F0 m pc ls (.int (iI y) :: .int (iI x) :: rest)) := va_mmax C.1 C.2.1 (by rw [C.2.2.1, hl]) C.2.2.2.1 (C.2.2.2.2.1 _ hw) (C.2.2.2.2.1 _ zwMaxS) (C.2.2.2.2.1 _ zwMathI) (C.2.2.2.2.1 _ zwMaxC) hR.1 hR.2 hc.1 hc.2 hdg (by rw [iI_max hx hy]; exact k)
theorem z_min (C : Cx p s m args c cc own nL D Y a) {ix : Nat} {x y : Int} (hx : R3 x) (hy : R3 y) (hw : Cond.methodLink own ix Lib.Math.min.name ∈ wsL_law) (hl : ls.size = nL) (hR : 1 ≤ R.frames ∧ (rest.map fun v => v.category).sum + 13 ≤ R.locals) (hc : cells ≤ R.cells ∧ slots ≤ R.slots) (hdg : decode cc pc = .ok (.invokestatic ix, 3)) (k : W p l e R s m args below meth c H locs cells slots Q (F0 m (pc + 3) ls (.int (iI (min x y)) :: rest))) : W p l e R s m args below meth c H locs cells slots Q (F0 m pc ls (.int (iI y) :: .int (iI x) :: rest)) := va_mmin C.1 C.2.1 (by rw [C.2.2.1, hl]) C.2.2.2.1 (C.2.2.2.2.1 _ hw) (C.2.2.2.2.1 _ zwMinS) (C.2.2.2.2.1 _ zwMathI) (C.2.2.2.2.1 _ zwMinC) hR.1 hR.2 hc.1 hc.2 hdg (by rw [iI_min hx hy]; exact k)
theorem z_abs (C : Cx p s m args c cc own nL D Y a) {ix : Nat} {x : Int} (hx : -2147483648 < x ∧ x < 2147483648) (hw : Cond.methodLink own ix Lib.Math.abs.name ∈ wsL_law) (hl : ls.size = nL) (hR : 1 ≤ R.frames ∧ (rest.map fun v => v.category).sum + 13 ≤ R.locals) (hc : cells ≤ R.cells ∧ slots ≤ R.slots) (hdg : decode cc pc = .ok (.invokestatic ix, 3)) (k : W p l e R s m args below meth c H locs cells slots Q (F0 m (pc + 3) ls (.int (iI (if 0 ≤ x then x else -x)) :: rest))) : W p l e R s m args below meth c H locs cells slots Q (F0 m pc ls (.int (iI x) :: rest)) := va_mabs C.1 C.2.1 (by rw [C.2.2.1, hl]) C.2.2.2.1 (C.2.2.2.2.1 _ hw) (C.2.2.2.2.1 _ zwAbsS) (C.2.2.2.2.1 _ zwMathI) (C.2.2.2.2.1 _ zwAbsC) hR.1 hR.2 hc.1 hc.2 hdg (by rw [iI_abs hx]; exact k)
theorem z_get (C : Cx p s m args c cc own nL D Y a) {σ : zS} (hP : GP D Y a σ H) {k0 : Int} (hk : k0 ∈ zL) {ci : Nat} {fs : List Value} {Cn ref : String} {T : u_T} {N ix : Nat} (hsh : sh Y a k0 (σ k0) = .inr (ci, fs)) (hc : vwCl[ci]? = some (Cn, T, N)) (hin : ∀ w ∈ u_ws Cn T N, w ∈ wsL_law) (j : Nat) (hj : j < N) (hlink : Cond.fieldLink own ix ref (T j).2.1 (T j).2.2.1 ∈ wsL_law) (href : (T j).1 = ref) {v : Value} (hv : fs[j]? = some v) (hdg : decode cc pc = .ok (.getfield ix, 3)) (k : W p l e R s m args below meth c H locs cells slots Q (F0 m (pc + 3) ls (v :: rest))) : W p l e R s m args below meth c H locs cells slots Q (F0 m pc ls (.ref (a k0) :: rest)) := by
  obtain ⟨q, hq, hw⟩ := zW_at (Y := Y) (a := a) (σ := σ) hk
  rw [hsh] at hw
  subst href
  exact va_get C.1 C.2.1 C.2.2.2.2.1 hin C.2.2.2.1 C.2.2.2.2.2.1 hP q hw hc j hj (C.2.2.2.2.1 _ hlink) (fun _ h => h) hv hdg k
theorem z_put (C : Cx p s m args c cc own nL D Y a) {σ : zS} {H0 : Heap} (hP : GP D Y a σ H) (hS : va_S (inA a) H0 H locs) {k0 : Int} (hk : k0 ∈ zL) {ci : Nat} {fs : List Value} {Cn ref : String} {T : u_T} {N ix : Nat} (hsh : sh Y a k0 (σ k0) = .inr (ci, fs)) (hc : vwCl[ci]? = some (Cn, T, N)) (hin : ∀ w ∈ u_ws Cn T N, w ∈ wsL_law) (ty0 : Nat → FieldType) (hty : ∀ k, k < N → parseFieldDescriptor (T k).2.2.1 = some (ty0 k)) (hnm : ∀ a, a < N → ∀ b, b < N → a ≠ b → (T a).2.1 ≠ (T b).2.1) (j : Nat) (hj : j < N) (hlink : Cond.fieldLink own ix ref (T j).2.1 (T j).2.2.1 ∈ wsL_law) (href : (T j).1 = ref) (hfin : (T j).2.2.2 = false) {v : Value} (hn : narrow (ty0 j) v = v) (hfit : fits (ty0 j) v = true) (hl : j < fs.length) (σ' : zS) (hsh' : sh Y a k0 (σ' k0) = .inr (ci, fs.set j v)) (ho : ∀ i, i ≠ k0 → σ' i = σ i) (hdg : decode cc pc = .ok (.putfield ix, 3)) (k : ∀ (H1 : Heap) (locs1 : List Loc), GP D Y a σ' H1 → va_S (inA a) H0 H1 locs1 → W p l e R s m args below meth c H1 locs1 cells slots Q (F0 m (pc + 3) ls rest)) : W p l e R s m args below meth c H locs cells slots Q (F0 m pc ls (v :: .ref (a k0) :: rest)) := by
  obtain ⟨q, hq, hw⟩ := zW_at (Y := Y) (a := a) (σ := σ) hk
  rw [hsh] at hw
  subst href
  exact va_put C.1 C.2.1 C.2.2.2.2.1 hin ty0 hty hnm C.2.2.2.1 C.2.2.2.2.2.1 hP (zD C.2.2.2.2.2.2 σ) hS q hw hc j hj (C.2.2.2.2.1 _ hlink) (fun _ h => h) hfin (hty j hj) hn hfit hl hdg (fun H1 locs1 h1 _ h3 => k H1 locs1 (by unfold GP; rw [← zW_set hq hsh' ho]; exact h1) h3)
theorem z_iald (C : Cx p s m args c cc own nL D Y a) {σ : zS} (hP : GP D Y a σ H) {k0 : Int} {n : Nat} (hA : zIA Y a k0 n) {i : Int} (h : 0 ≤ i ∧ i < n) (hdg : decode cc pc = .ok (.iaload, 1)) (k : W p l e R s m args below meth c H locs cells slots Q (F0 m (pc + 1) ls (.int (iI (σ k0 i)) :: rest))) : W p l e R s m args below meth c H locs cells slots Q (F0 m pc ls (.int (iI i) :: .ref (a k0) :: rest)) := by
  obtain ⟨q, hq, hw⟩ := zW_at (Y := Y) (a := a) (σ := σ) hA.1
  rw [hA.2.2] at hw
  have hn := hA.2.1
  refine va_iald C.1 C.2.1 C.2.2.2.2.2.1 hP q 0 hw rfl (iI_in h.1 h.2 hn) hdg ?_
  rw [iI_cl h.1 (by omega), Int.toNat_of_nonneg h.1]
  exact k
theorem z_zald (C : Cx p s m args c cc own nL D Y a) {σ : zS} (hP : GP D Y a σ H) {k0 : Int} {n : Nat} (hA : zZA Y a k0 n) {i : Int} (h : 0 ≤ i ∧ i < n) (hdg : decode cc pc = .ok (.baload, 1)) (k : W p l e R s m args below meth c H locs cells slots Q (F0 m (pc + 1) ls (.int (iI (σ k0 i)) :: rest))) : W p l e R s m args below meth c H locs cells slots Q (F0 m pc ls (.int (iI i) :: .ref (a k0) :: rest)) := by
  obtain ⟨q, hq, hw⟩ := zW_at (Y := Y) (a := a) (σ := σ) hA.1
  rw [hA.2.2] at hw
  have hn := hA.2.1
  refine va_zald C.1 C.2.1 C.2.2.2.2.2.1 hP q 1 hw rfl (iI_in h.1 h.2 hn) hdg ?_
  rw [iI_cl h.1 (by omega), Int.toNat_of_nonneg h.1]
  exact k
theorem z_iast (C : Cx p s m args c cc own nL D Y a) {σ : zS} {H0 : Heap} (hP : GP D Y a σ H) (hS : va_S (inA a) H0 H locs) {k0 : Int} {n : Nat} (hA : zIA Y a k0 n) {i x : Int} (h : 0 ≤ i ∧ i < n) (hdg : decode cc pc = .ok (.iastore, 1)) (k : ∀ (H1 : Heap) (locs1 : List Loc), GP D Y a (zU σ k0 i x) H1 → va_S (inA a) H0 H1 locs1 → W p l e R s m args below meth c H1 locs1 cells slots Q (F0 m (pc + 1) ls rest)) : W p l e R s m args below meth c H locs cells slots Q (F0 m pc ls (.int (iI x) :: .int (iI i) :: .ref (a k0) :: rest)) := by
  obtain ⟨q, hq, hw⟩ := zW_at (Y := Y) (a := a) (σ := σ) hA.1
  rw [hA.2.2] at hw
  have hn := hA.2.1
  refine va_iast C.1 C.2.1 C.2.2.2.2.2.1 hP (zD C.2.2.2.2.2.2 σ) hS q 0 hw rfl (iI_in h.1 h.2 hn) hdg (fun H1 locs1 h1 _ h3 => ?_)
  · refine k H1 locs1 ?_ h3
    unfold GP
    rw [← zW_set (σ' := zU σ k0 i x) hq (hA.2.2 _) (fun j hj => zU_cell hj), ← z_upd σ k0 h.1 (by omega) x]
    exact h1
theorem z_zast (C : Cx p s m args c cc own nL D Y a) {σ : zS} {H0 : Heap} (hP : GP D Y a σ H) (hS : va_S (inA a) H0 H locs) {k0 : Int} {n : Nat} (hA : zZA Y a k0 n) {i x : Int} (h : 0 ≤ i ∧ i < n) (hx : x = 0 ∨ x = 1) (hdg : decode cc pc = .ok (.bastore, 1)) (k : ∀ (H1 : Heap) (locs1 : List Loc), GP D Y a (zU σ k0 i x) H1 → va_S (inA a) H0 H1 locs1 → W p l e R s m args below meth c H1 locs1 cells slots Q (F0 m (pc + 1) ls rest)) : W p l e R s m args below meth c H locs cells slots Q (F0 m pc ls (.int (iI x) :: .int (iI i) :: .ref (a k0) :: rest)) := by
  obtain ⟨q, hq, hw⟩ := zW_at (Y := Y) (a := a) (σ := σ) hA.1
  rw [hA.2.2] at hw
  have hn := hA.2.1
  have hb : vp_nar .boolean (iI x) = iI x := by rcases hx with rfl | rfl <;> decide +kernel
  refine va_zast C.1 C.2.1 C.2.2.2.2.2.1 hP (zD C.2.2.2.2.2.2 σ) hS q 1 hw rfl (iI_in h.1 h.2 hn) hdg (fun H1 locs1 h1 _ h3 => ?_)
  · rw [hb] at h1
    refine k H1 locs1 ?_ h3
    unfold GP
    rw [← zW_set (σ' := zU σ k0 i x) hq (hA.2.2 _) (fun j hj => zU_cell hj), ← z_upd σ k0 h.1 (by omega) x]
    exact h1
theorem z_aldR (C : Cx p s m args c cc own nL D Y a) {σ : zS} (hP : GP D Y a σ H) {k0 : Int} (hk : k0 = 33 ∨ k0 = 49 ∨ k0 = 65) {i : Int} (h : 0 ≤ i ∧ i < 4) (hdg : decode cc pc = .ok (.aaload, 1)) (k : W p l e R s m args below meth c H locs cells slots Q (F0 m (pc + 1) ls (.ref (a (k0 + 7 + i)) :: rest))) : W p l e R s m args below meth c H locs cells slots Q (F0 m pc ls (.int (iI i) :: .ref (a k0) :: rest)) := by
  obtain ⟨q, hq, hw⟩ := zW_at (Y := Y) (a := a) (σ := σ) (k := k0) (by rcases hk with rfl | rfl | rfl <;> decide)
  rw [show sh Y a k0 (σ k0) = .inl (Y 2, 4, .inr (.inr (.inr (.inr (zRefs a (k0 + 7)))))) from by rcases hk with rfl | rfl | rfl <;> rfl] at hw
  refine va_aldq C.1 C.2.1 C.2.2.2.2.2.1 hP q 2 hw rfl (iI_in h.1 h.2 (by omega)) hdg ?_
  rw [iI_cl h.1 (by omega)]
  show W p l e R s m args below meth c H locs cells slots Q (F0 m (pc + 1) ls (.ref (a (k0 + 7 + (i.toNat : Int))) :: rest))
  rw [Int.toNat_of_nonneg h.1]
  exact k
theorem z_aldR32 (C : Cx p s m args c cc own nL D Y a) {σ : zS} (hP : GP D Y a σ H) {i : Int} (h : 0 ≤ i ∧ i < 4) (hdg : decode cc pc = .ok (.aaload, 1)) (k : W p l e R s m args below meth c H locs cells slots Q (F0 m (pc + 1) ls (.ref (a (40 + i)) :: rest))) : W p l e R s m args below meth c H locs cells slots Q (F0 m pc ls (.int (iI i) :: .ref (a 33) :: rest)) := by
  obtain ⟨q, hq, hw⟩ := zW_at (Y := Y) (a := a) (σ := σ) (k := 33) (by decide)
  rw [show sh Y a 33 (σ 33) = .inl (Y 2, 4, .inr (.inr (.inr (.inr (zRefs a 40))))) from rfl] at hw
  refine va_aldq C.1 C.2.1 C.2.2.2.2.2.1 hP q 2 hw rfl (iI_in h.1 h.2 (by omega)) hdg ?_
  rw [iI_cl h.1 (by omega)]
  show W p l e R s m args below meth c H locs cells slots Q (F0 m (pc + 1) ls (.ref (a (40 + (i.toNat : Int))) :: rest))
  rw [Int.toNat_of_nonneg h.1]
  exact k
theorem z_aldS (C : Cx p s m args c cc own nL D Y a) {σ : zS} (hP : GP D Y a σ H) {i : Int} (h : 0 ≤ i ∧ i < 2) (hdg : decode cc pc = .ok (.aaload, 1)) (k : W p l e R s m args below meth c H locs cells slots Q (F0 m (pc + 1) ls (.ref (a (48 + 16 * i)) :: rest))) : W p l e R s m args below meth c H locs cells slots Q (F0 m pc ls (.int (iI i) :: .ref (a 1) :: rest)) := by
  obtain ⟨q, hq, hw⟩ := zW_at (Y := Y) (a := a) (σ := σ) (k := 1) (by decide)
  rw [show sh Y a 1 (σ 1) = .inl (Y 3, 2, .inr (.inr (.inr (.inr (zRefs16 a 48))))) from rfl] at hw
  refine va_aldq C.1 C.2.1 C.2.2.2.2.2.1 hP q 3 hw rfl (iI_in h.1 h.2 (by omega)) hdg ?_
  rw [iI_cl h.1 (by omega)]
  show W p l e R s m args below meth c H locs cells slots Q (F0 m (pc + 1) ls (.ref (a (48 + 16 * (i.toNat : Int))) :: rest))
  rw [Int.toNat_of_nonneg h.1]
  exact k
theorem z_alen (C : Cx p s m args c cc own nL D Y a) {σ : zS} (hP : GP D Y a σ H) {k0 : Int} {n : Nat} (hA : zIA Y a k0 n) (hdg : decode cc pc = .ok (.arraylength, 1)) (k : W p l e R s m args below meth c H locs cells slots Q (F0 m (pc + 1) ls (.int (iI (n : Int)) :: rest))) : W p l e R s m args below meth c H locs cells slots Q (F0 m pc ls (.ref (a k0) :: rest)) := by
  obtain ⟨q, hq, hw⟩ := zW_at (Y := Y) (a := a) (σ := σ) hA.1
  rw [hA.2.2] at hw
  exact va_alen C.1 C.2.1 C.2.2.2.2.2.1 hP q 0 hw rfl (v := iI (n : Int)) (Int32.ofInt_eq_ofNat).symm hdg k
end ZROWS
end
section
theorem zSet_in {k : Int} (h : zSet k) : k ∈ zL := by rcases h with rfl | rfl | rfl <;> decide
theorem zRid_12 {k : Int} (h : zRid k) : k = 40 ∨ k = 41 ∨ k = 42 ∨ k = 43 ∨ k = 56 ∨ k = 57 ∨ k = 58 ∨ k = 59 ∨ k = 72 ∨ k = 73 ∨ k = 74 ∨ k = 75 := by unfold zRid at h; omega
theorem zRid_in {k : Int} (h : zRid k) : k ∈ zL := by rcases zRid_12 h with rfl | rfl | rfl | rfl | rfl | rfl | rfl | rfl | rfl | rfl | rfl | rfl <;> decide
theorem sh_rid {Y : Nat → ClassId} {a : Int → Nat} {k : Int} (h : zRid k) (s : Int → Int) : sh Y a k s = .inr (3, [.int (iI (s 0)), .int (iI (s 1)), .int (iI (s 2)), .int (iI (s 3)), .int (iI (s 4))]) := by rcases zRid_12 h with rfl | rfl | rfl | rfl | rfl | rfl | rfl | rfl | rfl | rfl | rfl | rfl <;> rfl
theorem ob_rid {Y : Nat → ClassId} {a : Int → Nat} {k : Int} (h : zRid k) : zOb Y a k 3 := ⟨zRid_in h, fun s => ⟨_, sh_rid h s⟩⟩
theorem sh_set {Y : Nat → ClassId} {a : Int → Nat} {k : Int} (h : zSet k) (s : Int → Int) : sh Y a k s = .inr (5, [.ref (a (k + 1)), .ref (a (k + 2)), .ref (a (k + 3)), .ref (a (k + 4)), .ref (a (k + 5)), .ref (a (k + 6)), .ref (a (k + 7)), .int (iI (s 7)), .int (iI (s 8)), .int (iI (s 9)), .int (iI (s 10)), .int (iI (s 11)), .int (iI (s 12)), .int (iI (s 13))]) := by rcases h with rfl | rfl | rfl <;> rfl
theorem ob_set {Y : Nat → ClassId} {a : Int → Nat} {k : Int} (h : zSet k) : zOb Y a k 5 := ⟨zSet_in h, fun s => by rcases h with rfl | rfl | rfl <;> exact ⟨_, rfl⟩⟩
theorem ob_0 {Y : Nat → ClassId} {a : Int → Nat} : zOb Y a 0 6 := ⟨by decide, fun _ => ⟨_, rfl⟩⟩
theorem ob_3 {Y : Nat → ClassId} {a : Int → Nat} : zOb Y a 3 0 := ⟨by decide, fun _ => ⟨_, rfl⟩⟩
theorem ob_5 {Y : Nat → ClassId} {a : Int → Nat} : zOb Y a 5 1 := ⟨by decide, fun _ => ⟨_, rfl⟩⟩
theorem ob_10 {Y : Nat → ClassId} {a : Int → Nat} : zOb Y a 10 2 := ⟨by decide, fun _ => ⟨_, rfl⟩⟩
theorem ob_15 {Y : Nat → ClassId} {a : Int → Nat} : zOb Y a 15 4 := ⟨by decide, fun _ => ⟨_, rfl⟩⟩
theorem ob_100 {Y : Nat → ClassId} {a : Int → Nat} : zOb Y a 100 7 := ⟨by decide, fun _ => ⟨_, rfl⟩⟩
theorem ia_4 {Y : Nat → ClassId} {a : Int → Nat} : zIA Y a 4 110 := ⟨by decide, by decide, fun _ => rfl⟩
theorem ia_7 {Y : Nat → ClassId} {a : Int → Nat} : zIA Y a 7 24 := ⟨by decide, by decide, fun _ => rfl⟩
theorem ia_8 {Y : Nat → ClassId} {a : Int → Nat} : zIA Y a 8 24 := ⟨by decide, by decide, fun _ => rfl⟩
theorem ia_9 {Y : Nat → ClassId} {a : Int → Nat} : zIA Y a 9 24 := ⟨by decide, by decide, fun _ => rfl⟩
theorem ia_11 {Y : Nat → ClassId} {a : Int → Nat} : zIA Y a 11 24 := ⟨by decide, by decide, fun _ => rfl⟩
theorem ia_12 {Y : Nat → ClassId} {a : Int → Nat} : zIA Y a 12 24 := ⟨by decide, by decide, fun _ => rfl⟩
theorem ia_13 {Y : Nat → ClassId} {a : Int → Nat} : zIA Y a 13 24 := ⟨by decide, by decide, fun _ => rfl⟩
theorem ia_14 {Y : Nat → ClassId} {a : Int → Nat} : zIA Y a 14 24 := ⟨by decide, by decide, fun _ => rfl⟩
theorem ia_16 {Y : Nat → ClassId} {a : Int → Nat} : zIA Y a 16 25 := ⟨by decide, by decide, fun _ => rfl⟩
theorem ia_17 {Y : Nat → ClassId} {a : Int → Nat} : zIA Y a 17 25 := ⟨by decide, by decide, fun _ => rfl⟩
theorem ia_18 {Y : Nat → ClassId} {a : Int → Nat} : zIA Y a 18 25 := ⟨by decide, by decide, fun _ => rfl⟩
theorem ia_19 {Y : Nat → ClassId} {a : Int → Nat} : zIA Y a 19 25 := ⟨by decide, by decide, fun _ => rfl⟩
theorem ia_20 {Y : Nat → ClassId} {a : Int → Nat} : zIA Y a 20 25 := ⟨by decide, by decide, fun _ => rfl⟩
theorem ia_21 {Y : Nat → ClassId} {a : Int → Nat} : zIA Y a 21 2100 := ⟨by decide, by decide, fun _ => rfl⟩
theorem ia_22 {Y : Nat → ClassId} {a : Int → Nat} : zIA Y a 22 2100 := ⟨by decide, by decide, fun _ => rfl⟩
theorem ia_23 {Y : Nat → ClassId} {a : Int → Nat} : zIA Y a 23 21 := ⟨by decide, by decide, fun _ => rfl⟩
theorem ia_24 {Y : Nat → ClassId} {a : Int → Nat} : zIA Y a 24 21 := ⟨by decide, by decide, fun _ => rfl⟩
theorem ia_34 {Y : Nat → ClassId} {a : Int → Nat} : zIA Y a 34 24 := ⟨by decide, by decide, fun _ => rfl⟩
theorem ia_35 {Y : Nat → ClassId} {a : Int → Nat} : zIA Y a 35 24 := ⟨by decide, by decide, fun _ => rfl⟩
theorem ia_36 {Y : Nat → ClassId} {a : Int → Nat} : zIA Y a 36 6 := ⟨by decide, by decide, fun _ => rfl⟩
theorem ia_37 {Y : Nat → ClassId} {a : Int → Nat} : zIA Y a 37 6 := ⟨by decide, by decide, fun _ => rfl⟩
theorem ia_38 {Y : Nat → ClassId} {a : Int → Nat} : zIA Y a 38 6 := ⟨by decide, by decide, fun _ => rfl⟩
theorem ia_39 {Y : Nat → ClassId} {a : Int → Nat} : zIA Y a 39 6 := ⟨by decide, by decide, fun _ => rfl⟩
theorem ia_50 {Y : Nat → ClassId} {a : Int → Nat} : zIA Y a 50 24 := ⟨by decide, by decide, fun _ => rfl⟩
theorem ia_51 {Y : Nat → ClassId} {a : Int → Nat} : zIA Y a 51 24 := ⟨by decide, by decide, fun _ => rfl⟩
theorem ia_52 {Y : Nat → ClassId} {a : Int → Nat} : zIA Y a 52 6 := ⟨by decide, by decide, fun _ => rfl⟩
theorem ia_53 {Y : Nat → ClassId} {a : Int → Nat} : zIA Y a 53 6 := ⟨by decide, by decide, fun _ => rfl⟩
theorem ia_54 {Y : Nat → ClassId} {a : Int → Nat} : zIA Y a 54 6 := ⟨by decide, by decide, fun _ => rfl⟩
theorem ia_55 {Y : Nat → ClassId} {a : Int → Nat} : zIA Y a 55 6 := ⟨by decide, by decide, fun _ => rfl⟩
theorem ia_66 {Y : Nat → ClassId} {a : Int → Nat} : zIA Y a 66 24 := ⟨by decide, by decide, fun _ => rfl⟩
theorem ia_67 {Y : Nat → ClassId} {a : Int → Nat} : zIA Y a 67 24 := ⟨by decide, by decide, fun _ => rfl⟩
theorem ia_68 {Y : Nat → ClassId} {a : Int → Nat} : zIA Y a 68 6 := ⟨by decide, by decide, fun _ => rfl⟩
theorem ia_69 {Y : Nat → ClassId} {a : Int → Nat} : zIA Y a 69 6 := ⟨by decide, by decide, fun _ => rfl⟩
theorem ia_70 {Y : Nat → ClassId} {a : Int → Nat} : zIA Y a 70 6 := ⟨by decide, by decide, fun _ => rfl⟩
theorem ia_71 {Y : Nat → ClassId} {a : Int → Nat} : zIA Y a 71 6 := ⟨by decide, by decide, fun _ => rfl⟩
theorem ia_101 {Y : Nat → ClassId} {a : Int → Nat} : zIA Y a 101 4 := ⟨by decide, by decide, fun _ => rfl⟩
theorem ia_102 {Y : Nat → ClassId} {a : Int → Nat} : zIA Y a 102 4 := ⟨by decide, by decide, fun _ => rfl⟩
theorem ia_103 {Y : Nat → ClassId} {a : Int → Nat} : zIA Y a 103 4 := ⟨by decide, by decide, fun _ => rfl⟩
theorem ia_104 {Y : Nat → ClassId} {a : Int → Nat} : zIA Y a 104 4 := ⟨by decide, by decide, fun _ => rfl⟩
theorem ia_105 {Y : Nat → ClassId} {a : Int → Nat} : zIA Y a 105 24 := ⟨by decide, by decide, fun _ => rfl⟩
theorem ia_106 {Y : Nat → ClassId} {a : Int → Nat} : zIA Y a 106 6 := ⟨by decide, by decide, fun _ => rfl⟩
theorem ia_107 {Y : Nat → ClassId} {a : Int → Nat} : zIA Y a 107 6 := ⟨by decide, by decide, fun _ => rfl⟩
theorem ia_108 {Y : Nat → ClassId} {a : Int → Nat} : zIA Y a 108 6 := ⟨by decide, by decide, fun _ => rfl⟩
theorem ia_109 {Y : Nat → ClassId} {a : Int → Nat} : zIA Y a 109 6 := ⟨by decide, by decide, fun _ => rfl⟩
theorem ia_110 {Y : Nat → ClassId} {a : Int → Nat} : zIA Y a 110 110 := ⟨by decide, by decide, fun _ => rfl⟩
theorem ia_111 {Y : Nat → ClassId} {a : Int → Nat} : zIA Y a 111 24 := ⟨by decide, by decide, fun _ => rfl⟩
theorem ia_112 {Y : Nat → ClassId} {a : Int → Nat} : zIA Y a 112 24 := ⟨by decide, by decide, fun _ => rfl⟩
theorem ia_113 {Y : Nat → ClassId} {a : Int → Nat} : zIA Y a 113 24 := ⟨by decide, by decide, fun _ => rfl⟩
theorem ia_114 {Y : Nat → ClassId} {a : Int → Nat} : zIA Y a 114 24 := ⟨by decide, by decide, fun _ => rfl⟩
theorem ia_115 {Y : Nat → ClassId} {a : Int → Nat} : zIA Y a 115 2100 := ⟨by decide, by decide, fun _ => rfl⟩
theorem ia_116 {Y : Nat → ClassId} {a : Int → Nat} : zIA Y a 116 2100 := ⟨by decide, by decide, fun _ => rfl⟩
theorem ia_117 {Y : Nat → ClassId} {a : Int → Nat} : zIA Y a 117 25 := ⟨by decide, by decide, fun _ => rfl⟩
theorem ia_118 {Y : Nat → ClassId} {a : Int → Nat} : zIA Y a 118 160 := ⟨by decide, by decide, fun _ => rfl⟩
theorem za_2 {Y : Nat → ClassId} {a : Int → Nat} : zZA Y a 2 2 := ⟨by decide, by decide, fun _ => rfl⟩
theorem za_6 {Y : Nat → ClassId} {a : Int → Nat} : zZA Y a 6 24 := ⟨by decide, by decide, fun _ => rfl⟩
theorem za_119 {Y : Nat → ClassId} {a : Int → Nat} : zZA Y a 119 2 := ⟨by decide, by decide, fun _ => rfl⟩
theorem ia_set2 {Y : Nat → ClassId} {a : Int → Nat} {k : Int} (h : zSet k) : zIA Y a (k + 2) 24 := by
  rcases h with rfl | rfl | rfl
  · exact ia_34
  · exact ia_50
  · exact ia_66
theorem ia_set3 {Y : Nat → ClassId} {a : Int → Nat} {k : Int} (h : zSet k) : zIA Y a (k + 3) 24 := by
  rcases h with rfl | rfl | rfl
  · exact ia_35
  · exact ia_51
  · exact ia_67
theorem ia_set4 {Y : Nat → ClassId} {a : Int → Nat} {k : Int} (h : zSet k) : zIA Y a (k + 4) 6 := by
  rcases h with rfl | rfl | rfl
  · exact ia_36
  · exact ia_52
  · exact ia_68
theorem ia_set5 {Y : Nat → ClassId} {a : Int → Nat} {k : Int} (h : zSet k) : zIA Y a (k + 5) 6 := by
  rcases h with rfl | rfl | rfl
  · exact ia_37
  · exact ia_53
  · exact ia_69
theorem ia_set6 {Y : Nat → ClassId} {a : Int → Nat} {k : Int} (h : zSet k) : zIA Y a (k + 6) 6 := by
  rcases h with rfl | rfl | rfl
  · exact ia_38
  · exact ia_54
  · exact ia_70
theorem ia_set7 {Y : Nat → ClassId} {a : Int → Nat} {k : Int} (h : zSet k) : zIA Y a (k + 7) 6 := by
  rcases h with rfl | rfl | rfl
  · exact ia_39
  · exact ia_55
  · exact ia_71
section ZFLD
variable {p : Program} {l : Launch} {e : Env} {R : Room} {s : State} {m : MethodId} {args : Array Value} {below : List Frame} {meth : Method} {c : Code} {H : Heap} {locs : List Loc} {cells slots : Nat} {Q : State → Prop} {cc : ByteArray} {pc : Nat} {ls : Array Slot} {rest : List Value} {nL : Nat} {D : va_G} {Y : Nat → ClassId} {a : Int → Nat}
theorem zg_X7_12 (C : Cx p s m args c cc RX7 nL D Y a) {σ : zS} (hP : GP D Y a σ H) (hdg : decode cc pc = .ok (.getfield 12, 3)) (k : W p l e R s m args below meth c H locs cells slots Q (F0 m (pc + 3) ls (.ref (a 32) :: rest))) : W p l e R s m args below meth c H locs cells slots Q (F0 m pc ls (.ref (a 0) :: rest)) := z_get C hP (k0 := 0) (by decide) (Cn := RX7) (T := TX7) (N := 7) rfl rfl (inlX7) 0 (by decide) wd_15 rfl rfl hdg k
theorem zg_X7_16 (C : Cx p s m args c cc RX7 nL D Y a) {σ : zS} (hP : GP D Y a σ H) (hdg : decode cc pc = .ok (.getfield 16, 3)) (k : W p l e R s m args below meth c H locs cells slots Q (F0 m (pc + 3) ls (.ref (a 1) :: rest))) : W p l e R s m args below meth c H locs cells slots Q (F0 m pc ls (.ref (a 0) :: rest)) := z_get C hP (k0 := 0) (by decide) (Cn := RX7) (T := TX7) (N := 7) rfl rfl (inlX7) 1 (by decide) wd_16 rfl rfl hdg k
theorem zg_X7_20 (C : Cx p s m args c cc RX7 nL D Y a) {σ : zS} (hP : GP D Y a σ H) (hdg : decode cc pc = .ok (.getfield 20, 3)) (k : W p l e R s m args below meth c H locs cells slots Q (F0 m (pc + 3) ls (.ref (a 2) :: rest))) : W p l e R s m args below meth c H locs cells slots Q (F0 m pc ls (.ref (a 0) :: rest)) := z_get C hP (k0 := 0) (by decide) (Cn := RX7) (T := TX7) (N := 7) rfl rfl (inlX7) 2 (by decide) wd_18 rfl rfl hdg k
theorem zg_X7_27 (C : Cx p s m args c cc RX7 nL D Y a) {σ : zS} (hP : GP D Y a σ H) (hdg : decode cc pc = .ok (.getfield 27, 3)) (k : W p l e R s m args below meth c H locs cells slots Q (F0 m (pc + 3) ls (.ref (a 3) :: rest))) : W p l e R s m args below meth c H locs cells slots Q (F0 m pc ls (.ref (a 0) :: rest)) := z_get C hP (k0 := 0) (by decide) (Cn := RX7) (T := TX7) (N := 7) rfl rfl (inlX7) 3 (by decide) wd_22 rfl rfl hdg k
theorem zg_X7_34 (C : Cx p s m args c cc RX7 nL D Y a) {σ : zS} (hP : GP D Y a σ H) (hdg : decode cc pc = .ok (.getfield 34, 3)) (k : W p l e R s m args below meth c H locs cells slots Q (F0 m (pc + 3) ls (.ref (a 5) :: rest))) : W p l e R s m args below meth c H locs cells slots Q (F0 m pc ls (.ref (a 0) :: rest)) := z_get C hP (k0 := 0) (by decide) (Cn := RX7) (T := TX7) (N := 7) rfl rfl (inlX7) 4 (by decide) wd_26 rfl rfl hdg k
theorem zg_X7_41 (C : Cx p s m args c cc RX7 nL D Y a) {σ : zS} (hP : GP D Y a σ H) (hdg : decode cc pc = .ok (.getfield 41, 3)) (k : W p l e R s m args below meth c H locs cells slots Q (F0 m (pc + 3) ls (.ref (a 10) :: rest))) : W p l e R s m args below meth c H locs cells slots Q (F0 m pc ls (.ref (a 0) :: rest)) := z_get C hP (k0 := 0) (by decide) (Cn := RX7) (T := TX7) (N := 7) rfl rfl (inlX7) 5 (by decide) wd_30 rfl rfl hdg k
theorem zg_X7_50 (C : Cx p s m args c cc RX7 nL D Y a) {σ : zS} (hP : GP D Y a σ H) (hdg : decode cc pc = .ok (.getfield 50, 3)) (k : W p l e R s m args below meth c H locs cells slots Q (F0 m (pc + 3) ls (.ref (a 15) :: rest))) : W p l e R s m args below meth c H locs cells slots Q (F0 m pc ls (.ref (a 0) :: rest)) := z_get C hP (k0 := 0) (by decide) (Cn := RX7) (T := TX7) (N := 7) rfl rfl (inlX7) 6 (by decide) wd_34 rfl rfl hdg k
theorem zg_X6_11 (C : Cx p s m args c cc RX6 nL D Y a) {σ : zS} (hP : GP D Y a σ H) {k0 : Int} (hk : zSet k0) (hdg : decode cc pc = .ok (.getfield 11, 3)) (k : W p l e R s m args below meth c H locs cells slots Q (F0 m (pc + 3) ls (.ref (a (k0 + 1)) :: rest))) : W p l e R s m args below meth c H locs cells slots Q (F0 m pc ls (.ref (a k0) :: rest)) := z_get C hP (k0 := k0) (zSet_in hk) (Cn := RX6) (T := TX6) (N := 14) (sh_set hk _) rfl (inlX6) 0 (by decide) wd_40 rfl rfl hdg k
theorem zg32_X6_11 (C : Cx p s m args c cc RX6 nL D Y a) {σ : zS} (hP : GP D Y a σ H) (hdg : decode cc pc = .ok (.getfield 11, 3)) (k : W p l e R s m args below meth c H locs cells slots Q (F0 m (pc + 3) ls (.ref (a 33) :: rest))) : W p l e R s m args below meth c H locs cells slots Q (F0 m pc ls (.ref (a 32) :: rest)) := z_get C hP (k0 := 32) (by decide) (Cn := RX6) (T := TX6) (N := 14) rfl rfl (inlX6) 0 (by decide) wd_40 rfl rfl hdg k
theorem zg_X6_17 (C : Cx p s m args c cc RX6 nL D Y a) {σ : zS} (hP : GP D Y a σ H) {k0 : Int} (hk : zSet k0) (hdg : decode cc pc = .ok (.getfield 17, 3)) (k : W p l e R s m args below meth c H locs cells slots Q (F0 m (pc + 3) ls (.ref (a (k0 + 2)) :: rest))) : W p l e R s m args below meth c H locs cells slots Q (F0 m pc ls (.ref (a k0) :: rest)) := z_get C hP (k0 := k0) (zSet_in hk) (Cn := RX6) (T := TX6) (N := 14) (sh_set hk _) rfl (inlX6) 1 (by decide) wd_42 rfl rfl hdg k
theorem zg32_X6_17 (C : Cx p s m args c cc RX6 nL D Y a) {σ : zS} (hP : GP D Y a σ H) (hdg : decode cc pc = .ok (.getfield 17, 3)) (k : W p l e R s m args below meth c H locs cells slots Q (F0 m (pc + 3) ls (.ref (a 34) :: rest))) : W p l e R s m args below meth c H locs cells slots Q (F0 m pc ls (.ref (a 32) :: rest)) := z_get C hP (k0 := 32) (by decide) (Cn := RX6) (T := TX6) (N := 14) rfl rfl (inlX6) 1 (by decide) wd_42 rfl rfl hdg k
theorem zg_X6_21 (C : Cx p s m args c cc RX6 nL D Y a) {σ : zS} (hP : GP D Y a σ H) {k0 : Int} (hk : zSet k0) (hdg : decode cc pc = .ok (.getfield 21, 3)) (k : W p l e R s m args below meth c H locs cells slots Q (F0 m (pc + 3) ls (.ref (a (k0 + 3)) :: rest))) : W p l e R s m args below meth c H locs cells slots Q (F0 m pc ls (.ref (a k0) :: rest)) := z_get C hP (k0 := k0) (zSet_in hk) (Cn := RX6) (T := TX6) (N := 14) (sh_set hk _) rfl (inlX6) 2 (by decide) wd_43 rfl rfl hdg k
theorem zg32_X6_21 (C : Cx p s m args c cc RX6 nL D Y a) {σ : zS} (hP : GP D Y a σ H) (hdg : decode cc pc = .ok (.getfield 21, 3)) (k : W p l e R s m args below meth c H locs cells slots Q (F0 m (pc + 3) ls (.ref (a 35) :: rest))) : W p l e R s m args below meth c H locs cells slots Q (F0 m pc ls (.ref (a 32) :: rest)) := z_get C hP (k0 := 32) (by decide) (Cn := RX6) (T := TX6) (N := 14) rfl rfl (inlX6) 2 (by decide) wd_43 rfl rfl hdg k
theorem zg_X6_24 (C : Cx p s m args c cc RX6 nL D Y a) {σ : zS} (hP : GP D Y a σ H) {k0 : Int} (hk : zSet k0) (hdg : decode cc pc = .ok (.getfield 24, 3)) (k : W p l e R s m args below meth c H locs cells slots Q (F0 m (pc + 3) ls (.ref (a (k0 + 4)) :: rest))) : W p l e R s m args below meth c H locs cells slots Q (F0 m pc ls (.ref (a k0) :: rest)) := z_get C hP (k0 := k0) (zSet_in hk) (Cn := RX6) (T := TX6) (N := 14) (sh_set hk _) rfl (inlX6) 3 (by decide) wd_44 rfl rfl hdg k
theorem zg32_X6_24 (C : Cx p s m args c cc RX6 nL D Y a) {σ : zS} (hP : GP D Y a σ H) (hdg : decode cc pc = .ok (.getfield 24, 3)) (k : W p l e R s m args below meth c H locs cells slots Q (F0 m (pc + 3) ls (.ref (a 36) :: rest))) : W p l e R s m args below meth c H locs cells slots Q (F0 m pc ls (.ref (a 32) :: rest)) := z_get C hP (k0 := 32) (by decide) (Cn := RX6) (T := TX6) (N := 14) rfl rfl (inlX6) 3 (by decide) wd_44 rfl rfl hdg k
theorem zg_X6_27 (C : Cx p s m args c cc RX6 nL D Y a) {σ : zS} (hP : GP D Y a σ H) {k0 : Int} (hk : zSet k0) (hdg : decode cc pc = .ok (.getfield 27, 3)) (k : W p l e R s m args below meth c H locs cells slots Q (F0 m (pc + 3) ls (.ref (a (k0 + 5)) :: rest))) : W p l e R s m args below meth c H locs cells slots Q (F0 m pc ls (.ref (a k0) :: rest)) := z_get C hP (k0 := k0) (zSet_in hk) (Cn := RX6) (T := TX6) (N := 14) (sh_set hk _) rfl (inlX6) 4 (by decide) wd_45 rfl rfl hdg k
theorem zg32_X6_27 (C : Cx p s m args c cc RX6 nL D Y a) {σ : zS} (hP : GP D Y a σ H) (hdg : decode cc pc = .ok (.getfield 27, 3)) (k : W p l e R s m args below meth c H locs cells slots Q (F0 m (pc + 3) ls (.ref (a 37) :: rest))) : W p l e R s m args below meth c H locs cells slots Q (F0 m pc ls (.ref (a 32) :: rest)) := z_get C hP (k0 := 32) (by decide) (Cn := RX6) (T := TX6) (N := 14) rfl rfl (inlX6) 4 (by decide) wd_45 rfl rfl hdg k
theorem zg_X6_30 (C : Cx p s m args c cc RX6 nL D Y a) {σ : zS} (hP : GP D Y a σ H) {k0 : Int} (hk : zSet k0) (hdg : decode cc pc = .ok (.getfield 30, 3)) (k : W p l e R s m args below meth c H locs cells slots Q (F0 m (pc + 3) ls (.ref (a (k0 + 6)) :: rest))) : W p l e R s m args below meth c H locs cells slots Q (F0 m pc ls (.ref (a k0) :: rest)) := z_get C hP (k0 := k0) (zSet_in hk) (Cn := RX6) (T := TX6) (N := 14) (sh_set hk _) rfl (inlX6) 5 (by decide) wd_46 rfl rfl hdg k
theorem zg32_X6_30 (C : Cx p s m args c cc RX6 nL D Y a) {σ : zS} (hP : GP D Y a σ H) (hdg : decode cc pc = .ok (.getfield 30, 3)) (k : W p l e R s m args below meth c H locs cells slots Q (F0 m (pc + 3) ls (.ref (a 38) :: rest))) : W p l e R s m args below meth c H locs cells slots Q (F0 m pc ls (.ref (a 32) :: rest)) := z_get C hP (k0 := 32) (by decide) (Cn := RX6) (T := TX6) (N := 14) rfl rfl (inlX6) 5 (by decide) wd_46 rfl rfl hdg k
theorem zg_X6_33 (C : Cx p s m args c cc RX6 nL D Y a) {σ : zS} (hP : GP D Y a σ H) {k0 : Int} (hk : zSet k0) (hdg : decode cc pc = .ok (.getfield 33, 3)) (k : W p l e R s m args below meth c H locs cells slots Q (F0 m (pc + 3) ls (.ref (a (k0 + 7)) :: rest))) : W p l e R s m args below meth c H locs cells slots Q (F0 m pc ls (.ref (a k0) :: rest)) := z_get C hP (k0 := k0) (zSet_in hk) (Cn := RX6) (T := TX6) (N := 14) (sh_set hk _) rfl (inlX6) 6 (by decide) wd_47 rfl rfl hdg k
theorem zg32_X6_33 (C : Cx p s m args c cc RX6 nL D Y a) {σ : zS} (hP : GP D Y a σ H) (hdg : decode cc pc = .ok (.getfield 33, 3)) (k : W p l e R s m args below meth c H locs cells slots Q (F0 m (pc + 3) ls (.ref (a 39) :: rest))) : W p l e R s m args below meth c H locs cells slots Q (F0 m pc ls (.ref (a 32) :: rest)) := z_get C hP (k0 := 32) (by decide) (Cn := RX6) (T := TX6) (N := 14) rfl rfl (inlX6) 6 (by decide) wd_47 rfl rfl hdg k
theorem zg_X6_36 (C : Cx p s m args c cc RX6 nL D Y a) {σ : zS} (hP : GP D Y a σ H) {k0 : Int} (hk : zSet k0) (hdg : decode cc pc = .ok (.getfield 36, 3)) (k : W p l e R s m args below meth c H locs cells slots Q (F0 m (pc + 3) ls (.int (iI (σ k0 7)) :: rest))) : W p l e R s m args below meth c H locs cells slots Q (F0 m pc ls (.ref (a k0) :: rest)) := z_get C hP (k0 := k0) (zSet_in hk) (Cn := RX6) (T := TX6) (N := 14) (sh_set hk _) rfl (inlX6) 7 (by decide) wd_48 rfl rfl hdg k
theorem zp_X6_36 (C : Cx p s m args c cc RX6 nL D Y a) {σ : zS} {H0 : Heap} (hP : GP D Y a σ H) (hS : va_S (inA a) H0 H locs) {k0 : Int} (hk : zSet k0) {x : Int} (hdg : decode cc pc = .ok (.putfield 36, 3)) (k : ∀ (H1 : Heap) (locs1 : List Loc), GP D Y a (zU σ k0 7 x) H1 → va_S (inA a) H0 H1 locs1 → W p l e R s m args below meth c H1 locs1 cells slots Q (F0 m (pc + 3) ls rest)) : W p l e R s m args below meth c H locs cells slots Q (F0 m pc ls (.int (iI x) :: .ref (a k0) :: rest)) := z_put C hP hS (k0 := k0) (zSet_in hk)  (Cn := RX6) (T := TX6) (N := 14) (sh_set hk _) rfl (inlX6) tyX6 tyX6_ok nmX6 7 (by decide) wd_48 rfl rfl rfl rfl (Nat.le_of_ble_eq_true rfl) (zU σ k0 7 x) (by rw [sh_set hk]; simp [zU]) (fun i hi => zU_cell hi) hdg k
theorem zg32_X6_36 (C : Cx p s m args c cc RX6 nL D Y a) {σ : zS} (hP : GP D Y a σ H) (hdg : decode cc pc = .ok (.getfield 36, 3)) (k : W p l e R s m args below meth c H locs cells slots Q (F0 m (pc + 3) ls (.int (iI (σ 32 7)) :: rest))) : W p l e R s m args below meth c H locs cells slots Q (F0 m pc ls (.ref (a 32) :: rest)) := z_get C hP (k0 := 32) (by decide) (Cn := RX6) (T := TX6) (N := 14) rfl rfl (inlX6) 7 (by decide) wd_48 rfl rfl hdg k
theorem zp32_X6_36 (C : Cx p s m args c cc RX6 nL D Y a) {σ : zS} {H0 : Heap} (hP : GP D Y a σ H) (hS : va_S (inA a) H0 H locs) {x : Int} (hdg : decode cc pc = .ok (.putfield 36, 3)) (k : ∀ (H1 : Heap) (locs1 : List Loc), GP D Y a (zU σ 32 7 x) H1 → va_S (inA a) H0 H1 locs1 → W p l e R s m args below meth c H1 locs1 cells slots Q (F0 m (pc + 3) ls rest)) : W p l e R s m args below meth c H locs cells slots Q (F0 m pc ls (.int (iI x) :: .ref (a 32) :: rest)) := z_put C hP hS (k0 := 32) (by decide)  (Cn := RX6) (T := TX6) (N := 14) rfl rfl (inlX6) tyX6 tyX6_ok nmX6 7 (by decide) wd_48 rfl rfl rfl rfl (Nat.le_of_ble_eq_true rfl) (zU σ 32 7 x) rfl (fun i hi => zU_cell hi) hdg k
theorem zg_X6_40 (C : Cx p s m args c cc RX6 nL D Y a) {σ : zS} (hP : GP D Y a σ H) {k0 : Int} (hk : zSet k0) (hdg : decode cc pc = .ok (.getfield 40, 3)) (k : W p l e R s m args below meth c H locs cells slots Q (F0 m (pc + 3) ls (.int (iI (σ k0 8)) :: rest))) : W p l e R s m args below meth c H locs cells slots Q (F0 m pc ls (.ref (a k0) :: rest)) := z_get C hP (k0 := k0) (zSet_in hk) (Cn := RX6) (T := TX6) (N := 14) (sh_set hk _) rfl (inlX6) 8 (by decide) wd_49 rfl rfl hdg k
theorem zp_X6_40 (C : Cx p s m args c cc RX6 nL D Y a) {σ : zS} {H0 : Heap} (hP : GP D Y a σ H) (hS : va_S (inA a) H0 H locs) {k0 : Int} (hk : zSet k0) {x : Int} (hdg : decode cc pc = .ok (.putfield 40, 3)) (k : ∀ (H1 : Heap) (locs1 : List Loc), GP D Y a (zU σ k0 8 x) H1 → va_S (inA a) H0 H1 locs1 → W p l e R s m args below meth c H1 locs1 cells slots Q (F0 m (pc + 3) ls rest)) : W p l e R s m args below meth c H locs cells slots Q (F0 m pc ls (.int (iI x) :: .ref (a k0) :: rest)) := z_put C hP hS (k0 := k0) (zSet_in hk)  (Cn := RX6) (T := TX6) (N := 14) (sh_set hk _) rfl (inlX6) tyX6 tyX6_ok nmX6 8 (by decide) wd_49 rfl rfl rfl rfl (Nat.le_of_ble_eq_true rfl) (zU σ k0 8 x) (by rw [sh_set hk]; simp [zU]) (fun i hi => zU_cell hi) hdg k
theorem zg32_X6_40 (C : Cx p s m args c cc RX6 nL D Y a) {σ : zS} (hP : GP D Y a σ H) (hdg : decode cc pc = .ok (.getfield 40, 3)) (k : W p l e R s m args below meth c H locs cells slots Q (F0 m (pc + 3) ls (.int (iI (σ 32 8)) :: rest))) : W p l e R s m args below meth c H locs cells slots Q (F0 m pc ls (.ref (a 32) :: rest)) := z_get C hP (k0 := 32) (by decide) (Cn := RX6) (T := TX6) (N := 14) rfl rfl (inlX6) 8 (by decide) wd_49 rfl rfl hdg k
theorem zp32_X6_40 (C : Cx p s m args c cc RX6 nL D Y a) {σ : zS} {H0 : Heap} (hP : GP D Y a σ H) (hS : va_S (inA a) H0 H locs) {x : Int} (hdg : decode cc pc = .ok (.putfield 40, 3)) (k : ∀ (H1 : Heap) (locs1 : List Loc), GP D Y a (zU σ 32 8 x) H1 → va_S (inA a) H0 H1 locs1 → W p l e R s m args below meth c H1 locs1 cells slots Q (F0 m (pc + 3) ls rest)) : W p l e R s m args below meth c H locs cells slots Q (F0 m pc ls (.int (iI x) :: .ref (a 32) :: rest)) := z_put C hP hS (k0 := 32) (by decide)  (Cn := RX6) (T := TX6) (N := 14) rfl rfl (inlX6) tyX6 tyX6_ok nmX6 8 (by decide) wd_49 rfl rfl rfl rfl (Nat.le_of_ble_eq_true rfl) (zU σ 32 8 x) rfl (fun i hi => zU_cell hi) hdg k
theorem zg_X6_43 (C : Cx p s m args c cc RX6 nL D Y a) {σ : zS} (hP : GP D Y a σ H) {k0 : Int} (hk : zSet k0) (hdg : decode cc pc = .ok (.getfield 43, 3)) (k : W p l e R s m args below meth c H locs cells slots Q (F0 m (pc + 3) ls (.int (iI (σ k0 9)) :: rest))) : W p l e R s m args below meth c H locs cells slots Q (F0 m pc ls (.ref (a k0) :: rest)) := z_get C hP (k0 := k0) (zSet_in hk) (Cn := RX6) (T := TX6) (N := 14) (sh_set hk _) rfl (inlX6) 9 (by decide) wd_50 rfl rfl hdg k
theorem zp_X6_43 (C : Cx p s m args c cc RX6 nL D Y a) {σ : zS} {H0 : Heap} (hP : GP D Y a σ H) (hS : va_S (inA a) H0 H locs) {k0 : Int} (hk : zSet k0) {x : Int} (hdg : decode cc pc = .ok (.putfield 43, 3)) (k : ∀ (H1 : Heap) (locs1 : List Loc), GP D Y a (zU σ k0 9 x) H1 → va_S (inA a) H0 H1 locs1 → W p l e R s m args below meth c H1 locs1 cells slots Q (F0 m (pc + 3) ls rest)) : W p l e R s m args below meth c H locs cells slots Q (F0 m pc ls (.int (iI x) :: .ref (a k0) :: rest)) := z_put C hP hS (k0 := k0) (zSet_in hk)  (Cn := RX6) (T := TX6) (N := 14) (sh_set hk _) rfl (inlX6) tyX6 tyX6_ok nmX6 9 (by decide) wd_50 rfl rfl rfl rfl (Nat.le_of_ble_eq_true rfl) (zU σ k0 9 x) (by rw [sh_set hk]; simp [zU]) (fun i hi => zU_cell hi) hdg k
theorem zg32_X6_43 (C : Cx p s m args c cc RX6 nL D Y a) {σ : zS} (hP : GP D Y a σ H) (hdg : decode cc pc = .ok (.getfield 43, 3)) (k : W p l e R s m args below meth c H locs cells slots Q (F0 m (pc + 3) ls (.int (iI (σ 32 9)) :: rest))) : W p l e R s m args below meth c H locs cells slots Q (F0 m pc ls (.ref (a 32) :: rest)) := z_get C hP (k0 := 32) (by decide) (Cn := RX6) (T := TX6) (N := 14) rfl rfl (inlX6) 9 (by decide) wd_50 rfl rfl hdg k
theorem zp32_X6_43 (C : Cx p s m args c cc RX6 nL D Y a) {σ : zS} {H0 : Heap} (hP : GP D Y a σ H) (hS : va_S (inA a) H0 H locs) {x : Int} (hdg : decode cc pc = .ok (.putfield 43, 3)) (k : ∀ (H1 : Heap) (locs1 : List Loc), GP D Y a (zU σ 32 9 x) H1 → va_S (inA a) H0 H1 locs1 → W p l e R s m args below meth c H1 locs1 cells slots Q (F0 m (pc + 3) ls rest)) : W p l e R s m args below meth c H locs cells slots Q (F0 m pc ls (.int (iI x) :: .ref (a 32) :: rest)) := z_put C hP hS (k0 := 32) (by decide)  (Cn := RX6) (T := TX6) (N := 14) rfl rfl (inlX6) tyX6 tyX6_ok nmX6 9 (by decide) wd_50 rfl rfl rfl rfl (Nat.le_of_ble_eq_true rfl) (zU σ 32 9 x) rfl (fun i hi => zU_cell hi) hdg k
theorem zg_X6_46 (C : Cx p s m args c cc RX6 nL D Y a) {σ : zS} (hP : GP D Y a σ H) {k0 : Int} (hk : zSet k0) (hdg : decode cc pc = .ok (.getfield 46, 3)) (k : W p l e R s m args below meth c H locs cells slots Q (F0 m (pc + 3) ls (.int (iI (σ k0 10)) :: rest))) : W p l e R s m args below meth c H locs cells slots Q (F0 m pc ls (.ref (a k0) :: rest)) := z_get C hP (k0 := k0) (zSet_in hk) (Cn := RX6) (T := TX6) (N := 14) (sh_set hk _) rfl (inlX6) 10 (by decide) wd_51 rfl rfl hdg k
theorem zp_X6_46 (C : Cx p s m args c cc RX6 nL D Y a) {σ : zS} {H0 : Heap} (hP : GP D Y a σ H) (hS : va_S (inA a) H0 H locs) {k0 : Int} (hk : zSet k0) {x : Int} (hdg : decode cc pc = .ok (.putfield 46, 3)) (k : ∀ (H1 : Heap) (locs1 : List Loc), GP D Y a (zU σ k0 10 x) H1 → va_S (inA a) H0 H1 locs1 → W p l e R s m args below meth c H1 locs1 cells slots Q (F0 m (pc + 3) ls rest)) : W p l e R s m args below meth c H locs cells slots Q (F0 m pc ls (.int (iI x) :: .ref (a k0) :: rest)) := z_put C hP hS (k0 := k0) (zSet_in hk)  (Cn := RX6) (T := TX6) (N := 14) (sh_set hk _) rfl (inlX6) tyX6 tyX6_ok nmX6 10 (by decide) wd_51 rfl rfl rfl rfl (Nat.le_of_ble_eq_true rfl) (zU σ k0 10 x) (by rw [sh_set hk]; simp [zU]) (fun i hi => zU_cell hi) hdg k
theorem zg32_X6_46 (C : Cx p s m args c cc RX6 nL D Y a) {σ : zS} (hP : GP D Y a σ H) (hdg : decode cc pc = .ok (.getfield 46, 3)) (k : W p l e R s m args below meth c H locs cells slots Q (F0 m (pc + 3) ls (.int (iI (σ 32 10)) :: rest))) : W p l e R s m args below meth c H locs cells slots Q (F0 m pc ls (.ref (a 32) :: rest)) := z_get C hP (k0 := 32) (by decide) (Cn := RX6) (T := TX6) (N := 14) rfl rfl (inlX6) 10 (by decide) wd_51 rfl rfl hdg k
theorem zp32_X6_46 (C : Cx p s m args c cc RX6 nL D Y a) {σ : zS} {H0 : Heap} (hP : GP D Y a σ H) (hS : va_S (inA a) H0 H locs) {x : Int} (hdg : decode cc pc = .ok (.putfield 46, 3)) (k : ∀ (H1 : Heap) (locs1 : List Loc), GP D Y a (zU σ 32 10 x) H1 → va_S (inA a) H0 H1 locs1 → W p l e R s m args below meth c H1 locs1 cells slots Q (F0 m (pc + 3) ls rest)) : W p l e R s m args below meth c H locs cells slots Q (F0 m pc ls (.int (iI x) :: .ref (a 32) :: rest)) := z_put C hP hS (k0 := 32) (by decide)  (Cn := RX6) (T := TX6) (N := 14) rfl rfl (inlX6) tyX6 tyX6_ok nmX6 10 (by decide) wd_51 rfl rfl rfl rfl (Nat.le_of_ble_eq_true rfl) (zU σ 32 10 x) rfl (fun i hi => zU_cell hi) hdg k
theorem zg_X6_49 (C : Cx p s m args c cc RX6 nL D Y a) {σ : zS} (hP : GP D Y a σ H) {k0 : Int} (hk : zSet k0) (hdg : decode cc pc = .ok (.getfield 49, 3)) (k : W p l e R s m args below meth c H locs cells slots Q (F0 m (pc + 3) ls (.int (iI (σ k0 11)) :: rest))) : W p l e R s m args below meth c H locs cells slots Q (F0 m pc ls (.ref (a k0) :: rest)) := z_get C hP (k0 := k0) (zSet_in hk) (Cn := RX6) (T := TX6) (N := 14) (sh_set hk _) rfl (inlX6) 11 (by decide) wd_52 rfl rfl hdg k
theorem zp_X6_49 (C : Cx p s m args c cc RX6 nL D Y a) {σ : zS} {H0 : Heap} (hP : GP D Y a σ H) (hS : va_S (inA a) H0 H locs) {k0 : Int} (hk : zSet k0) {x : Int} (hdg : decode cc pc = .ok (.putfield 49, 3)) (k : ∀ (H1 : Heap) (locs1 : List Loc), GP D Y a (zU σ k0 11 x) H1 → va_S (inA a) H0 H1 locs1 → W p l e R s m args below meth c H1 locs1 cells slots Q (F0 m (pc + 3) ls rest)) : W p l e R s m args below meth c H locs cells slots Q (F0 m pc ls (.int (iI x) :: .ref (a k0) :: rest)) := z_put C hP hS (k0 := k0) (zSet_in hk)  (Cn := RX6) (T := TX6) (N := 14) (sh_set hk _) rfl (inlX6) tyX6 tyX6_ok nmX6 11 (by decide) wd_52 rfl rfl rfl rfl (Nat.le_of_ble_eq_true rfl) (zU σ k0 11 x) (by rw [sh_set hk]; simp [zU]) (fun i hi => zU_cell hi) hdg k
theorem zg32_X6_49 (C : Cx p s m args c cc RX6 nL D Y a) {σ : zS} (hP : GP D Y a σ H) (hdg : decode cc pc = .ok (.getfield 49, 3)) (k : W p l e R s m args below meth c H locs cells slots Q (F0 m (pc + 3) ls (.int (iI (σ 32 11)) :: rest))) : W p l e R s m args below meth c H locs cells slots Q (F0 m pc ls (.ref (a 32) :: rest)) := z_get C hP (k0 := 32) (by decide) (Cn := RX6) (T := TX6) (N := 14) rfl rfl (inlX6) 11 (by decide) wd_52 rfl rfl hdg k
theorem zp32_X6_49 (C : Cx p s m args c cc RX6 nL D Y a) {σ : zS} {H0 : Heap} (hP : GP D Y a σ H) (hS : va_S (inA a) H0 H locs) {x : Int} (hdg : decode cc pc = .ok (.putfield 49, 3)) (k : ∀ (H1 : Heap) (locs1 : List Loc), GP D Y a (zU σ 32 11 x) H1 → va_S (inA a) H0 H1 locs1 → W p l e R s m args below meth c H1 locs1 cells slots Q (F0 m (pc + 3) ls rest)) : W p l e R s m args below meth c H locs cells slots Q (F0 m pc ls (.int (iI x) :: .ref (a 32) :: rest)) := z_put C hP hS (k0 := 32) (by decide)  (Cn := RX6) (T := TX6) (N := 14) rfl rfl (inlX6) tyX6 tyX6_ok nmX6 11 (by decide) wd_52 rfl rfl rfl rfl (Nat.le_of_ble_eq_true rfl) (zU σ 32 11 x) rfl (fun i hi => zU_cell hi) hdg k
theorem zg_X6_52 (C : Cx p s m args c cc RX6 nL D Y a) {σ : zS} (hP : GP D Y a σ H) {k0 : Int} (hk : zSet k0) (hdg : decode cc pc = .ok (.getfield 52, 3)) (k : W p l e R s m args below meth c H locs cells slots Q (F0 m (pc + 3) ls (.int (iI (σ k0 12)) :: rest))) : W p l e R s m args below meth c H locs cells slots Q (F0 m pc ls (.ref (a k0) :: rest)) := z_get C hP (k0 := k0) (zSet_in hk) (Cn := RX6) (T := TX6) (N := 14) (sh_set hk _) rfl (inlX6) 12 (by decide) wd_53 rfl rfl hdg k
theorem zp_X6_52 (C : Cx p s m args c cc RX6 nL D Y a) {σ : zS} {H0 : Heap} (hP : GP D Y a σ H) (hS : va_S (inA a) H0 H locs) {k0 : Int} (hk : zSet k0) {x : Int} (hdg : decode cc pc = .ok (.putfield 52, 3)) (k : ∀ (H1 : Heap) (locs1 : List Loc), GP D Y a (zU σ k0 12 x) H1 → va_S (inA a) H0 H1 locs1 → W p l e R s m args below meth c H1 locs1 cells slots Q (F0 m (pc + 3) ls rest)) : W p l e R s m args below meth c H locs cells slots Q (F0 m pc ls (.int (iI x) :: .ref (a k0) :: rest)) := z_put C hP hS (k0 := k0) (zSet_in hk)  (Cn := RX6) (T := TX6) (N := 14) (sh_set hk _) rfl (inlX6) tyX6 tyX6_ok nmX6 12 (by decide) wd_53 rfl rfl rfl rfl (Nat.le_of_ble_eq_true rfl) (zU σ k0 12 x) (by rw [sh_set hk]; simp [zU]) (fun i hi => zU_cell hi) hdg k
theorem zg32_X6_52 (C : Cx p s m args c cc RX6 nL D Y a) {σ : zS} (hP : GP D Y a σ H) (hdg : decode cc pc = .ok (.getfield 52, 3)) (k : W p l e R s m args below meth c H locs cells slots Q (F0 m (pc + 3) ls (.int (iI (σ 32 12)) :: rest))) : W p l e R s m args below meth c H locs cells slots Q (F0 m pc ls (.ref (a 32) :: rest)) := z_get C hP (k0 := 32) (by decide) (Cn := RX6) (T := TX6) (N := 14) rfl rfl (inlX6) 12 (by decide) wd_53 rfl rfl hdg k
theorem zp32_X6_52 (C : Cx p s m args c cc RX6 nL D Y a) {σ : zS} {H0 : Heap} (hP : GP D Y a σ H) (hS : va_S (inA a) H0 H locs) {x : Int} (hdg : decode cc pc = .ok (.putfield 52, 3)) (k : ∀ (H1 : Heap) (locs1 : List Loc), GP D Y a (zU σ 32 12 x) H1 → va_S (inA a) H0 H1 locs1 → W p l e R s m args below meth c H1 locs1 cells slots Q (F0 m (pc + 3) ls rest)) : W p l e R s m args below meth c H locs cells slots Q (F0 m pc ls (.int (iI x) :: .ref (a 32) :: rest)) := z_put C hP hS (k0 := 32) (by decide)  (Cn := RX6) (T := TX6) (N := 14) rfl rfl (inlX6) tyX6 tyX6_ok nmX6 12 (by decide) wd_53 rfl rfl rfl rfl (Nat.le_of_ble_eq_true rfl) (zU σ 32 12 x) rfl (fun i hi => zU_cell hi) hdg k
theorem zg_X6_55 (C : Cx p s m args c cc RX6 nL D Y a) {σ : zS} (hP : GP D Y a σ H) {k0 : Int} (hk : zSet k0) (hdg : decode cc pc = .ok (.getfield 55, 3)) (k : W p l e R s m args below meth c H locs cells slots Q (F0 m (pc + 3) ls (.int (iI (σ k0 13)) :: rest))) : W p l e R s m args below meth c H locs cells slots Q (F0 m pc ls (.ref (a k0) :: rest)) := z_get C hP (k0 := k0) (zSet_in hk) (Cn := RX6) (T := TX6) (N := 14) (sh_set hk _) rfl (inlX6) 13 (by decide) wd_54 rfl rfl hdg k
theorem zp_X6_55 (C : Cx p s m args c cc RX6 nL D Y a) {σ : zS} {H0 : Heap} (hP : GP D Y a σ H) (hS : va_S (inA a) H0 H locs) {k0 : Int} (hk : zSet k0) {x : Int} (hdg : decode cc pc = .ok (.putfield 55, 3)) (k : ∀ (H1 : Heap) (locs1 : List Loc), GP D Y a (zU σ k0 13 x) H1 → va_S (inA a) H0 H1 locs1 → W p l e R s m args below meth c H1 locs1 cells slots Q (F0 m (pc + 3) ls rest)) : W p l e R s m args below meth c H locs cells slots Q (F0 m pc ls (.int (iI x) :: .ref (a k0) :: rest)) := z_put C hP hS (k0 := k0) (zSet_in hk)  (Cn := RX6) (T := TX6) (N := 14) (sh_set hk _) rfl (inlX6) tyX6 tyX6_ok nmX6 13 (by decide) wd_54 rfl rfl rfl rfl (Nat.le_of_ble_eq_true rfl) (zU σ k0 13 x) (by rw [sh_set hk]; simp [zU]) (fun i hi => zU_cell hi) hdg k
theorem zg32_X6_55 (C : Cx p s m args c cc RX6 nL D Y a) {σ : zS} (hP : GP D Y a σ H) (hdg : decode cc pc = .ok (.getfield 55, 3)) (k : W p l e R s m args below meth c H locs cells slots Q (F0 m (pc + 3) ls (.int (iI (σ 32 13)) :: rest))) : W p l e R s m args below meth c H locs cells slots Q (F0 m pc ls (.ref (a 32) :: rest)) := z_get C hP (k0 := 32) (by decide) (Cn := RX6) (T := TX6) (N := 14) rfl rfl (inlX6) 13 (by decide) wd_54 rfl rfl hdg k
theorem zp32_X6_55 (C : Cx p s m args c cc RX6 nL D Y a) {σ : zS} {H0 : Heap} (hP : GP D Y a σ H) (hS : va_S (inA a) H0 H locs) {x : Int} (hdg : decode cc pc = .ok (.putfield 55, 3)) (k : ∀ (H1 : Heap) (locs1 : List Loc), GP D Y a (zU σ 32 13 x) H1 → va_S (inA a) H0 H1 locs1 → W p l e R s m args below meth c H1 locs1 cells slots Q (F0 m (pc + 3) ls rest)) : W p l e R s m args below meth c H locs cells slots Q (F0 m pc ls (.int (iI x) :: .ref (a 32) :: rest)) := z_put C hP hS (k0 := 32) (by decide)  (Cn := RX6) (T := TX6) (N := 14) rfl rfl (inlX6) tyX6 tyX6_ok nmX6 13 (by decide) wd_54 rfl rfl rfl rfl (Nat.le_of_ble_eq_true rfl) (zU σ 32 13 x) rfl (fun i hi => zU_cell hi) hdg k
theorem zg_X1_9 (C : Cx p s m args c cc RX1 nL D Y a) {σ : zS} (hP : GP D Y a σ H) (hdg : decode cc pc = .ok (.getfield 9, 3)) (k : W p l e R s m args below meth c H locs cells slots Q (F0 m (pc + 3) ls (.ref (a 4) :: rest))) : W p l e R s m args below meth c H locs cells slots Q (F0 m pc ls (.ref (a 3) :: rest)) := z_get C hP (k0 := 3) (by decide) (Cn := RX1) (T := TX1) (N := 2) rfl rfl (inlX1) 0 (by decide) wd_63 rfl rfl hdg k
theorem zg_X2_9 (C : Cx p s m args c cc RX2 nL D Y a) {σ : zS} (hP : GP D Y a σ H) (hdg : decode cc pc = .ok (.getfield 9, 3)) (k : W p l e R s m args below meth c H locs cells slots Q (F0 m (pc + 3) ls (.ref (a 6) :: rest))) : W p l e R s m args below meth c H locs cells slots Q (F0 m pc ls (.ref (a 5) :: rest)) := z_get C hP (k0 := 5) (by decide) (Cn := RX2) (T := TX2) (N := 4) rfl rfl (inlX2) 0 (by decide) wd_67 rfl rfl hdg k
theorem zg_X2_15 (C : Cx p s m args c cc RX2 nL D Y a) {σ : zS} (hP : GP D Y a σ H) (hdg : decode cc pc = .ok (.getfield 15, 3)) (k : W p l e R s m args below meth c H locs cells slots Q (F0 m (pc + 3) ls (.ref (a 7) :: rest))) : W p l e R s m args below meth c H locs cells slots Q (F0 m pc ls (.ref (a 5) :: rest)) := z_get C hP (k0 := 5) (by decide) (Cn := RX2) (T := TX2) (N := 4) rfl rfl (inlX2) 1 (by decide) wd_68 rfl rfl hdg k
theorem zg_X2_19 (C : Cx p s m args c cc RX2 nL D Y a) {σ : zS} (hP : GP D Y a σ H) (hdg : decode cc pc = .ok (.getfield 19, 3)) (k : W p l e R s m args below meth c H locs cells slots Q (F0 m (pc + 3) ls (.ref (a 8) :: rest))) : W p l e R s m args below meth c H locs cells slots Q (F0 m pc ls (.ref (a 5) :: rest)) := z_get C hP (k0 := 5) (by decide) (Cn := RX2) (T := TX2) (N := 4) rfl rfl (inlX2) 2 (by decide) wd_69 rfl rfl hdg k
theorem zg_X2_22 (C : Cx p s m args c cc RX2 nL D Y a) {σ : zS} (hP : GP D Y a σ H) (hdg : decode cc pc = .ok (.getfield 22, 3)) (k : W p l e R s m args below meth c H locs cells slots Q (F0 m (pc + 3) ls (.ref (a 9) :: rest))) : W p l e R s m args below meth c H locs cells slots Q (F0 m pc ls (.ref (a 5) :: rest)) := z_get C hP (k0 := 5) (by decide) (Cn := RX2) (T := TX2) (N := 4) rfl rfl (inlX2) 3 (by decide) wd_70 rfl rfl hdg k
theorem zg_X3_9 (C : Cx p s m args c cc RX3 nL D Y a) {σ : zS} (hP : GP D Y a σ H) (hdg : decode cc pc = .ok (.getfield 9, 3)) (k : W p l e R s m args below meth c H locs cells slots Q (F0 m (pc + 3) ls (.ref (a 11) :: rest))) : W p l e R s m args below meth c H locs cells slots Q (F0 m pc ls (.ref (a 10) :: rest)) := z_get C hP (k0 := 10) (by decide) (Cn := RX3) (T := TX3) (N := 9) rfl rfl (inlX3) 0 (by decide) wd_74 rfl rfl hdg k
theorem zg_X3_15 (C : Cx p s m args c cc RX3 nL D Y a) {σ : zS} (hP : GP D Y a σ H) (hdg : decode cc pc = .ok (.getfield 15, 3)) (k : W p l e R s m args below meth c H locs cells slots Q (F0 m (pc + 3) ls (.ref (a 12) :: rest))) : W p l e R s m args below meth c H locs cells slots Q (F0 m pc ls (.ref (a 10) :: rest)) := z_get C hP (k0 := 10) (by decide) (Cn := RX3) (T := TX3) (N := 9) rfl rfl (inlX3) 1 (by decide) wd_75 rfl rfl hdg k
theorem zg_X3_18 (C : Cx p s m args c cc RX3 nL D Y a) {σ : zS} (hP : GP D Y a σ H) (hdg : decode cc pc = .ok (.getfield 18, 3)) (k : W p l e R s m args below meth c H locs cells slots Q (F0 m (pc + 3) ls (.ref (a 13) :: rest))) : W p l e R s m args below meth c H locs cells slots Q (F0 m pc ls (.ref (a 10) :: rest)) := z_get C hP (k0 := 10) (by decide) (Cn := RX3) (T := TX3) (N := 9) rfl rfl (inlX3) 2 (by decide) wd_76 rfl rfl hdg k
theorem zg_X3_21 (C : Cx p s m args c cc RX3 nL D Y a) {σ : zS} (hP : GP D Y a σ H) (hdg : decode cc pc = .ok (.getfield 21, 3)) (k : W p l e R s m args below meth c H locs cells slots Q (F0 m (pc + 3) ls (.ref (a 14) :: rest))) : W p l e R s m args below meth c H locs cells slots Q (F0 m pc ls (.ref (a 10) :: rest)) := z_get C hP (k0 := 10) (by decide) (Cn := RX3) (T := TX3) (N := 9) rfl rfl (inlX3) 3 (by decide) wd_77 rfl rfl hdg k
theorem zg_X5_9 (C : Cx p s m args c cc RX5 nL D Y a) {σ : zS} (hP : GP D Y a σ H) (hdg : decode cc pc = .ok (.getfield 9, 3)) (k : W p l e R s m args below meth c H locs cells slots Q (F0 m (pc + 3) ls (.ref (a 16) :: rest))) : W p l e R s m args below meth c H locs cells slots Q (F0 m pc ls (.ref (a 15) :: rest)) := z_get C hP (k0 := 15) (by decide) (Cn := RX5) (T := TX5) (N := 15) rfl rfl (inlX5) 2 (by decide) wd_82 rfl rfl hdg k
theorem zg_X5_15 (C : Cx p s m args c cc RX5 nL D Y a) {σ : zS} (hP : GP D Y a σ H) (hdg : decode cc pc = .ok (.getfield 15, 3)) (k : W p l e R s m args below meth c H locs cells slots Q (F0 m (pc + 3) ls (.ref (a 17) :: rest))) : W p l e R s m args below meth c H locs cells slots Q (F0 m pc ls (.ref (a 15) :: rest)) := z_get C hP (k0 := 15) (by decide) (Cn := RX5) (T := TX5) (N := 15) rfl rfl (inlX5) 3 (by decide) wd_83 rfl rfl hdg k
theorem zg_X5_18 (C : Cx p s m args c cc RX5 nL D Y a) {σ : zS} (hP : GP D Y a σ H) (hdg : decode cc pc = .ok (.getfield 18, 3)) (k : W p l e R s m args below meth c H locs cells slots Q (F0 m (pc + 3) ls (.ref (a 18) :: rest))) : W p l e R s m args below meth c H locs cells slots Q (F0 m pc ls (.ref (a 15) :: rest)) := z_get C hP (k0 := 15) (by decide) (Cn := RX5) (T := TX5) (N := 15) rfl rfl (inlX5) 4 (by decide) wd_84 rfl rfl hdg k
theorem zg_X5_21 (C : Cx p s m args c cc RX5 nL D Y a) {σ : zS} (hP : GP D Y a σ H) (hdg : decode cc pc = .ok (.getfield 21, 3)) (k : W p l e R s m args below meth c H locs cells slots Q (F0 m (pc + 3) ls (.ref (a 19) :: rest))) : W p l e R s m args below meth c H locs cells slots Q (F0 m pc ls (.ref (a 15) :: rest)) := z_get C hP (k0 := 15) (by decide) (Cn := RX5) (T := TX5) (N := 15) rfl rfl (inlX5) 5 (by decide) wd_85 rfl rfl hdg k
theorem zg_X5_24 (C : Cx p s m args c cc RX5 nL D Y a) {σ : zS} (hP : GP D Y a σ H) (hdg : decode cc pc = .ok (.getfield 24, 3)) (k : W p l e R s m args below meth c H locs cells slots Q (F0 m (pc + 3) ls (.ref (a 20) :: rest))) : W p l e R s m args below meth c H locs cells slots Q (F0 m pc ls (.ref (a 15) :: rest)) := z_get C hP (k0 := 15) (by decide) (Cn := RX5) (T := TX5) (N := 15) rfl rfl (inlX5) 7 (by decide) wd_86 rfl rfl hdg k
theorem zg_X5_27 (C : Cx p s m args c cc RX5 nL D Y a) {σ : zS} (hP : GP D Y a σ H) (hdg : decode cc pc = .ok (.getfield 27, 3)) (k : W p l e R s m args below meth c H locs cells slots Q (F0 m (pc + 3) ls (.ref (a (σ 15 8)) :: rest))) : W p l e R s m args below meth c H locs cells slots Q (F0 m pc ls (.ref (a 15) :: rest)) := z_get C hP (k0 := 15) (by decide) (Cn := RX5) (T := TX5) (N := 15) rfl rfl (inlX5) 8 (by decide) wd_87 rfl rfl hdg k
theorem zp_X5_27 (C : Cx p s m args c cc RX5 nL D Y a) {σ : zS} {H0 : Heap} (hP : GP D Y a σ H) (hS : va_S (inA a) H0 H locs) {x : Int} (hdg : decode cc pc = .ok (.putfield 27, 3)) (k : ∀ (H1 : Heap) (locs1 : List Loc), GP D Y a (zU σ 15 8 x) H1 → va_S (inA a) H0 H1 locs1 → W p l e R s m args below meth c H1 locs1 cells slots Q (F0 m (pc + 3) ls rest)) : W p l e R s m args below meth c H locs cells slots Q (F0 m pc ls (.ref (a x) :: .ref (a 15) :: rest)) := z_put C hP hS (k0 := 15) (by decide)  (Cn := RX5) (T := TX5) (N := 15) rfl rfl (inlX5) tyX5 tyX5_ok nmX5 8 (by decide) wd_87 rfl rfl rfl rfl (Nat.le_of_ble_eq_true rfl) (zU σ 15 8 x) rfl (fun i hi => zU_cell hi) hdg k
theorem zg_X5_30 (C : Cx p s m args c cc RX5 nL D Y a) {σ : zS} (hP : GP D Y a σ H) (hdg : decode cc pc = .ok (.getfield 30, 3)) (k : W p l e R s m args below meth c H locs cells slots Q (F0 m (pc + 3) ls (.ref (a (σ 15 9)) :: rest))) : W p l e R s m args below meth c H locs cells slots Q (F0 m pc ls (.ref (a 15) :: rest)) := z_get C hP (k0 := 15) (by decide) (Cn := RX5) (T := TX5) (N := 15) rfl rfl (inlX5) 9 (by decide) wd_88 rfl rfl hdg k
theorem zp_X5_30 (C : Cx p s m args c cc RX5 nL D Y a) {σ : zS} {H0 : Heap} (hP : GP D Y a σ H) (hS : va_S (inA a) H0 H locs) {x : Int} (hdg : decode cc pc = .ok (.putfield 30, 3)) (k : ∀ (H1 : Heap) (locs1 : List Loc), GP D Y a (zU σ 15 9 x) H1 → va_S (inA a) H0 H1 locs1 → W p l e R s m args below meth c H1 locs1 cells slots Q (F0 m (pc + 3) ls rest)) : W p l e R s m args below meth c H locs cells slots Q (F0 m pc ls (.ref (a x) :: .ref (a 15) :: rest)) := z_put C hP hS (k0 := 15) (by decide)  (Cn := RX5) (T := TX5) (N := 15) rfl rfl (inlX5) tyX5 tyX5_ok nmX5 9 (by decide) wd_88 rfl rfl rfl rfl (Nat.le_of_ble_eq_true rfl) (zU σ 15 9 x) rfl (fun i hi => zU_cell hi) hdg k
theorem zg_X5_33 (C : Cx p s m args c cc RX5 nL D Y a) {σ : zS} (hP : GP D Y a σ H) (hdg : decode cc pc = .ok (.getfield 33, 3)) (k : W p l e R s m args below meth c H locs cells slots Q (F0 m (pc + 3) ls (.ref (a (σ 15 10)) :: rest))) : W p l e R s m args below meth c H locs cells slots Q (F0 m pc ls (.ref (a 15) :: rest)) := z_get C hP (k0 := 15) (by decide) (Cn := RX5) (T := TX5) (N := 15) rfl rfl (inlX5) 10 (by decide) wd_89 rfl rfl hdg k
theorem zp_X5_33 (C : Cx p s m args c cc RX5 nL D Y a) {σ : zS} {H0 : Heap} (hP : GP D Y a σ H) (hS : va_S (inA a) H0 H locs) {x : Int} (hdg : decode cc pc = .ok (.putfield 33, 3)) (k : ∀ (H1 : Heap) (locs1 : List Loc), GP D Y a (zU σ 15 10 x) H1 → va_S (inA a) H0 H1 locs1 → W p l e R s m args below meth c H1 locs1 cells slots Q (F0 m (pc + 3) ls rest)) : W p l e R s m args below meth c H locs cells slots Q (F0 m pc ls (.ref (a x) :: .ref (a 15) :: rest)) := z_put C hP hS (k0 := 15) (by decide)  (Cn := RX5) (T := TX5) (N := 15) rfl rfl (inlX5) tyX5 tyX5_ok nmX5 10 (by decide) wd_89 rfl rfl rfl rfl (Nat.le_of_ble_eq_true rfl) (zU σ 15 10 x) rfl (fun i hi => zU_cell hi) hdg k
theorem zg_X5_36 (C : Cx p s m args c cc RX5 nL D Y a) {σ : zS} (hP : GP D Y a σ H) (hdg : decode cc pc = .ok (.getfield 36, 3)) (k : W p l e R s m args below meth c H locs cells slots Q (F0 m (pc + 3) ls (.ref (a (σ 15 11)) :: rest))) : W p l e R s m args below meth c H locs cells slots Q (F0 m pc ls (.ref (a 15) :: rest)) := z_get C hP (k0 := 15) (by decide) (Cn := RX5) (T := TX5) (N := 15) rfl rfl (inlX5) 11 (by decide) wd_90 rfl rfl hdg k
theorem zp_X5_36 (C : Cx p s m args c cc RX5 nL D Y a) {σ : zS} {H0 : Heap} (hP : GP D Y a σ H) (hS : va_S (inA a) H0 H locs) {x : Int} (hdg : decode cc pc = .ok (.putfield 36, 3)) (k : ∀ (H1 : Heap) (locs1 : List Loc), GP D Y a (zU σ 15 11 x) H1 → va_S (inA a) H0 H1 locs1 → W p l e R s m args below meth c H1 locs1 cells slots Q (F0 m (pc + 3) ls rest)) : W p l e R s m args below meth c H locs cells slots Q (F0 m pc ls (.ref (a x) :: .ref (a 15) :: rest)) := z_put C hP hS (k0 := 15) (by decide)  (Cn := RX5) (T := TX5) (N := 15) rfl rfl (inlX5) tyX5 tyX5_ok nmX5 11 (by decide) wd_90 rfl rfl rfl rfl (Nat.le_of_ble_eq_true rfl) (zU σ 15 11 x) rfl (fun i hi => zU_cell hi) hdg k
theorem zg_X5_39 (C : Cx p s m args c cc RX5 nL D Y a) {σ : zS} (hP : GP D Y a σ H) (hdg : decode cc pc = .ok (.getfield 39, 3)) (k : W p l e R s m args below meth c H locs cells slots Q (F0 m (pc + 3) ls (.ref (a 32) :: rest))) : W p l e R s m args below meth c H locs cells slots Q (F0 m pc ls (.ref (a 15) :: rest)) := z_get C hP (k0 := 15) (by decide) (Cn := RX5) (T := TX5) (N := 15) rfl rfl (inlX5) 12 (by decide) wd_91 rfl rfl hdg k
theorem zg_X5_49 (C : Cx p s m args c cc RX5 nL D Y a) {σ : zS} (hP : GP D Y a σ H) (hdg : decode cc pc = .ok (.getfield 49, 3)) (k : W p l e R s m args below meth c H locs cells slots Q (F0 m (pc + 3) ls (.ref (a (σ 15 13)) :: rest))) : W p l e R s m args below meth c H locs cells slots Q (F0 m pc ls (.ref (a 15) :: rest)) := z_get C hP (k0 := 15) (by decide) (Cn := RX5) (T := TX5) (N := 15) rfl rfl (inlX5) 13 (by decide) wd_92 rfl rfl hdg k
theorem zp_X5_49 (C : Cx p s m args c cc RX5 nL D Y a) {σ : zS} {H0 : Heap} (hP : GP D Y a σ H) (hS : va_S (inA a) H0 H locs) {x : Int} (hdg : decode cc pc = .ok (.putfield 49, 3)) (k : ∀ (H1 : Heap) (locs1 : List Loc), GP D Y a (zU σ 15 13 x) H1 → va_S (inA a) H0 H1 locs1 → W p l e R s m args below meth c H1 locs1 cells slots Q (F0 m (pc + 3) ls rest)) : W p l e R s m args below meth c H locs cells slots Q (F0 m pc ls (.ref (a x) :: .ref (a 15) :: rest)) := z_put C hP hS (k0 := 15) (by decide)  (Cn := RX5) (T := TX5) (N := 15) rfl rfl (inlX5) tyX5 tyX5_ok nmX5 13 (by decide) wd_92 rfl rfl rfl rfl (Nat.le_of_ble_eq_true rfl) (zU σ 15 13 x) rfl (fun i hi => zU_cell hi) hdg k
theorem zg_X5_56 (C : Cx p s m args c cc RX5 nL D Y a) {σ : zS} (hP : GP D Y a σ H) (hdg : decode cc pc = .ok (.getfield 56, 3)) (k : W p l e R s m args below meth c H locs cells slots Q (F0 m (pc + 3) ls (.ref (a (σ 15 14)) :: rest))) : W p l e R s m args below meth c H locs cells slots Q (F0 m pc ls (.ref (a 15) :: rest)) := z_get C hP (k0 := 15) (by decide) (Cn := RX5) (T := TX5) (N := 15) rfl rfl (inlX5) 14 (by decide) wd_93 rfl rfl hdg k
theorem zp_X5_56 (C : Cx p s m args c cc RX5 nL D Y a) {σ : zS} {H0 : Heap} (hP : GP D Y a σ H) (hS : va_S (inA a) H0 H locs) {x : Int} (hdg : decode cc pc = .ok (.putfield 56, 3)) (k : ∀ (H1 : Heap) (locs1 : List Loc), GP D Y a (zU σ 15 14 x) H1 → va_S (inA a) H0 H1 locs1 → W p l e R s m args below meth c H1 locs1 cells slots Q (F0 m (pc + 3) ls rest)) : W p l e R s m args below meth c H locs cells slots Q (F0 m pc ls (.ref (a x) :: .ref (a 15) :: rest)) := z_put C hP hS (k0 := 15) (by decide)  (Cn := RX5) (T := TX5) (N := 15) rfl rfl (inlX5) tyX5 tyX5_ok nmX5 14 (by decide) wd_93 rfl rfl rfl rfl (Nat.le_of_ble_eq_true rfl) (zU σ 15 14 x) rfl (fun i hi => zU_cell hi) hdg k
theorem zg_X8_7 (C : Cx p s m args c cc RX8 nL D Y a) {σ : zS} (hP : GP D Y a σ H) (hdg : decode cc pc = .ok (.getfield 7, 3)) (k : W p l e R s m args below meth c H locs cells slots Q (F0 m (pc + 3) ls (.ref (a 101) :: rest))) : W p l e R s m args below meth c H locs cells slots Q (F0 m pc ls (.ref (a 100) :: rest)) := z_get C hP (k0 := 100) (by decide) (Cn := RX8) (T := TX8) (N := 38) rfl rfl (inlX8) 1 (by decide) wd_106 rfl rfl hdg k
theorem zg_X8_13 (C : Cx p s m args c cc RX8 nL D Y a) {σ : zS} (hP : GP D Y a σ H) (hdg : decode cc pc = .ok (.getfield 13, 3)) (k : W p l e R s m args below meth c H locs cells slots Q (F0 m (pc + 3) ls (.ref (a 102) :: rest))) : W p l e R s m args below meth c H locs cells slots Q (F0 m pc ls (.ref (a 100) :: rest)) := z_get C hP (k0 := 100) (by decide) (Cn := RX8) (T := TX8) (N := 38) rfl rfl (inlX8) 2 (by decide) wd_107 rfl rfl hdg k
theorem zg_X8_16 (C : Cx p s m args c cc RX8 nL D Y a) {σ : zS} (hP : GP D Y a σ H) (hdg : decode cc pc = .ok (.getfield 16, 3)) (k : W p l e R s m args below meth c H locs cells slots Q (F0 m (pc + 3) ls (.ref (a 103) :: rest))) : W p l e R s m args below meth c H locs cells slots Q (F0 m pc ls (.ref (a 100) :: rest)) := z_get C hP (k0 := 100) (by decide) (Cn := RX8) (T := TX8) (N := 38) rfl rfl (inlX8) 3 (by decide) wd_108 rfl rfl hdg k
theorem zg_X8_19 (C : Cx p s m args c cc RX8 nL D Y a) {σ : zS} (hP : GP D Y a σ H) (hdg : decode cc pc = .ok (.getfield 19, 3)) (k : W p l e R s m args below meth c H locs cells slots Q (F0 m (pc + 3) ls (.ref (a 104) :: rest))) : W p l e R s m args below meth c H locs cells slots Q (F0 m pc ls (.ref (a 100) :: rest)) := z_get C hP (k0 := 100) (by decide) (Cn := RX8) (T := TX8) (N := 38) rfl rfl (inlX8) 4 (by decide) wd_109 rfl rfl hdg k
theorem zg_X8_22 (C : Cx p s m args c cc RX8 nL D Y a) {σ : zS} (hP : GP D Y a σ H) (hdg : decode cc pc = .ok (.getfield 22, 3)) (k : W p l e R s m args below meth c H locs cells slots Q (F0 m (pc + 3) ls (.ref (a 105) :: rest))) : W p l e R s m args below meth c H locs cells slots Q (F0 m pc ls (.ref (a 100) :: rest)) := z_get C hP (k0 := 100) (by decide) (Cn := RX8) (T := TX8) (N := 38) rfl rfl (inlX8) 10 (by decide) wd_110 rfl rfl hdg k
theorem zg_X8_25 (C : Cx p s m args c cc RX8 nL D Y a) {σ : zS} (hP : GP D Y a σ H) (hdg : decode cc pc = .ok (.getfield 25, 3)) (k : W p l e R s m args below meth c H locs cells slots Q (F0 m (pc + 3) ls (.ref (a 106) :: rest))) : W p l e R s m args below meth c H locs cells slots Q (F0 m pc ls (.ref (a 100) :: rest)) := z_get C hP (k0 := 100) (by decide) (Cn := RX8) (T := TX8) (N := 38) rfl rfl (inlX8) 12 (by decide) wd_111 rfl rfl hdg k
theorem zg_X8_28 (C : Cx p s m args c cc RX8 nL D Y a) {σ : zS} (hP : GP D Y a σ H) (hdg : decode cc pc = .ok (.getfield 28, 3)) (k : W p l e R s m args below meth c H locs cells slots Q (F0 m (pc + 3) ls (.ref (a 107) :: rest))) : W p l e R s m args below meth c H locs cells slots Q (F0 m pc ls (.ref (a 100) :: rest)) := z_get C hP (k0 := 100) (by decide) (Cn := RX8) (T := TX8) (N := 38) rfl rfl (inlX8) 13 (by decide) wd_112 rfl rfl hdg k
theorem zg_X8_31 (C : Cx p s m args c cc RX8 nL D Y a) {σ : zS} (hP : GP D Y a σ H) (hdg : decode cc pc = .ok (.getfield 31, 3)) (k : W p l e R s m args below meth c H locs cells slots Q (F0 m (pc + 3) ls (.ref (a 108) :: rest))) : W p l e R s m args below meth c H locs cells slots Q (F0 m pc ls (.ref (a 100) :: rest)) := z_get C hP (k0 := 100) (by decide) (Cn := RX8) (T := TX8) (N := 38) rfl rfl (inlX8) 14 (by decide) wd_113 rfl rfl hdg k
theorem zg_X8_34 (C : Cx p s m args c cc RX8 nL D Y a) {σ : zS} (hP : GP D Y a σ H) (hdg : decode cc pc = .ok (.getfield 34, 3)) (k : W p l e R s m args below meth c H locs cells slots Q (F0 m (pc + 3) ls (.ref (a 109) :: rest))) : W p l e R s m args below meth c H locs cells slots Q (F0 m pc ls (.ref (a 100) :: rest)) := z_get C hP (k0 := 100) (by decide) (Cn := RX8) (T := TX8) (N := 38) rfl rfl (inlX8) 15 (by decide) wd_114 rfl rfl hdg k
theorem zg_X8_37 (C : Cx p s m args c cc RX8 nL D Y a) {σ : zS} (hP : GP D Y a σ H) (hdg : decode cc pc = .ok (.getfield 37, 3)) (k : W p l e R s m args below meth c H locs cells slots Q (F0 m (pc + 3) ls (.ref (a 110) :: rest))) : W p l e R s m args below meth c H locs cells slots Q (F0 m pc ls (.ref (a 100) :: rest)) := z_get C hP (k0 := 100) (by decide) (Cn := RX8) (T := TX8) (N := 38) rfl rfl (inlX8) 17 (by decide) wd_115 rfl rfl hdg k
theorem zg_X8_40 (C : Cx p s m args c cc RX8 nL D Y a) {σ : zS} (hP : GP D Y a σ H) (hdg : decode cc pc = .ok (.getfield 40, 3)) (k : W p l e R s m args below meth c H locs cells slots Q (F0 m (pc + 3) ls (.ref (a 111) :: rest))) : W p l e R s m args below meth c H locs cells slots Q (F0 m pc ls (.ref (a 100) :: rest)) := z_get C hP (k0 := 100) (by decide) (Cn := RX8) (T := TX8) (N := 38) rfl rfl (inlX8) 19 (by decide) wd_116 rfl rfl hdg k
theorem zg_X8_43 (C : Cx p s m args c cc RX8 nL D Y a) {σ : zS} (hP : GP D Y a σ H) (hdg : decode cc pc = .ok (.getfield 43, 3)) (k : W p l e R s m args below meth c H locs cells slots Q (F0 m (pc + 3) ls (.ref (a 112) :: rest))) : W p l e R s m args below meth c H locs cells slots Q (F0 m pc ls (.ref (a 100) :: rest)) := z_get C hP (k0 := 100) (by decide) (Cn := RX8) (T := TX8) (N := 38) rfl rfl (inlX8) 20 (by decide) wd_117 rfl rfl hdg k
theorem zg_X8_46 (C : Cx p s m args c cc RX8 nL D Y a) {σ : zS} (hP : GP D Y a σ H) (hdg : decode cc pc = .ok (.getfield 46, 3)) (k : W p l e R s m args below meth c H locs cells slots Q (F0 m (pc + 3) ls (.ref (a 113) :: rest))) : W p l e R s m args below meth c H locs cells slots Q (F0 m pc ls (.ref (a 100) :: rest)) := z_get C hP (k0 := 100) (by decide) (Cn := RX8) (T := TX8) (N := 38) rfl rfl (inlX8) 21 (by decide) wd_118 rfl rfl hdg k
theorem zg_X8_49 (C : Cx p s m args c cc RX8 nL D Y a) {σ : zS} (hP : GP D Y a σ H) (hdg : decode cc pc = .ok (.getfield 49, 3)) (k : W p l e R s m args below meth c H locs cells slots Q (F0 m (pc + 3) ls (.ref (a 114) :: rest))) : W p l e R s m args below meth c H locs cells slots Q (F0 m pc ls (.ref (a 100) :: rest)) := z_get C hP (k0 := 100) (by decide) (Cn := RX8) (T := TX8) (N := 38) rfl rfl (inlX8) 22 (by decide) wd_119 rfl rfl hdg k
theorem zg_X8_52 (C : Cx p s m args c cc RX8 nL D Y a) {σ : zS} (hP : GP D Y a σ H) (hdg : decode cc pc = .ok (.getfield 52, 3)) (k : W p l e R s m args below meth c H locs cells slots Q (F0 m (pc + 3) ls (.ref (a 115) :: rest))) : W p l e R s m args below meth c H locs cells slots Q (F0 m pc ls (.ref (a 100) :: rest)) := z_get C hP (k0 := 100) (by decide) (Cn := RX8) (T := TX8) (N := 38) rfl rfl (inlX8) 31 (by decide) wd_120 rfl rfl hdg k
theorem zg_X8_55 (C : Cx p s m args c cc RX8 nL D Y a) {σ : zS} (hP : GP D Y a σ H) (hdg : decode cc pc = .ok (.getfield 55, 3)) (k : W p l e R s m args below meth c H locs cells slots Q (F0 m (pc + 3) ls (.ref (a 116) :: rest))) : W p l e R s m args below meth c H locs cells slots Q (F0 m pc ls (.ref (a 100) :: rest)) := z_get C hP (k0 := 100) (by decide) (Cn := RX8) (T := TX8) (N := 38) rfl rfl (inlX8) 32 (by decide) wd_121 rfl rfl hdg k
theorem zg_X8_58 (C : Cx p s m args c cc RX8 nL D Y a) {σ : zS} (hP : GP D Y a σ H) (hdg : decode cc pc = .ok (.getfield 58, 3)) (k : W p l e R s m args below meth c H locs cells slots Q (F0 m (pc + 3) ls (.ref (a 117) :: rest))) : W p l e R s m args below meth c H locs cells slots Q (F0 m pc ls (.ref (a 100) :: rest)) := z_get C hP (k0 := 100) (by decide) (Cn := RX8) (T := TX8) (N := 38) rfl rfl (inlX8) 33 (by decide) wd_122 rfl rfl hdg k
theorem zg_X8_61 (C : Cx p s m args c cc RX8 nL D Y a) {σ : zS} (hP : GP D Y a σ H) (hdg : decode cc pc = .ok (.getfield 61, 3)) (k : W p l e R s m args below meth c H locs cells slots Q (F0 m (pc + 3) ls (.ref (a 118) :: rest))) : W p l e R s m args below meth c H locs cells slots Q (F0 m pc ls (.ref (a 100) :: rest)) := z_get C hP (k0 := 100) (by decide) (Cn := RX8) (T := TX8) (N := 38) rfl rfl (inlX8) 34 (by decide) wd_123 rfl rfl hdg k
theorem zg_X8_64 (C : Cx p s m args c cc RX8 nL D Y a) {σ : zS} (hP : GP D Y a σ H) (hdg : decode cc pc = .ok (.getfield 64, 3)) (k : W p l e R s m args below meth c H locs cells slots Q (F0 m (pc + 3) ls (.ref (a 119) :: rest))) : W p l e R s m args below meth c H locs cells slots Q (F0 m pc ls (.ref (a 100) :: rest)) := z_get C hP (k0 := 100) (by decide) (Cn := RX8) (T := TX8) (N := 38) rfl rfl (inlX8) 35 (by decide) wd_124 rfl rfl hdg k
theorem zg_X8_68 (C : Cx p s m args c cc RX8 nL D Y a) {σ : zS} (hP : GP D Y a σ H) (hdg : decode cc pc = .ok (.getfield 68, 3)) (k : W p l e R s m args below meth c H locs cells slots Q (F0 m (pc + 3) ls (.int (iI (σ 100 6)) :: rest))) : W p l e R s m args below meth c H locs cells slots Q (F0 m pc ls (.ref (a 100) :: rest)) := z_get C hP (k0 := 100) (by decide) (Cn := RX8) (T := TX8) (N := 38) rfl rfl (inlX8) 6 (by decide) wd_125 rfl rfl hdg k
theorem zp_X8_68 (C : Cx p s m args c cc RX8 nL D Y a) {σ : zS} {H0 : Heap} (hP : GP D Y a σ H) (hS : va_S (inA a) H0 H locs) {x : Int} (hdg : decode cc pc = .ok (.putfield 68, 3)) (k : ∀ (H1 : Heap) (locs1 : List Loc), GP D Y a (zU σ 100 6 x) H1 → va_S (inA a) H0 H1 locs1 → W p l e R s m args below meth c H1 locs1 cells slots Q (F0 m (pc + 3) ls rest)) : W p l e R s m args below meth c H locs cells slots Q (F0 m pc ls (.int (iI x) :: .ref (a 100) :: rest)) := z_put C hP hS (k0 := 100) (by decide)  (Cn := RX8) (T := TX8) (N := 38) rfl rfl (inlX8) tyX8 tyX8_ok nmX8 6 (by decide) wd_125 rfl rfl rfl rfl (Nat.le_of_ble_eq_true rfl) (zU σ 100 6 x) rfl (fun i hi => zU_cell hi) hdg k
theorem zg_X8_72 (C : Cx p s m args c cc RX8 nL D Y a) {σ : zS} (hP : GP D Y a σ H) (hdg : decode cc pc = .ok (.getfield 72, 3)) (k : W p l e R s m args below meth c H locs cells slots Q (F0 m (pc + 3) ls (.int (iI (σ 100 7)) :: rest))) : W p l e R s m args below meth c H locs cells slots Q (F0 m pc ls (.ref (a 100) :: rest)) := z_get C hP (k0 := 100) (by decide) (Cn := RX8) (T := TX8) (N := 38) rfl rfl (inlX8) 7 (by decide) wd_126 rfl rfl hdg k
theorem zp_X8_72 (C : Cx p s m args c cc RX8 nL D Y a) {σ : zS} {H0 : Heap} (hP : GP D Y a σ H) (hS : va_S (inA a) H0 H locs) {x : Int} (hdg : decode cc pc = .ok (.putfield 72, 3)) (k : ∀ (H1 : Heap) (locs1 : List Loc), GP D Y a (zU σ 100 7 x) H1 → va_S (inA a) H0 H1 locs1 → W p l e R s m args below meth c H1 locs1 cells slots Q (F0 m (pc + 3) ls rest)) : W p l e R s m args below meth c H locs cells slots Q (F0 m pc ls (.int (iI x) :: .ref (a 100) :: rest)) := z_put C hP hS (k0 := 100) (by decide)  (Cn := RX8) (T := TX8) (N := 38) rfl rfl (inlX8) tyX8 tyX8_ok nmX8 7 (by decide) wd_126 rfl rfl rfl rfl (Nat.le_of_ble_eq_true rfl) (zU σ 100 7 x) rfl (fun i hi => zU_cell hi) hdg k
theorem zg_X8_75 (C : Cx p s m args c cc RX8 nL D Y a) {σ : zS} (hP : GP D Y a σ H) (hdg : decode cc pc = .ok (.getfield 75, 3)) (k : W p l e R s m args below meth c H locs cells slots Q (F0 m (pc + 3) ls (.int (iI (σ 100 8)) :: rest))) : W p l e R s m args below meth c H locs cells slots Q (F0 m pc ls (.ref (a 100) :: rest)) := z_get C hP (k0 := 100) (by decide) (Cn := RX8) (T := TX8) (N := 38) rfl rfl (inlX8) 8 (by decide) wd_127 rfl rfl hdg k
theorem zp_X8_75 (C : Cx p s m args c cc RX8 nL D Y a) {σ : zS} {H0 : Heap} (hP : GP D Y a σ H) (hS : va_S (inA a) H0 H locs) {x : Int} (hdg : decode cc pc = .ok (.putfield 75, 3)) (k : ∀ (H1 : Heap) (locs1 : List Loc), GP D Y a (zU σ 100 8 x) H1 → va_S (inA a) H0 H1 locs1 → W p l e R s m args below meth c H1 locs1 cells slots Q (F0 m (pc + 3) ls rest)) : W p l e R s m args below meth c H locs cells slots Q (F0 m pc ls (.int (iI x) :: .ref (a 100) :: rest)) := z_put C hP hS (k0 := 100) (by decide)  (Cn := RX8) (T := TX8) (N := 38) rfl rfl (inlX8) tyX8 tyX8_ok nmX8 8 (by decide) wd_127 rfl rfl rfl rfl (Nat.le_of_ble_eq_true rfl) (zU σ 100 8 x) rfl (fun i hi => zU_cell hi) hdg k
theorem zg_X8_78 (C : Cx p s m args c cc RX8 nL D Y a) {σ : zS} (hP : GP D Y a σ H) (hdg : decode cc pc = .ok (.getfield 78, 3)) (k : W p l e R s m args below meth c H locs cells slots Q (F0 m (pc + 3) ls (.int (iI (σ 100 9)) :: rest))) : W p l e R s m args below meth c H locs cells slots Q (F0 m pc ls (.ref (a 100) :: rest)) := z_get C hP (k0 := 100) (by decide) (Cn := RX8) (T := TX8) (N := 38) rfl rfl (inlX8) 9 (by decide) wd_128 rfl rfl hdg k
theorem zp_X8_78 (C : Cx p s m args c cc RX8 nL D Y a) {σ : zS} {H0 : Heap} (hP : GP D Y a σ H) (hS : va_S (inA a) H0 H locs) {x : Int} (hdg : decode cc pc = .ok (.putfield 78, 3)) (k : ∀ (H1 : Heap) (locs1 : List Loc), GP D Y a (zU σ 100 9 x) H1 → va_S (inA a) H0 H1 locs1 → W p l e R s m args below meth c H1 locs1 cells slots Q (F0 m (pc + 3) ls rest)) : W p l e R s m args below meth c H locs cells slots Q (F0 m pc ls (.int (iI x) :: .ref (a 100) :: rest)) := z_put C hP hS (k0 := 100) (by decide)  (Cn := RX8) (T := TX8) (N := 38) rfl rfl (inlX8) tyX8 tyX8_ok nmX8 9 (by decide) wd_128 rfl rfl rfl rfl (Nat.le_of_ble_eq_true rfl) (zU σ 100 9 x) rfl (fun i hi => zU_cell hi) hdg k
theorem zg_X8_81 (C : Cx p s m args c cc RX8 nL D Y a) {σ : zS} (hP : GP D Y a σ H) (hdg : decode cc pc = .ok (.getfield 81, 3)) (k : W p l e R s m args below meth c H locs cells slots Q (F0 m (pc + 3) ls (.int (iI (σ 100 11)) :: rest))) : W p l e R s m args below meth c H locs cells slots Q (F0 m pc ls (.ref (a 100) :: rest)) := z_get C hP (k0 := 100) (by decide) (Cn := RX8) (T := TX8) (N := 38) rfl rfl (inlX8) 11 (by decide) wd_129 rfl rfl hdg k
theorem zp_X8_81 (C : Cx p s m args c cc RX8 nL D Y a) {σ : zS} {H0 : Heap} (hP : GP D Y a σ H) (hS : va_S (inA a) H0 H locs) {x : Int} (hdg : decode cc pc = .ok (.putfield 81, 3)) (k : ∀ (H1 : Heap) (locs1 : List Loc), GP D Y a (zU σ 100 11 x) H1 → va_S (inA a) H0 H1 locs1 → W p l e R s m args below meth c H1 locs1 cells slots Q (F0 m (pc + 3) ls rest)) : W p l e R s m args below meth c H locs cells slots Q (F0 m pc ls (.int (iI x) :: .ref (a 100) :: rest)) := z_put C hP hS (k0 := 100) (by decide)  (Cn := RX8) (T := TX8) (N := 38) rfl rfl (inlX8) tyX8 tyX8_ok nmX8 11 (by decide) wd_129 rfl rfl rfl rfl (Nat.le_of_ble_eq_true rfl) (zU σ 100 11 x) rfl (fun i hi => zU_cell hi) hdg k
theorem zg_X7_58 (C : Cx p s m args c cc RX7 nL D Y a) {σ : zS} (hP : GP D Y a σ H) {k0 : Int} (hk : zSet k0) (hdg : decode cc pc = .ok (.getfield 58, 3)) (k : W p l e R s m args below meth c H locs cells slots Q (F0 m (pc + 3) ls (.ref (a (k0 + 1)) :: rest))) : W p l e R s m args below meth c H locs cells slots Q (F0 m pc ls (.ref (a k0) :: rest)) := z_get C hP (k0 := k0) (zSet_in hk) (Cn := RX6) (T := TX6) (N := 14) (sh_set hk _) rfl (inlX6) 0 (by decide) wd_134 rfl rfl hdg k
theorem zg32_X7_58 (C : Cx p s m args c cc RX7 nL D Y a) {σ : zS} (hP : GP D Y a σ H) (hdg : decode cc pc = .ok (.getfield 58, 3)) (k : W p l e R s m args below meth c H locs cells slots Q (F0 m (pc + 3) ls (.ref (a 33) :: rest))) : W p l e R s m args below meth c H locs cells slots Q (F0 m pc ls (.ref (a 32) :: rest)) := z_get C hP (k0 := 32) (by decide) (Cn := RX6) (T := TX6) (N := 14) rfl rfl (inlX6) 0 (by decide) wd_134 rfl rfl hdg k
theorem zg_X4_7 (C : Cx p s m args c cc RX4 nL D Y a) {σ : zS} (hP : GP D Y a σ H) {k0 : Int} (hk : zRid k0) (hdg : decode cc pc = .ok (.getfield 7, 3)) (k : W p l e R s m args below meth c H locs cells slots Q (F0 m (pc + 3) ls (.int (iI (σ k0 0)) :: rest))) : W p l e R s m args below meth c H locs cells slots Q (F0 m pc ls (.ref (a k0) :: rest)) := z_get C hP (k0 := k0) (zRid_in hk) (Cn := RX4) (T := TX4) (N := 5) (sh_rid hk _) rfl (inlX4) 0 (by decide) wd_142 rfl rfl hdg k
theorem zp_X4_7 (C : Cx p s m args c cc RX4 nL D Y a) {σ : zS} {H0 : Heap} (hP : GP D Y a σ H) (hS : va_S (inA a) H0 H locs) {k0 : Int} (hk : zRid k0) {x : Int} (hx : x = 0 ∨ x = 1) (hdg : decode cc pc = .ok (.putfield 7, 3)) (k : ∀ (H1 : Heap) (locs1 : List Loc), GP D Y a (zU σ k0 0 x) H1 → va_S (inA a) H0 H1 locs1 → W p l e R s m args below meth c H1 locs1 cells slots Q (F0 m (pc + 3) ls rest)) : W p l e R s m args below meth c H locs cells slots Q (F0 m pc ls (.int (iI x) :: .ref (a k0) :: rest)) := z_put C hP hS (k0 := k0) (zRid_in hk)  (Cn := RX4) (T := TX4) (N := 5) (sh_rid hk _) rfl (inlX4) tyX4 tyX4_ok nmX4 0 (by decide) wd_142 rfl rfl (by rcases hx with rfl | rfl <;> rfl) (by rcases hx with rfl | rfl <;> rfl) (Nat.le_of_ble_eq_true rfl) (zU σ k0 0 x) (by rw [sh_rid hk]; simp [zU]) (fun i hi => zU_cell hi) hdg k
theorem zg_X4_13 (C : Cx p s m args c cc RX4 nL D Y a) {σ : zS} (hP : GP D Y a σ H) {k0 : Int} (hk : zRid k0) (hdg : decode cc pc = .ok (.getfield 13, 3)) (k : W p l e R s m args below meth c H locs cells slots Q (F0 m (pc + 3) ls (.int (iI (σ k0 1)) :: rest))) : W p l e R s m args below meth c H locs cells slots Q (F0 m pc ls (.ref (a k0) :: rest)) := z_get C hP (k0 := k0) (zRid_in hk) (Cn := RX4) (T := TX4) (N := 5) (sh_rid hk _) rfl (inlX4) 1 (by decide) wd_143 rfl rfl hdg k
theorem zp_X4_13 (C : Cx p s m args c cc RX4 nL D Y a) {σ : zS} {H0 : Heap} (hP : GP D Y a σ H) (hS : va_S (inA a) H0 H locs) {k0 : Int} (hk : zRid k0) {x : Int} (hdg : decode cc pc = .ok (.putfield 13, 3)) (k : ∀ (H1 : Heap) (locs1 : List Loc), GP D Y a (zU σ k0 1 x) H1 → va_S (inA a) H0 H1 locs1 → W p l e R s m args below meth c H1 locs1 cells slots Q (F0 m (pc + 3) ls rest)) : W p l e R s m args below meth c H locs cells slots Q (F0 m pc ls (.int (iI x) :: .ref (a k0) :: rest)) := z_put C hP hS (k0 := k0) (zRid_in hk)  (Cn := RX4) (T := TX4) (N := 5) (sh_rid hk _) rfl (inlX4) tyX4 tyX4_ok nmX4 1 (by decide) wd_143 rfl rfl rfl rfl (Nat.le_of_ble_eq_true rfl) (zU σ k0 1 x) (by rw [sh_rid hk]; simp [zU]) (fun i hi => zU_cell hi) hdg k
theorem zg_X4_17 (C : Cx p s m args c cc RX4 nL D Y a) {σ : zS} (hP : GP D Y a σ H) {k0 : Int} (hk : zRid k0) (hdg : decode cc pc = .ok (.getfield 17, 3)) (k : W p l e R s m args below meth c H locs cells slots Q (F0 m (pc + 3) ls (.int (iI (σ k0 2)) :: rest))) : W p l e R s m args below meth c H locs cells slots Q (F0 m pc ls (.ref (a k0) :: rest)) := z_get C hP (k0 := k0) (zRid_in hk) (Cn := RX4) (T := TX4) (N := 5) (sh_rid hk _) rfl (inlX4) 2 (by decide) wd_144 rfl rfl hdg k
theorem zp_X4_17 (C : Cx p s m args c cc RX4 nL D Y a) {σ : zS} {H0 : Heap} (hP : GP D Y a σ H) (hS : va_S (inA a) H0 H locs) {k0 : Int} (hk : zRid k0) {x : Int} (hdg : decode cc pc = .ok (.putfield 17, 3)) (k : ∀ (H1 : Heap) (locs1 : List Loc), GP D Y a (zU σ k0 2 x) H1 → va_S (inA a) H0 H1 locs1 → W p l e R s m args below meth c H1 locs1 cells slots Q (F0 m (pc + 3) ls rest)) : W p l e R s m args below meth c H locs cells slots Q (F0 m pc ls (.int (iI x) :: .ref (a k0) :: rest)) := z_put C hP hS (k0 := k0) (zRid_in hk)  (Cn := RX4) (T := TX4) (N := 5) (sh_rid hk _) rfl (inlX4) tyX4 tyX4_ok nmX4 2 (by decide) wd_144 rfl rfl rfl rfl (Nat.le_of_ble_eq_true rfl) (zU σ k0 2 x) (by rw [sh_rid hk]; simp [zU]) (fun i hi => zU_cell hi) hdg k
theorem zg_X4_20 (C : Cx p s m args c cc RX4 nL D Y a) {σ : zS} (hP : GP D Y a σ H) {k0 : Int} (hk : zRid k0) (hdg : decode cc pc = .ok (.getfield 20, 3)) (k : W p l e R s m args below meth c H locs cells slots Q (F0 m (pc + 3) ls (.int (iI (σ k0 3)) :: rest))) : W p l e R s m args below meth c H locs cells slots Q (F0 m pc ls (.ref (a k0) :: rest)) := z_get C hP (k0 := k0) (zRid_in hk) (Cn := RX4) (T := TX4) (N := 5) (sh_rid hk _) rfl (inlX4) 3 (by decide) wd_145 rfl rfl hdg k
theorem zp_X4_20 (C : Cx p s m args c cc RX4 nL D Y a) {σ : zS} {H0 : Heap} (hP : GP D Y a σ H) (hS : va_S (inA a) H0 H locs) {k0 : Int} (hk : zRid k0) {x : Int} (hdg : decode cc pc = .ok (.putfield 20, 3)) (k : ∀ (H1 : Heap) (locs1 : List Loc), GP D Y a (zU σ k0 3 x) H1 → va_S (inA a) H0 H1 locs1 → W p l e R s m args below meth c H1 locs1 cells slots Q (F0 m (pc + 3) ls rest)) : W p l e R s m args below meth c H locs cells slots Q (F0 m pc ls (.int (iI x) :: .ref (a k0) :: rest)) := z_put C hP hS (k0 := k0) (zRid_in hk)  (Cn := RX4) (T := TX4) (N := 5) (sh_rid hk _) rfl (inlX4) tyX4 tyX4_ok nmX4 3 (by decide) wd_145 rfl rfl rfl rfl (Nat.le_of_ble_eq_true rfl) (zU σ k0 3 x) (by rw [sh_rid hk]; simp [zU]) (fun i hi => zU_cell hi) hdg k
theorem zg_X4_23 (C : Cx p s m args c cc RX4 nL D Y a) {σ : zS} (hP : GP D Y a σ H) {k0 : Int} (hk : zRid k0) (hdg : decode cc pc = .ok (.getfield 23, 3)) (k : W p l e R s m args below meth c H locs cells slots Q (F0 m (pc + 3) ls (.int (iI (σ k0 4)) :: rest))) : W p l e R s m args below meth c H locs cells slots Q (F0 m pc ls (.ref (a k0) :: rest)) := z_get C hP (k0 := k0) (zRid_in hk) (Cn := RX4) (T := TX4) (N := 5) (sh_rid hk _) rfl (inlX4) 4 (by decide) wd_146 rfl rfl hdg k
theorem zp_X4_23 (C : Cx p s m args c cc RX4 nL D Y a) {σ : zS} {H0 : Heap} (hP : GP D Y a σ H) (hS : va_S (inA a) H0 H locs) {k0 : Int} (hk : zRid k0) {x : Int} (hdg : decode cc pc = .ok (.putfield 23, 3)) (k : ∀ (H1 : Heap) (locs1 : List Loc), GP D Y a (zU σ k0 4 x) H1 → va_S (inA a) H0 H1 locs1 → W p l e R s m args below meth c H1 locs1 cells slots Q (F0 m (pc + 3) ls rest)) : W p l e R s m args below meth c H locs cells slots Q (F0 m pc ls (.int (iI x) :: .ref (a k0) :: rest)) := z_put C hP hS (k0 := k0) (zRid_in hk)  (Cn := RX4) (T := TX4) (N := 5) (sh_rid hk _) rfl (inlX4) tyX4 tyX4_ok nmX4 4 (by decide) wd_146 rfl rfl rfl rfl (Nat.le_of_ble_eq_true rfl) (zU σ k0 4 x) (by rw [sh_rid hk]; simp [zU]) (fun i hi => zU_cell hi) hdg k
theorem zg_X6_73 (C : Cx p s m args c cc RX6 nL D Y a) {σ : zS} (hP : GP D Y a σ H) {k0 : Int} (hk : zRid k0) (hdg : decode cc pc = .ok (.getfield 73, 3)) (k : W p l e R s m args below meth c H locs cells slots Q (F0 m (pc + 3) ls (.int (iI (σ k0 0)) :: rest))) : W p l e R s m args below meth c H locs cells slots Q (F0 m pc ls (.ref (a k0) :: rest)) := z_get C hP (k0 := k0) (zRid_in hk) (Cn := RX4) (T := TX4) (N := 5) (sh_rid hk _) rfl (inlX4) 0 (by decide) wd_155 rfl rfl hdg k
theorem zp_X6_73 (C : Cx p s m args c cc RX6 nL D Y a) {σ : zS} {H0 : Heap} (hP : GP D Y a σ H) (hS : va_S (inA a) H0 H locs) {k0 : Int} (hk : zRid k0) {x : Int} (hx : x = 0 ∨ x = 1) (hdg : decode cc pc = .ok (.putfield 73, 3)) (k : ∀ (H1 : Heap) (locs1 : List Loc), GP D Y a (zU σ k0 0 x) H1 → va_S (inA a) H0 H1 locs1 → W p l e R s m args below meth c H1 locs1 cells slots Q (F0 m (pc + 3) ls rest)) : W p l e R s m args below meth c H locs cells slots Q (F0 m pc ls (.int (iI x) :: .ref (a k0) :: rest)) := z_put C hP hS (k0 := k0) (zRid_in hk)  (Cn := RX4) (T := TX4) (N := 5) (sh_rid hk _) rfl (inlX4) tyX4 tyX4_ok nmX4 0 (by decide) wd_155 rfl rfl (by rcases hx with rfl | rfl <;> rfl) (by rcases hx with rfl | rfl <;> rfl) (Nat.le_of_ble_eq_true rfl) (zU σ k0 0 x) (by rw [sh_rid hk]; simp [zU]) (fun i hi => zU_cell hi) hdg k
theorem zg_X8_94 (C : Cx p s m args c cc RX8 nL D Y a) {σ : zS} (hP : GP D Y a σ H) (hdg : decode cc pc = .ok (.getfield 94, 3)) (k : W p l e R s m args below meth c H locs cells slots Q (F0 m (pc + 3) ls (.int (iI (σ 100 0)) :: rest))) : W p l e R s m args below meth c H locs cells slots Q (F0 m pc ls (.ref (a 100) :: rest)) := z_get C hP (k0 := 100) (by decide) (Cn := RX8) (T := TX8) (N := 38) rfl rfl (inlX8) 0 (by decide) wd_170 rfl rfl hdg k
theorem zp_X8_94 (C : Cx p s m args c cc RX8 nL D Y a) {σ : zS} {H0 : Heap} (hP : GP D Y a σ H) (hS : va_S (inA a) H0 H locs) {x : Int} (hdg : decode cc pc = .ok (.putfield 94, 3)) (k : ∀ (H1 : Heap) (locs1 : List Loc), GP D Y a (zU σ 100 0 x) H1 → va_S (inA a) H0 H1 locs1 → W p l e R s m args below meth c H1 locs1 cells slots Q (F0 m (pc + 3) ls rest)) : W p l e R s m args below meth c H locs cells slots Q (F0 m pc ls (.int (iI x) :: .ref (a 100) :: rest)) := z_put C hP hS (k0 := 100) (by decide)  (Cn := RX8) (T := TX8) (N := 38) rfl rfl (inlX8) tyX8 tyX8_ok nmX8 0 (by decide) wd_170 rfl rfl rfl rfl (Nat.le_of_ble_eq_true rfl) (zU σ 100 0 x) rfl (fun i hi => zU_cell hi) hdg k
theorem zg_X7_76 (C : Cx p s m args c cc RX7 nL D Y a) {σ : zS} (hP : GP D Y a σ H) {k0 : Int} (hk : zRid k0) (hdg : decode cc pc = .ok (.getfield 76, 3)) (k : W p l e R s m args below meth c H locs cells slots Q (F0 m (pc + 3) ls (.int (iI (σ k0 0)) :: rest))) : W p l e R s m args below meth c H locs cells slots Q (F0 m pc ls (.ref (a k0) :: rest)) := z_get C hP (k0 := k0) (zRid_in hk) (Cn := RX4) (T := TX4) (N := 5) (sh_rid hk _) rfl (inlX4) 0 (by decide) wd_190 rfl rfl hdg k
theorem zp_X7_76 (C : Cx p s m args c cc RX7 nL D Y a) {σ : zS} {H0 : Heap} (hP : GP D Y a σ H) (hS : va_S (inA a) H0 H locs) {k0 : Int} (hk : zRid k0) {x : Int} (hx : x = 0 ∨ x = 1) (hdg : decode cc pc = .ok (.putfield 76, 3)) (k : ∀ (H1 : Heap) (locs1 : List Loc), GP D Y a (zU σ k0 0 x) H1 → va_S (inA a) H0 H1 locs1 → W p l e R s m args below meth c H1 locs1 cells slots Q (F0 m (pc + 3) ls rest)) : W p l e R s m args below meth c H locs cells slots Q (F0 m pc ls (.int (iI x) :: .ref (a k0) :: rest)) := z_put C hP hS (k0 := k0) (zRid_in hk)  (Cn := RX4) (T := TX4) (N := 5) (sh_rid hk _) rfl (inlX4) tyX4 tyX4_ok nmX4 0 (by decide) wd_190 rfl rfl (by rcases hx with rfl | rfl <;> rfl) (by rcases hx with rfl | rfl <;> rfl) (Nat.le_of_ble_eq_true rfl) (zU σ k0 0 x) (by rw [sh_rid hk]; simp [zU]) (fun i hi => zU_cell hi) hdg k
theorem zg_X7_80 (C : Cx p s m args c cc RX7 nL D Y a) {σ : zS} (hP : GP D Y a σ H) {k0 : Int} (hk : zSet k0) (hdg : decode cc pc = .ok (.getfield 80, 3)) (k : W p l e R s m args below meth c H locs cells slots Q (F0 m (pc + 3) ls (.int (iI (σ k0 7)) :: rest))) : W p l e R s m args below meth c H locs cells slots Q (F0 m pc ls (.ref (a k0) :: rest)) := z_get C hP (k0 := k0) (zSet_in hk) (Cn := RX6) (T := TX6) (N := 14) (sh_set hk _) rfl (inlX6) 7 (by decide) wd_207 rfl rfl hdg k
theorem zp_X7_80 (C : Cx p s m args c cc RX7 nL D Y a) {σ : zS} {H0 : Heap} (hP : GP D Y a σ H) (hS : va_S (inA a) H0 H locs) {k0 : Int} (hk : zSet k0) {x : Int} (hdg : decode cc pc = .ok (.putfield 80, 3)) (k : ∀ (H1 : Heap) (locs1 : List Loc), GP D Y a (zU σ k0 7 x) H1 → va_S (inA a) H0 H1 locs1 → W p l e R s m args below meth c H1 locs1 cells slots Q (F0 m (pc + 3) ls rest)) : W p l e R s m args below meth c H locs cells slots Q (F0 m pc ls (.int (iI x) :: .ref (a k0) :: rest)) := z_put C hP hS (k0 := k0) (zSet_in hk)  (Cn := RX6) (T := TX6) (N := 14) (sh_set hk _) rfl (inlX6) tyX6 tyX6_ok nmX6 7 (by decide) wd_207 rfl rfl rfl rfl (Nat.le_of_ble_eq_true rfl) (zU σ k0 7 x) (by rw [sh_set hk]; simp [zU]) (fun i hi => zU_cell hi) hdg k
theorem zg32_X7_80 (C : Cx p s m args c cc RX7 nL D Y a) {σ : zS} (hP : GP D Y a σ H) (hdg : decode cc pc = .ok (.getfield 80, 3)) (k : W p l e R s m args below meth c H locs cells slots Q (F0 m (pc + 3) ls (.int (iI (σ 32 7)) :: rest))) : W p l e R s m args below meth c H locs cells slots Q (F0 m pc ls (.ref (a 32) :: rest)) := z_get C hP (k0 := 32) (by decide) (Cn := RX6) (T := TX6) (N := 14) rfl rfl (inlX6) 7 (by decide) wd_207 rfl rfl hdg k
theorem zp32_X7_80 (C : Cx p s m args c cc RX7 nL D Y a) {σ : zS} {H0 : Heap} (hP : GP D Y a σ H) (hS : va_S (inA a) H0 H locs) {x : Int} (hdg : decode cc pc = .ok (.putfield 80, 3)) (k : ∀ (H1 : Heap) (locs1 : List Loc), GP D Y a (zU σ 32 7 x) H1 → va_S (inA a) H0 H1 locs1 → W p l e R s m args below meth c H1 locs1 cells slots Q (F0 m (pc + 3) ls rest)) : W p l e R s m args below meth c H locs cells slots Q (F0 m pc ls (.int (iI x) :: .ref (a 32) :: rest)) := z_put C hP hS (k0 := 32) (by decide)  (Cn := RX6) (T := TX6) (N := 14) rfl rfl (inlX6) tyX6 tyX6_ok nmX6 7 (by decide) wd_207 rfl rfl rfl rfl (Nat.le_of_ble_eq_true rfl) (zU σ 32 7 x) rfl (fun i hi => zU_cell hi) hdg k
theorem zg_X7_84 (C : Cx p s m args c cc RX7 nL D Y a) {σ : zS} (hP : GP D Y a σ H) {k0 : Int} (hk : zSet k0) (hdg : decode cc pc = .ok (.getfield 84, 3)) (k : W p l e R s m args below meth c H locs cells slots Q (F0 m (pc + 3) ls (.int (iI (σ k0 8)) :: rest))) : W p l e R s m args below meth c H locs cells slots Q (F0 m pc ls (.ref (a k0) :: rest)) := z_get C hP (k0 := k0) (zSet_in hk) (Cn := RX6) (T := TX6) (N := 14) (sh_set hk _) rfl (inlX6) 8 (by decide) wd_208 rfl rfl hdg k
theorem zp_X7_84 (C : Cx p s m args c cc RX7 nL D Y a) {σ : zS} {H0 : Heap} (hP : GP D Y a σ H) (hS : va_S (inA a) H0 H locs) {k0 : Int} (hk : zSet k0) {x : Int} (hdg : decode cc pc = .ok (.putfield 84, 3)) (k : ∀ (H1 : Heap) (locs1 : List Loc), GP D Y a (zU σ k0 8 x) H1 → va_S (inA a) H0 H1 locs1 → W p l e R s m args below meth c H1 locs1 cells slots Q (F0 m (pc + 3) ls rest)) : W p l e R s m args below meth c H locs cells slots Q (F0 m pc ls (.int (iI x) :: .ref (a k0) :: rest)) := z_put C hP hS (k0 := k0) (zSet_in hk)  (Cn := RX6) (T := TX6) (N := 14) (sh_set hk _) rfl (inlX6) tyX6 tyX6_ok nmX6 8 (by decide) wd_208 rfl rfl rfl rfl (Nat.le_of_ble_eq_true rfl) (zU σ k0 8 x) (by rw [sh_set hk]; simp [zU]) (fun i hi => zU_cell hi) hdg k
theorem zg32_X7_84 (C : Cx p s m args c cc RX7 nL D Y a) {σ : zS} (hP : GP D Y a σ H) (hdg : decode cc pc = .ok (.getfield 84, 3)) (k : W p l e R s m args below meth c H locs cells slots Q (F0 m (pc + 3) ls (.int (iI (σ 32 8)) :: rest))) : W p l e R s m args below meth c H locs cells slots Q (F0 m pc ls (.ref (a 32) :: rest)) := z_get C hP (k0 := 32) (by decide) (Cn := RX6) (T := TX6) (N := 14) rfl rfl (inlX6) 8 (by decide) wd_208 rfl rfl hdg k
theorem zp32_X7_84 (C : Cx p s m args c cc RX7 nL D Y a) {σ : zS} {H0 : Heap} (hP : GP D Y a σ H) (hS : va_S (inA a) H0 H locs) {x : Int} (hdg : decode cc pc = .ok (.putfield 84, 3)) (k : ∀ (H1 : Heap) (locs1 : List Loc), GP D Y a (zU σ 32 8 x) H1 → va_S (inA a) H0 H1 locs1 → W p l e R s m args below meth c H1 locs1 cells slots Q (F0 m (pc + 3) ls rest)) : W p l e R s m args below meth c H locs cells slots Q (F0 m pc ls (.int (iI x) :: .ref (a 32) :: rest)) := z_put C hP hS (k0 := 32) (by decide)  (Cn := RX6) (T := TX6) (N := 14) rfl rfl (inlX6) tyX6 tyX6_ok nmX6 8 (by decide) wd_208 rfl rfl rfl rfl (Nat.le_of_ble_eq_true rfl) (zU σ 32 8 x) rfl (fun i hi => zU_cell hi) hdg k
theorem zg_X8_113 (C : Cx p s m args c cc RX8 nL D Y a) {σ : zS} (hP : GP D Y a σ H) (hdg : decode cc pc = .ok (.getfield 113, 3)) (k : W p l e R s m args below meth c H locs cells slots Q (F0 m (pc + 3) ls (.int (iI (σ 100 5)) :: rest))) : W p l e R s m args below meth c H locs cells slots Q (F0 m pc ls (.ref (a 100) :: rest)) := z_get C hP (k0 := 100) (by decide) (Cn := RX8) (T := TX8) (N := 38) rfl rfl (inlX8) 5 (by decide) wd_213 rfl rfl hdg k
theorem zp_X8_113 (C : Cx p s m args c cc RX8 nL D Y a) {σ : zS} {H0 : Heap} (hP : GP D Y a σ H) (hS : va_S (inA a) H0 H locs) {x : Int} (hdg : decode cc pc = .ok (.putfield 113, 3)) (k : ∀ (H1 : Heap) (locs1 : List Loc), GP D Y a (zU σ 100 5 x) H1 → va_S (inA a) H0 H1 locs1 → W p l e R s m args below meth c H1 locs1 cells slots Q (F0 m (pc + 3) ls rest)) : W p l e R s m args below meth c H locs cells slots Q (F0 m pc ls (.int (iI x) :: .ref (a 100) :: rest)) := z_put C hP hS (k0 := 100) (by decide)  (Cn := RX8) (T := TX8) (N := 38) rfl rfl (inlX8) tyX8 tyX8_ok nmX8 5 (by decide) wd_213 rfl rfl rfl rfl (Nat.le_of_ble_eq_true rfl) (zU σ 100 5 x) rfl (fun i hi => zU_cell hi) hdg k
theorem zg_X7_87 (C : Cx p s m args c cc RX7 nL D Y a) {σ : zS} (hP : GP D Y a σ H) {k0 : Int} (hk : zSet k0) (hdg : decode cc pc = .ok (.getfield 87, 3)) (k : W p l e R s m args below meth c H locs cells slots Q (F0 m (pc + 3) ls (.int (iI (σ k0 9)) :: rest))) : W p l e R s m args below meth c H locs cells slots Q (F0 m pc ls (.ref (a k0) :: rest)) := z_get C hP (k0 := k0) (zSet_in hk) (Cn := RX6) (T := TX6) (N := 14) (sh_set hk _) rfl (inlX6) 9 (by decide) wd_218 rfl rfl hdg k
theorem zp_X7_87 (C : Cx p s m args c cc RX7 nL D Y a) {σ : zS} {H0 : Heap} (hP : GP D Y a σ H) (hS : va_S (inA a) H0 H locs) {k0 : Int} (hk : zSet k0) {x : Int} (hdg : decode cc pc = .ok (.putfield 87, 3)) (k : ∀ (H1 : Heap) (locs1 : List Loc), GP D Y a (zU σ k0 9 x) H1 → va_S (inA a) H0 H1 locs1 → W p l e R s m args below meth c H1 locs1 cells slots Q (F0 m (pc + 3) ls rest)) : W p l e R s m args below meth c H locs cells slots Q (F0 m pc ls (.int (iI x) :: .ref (a k0) :: rest)) := z_put C hP hS (k0 := k0) (zSet_in hk)  (Cn := RX6) (T := TX6) (N := 14) (sh_set hk _) rfl (inlX6) tyX6 tyX6_ok nmX6 9 (by decide) wd_218 rfl rfl rfl rfl (Nat.le_of_ble_eq_true rfl) (zU σ k0 9 x) (by rw [sh_set hk]; simp [zU]) (fun i hi => zU_cell hi) hdg k
theorem zg32_X7_87 (C : Cx p s m args c cc RX7 nL D Y a) {σ : zS} (hP : GP D Y a σ H) (hdg : decode cc pc = .ok (.getfield 87, 3)) (k : W p l e R s m args below meth c H locs cells slots Q (F0 m (pc + 3) ls (.int (iI (σ 32 9)) :: rest))) : W p l e R s m args below meth c H locs cells slots Q (F0 m pc ls (.ref (a 32) :: rest)) := z_get C hP (k0 := 32) (by decide) (Cn := RX6) (T := TX6) (N := 14) rfl rfl (inlX6) 9 (by decide) wd_218 rfl rfl hdg k
theorem zp32_X7_87 (C : Cx p s m args c cc RX7 nL D Y a) {σ : zS} {H0 : Heap} (hP : GP D Y a σ H) (hS : va_S (inA a) H0 H locs) {x : Int} (hdg : decode cc pc = .ok (.putfield 87, 3)) (k : ∀ (H1 : Heap) (locs1 : List Loc), GP D Y a (zU σ 32 9 x) H1 → va_S (inA a) H0 H1 locs1 → W p l e R s m args below meth c H1 locs1 cells slots Q (F0 m (pc + 3) ls rest)) : W p l e R s m args below meth c H locs cells slots Q (F0 m pc ls (.int (iI x) :: .ref (a 32) :: rest)) := z_put C hP hS (k0 := 32) (by decide)  (Cn := RX6) (T := TX6) (N := 14) rfl rfl (inlX6) tyX6 tyX6_ok nmX6 9 (by decide) wd_218 rfl rfl rfl rfl (Nat.le_of_ble_eq_true rfl) (zU σ 32 9 x) rfl (fun i hi => zU_cell hi) hdg k
theorem zg_X7_90 (C : Cx p s m args c cc RX7 nL D Y a) {σ : zS} (hP : GP D Y a σ H) {k0 : Int} (hk : zSet k0) (hdg : decode cc pc = .ok (.getfield 90, 3)) (k : W p l e R s m args below meth c H locs cells slots Q (F0 m (pc + 3) ls (.int (iI (σ k0 10)) :: rest))) : W p l e R s m args below meth c H locs cells slots Q (F0 m pc ls (.ref (a k0) :: rest)) := z_get C hP (k0 := k0) (zSet_in hk) (Cn := RX6) (T := TX6) (N := 14) (sh_set hk _) rfl (inlX6) 10 (by decide) wd_219 rfl rfl hdg k
theorem zp_X7_90 (C : Cx p s m args c cc RX7 nL D Y a) {σ : zS} {H0 : Heap} (hP : GP D Y a σ H) (hS : va_S (inA a) H0 H locs) {k0 : Int} (hk : zSet k0) {x : Int} (hdg : decode cc pc = .ok (.putfield 90, 3)) (k : ∀ (H1 : Heap) (locs1 : List Loc), GP D Y a (zU σ k0 10 x) H1 → va_S (inA a) H0 H1 locs1 → W p l e R s m args below meth c H1 locs1 cells slots Q (F0 m (pc + 3) ls rest)) : W p l e R s m args below meth c H locs cells slots Q (F0 m pc ls (.int (iI x) :: .ref (a k0) :: rest)) := z_put C hP hS (k0 := k0) (zSet_in hk)  (Cn := RX6) (T := TX6) (N := 14) (sh_set hk _) rfl (inlX6) tyX6 tyX6_ok nmX6 10 (by decide) wd_219 rfl rfl rfl rfl (Nat.le_of_ble_eq_true rfl) (zU σ k0 10 x) (by rw [sh_set hk]; simp [zU]) (fun i hi => zU_cell hi) hdg k
theorem zg32_X7_90 (C : Cx p s m args c cc RX7 nL D Y a) {σ : zS} (hP : GP D Y a σ H) (hdg : decode cc pc = .ok (.getfield 90, 3)) (k : W p l e R s m args below meth c H locs cells slots Q (F0 m (pc + 3) ls (.int (iI (σ 32 10)) :: rest))) : W p l e R s m args below meth c H locs cells slots Q (F0 m pc ls (.ref (a 32) :: rest)) := z_get C hP (k0 := 32) (by decide) (Cn := RX6) (T := TX6) (N := 14) rfl rfl (inlX6) 10 (by decide) wd_219 rfl rfl hdg k
theorem zp32_X7_90 (C : Cx p s m args c cc RX7 nL D Y a) {σ : zS} {H0 : Heap} (hP : GP D Y a σ H) (hS : va_S (inA a) H0 H locs) {x : Int} (hdg : decode cc pc = .ok (.putfield 90, 3)) (k : ∀ (H1 : Heap) (locs1 : List Loc), GP D Y a (zU σ 32 10 x) H1 → va_S (inA a) H0 H1 locs1 → W p l e R s m args below meth c H1 locs1 cells slots Q (F0 m (pc + 3) ls rest)) : W p l e R s m args below meth c H locs cells slots Q (F0 m pc ls (.int (iI x) :: .ref (a 32) :: rest)) := z_put C hP hS (k0 := 32) (by decide)  (Cn := RX6) (T := TX6) (N := 14) rfl rfl (inlX6) tyX6 tyX6_ok nmX6 10 (by decide) wd_219 rfl rfl rfl rfl (Nat.le_of_ble_eq_true rfl) (zU σ 32 10 x) rfl (fun i hi => zU_cell hi) hdg k
theorem zg_X7_93 (C : Cx p s m args c cc RX7 nL D Y a) {σ : zS} (hP : GP D Y a σ H) {k0 : Int} (hk : zSet k0) (hdg : decode cc pc = .ok (.getfield 93, 3)) (k : W p l e R s m args below meth c H locs cells slots Q (F0 m (pc + 3) ls (.int (iI (σ k0 11)) :: rest))) : W p l e R s m args below meth c H locs cells slots Q (F0 m pc ls (.ref (a k0) :: rest)) := z_get C hP (k0 := k0) (zSet_in hk) (Cn := RX6) (T := TX6) (N := 14) (sh_set hk _) rfl (inlX6) 11 (by decide) wd_220 rfl rfl hdg k
theorem zp_X7_93 (C : Cx p s m args c cc RX7 nL D Y a) {σ : zS} {H0 : Heap} (hP : GP D Y a σ H) (hS : va_S (inA a) H0 H locs) {k0 : Int} (hk : zSet k0) {x : Int} (hdg : decode cc pc = .ok (.putfield 93, 3)) (k : ∀ (H1 : Heap) (locs1 : List Loc), GP D Y a (zU σ k0 11 x) H1 → va_S (inA a) H0 H1 locs1 → W p l e R s m args below meth c H1 locs1 cells slots Q (F0 m (pc + 3) ls rest)) : W p l e R s m args below meth c H locs cells slots Q (F0 m pc ls (.int (iI x) :: .ref (a k0) :: rest)) := z_put C hP hS (k0 := k0) (zSet_in hk)  (Cn := RX6) (T := TX6) (N := 14) (sh_set hk _) rfl (inlX6) tyX6 tyX6_ok nmX6 11 (by decide) wd_220 rfl rfl rfl rfl (Nat.le_of_ble_eq_true rfl) (zU σ k0 11 x) (by rw [sh_set hk]; simp [zU]) (fun i hi => zU_cell hi) hdg k
theorem zg32_X7_93 (C : Cx p s m args c cc RX7 nL D Y a) {σ : zS} (hP : GP D Y a σ H) (hdg : decode cc pc = .ok (.getfield 93, 3)) (k : W p l e R s m args below meth c H locs cells slots Q (F0 m (pc + 3) ls (.int (iI (σ 32 11)) :: rest))) : W p l e R s m args below meth c H locs cells slots Q (F0 m pc ls (.ref (a 32) :: rest)) := z_get C hP (k0 := 32) (by decide) (Cn := RX6) (T := TX6) (N := 14) rfl rfl (inlX6) 11 (by decide) wd_220 rfl rfl hdg k
theorem zp32_X7_93 (C : Cx p s m args c cc RX7 nL D Y a) {σ : zS} {H0 : Heap} (hP : GP D Y a σ H) (hS : va_S (inA a) H0 H locs) {x : Int} (hdg : decode cc pc = .ok (.putfield 93, 3)) (k : ∀ (H1 : Heap) (locs1 : List Loc), GP D Y a (zU σ 32 11 x) H1 → va_S (inA a) H0 H1 locs1 → W p l e R s m args below meth c H1 locs1 cells slots Q (F0 m (pc + 3) ls rest)) : W p l e R s m args below meth c H locs cells slots Q (F0 m pc ls (.int (iI x) :: .ref (a 32) :: rest)) := z_put C hP hS (k0 := 32) (by decide)  (Cn := RX6) (T := TX6) (N := 14) rfl rfl (inlX6) tyX6 tyX6_ok nmX6 11 (by decide) wd_220 rfl rfl rfl rfl (Nat.le_of_ble_eq_true rfl) (zU σ 32 11 x) rfl (fun i hi => zU_cell hi) hdg k
theorem zg_X7_96 (C : Cx p s m args c cc RX7 nL D Y a) {σ : zS} (hP : GP D Y a σ H) (hdg : decode cc pc = .ok (.getfield 96, 3)) (k : W p l e R s m args below meth c H locs cells slots Q (F0 m (pc + 3) ls (.int (iI (σ 3 1)) :: rest))) : W p l e R s m args below meth c H locs cells slots Q (F0 m pc ls (.ref (a 3) :: rest)) := z_get C hP (k0 := 3) (by decide) (Cn := RX1) (T := TX1) (N := 2) rfl rfl (inlX1) 1 (by decide) wd_231 rfl rfl hdg k
theorem zp_X7_96 (C : Cx p s m args c cc RX7 nL D Y a) {σ : zS} {H0 : Heap} (hP : GP D Y a σ H) (hS : va_S (inA a) H0 H locs) {x : Int} (hdg : decode cc pc = .ok (.putfield 96, 3)) (k : ∀ (H1 : Heap) (locs1 : List Loc), GP D Y a (zU σ 3 1 x) H1 → va_S (inA a) H0 H1 locs1 → W p l e R s m args below meth c H1 locs1 cells slots Q (F0 m (pc + 3) ls rest)) : W p l e R s m args below meth c H locs cells slots Q (F0 m pc ls (.int (iI x) :: .ref (a 3) :: rest)) := z_put C hP hS (k0 := 3) (by decide)  (Cn := RX1) (T := TX1) (N := 2) rfl rfl (inlX1) tyX1 tyX1_ok nmX1 1 (by decide) wd_231 rfl rfl rfl rfl (Nat.le_of_ble_eq_true rfl) (zU σ 3 1 x) rfl (fun i hi => zU_cell hi) hdg k
theorem zg_X1_15 (C : Cx p s m args c cc RX1 nL D Y a) {σ : zS} (hP : GP D Y a σ H) (hdg : decode cc pc = .ok (.getfield 15, 3)) (k : W p l e R s m args below meth c H locs cells slots Q (F0 m (pc + 3) ls (.int (iI (σ 3 1)) :: rest))) : W p l e R s m args below meth c H locs cells slots Q (F0 m pc ls (.ref (a 3) :: rest)) := z_get C hP (k0 := 3) (by decide) (Cn := RX1) (T := TX1) (N := 2) rfl rfl (inlX1) 1 (by decide) wd_236 rfl rfl hdg k
theorem zp_X1_15 (C : Cx p s m args c cc RX1 nL D Y a) {σ : zS} {H0 : Heap} (hP : GP D Y a σ H) (hS : va_S (inA a) H0 H locs) {x : Int} (hdg : decode cc pc = .ok (.putfield 15, 3)) (k : ∀ (H1 : Heap) (locs1 : List Loc), GP D Y a (zU σ 3 1 x) H1 → va_S (inA a) H0 H1 locs1 → W p l e R s m args below meth c H1 locs1 cells slots Q (F0 m (pc + 3) ls rest)) : W p l e R s m args below meth c H locs cells slots Q (F0 m pc ls (.int (iI x) :: .ref (a 3) :: rest)) := z_put C hP hS (k0 := 3) (by decide)  (Cn := RX1) (T := TX1) (N := 2) rfl rfl (inlX1) tyX1 tyX1_ok nmX1 1 (by decide) wd_236 rfl rfl rfl rfl (Nat.le_of_ble_eq_true rfl) (zU σ 3 1 x) rfl (fun i hi => zU_cell hi) hdg k
theorem zg_X8_124 (C : Cx p s m args c cc RX8 nL D Y a) {σ : zS} (hP : GP D Y a σ H) (hdg : decode cc pc = .ok (.getfield 124, 3)) (k : W p l e R s m args below meth c H locs cells slots Q (F0 m (pc + 3) ls (.int (iI (σ 100 18)) :: rest))) : W p l e R s m args below meth c H locs cells slots Q (F0 m pc ls (.ref (a 100) :: rest)) := z_get C hP (k0 := 100) (by decide) (Cn := RX8) (T := TX8) (N := 38) rfl rfl (inlX8) 18 (by decide) wd_243 rfl rfl hdg k
theorem zp_X8_124 (C : Cx p s m args c cc RX8 nL D Y a) {σ : zS} {H0 : Heap} (hP : GP D Y a σ H) (hS : va_S (inA a) H0 H locs) {x : Int} (hdg : decode cc pc = .ok (.putfield 124, 3)) (k : ∀ (H1 : Heap) (locs1 : List Loc), GP D Y a (zU σ 100 18 x) H1 → va_S (inA a) H0 H1 locs1 → W p l e R s m args below meth c H1 locs1 cells slots Q (F0 m (pc + 3) ls rest)) : W p l e R s m args below meth c H locs cells slots Q (F0 m pc ls (.int (iI x) :: .ref (a 100) :: rest)) := z_put C hP hS (k0 := 100) (by decide)  (Cn := RX8) (T := TX8) (N := 38) rfl rfl (inlX8) tyX8 tyX8_ok nmX8 18 (by decide) wd_243 rfl rfl rfl rfl (Nat.le_of_ble_eq_true rfl) (zU σ 100 18 x) rfl (fun i hi => zU_cell hi) hdg k
theorem zg_X7_106 (C : Cx p s m args c cc RX7 nL D Y a) {σ : zS} (hP : GP D Y a σ H) {k0 : Int} (hk : zSet k0) (hdg : decode cc pc = .ok (.getfield 106, 3)) (k : W p l e R s m args below meth c H locs cells slots Q (F0 m (pc + 3) ls (.int (iI (σ k0 12)) :: rest))) : W p l e R s m args below meth c H locs cells slots Q (F0 m pc ls (.ref (a k0) :: rest)) := z_get C hP (k0 := k0) (zSet_in hk) (Cn := RX6) (T := TX6) (N := 14) (sh_set hk _) rfl (inlX6) 12 (by decide) wd_256 rfl rfl hdg k
theorem zp_X7_106 (C : Cx p s m args c cc RX7 nL D Y a) {σ : zS} {H0 : Heap} (hP : GP D Y a σ H) (hS : va_S (inA a) H0 H locs) {k0 : Int} (hk : zSet k0) {x : Int} (hdg : decode cc pc = .ok (.putfield 106, 3)) (k : ∀ (H1 : Heap) (locs1 : List Loc), GP D Y a (zU σ k0 12 x) H1 → va_S (inA a) H0 H1 locs1 → W p l e R s m args below meth c H1 locs1 cells slots Q (F0 m (pc + 3) ls rest)) : W p l e R s m args below meth c H locs cells slots Q (F0 m pc ls (.int (iI x) :: .ref (a k0) :: rest)) := z_put C hP hS (k0 := k0) (zSet_in hk)  (Cn := RX6) (T := TX6) (N := 14) (sh_set hk _) rfl (inlX6) tyX6 tyX6_ok nmX6 12 (by decide) wd_256 rfl rfl rfl rfl (Nat.le_of_ble_eq_true rfl) (zU σ k0 12 x) (by rw [sh_set hk]; simp [zU]) (fun i hi => zU_cell hi) hdg k
theorem zg32_X7_106 (C : Cx p s m args c cc RX7 nL D Y a) {σ : zS} (hP : GP D Y a σ H) (hdg : decode cc pc = .ok (.getfield 106, 3)) (k : W p l e R s m args below meth c H locs cells slots Q (F0 m (pc + 3) ls (.int (iI (σ 32 12)) :: rest))) : W p l e R s m args below meth c H locs cells slots Q (F0 m pc ls (.ref (a 32) :: rest)) := z_get C hP (k0 := 32) (by decide) (Cn := RX6) (T := TX6) (N := 14) rfl rfl (inlX6) 12 (by decide) wd_256 rfl rfl hdg k
theorem zp32_X7_106 (C : Cx p s m args c cc RX7 nL D Y a) {σ : zS} {H0 : Heap} (hP : GP D Y a σ H) (hS : va_S (inA a) H0 H locs) {x : Int} (hdg : decode cc pc = .ok (.putfield 106, 3)) (k : ∀ (H1 : Heap) (locs1 : List Loc), GP D Y a (zU σ 32 12 x) H1 → va_S (inA a) H0 H1 locs1 → W p l e R s m args below meth c H1 locs1 cells slots Q (F0 m (pc + 3) ls rest)) : W p l e R s m args below meth c H locs cells slots Q (F0 m pc ls (.int (iI x) :: .ref (a 32) :: rest)) := z_put C hP hS (k0 := 32) (by decide)  (Cn := RX6) (T := TX6) (N := 14) rfl rfl (inlX6) tyX6 tyX6_ok nmX6 12 (by decide) wd_256 rfl rfl rfl rfl (Nat.le_of_ble_eq_true rfl) (zU σ 32 12 x) rfl (fun i hi => zU_cell hi) hdg k
theorem zg_X2_39 (C : Cx p s m args c cc RX2 nL D Y a) {σ : zS} (hP : GP D Y a σ H) (hdg : decode cc pc = .ok (.getfield 39, 3)) (k : W p l e R s m args below meth c H locs cells slots Q (F0 m (pc + 3) ls (.int (iI (σ 3 1)) :: rest))) : W p l e R s m args below meth c H locs cells slots Q (F0 m pc ls (.ref (a 3) :: rest)) := z_get C hP (k0 := 3) (by decide) (Cn := RX1) (T := TX1) (N := 2) rfl rfl (inlX1) 1 (by decide) wd_273 rfl rfl hdg k
theorem zp_X2_39 (C : Cx p s m args c cc RX2 nL D Y a) {σ : zS} {H0 : Heap} (hP : GP D Y a σ H) (hS : va_S (inA a) H0 H locs) {x : Int} (hdg : decode cc pc = .ok (.putfield 39, 3)) (k : ∀ (H1 : Heap) (locs1 : List Loc), GP D Y a (zU σ 3 1 x) H1 → va_S (inA a) H0 H1 locs1 → W p l e R s m args below meth c H1 locs1 cells slots Q (F0 m (pc + 3) ls rest)) : W p l e R s m args below meth c H locs cells slots Q (F0 m pc ls (.int (iI x) :: .ref (a 3) :: rest)) := z_put C hP hS (k0 := 3) (by decide)  (Cn := RX1) (T := TX1) (N := 2) rfl rfl (inlX1) tyX1 tyX1_ok nmX1 1 (by decide) wd_273 rfl rfl rfl rfl (Nat.le_of_ble_eq_true rfl) (zU σ 3 1 x) rfl (fun i hi => zU_cell hi) hdg k
theorem zg_X6_87 (C : Cx p s m args c cc RX6 nL D Y a) {σ : zS} (hP : GP D Y a σ H) (hdg : decode cc pc = .ok (.getfield 87, 3)) (k : W p l e R s m args below meth c H locs cells slots Q (F0 m (pc + 3) ls (.int (iI (σ 3 1)) :: rest))) : W p l e R s m args below meth c H locs cells slots Q (F0 m pc ls (.ref (a 3) :: rest)) := z_get C hP (k0 := 3) (by decide) (Cn := RX1) (T := TX1) (N := 2) rfl rfl (inlX1) 1 (by decide) wd_304 rfl rfl hdg k
theorem zp_X6_87 (C : Cx p s m args c cc RX6 nL D Y a) {σ : zS} {H0 : Heap} (hP : GP D Y a σ H) (hS : va_S (inA a) H0 H locs) {x : Int} (hdg : decode cc pc = .ok (.putfield 87, 3)) (k : ∀ (H1 : Heap) (locs1 : List Loc), GP D Y a (zU σ 3 1 x) H1 → va_S (inA a) H0 H1 locs1 → W p l e R s m args below meth c H1 locs1 cells slots Q (F0 m (pc + 3) ls rest)) : W p l e R s m args below meth c H locs cells slots Q (F0 m pc ls (.int (iI x) :: .ref (a 3) :: rest)) := z_put C hP hS (k0 := 3) (by decide)  (Cn := RX1) (T := TX1) (N := 2) rfl rfl (inlX1) tyX1 tyX1_ok nmX1 1 (by decide) wd_304 rfl rfl rfl rfl (Nat.le_of_ble_eq_true rfl) (zU σ 3 1 x) rfl (fun i hi => zU_cell hi) hdg k
theorem zg_X7_132 (C : Cx p s m args c cc RX7 nL D Y a) {σ : zS} (hP : GP D Y a σ H) (hdg : decode cc pc = .ok (.getfield 132, 3)) (k : W p l e R s m args below meth c H locs cells slots Q (F0 m (pc + 3) ls (.int (iI (σ 10 4)) :: rest))) : W p l e R s m args below meth c H locs cells slots Q (F0 m pc ls (.ref (a 10) :: rest)) := z_get C hP (k0 := 10) (by decide) (Cn := RX3) (T := TX3) (N := 9) rfl rfl (inlX3) 4 (by decide) wd_345 rfl rfl hdg k
theorem zp_X7_132 (C : Cx p s m args c cc RX7 nL D Y a) {σ : zS} {H0 : Heap} (hP : GP D Y a σ H) (hS : va_S (inA a) H0 H locs) {x : Int} (hdg : decode cc pc = .ok (.putfield 132, 3)) (k : ∀ (H1 : Heap) (locs1 : List Loc), GP D Y a (zU σ 10 4 x) H1 → va_S (inA a) H0 H1 locs1 → W p l e R s m args below meth c H1 locs1 cells slots Q (F0 m (pc + 3) ls rest)) : W p l e R s m args below meth c H locs cells slots Q (F0 m pc ls (.int (iI x) :: .ref (a 10) :: rest)) := z_put C hP hS (k0 := 10) (by decide)  (Cn := RX3) (T := TX3) (N := 9) rfl rfl (inlX3) tyX3 tyX3_ok nmX3 4 (by decide) wd_345 rfl rfl rfl rfl (Nat.le_of_ble_eq_true rfl) (zU σ 10 4 x) rfl (fun i hi => zU_cell hi) hdg k
theorem zg_X7_135 (C : Cx p s m args c cc RX7 nL D Y a) {σ : zS} (hP : GP D Y a σ H) (hdg : decode cc pc = .ok (.getfield 135, 3)) (k : W p l e R s m args below meth c H locs cells slots Q (F0 m (pc + 3) ls (.int (iI (σ 10 5)) :: rest))) : W p l e R s m args below meth c H locs cells slots Q (F0 m pc ls (.ref (a 10) :: rest)) := z_get C hP (k0 := 10) (by decide) (Cn := RX3) (T := TX3) (N := 9) rfl rfl (inlX3) 5 (by decide) wd_346 rfl rfl hdg k
theorem zp_X7_135 (C : Cx p s m args c cc RX7 nL D Y a) {σ : zS} {H0 : Heap} (hP : GP D Y a σ H) (hS : va_S (inA a) H0 H locs) {x : Int} (hdg : decode cc pc = .ok (.putfield 135, 3)) (k : ∀ (H1 : Heap) (locs1 : List Loc), GP D Y a (zU σ 10 5 x) H1 → va_S (inA a) H0 H1 locs1 → W p l e R s m args below meth c H1 locs1 cells slots Q (F0 m (pc + 3) ls rest)) : W p l e R s m args below meth c H locs cells slots Q (F0 m pc ls (.int (iI x) :: .ref (a 10) :: rest)) := z_put C hP hS (k0 := 10) (by decide)  (Cn := RX3) (T := TX3) (N := 9) rfl rfl (inlX3) tyX3 tyX3_ok nmX3 5 (by decide) wd_346 rfl rfl rfl rfl (Nat.le_of_ble_eq_true rfl) (zU σ 10 5 x) rfl (fun i hi => zU_cell hi) hdg k
theorem zg_X3_33 (C : Cx p s m args c cc RX3 nL D Y a) {σ : zS} (hP : GP D Y a σ H) {k0 : Int} (hk : zRid k0) (hdg : decode cc pc = .ok (.getfield 33, 3)) (k : W p l e R s m args below meth c H locs cells slots Q (F0 m (pc + 3) ls (.int (iI (σ k0 3)) :: rest))) : W p l e R s m args below meth c H locs cells slots Q (F0 m pc ls (.ref (a k0) :: rest)) := z_get C hP (k0 := k0) (zRid_in hk) (Cn := RX4) (T := TX4) (N := 5) (sh_rid hk _) rfl (inlX4) 3 (by decide) wd_355 rfl rfl hdg k
theorem zp_X3_33 (C : Cx p s m args c cc RX3 nL D Y a) {σ : zS} {H0 : Heap} (hP : GP D Y a σ H) (hS : va_S (inA a) H0 H locs) {k0 : Int} (hk : zRid k0) {x : Int} (hdg : decode cc pc = .ok (.putfield 33, 3)) (k : ∀ (H1 : Heap) (locs1 : List Loc), GP D Y a (zU σ k0 3 x) H1 → va_S (inA a) H0 H1 locs1 → W p l e R s m args below meth c H1 locs1 cells slots Q (F0 m (pc + 3) ls rest)) : W p l e R s m args below meth c H locs cells slots Q (F0 m pc ls (.int (iI x) :: .ref (a k0) :: rest)) := z_put C hP hS (k0 := k0) (zRid_in hk)  (Cn := RX4) (T := TX4) (N := 5) (sh_rid hk _) rfl (inlX4) tyX4 tyX4_ok nmX4 3 (by decide) wd_355 rfl rfl rfl rfl (Nat.le_of_ble_eq_true rfl) (zU σ k0 3 x) (by rw [sh_rid hk]; simp [zU]) (fun i hi => zU_cell hi) hdg k
theorem zg_X3_42 (C : Cx p s m args c cc RX3 nL D Y a) {σ : zS} (hP : GP D Y a σ H) {k0 : Int} (hk : zSet k0) (hdg : decode cc pc = .ok (.getfield 42, 3)) (k : W p l e R s m args below meth c H locs cells slots Q (F0 m (pc + 3) ls (.int (iI (σ k0 12)) :: rest))) : W p l e R s m args below meth c H locs cells slots Q (F0 m pc ls (.ref (a k0) :: rest)) := z_get C hP (k0 := k0) (zSet_in hk) (Cn := RX6) (T := TX6) (N := 14) (sh_set hk _) rfl (inlX6) 12 (by decide) wd_356 rfl rfl hdg k
theorem zp_X3_42 (C : Cx p s m args c cc RX3 nL D Y a) {σ : zS} {H0 : Heap} (hP : GP D Y a σ H) (hS : va_S (inA a) H0 H locs) {k0 : Int} (hk : zSet k0) {x : Int} (hdg : decode cc pc = .ok (.putfield 42, 3)) (k : ∀ (H1 : Heap) (locs1 : List Loc), GP D Y a (zU σ k0 12 x) H1 → va_S (inA a) H0 H1 locs1 → W p l e R s m args below meth c H1 locs1 cells slots Q (F0 m (pc + 3) ls rest)) : W p l e R s m args below meth c H locs cells slots Q (F0 m pc ls (.int (iI x) :: .ref (a k0) :: rest)) := z_put C hP hS (k0 := k0) (zSet_in hk)  (Cn := RX6) (T := TX6) (N := 14) (sh_set hk _) rfl (inlX6) tyX6 tyX6_ok nmX6 12 (by decide) wd_356 rfl rfl rfl rfl (Nat.le_of_ble_eq_true rfl) (zU σ k0 12 x) (by rw [sh_set hk]; simp [zU]) (fun i hi => zU_cell hi) hdg k
theorem zg32_X3_42 (C : Cx p s m args c cc RX3 nL D Y a) {σ : zS} (hP : GP D Y a σ H) (hdg : decode cc pc = .ok (.getfield 42, 3)) (k : W p l e R s m args below meth c H locs cells slots Q (F0 m (pc + 3) ls (.int (iI (σ 32 12)) :: rest))) : W p l e R s m args below meth c H locs cells slots Q (F0 m pc ls (.ref (a 32) :: rest)) := z_get C hP (k0 := 32) (by decide) (Cn := RX6) (T := TX6) (N := 14) rfl rfl (inlX6) 12 (by decide) wd_356 rfl rfl hdg k
theorem zp32_X3_42 (C : Cx p s m args c cc RX3 nL D Y a) {σ : zS} {H0 : Heap} (hP : GP D Y a σ H) (hS : va_S (inA a) H0 H locs) {x : Int} (hdg : decode cc pc = .ok (.putfield 42, 3)) (k : ∀ (H1 : Heap) (locs1 : List Loc), GP D Y a (zU σ 32 12 x) H1 → va_S (inA a) H0 H1 locs1 → W p l e R s m args below meth c H1 locs1 cells slots Q (F0 m (pc + 3) ls rest)) : W p l e R s m args below meth c H locs cells slots Q (F0 m pc ls (.int (iI x) :: .ref (a 32) :: rest)) := z_put C hP hS (k0 := 32) (by decide)  (Cn := RX6) (T := TX6) (N := 14) rfl rfl (inlX6) tyX6 tyX6_ok nmX6 12 (by decide) wd_356 rfl rfl rfl rfl (Nat.le_of_ble_eq_true rfl) (zU σ 32 12 x) rfl (fun i hi => zU_cell hi) hdg k
theorem zg_X3_45 (C : Cx p s m args c cc RX3 nL D Y a) {σ : zS} (hP : GP D Y a σ H) (hdg : decode cc pc = .ok (.getfield 45, 3)) (k : W p l e R s m args below meth c H locs cells slots Q (F0 m (pc + 3) ls (.ref (a 6) :: rest))) : W p l e R s m args below meth c H locs cells slots Q (F0 m pc ls (.ref (a 5) :: rest)) := z_get C hP (k0 := 5) (by decide) (Cn := RX2) (T := TX2) (N := 4) rfl rfl (inlX2) 0 (by decide) wd_357 rfl rfl hdg k
theorem zg_X3_51 (C : Cx p s m args c cc RX3 nL D Y a) {σ : zS} (hP : GP D Y a σ H) {k0 : Int} (hk : zSet k0) (hdg : decode cc pc = .ok (.getfield 51, 3)) (k : W p l e R s m args below meth c H locs cells slots Q (F0 m (pc + 3) ls (.int (iI (σ k0 10)) :: rest))) : W p l e R s m args below meth c H locs cells slots Q (F0 m pc ls (.ref (a k0) :: rest)) := z_get C hP (k0 := k0) (zSet_in hk) (Cn := RX6) (T := TX6) (N := 14) (sh_set hk _) rfl (inlX6) 10 (by decide) wd_358 rfl rfl hdg k
theorem zp_X3_51 (C : Cx p s m args c cc RX3 nL D Y a) {σ : zS} {H0 : Heap} (hP : GP D Y a σ H) (hS : va_S (inA a) H0 H locs) {k0 : Int} (hk : zSet k0) {x : Int} (hdg : decode cc pc = .ok (.putfield 51, 3)) (k : ∀ (H1 : Heap) (locs1 : List Loc), GP D Y a (zU σ k0 10 x) H1 → va_S (inA a) H0 H1 locs1 → W p l e R s m args below meth c H1 locs1 cells slots Q (F0 m (pc + 3) ls rest)) : W p l e R s m args below meth c H locs cells slots Q (F0 m pc ls (.int (iI x) :: .ref (a k0) :: rest)) := z_put C hP hS (k0 := k0) (zSet_in hk)  (Cn := RX6) (T := TX6) (N := 14) (sh_set hk _) rfl (inlX6) tyX6 tyX6_ok nmX6 10 (by decide) wd_358 rfl rfl rfl rfl (Nat.le_of_ble_eq_true rfl) (zU σ k0 10 x) (by rw [sh_set hk]; simp [zU]) (fun i hi => zU_cell hi) hdg k
theorem zg32_X3_51 (C : Cx p s m args c cc RX3 nL D Y a) {σ : zS} (hP : GP D Y a σ H) (hdg : decode cc pc = .ok (.getfield 51, 3)) (k : W p l e R s m args below meth c H locs cells slots Q (F0 m (pc + 3) ls (.int (iI (σ 32 10)) :: rest))) : W p l e R s m args below meth c H locs cells slots Q (F0 m pc ls (.ref (a 32) :: rest)) := z_get C hP (k0 := 32) (by decide) (Cn := RX6) (T := TX6) (N := 14) rfl rfl (inlX6) 10 (by decide) wd_358 rfl rfl hdg k
theorem zp32_X3_51 (C : Cx p s m args c cc RX3 nL D Y a) {σ : zS} {H0 : Heap} (hP : GP D Y a σ H) (hS : va_S (inA a) H0 H locs) {x : Int} (hdg : decode cc pc = .ok (.putfield 51, 3)) (k : ∀ (H1 : Heap) (locs1 : List Loc), GP D Y a (zU σ 32 10 x) H1 → va_S (inA a) H0 H1 locs1 → W p l e R s m args below meth c H1 locs1 cells slots Q (F0 m (pc + 3) ls rest)) : W p l e R s m args below meth c H locs cells slots Q (F0 m pc ls (.int (iI x) :: .ref (a 32) :: rest)) := z_put C hP hS (k0 := 32) (by decide)  (Cn := RX6) (T := TX6) (N := 14) rfl rfl (inlX6) tyX6 tyX6_ok nmX6 10 (by decide) wd_358 rfl rfl rfl rfl (Nat.le_of_ble_eq_true rfl) (zU σ 32 10 x) rfl (fun i hi => zU_cell hi) hdg k
theorem zg_X3_54 (C : Cx p s m args c cc RX3 nL D Y a) {σ : zS} (hP : GP D Y a σ H) (hdg : decode cc pc = .ok (.getfield 54, 3)) (k : W p l e R s m args below meth c H locs cells slots Q (F0 m (pc + 3) ls (.ref (a 7) :: rest))) : W p l e R s m args below meth c H locs cells slots Q (F0 m pc ls (.ref (a 5) :: rest)) := z_get C hP (k0 := 5) (by decide) (Cn := RX2) (T := TX2) (N := 4) rfl rfl (inlX2) 1 (by decide) wd_359 rfl rfl hdg k
theorem zg_X3_61 (C : Cx p s m args c cc RX3 nL D Y a) {σ : zS} (hP : GP D Y a σ H) (hdg : decode cc pc = .ok (.getfield 61, 3)) (k : W p l e R s m args below meth c H locs cells slots Q (F0 m (pc + 3) ls (.ref (a 8) :: rest))) : W p l e R s m args below meth c H locs cells slots Q (F0 m pc ls (.ref (a 5) :: rest)) := z_get C hP (k0 := 5) (by decide) (Cn := RX2) (T := TX2) (N := 4) rfl rfl (inlX2) 2 (by decide) wd_360 rfl rfl hdg k
theorem zg_X3_64 (C : Cx p s m args c cc RX3 nL D Y a) {σ : zS} (hP : GP D Y a σ H) {k0 : Int} (hk : zSet k0) (hdg : decode cc pc = .ok (.getfield 64, 3)) (k : W p l e R s m args below meth c H locs cells slots Q (F0 m (pc + 3) ls (.ref (a (k0 + 3)) :: rest))) : W p l e R s m args below meth c H locs cells slots Q (F0 m pc ls (.ref (a k0) :: rest)) := z_get C hP (k0 := k0) (zSet_in hk) (Cn := RX6) (T := TX6) (N := 14) (sh_set hk _) rfl (inlX6) 2 (by decide) wd_361 rfl rfl hdg k
theorem zg32_X3_64 (C : Cx p s m args c cc RX3 nL D Y a) {σ : zS} (hP : GP D Y a σ H) (hdg : decode cc pc = .ok (.getfield 64, 3)) (k : W p l e R s m args below meth c H locs cells slots Q (F0 m (pc + 3) ls (.ref (a 35) :: rest))) : W p l e R s m args below meth c H locs cells slots Q (F0 m pc ls (.ref (a 32) :: rest)) := z_get C hP (k0 := 32) (by decide) (Cn := RX6) (T := TX6) (N := 14) rfl rfl (inlX6) 2 (by decide) wd_361 rfl rfl hdg k
theorem zg_X3_72 (C : Cx p s m args c cc RX3 nL D Y a) {σ : zS} (hP : GP D Y a σ H) {k0 : Int} (hk : zSet k0) (hdg : decode cc pc = .ok (.getfield 72, 3)) (k : W p l e R s m args below meth c H locs cells slots Q (F0 m (pc + 3) ls (.int (iI (σ k0 9)) :: rest))) : W p l e R s m args below meth c H locs cells slots Q (F0 m pc ls (.ref (a k0) :: rest)) := z_get C hP (k0 := k0) (zSet_in hk) (Cn := RX6) (T := TX6) (N := 14) (sh_set hk _) rfl (inlX6) 9 (by decide) wd_362 rfl rfl hdg k
theorem zp_X3_72 (C : Cx p s m args c cc RX3 nL D Y a) {σ : zS} {H0 : Heap} (hP : GP D Y a σ H) (hS : va_S (inA a) H0 H locs) {k0 : Int} (hk : zSet k0) {x : Int} (hdg : decode cc pc = .ok (.putfield 72, 3)) (k : ∀ (H1 : Heap) (locs1 : List Loc), GP D Y a (zU σ k0 9 x) H1 → va_S (inA a) H0 H1 locs1 → W p l e R s m args below meth c H1 locs1 cells slots Q (F0 m (pc + 3) ls rest)) : W p l e R s m args below meth c H locs cells slots Q (F0 m pc ls (.int (iI x) :: .ref (a k0) :: rest)) := z_put C hP hS (k0 := k0) (zSet_in hk)  (Cn := RX6) (T := TX6) (N := 14) (sh_set hk _) rfl (inlX6) tyX6 tyX6_ok nmX6 9 (by decide) wd_362 rfl rfl rfl rfl (Nat.le_of_ble_eq_true rfl) (zU σ k0 9 x) (by rw [sh_set hk]; simp [zU]) (fun i hi => zU_cell hi) hdg k
theorem zg32_X3_72 (C : Cx p s m args c cc RX3 nL D Y a) {σ : zS} (hP : GP D Y a σ H) (hdg : decode cc pc = .ok (.getfield 72, 3)) (k : W p l e R s m args below meth c H locs cells slots Q (F0 m (pc + 3) ls (.int (iI (σ 32 9)) :: rest))) : W p l e R s m args below meth c H locs cells slots Q (F0 m pc ls (.ref (a 32) :: rest)) := z_get C hP (k0 := 32) (by decide) (Cn := RX6) (T := TX6) (N := 14) rfl rfl (inlX6) 9 (by decide) wd_362 rfl rfl hdg k
theorem zp32_X3_72 (C : Cx p s m args c cc RX3 nL D Y a) {σ : zS} {H0 : Heap} (hP : GP D Y a σ H) (hS : va_S (inA a) H0 H locs) {x : Int} (hdg : decode cc pc = .ok (.putfield 72, 3)) (k : ∀ (H1 : Heap) (locs1 : List Loc), GP D Y a (zU σ 32 9 x) H1 → va_S (inA a) H0 H1 locs1 → W p l e R s m args below meth c H1 locs1 cells slots Q (F0 m (pc + 3) ls rest)) : W p l e R s m args below meth c H locs cells slots Q (F0 m pc ls (.int (iI x) :: .ref (a 32) :: rest)) := z_put C hP hS (k0 := 32) (by decide)  (Cn := RX6) (T := TX6) (N := 14) rfl rfl (inlX6) tyX6 tyX6_ok nmX6 9 (by decide) wd_362 rfl rfl rfl rfl (Nat.le_of_ble_eq_true rfl) (zU σ 32 9 x) rfl (fun i hi => zU_cell hi) hdg k
theorem zg_X3_79 (C : Cx p s m args c cc RX3 nL D Y a) {σ : zS} (hP : GP D Y a σ H) (hdg : decode cc pc = .ok (.getfield 79, 3)) (k : W p l e R s m args below meth c H locs cells slots Q (F0 m (pc + 3) ls (.int (iI (σ 10 5)) :: rest))) : W p l e R s m args below meth c H locs cells slots Q (F0 m pc ls (.ref (a 10) :: rest)) := z_get C hP (k0 := 10) (by decide) (Cn := RX3) (T := TX3) (N := 9) rfl rfl (inlX3) 5 (by decide) wd_363 rfl rfl hdg k
theorem zp_X3_79 (C : Cx p s m args c cc RX3 nL D Y a) {σ : zS} {H0 : Heap} (hP : GP D Y a σ H) (hS : va_S (inA a) H0 H locs) {x : Int} (hdg : decode cc pc = .ok (.putfield 79, 3)) (k : ∀ (H1 : Heap) (locs1 : List Loc), GP D Y a (zU σ 10 5 x) H1 → va_S (inA a) H0 H1 locs1 → W p l e R s m args below meth c H1 locs1 cells slots Q (F0 m (pc + 3) ls rest)) : W p l e R s m args below meth c H locs cells slots Q (F0 m pc ls (.int (iI x) :: .ref (a 10) :: rest)) := z_put C hP hS (k0 := 10) (by decide)  (Cn := RX3) (T := TX3) (N := 9) rfl rfl (inlX3) tyX3 tyX3_ok nmX3 5 (by decide) wd_363 rfl rfl rfl rfl (Nat.le_of_ble_eq_true rfl) (zU σ 10 5 x) rfl (fun i hi => zU_cell hi) hdg k
theorem zg_X3_82 (C : Cx p s m args c cc RX3 nL D Y a) {σ : zS} (hP : GP D Y a σ H) (hdg : decode cc pc = .ok (.getfield 82, 3)) (k : W p l e R s m args below meth c H locs cells slots Q (F0 m (pc + 3) ls (.int (iI (σ 10 4)) :: rest))) : W p l e R s m args below meth c H locs cells slots Q (F0 m pc ls (.ref (a 10) :: rest)) := z_get C hP (k0 := 10) (by decide) (Cn := RX3) (T := TX3) (N := 9) rfl rfl (inlX3) 4 (by decide) wd_364 rfl rfl hdg k
theorem zp_X3_82 (C : Cx p s m args c cc RX3 nL D Y a) {σ : zS} {H0 : Heap} (hP : GP D Y a σ H) (hS : va_S (inA a) H0 H locs) {x : Int} (hdg : decode cc pc = .ok (.putfield 82, 3)) (k : ∀ (H1 : Heap) (locs1 : List Loc), GP D Y a (zU σ 10 4 x) H1 → va_S (inA a) H0 H1 locs1 → W p l e R s m args below meth c H1 locs1 cells slots Q (F0 m (pc + 3) ls rest)) : W p l e R s m args below meth c H locs cells slots Q (F0 m pc ls (.int (iI x) :: .ref (a 10) :: rest)) := z_put C hP hS (k0 := 10) (by decide)  (Cn := RX3) (T := TX3) (N := 9) rfl rfl (inlX3) tyX3 tyX3_ok nmX3 4 (by decide) wd_364 rfl rfl rfl rfl (Nat.le_of_ble_eq_true rfl) (zU σ 10 4 x) rfl (fun i hi => zU_cell hi) hdg k
theorem zg_X3_85 (C : Cx p s m args c cc RX3 nL D Y a) {σ : zS} (hP : GP D Y a σ H) (hdg : decode cc pc = .ok (.getfield 85, 3)) (k : W p l e R s m args below meth c H locs cells slots Q (F0 m (pc + 3) ls (.ref (a 9) :: rest))) : W p l e R s m args below meth c H locs cells slots Q (F0 m pc ls (.ref (a 5) :: rest)) := z_get C hP (k0 := 5) (by decide) (Cn := RX2) (T := TX2) (N := 4) rfl rfl (inlX2) 3 (by decide) wd_365 rfl rfl hdg k
theorem zg_X3_98 (C : Cx p s m args c cc RX3 nL D Y a) {σ : zS} (hP : GP D Y a σ H) (hdg : decode cc pc = .ok (.getfield 98, 3)) (k : W p l e R s m args below meth c H locs cells slots Q (F0 m (pc + 3) ls (.int (iI (σ 10 8)) :: rest))) : W p l e R s m args below meth c H locs cells slots Q (F0 m pc ls (.ref (a 10) :: rest)) := z_get C hP (k0 := 10) (by decide) (Cn := RX3) (T := TX3) (N := 9) rfl rfl (inlX3) 8 (by decide) wd_366 rfl rfl hdg k
theorem zp_X3_98 (C : Cx p s m args c cc RX3 nL D Y a) {σ : zS} {H0 : Heap} (hP : GP D Y a σ H) (hS : va_S (inA a) H0 H locs) {x : Int} (hdg : decode cc pc = .ok (.putfield 98, 3)) (k : ∀ (H1 : Heap) (locs1 : List Loc), GP D Y a (zU σ 10 8 x) H1 → va_S (inA a) H0 H1 locs1 → W p l e R s m args below meth c H1 locs1 cells slots Q (F0 m (pc + 3) ls rest)) : W p l e R s m args below meth c H locs cells slots Q (F0 m pc ls (.int (iI x) :: .ref (a 10) :: rest)) := z_put C hP hS (k0 := 10) (by decide)  (Cn := RX3) (T := TX3) (N := 9) rfl rfl (inlX3) tyX3 tyX3_ok nmX3 8 (by decide) wd_366 rfl rfl rfl rfl (Nat.le_of_ble_eq_true rfl) (zU σ 10 8 x) rfl (fun i hi => zU_cell hi) hdg k
theorem zg_X3_101 (C : Cx p s m args c cc RX3 nL D Y a) {σ : zS} (hP : GP D Y a σ H) (hdg : decode cc pc = .ok (.getfield 101, 3)) (k : W p l e R s m args below meth c H locs cells slots Q (F0 m (pc + 3) ls (.int (iI (σ 10 6)) :: rest))) : W p l e R s m args below meth c H locs cells slots Q (F0 m pc ls (.ref (a 10) :: rest)) := z_get C hP (k0 := 10) (by decide) (Cn := RX3) (T := TX3) (N := 9) rfl rfl (inlX3) 6 (by decide) wd_367 rfl rfl hdg k
theorem zp_X3_101 (C : Cx p s m args c cc RX3 nL D Y a) {σ : zS} {H0 : Heap} (hP : GP D Y a σ H) (hS : va_S (inA a) H0 H locs) {x : Int} (hdg : decode cc pc = .ok (.putfield 101, 3)) (k : ∀ (H1 : Heap) (locs1 : List Loc), GP D Y a (zU σ 10 6 x) H1 → va_S (inA a) H0 H1 locs1 → W p l e R s m args below meth c H1 locs1 cells slots Q (F0 m (pc + 3) ls rest)) : W p l e R s m args below meth c H locs cells slots Q (F0 m pc ls (.int (iI x) :: .ref (a 10) :: rest)) := z_put C hP hS (k0 := 10) (by decide)  (Cn := RX3) (T := TX3) (N := 9) rfl rfl (inlX3) tyX3 tyX3_ok nmX3 6 (by decide) wd_367 rfl rfl rfl rfl (Nat.le_of_ble_eq_true rfl) (zU σ 10 6 x) rfl (fun i hi => zU_cell hi) hdg k
theorem zg_X3_104 (C : Cx p s m args c cc RX3 nL D Y a) {σ : zS} (hP : GP D Y a σ H) (hdg : decode cc pc = .ok (.getfield 104, 3)) (k : W p l e R s m args below meth c H locs cells slots Q (F0 m (pc + 3) ls (.int (iI (σ 10 7)) :: rest))) : W p l e R s m args below meth c H locs cells slots Q (F0 m pc ls (.ref (a 10) :: rest)) := z_get C hP (k0 := 10) (by decide) (Cn := RX3) (T := TX3) (N := 9) rfl rfl (inlX3) 7 (by decide) wd_368 rfl rfl hdg k
theorem zp_X3_104 (C : Cx p s m args c cc RX3 nL D Y a) {σ : zS} {H0 : Heap} (hP : GP D Y a σ H) (hS : va_S (inA a) H0 H locs) {x : Int} (hdg : decode cc pc = .ok (.putfield 104, 3)) (k : ∀ (H1 : Heap) (locs1 : List Loc), GP D Y a (zU σ 10 7 x) H1 → va_S (inA a) H0 H1 locs1 → W p l e R s m args below meth c H1 locs1 cells slots Q (F0 m (pc + 3) ls rest)) : W p l e R s m args below meth c H locs cells slots Q (F0 m pc ls (.int (iI x) :: .ref (a 10) :: rest)) := z_put C hP hS (k0 := 10) (by decide)  (Cn := RX3) (T := TX3) (N := 9) rfl rfl (inlX3) tyX3 tyX3_ok nmX3 7 (by decide) wd_368 rfl rfl rfl rfl (Nat.le_of_ble_eq_true rfl) (zU σ 10 7 x) rfl (fun i hi => zU_cell hi) hdg k
theorem zg_X8_156 (C : Cx p s m args c cc RX8 nL D Y a) {σ : zS} (hP : GP D Y a σ H) (hdg : decode cc pc = .ok (.getfield 156, 3)) (k : W p l e R s m args below meth c H locs cells slots Q (F0 m (pc + 3) ls (.int (iI (σ 100 23)) :: rest))) : W p l e R s m args below meth c H locs cells slots Q (F0 m pc ls (.ref (a 100) :: rest)) := z_get C hP (k0 := 100) (by decide) (Cn := RX8) (T := TX8) (N := 38) rfl rfl (inlX8) 23 (by decide) wd_398 rfl rfl hdg k
theorem zp_X8_156 (C : Cx p s m args c cc RX8 nL D Y a) {σ : zS} {H0 : Heap} (hP : GP D Y a σ H) (hS : va_S (inA a) H0 H locs) {x : Int} (hdg : decode cc pc = .ok (.putfield 156, 3)) (k : ∀ (H1 : Heap) (locs1 : List Loc), GP D Y a (zU σ 100 23 x) H1 → va_S (inA a) H0 H1 locs1 → W p l e R s m args below meth c H1 locs1 cells slots Q (F0 m (pc + 3) ls rest)) : W p l e R s m args below meth c H locs cells slots Q (F0 m pc ls (.int (iI x) :: .ref (a 100) :: rest)) := z_put C hP hS (k0 := 100) (by decide)  (Cn := RX8) (T := TX8) (N := 38) rfl rfl (inlX8) tyX8 tyX8_ok nmX8 23 (by decide) wd_398 rfl rfl rfl rfl (Nat.le_of_ble_eq_true rfl) (zU σ 100 23 x) rfl (fun i hi => zU_cell hi) hdg k
theorem zg_X8_159 (C : Cx p s m args c cc RX8 nL D Y a) {σ : zS} (hP : GP D Y a σ H) (hdg : decode cc pc = .ok (.getfield 159, 3)) (k : W p l e R s m args below meth c H locs cells slots Q (F0 m (pc + 3) ls (.int (iI (σ 100 24)) :: rest))) : W p l e R s m args below meth c H locs cells slots Q (F0 m pc ls (.ref (a 100) :: rest)) := z_get C hP (k0 := 100) (by decide) (Cn := RX8) (T := TX8) (N := 38) rfl rfl (inlX8) 24 (by decide) wd_399 rfl rfl hdg k
theorem zp_X8_159 (C : Cx p s m args c cc RX8 nL D Y a) {σ : zS} {H0 : Heap} (hP : GP D Y a σ H) (hS : va_S (inA a) H0 H locs) {x : Int} (hdg : decode cc pc = .ok (.putfield 159, 3)) (k : ∀ (H1 : Heap) (locs1 : List Loc), GP D Y a (zU σ 100 24 x) H1 → va_S (inA a) H0 H1 locs1 → W p l e R s m args below meth c H1 locs1 cells slots Q (F0 m (pc + 3) ls rest)) : W p l e R s m args below meth c H locs cells slots Q (F0 m pc ls (.int (iI x) :: .ref (a 100) :: rest)) := z_put C hP hS (k0 := 100) (by decide)  (Cn := RX8) (T := TX8) (N := 38) rfl rfl (inlX8) tyX8 tyX8_ok nmX8 24 (by decide) wd_399 rfl rfl rfl rfl (Nat.le_of_ble_eq_true rfl) (zU σ 100 24 x) rfl (fun i hi => zU_cell hi) hdg k
theorem zg_X8_162 (C : Cx p s m args c cc RX8 nL D Y a) {σ : zS} (hP : GP D Y a σ H) (hdg : decode cc pc = .ok (.getfield 162, 3)) (k : W p l e R s m args below meth c H locs cells slots Q (F0 m (pc + 3) ls (.int (iI (σ 100 25)) :: rest))) : W p l e R s m args below meth c H locs cells slots Q (F0 m pc ls (.ref (a 100) :: rest)) := z_get C hP (k0 := 100) (by decide) (Cn := RX8) (T := TX8) (N := 38) rfl rfl (inlX8) 25 (by decide) wd_416 rfl rfl hdg k
theorem zp_X8_162 (C : Cx p s m args c cc RX8 nL D Y a) {σ : zS} {H0 : Heap} (hP : GP D Y a σ H) (hS : va_S (inA a) H0 H locs) {x : Int} (hdg : decode cc pc = .ok (.putfield 162, 3)) (k : ∀ (H1 : Heap) (locs1 : List Loc), GP D Y a (zU σ 100 25 x) H1 → va_S (inA a) H0 H1 locs1 → W p l e R s m args below meth c H1 locs1 cells slots Q (F0 m (pc + 3) ls rest)) : W p l e R s m args below meth c H locs cells slots Q (F0 m pc ls (.int (iI x) :: .ref (a 100) :: rest)) := z_put C hP hS (k0 := 100) (by decide)  (Cn := RX8) (T := TX8) (N := 38) rfl rfl (inlX8) tyX8 tyX8_ok nmX8 25 (by decide) wd_416 rfl rfl rfl rfl (Nat.le_of_ble_eq_true rfl) (zU σ 100 25 x) rfl (fun i hi => zU_cell hi) hdg k
theorem zg_X8_165 (C : Cx p s m args c cc RX8 nL D Y a) {σ : zS} (hP : GP D Y a σ H) (hdg : decode cc pc = .ok (.getfield 165, 3)) (k : W p l e R s m args below meth c H locs cells slots Q (F0 m (pc + 3) ls (.int (iI (σ 100 26)) :: rest))) : W p l e R s m args below meth c H locs cells slots Q (F0 m pc ls (.ref (a 100) :: rest)) := z_get C hP (k0 := 100) (by decide) (Cn := RX8) (T := TX8) (N := 38) rfl rfl (inlX8) 26 (by decide) wd_417 rfl rfl hdg k
theorem zp_X8_165 (C : Cx p s m args c cc RX8 nL D Y a) {σ : zS} {H0 : Heap} (hP : GP D Y a σ H) (hS : va_S (inA a) H0 H locs) {x : Int} (hdg : decode cc pc = .ok (.putfield 165, 3)) (k : ∀ (H1 : Heap) (locs1 : List Loc), GP D Y a (zU σ 100 26 x) H1 → va_S (inA a) H0 H1 locs1 → W p l e R s m args below meth c H1 locs1 cells slots Q (F0 m (pc + 3) ls rest)) : W p l e R s m args below meth c H locs cells slots Q (F0 m pc ls (.int (iI x) :: .ref (a 100) :: rest)) := z_put C hP hS (k0 := 100) (by decide)  (Cn := RX8) (T := TX8) (N := 38) rfl rfl (inlX8) tyX8 tyX8_ok nmX8 26 (by decide) wd_417 rfl rfl rfl rfl (Nat.le_of_ble_eq_true rfl) (zU σ 100 26 x) rfl (fun i hi => zU_cell hi) hdg k
theorem zg_X8_168 (C : Cx p s m args c cc RX8 nL D Y a) {σ : zS} (hP : GP D Y a σ H) (hdg : decode cc pc = .ok (.getfield 168, 3)) (k : W p l e R s m args below meth c H locs cells slots Q (F0 m (pc + 3) ls (.int (iI (σ 100 27)) :: rest))) : W p l e R s m args below meth c H locs cells slots Q (F0 m pc ls (.ref (a 100) :: rest)) := z_get C hP (k0 := 100) (by decide) (Cn := RX8) (T := TX8) (N := 38) rfl rfl (inlX8) 27 (by decide) wd_418 rfl rfl hdg k
theorem zp_X8_168 (C : Cx p s m args c cc RX8 nL D Y a) {σ : zS} {H0 : Heap} (hP : GP D Y a σ H) (hS : va_S (inA a) H0 H locs) {x : Int} (hdg : decode cc pc = .ok (.putfield 168, 3)) (k : ∀ (H1 : Heap) (locs1 : List Loc), GP D Y a (zU σ 100 27 x) H1 → va_S (inA a) H0 H1 locs1 → W p l e R s m args below meth c H1 locs1 cells slots Q (F0 m (pc + 3) ls rest)) : W p l e R s m args below meth c H locs cells slots Q (F0 m pc ls (.int (iI x) :: .ref (a 100) :: rest)) := z_put C hP hS (k0 := 100) (by decide)  (Cn := RX8) (T := TX8) (N := 38) rfl rfl (inlX8) tyX8 tyX8_ok nmX8 27 (by decide) wd_418 rfl rfl rfl rfl (Nat.le_of_ble_eq_true rfl) (zU σ 100 27 x) rfl (fun i hi => zU_cell hi) hdg k
theorem zg_X8_171 (C : Cx p s m args c cc RX8 nL D Y a) {σ : zS} (hP : GP D Y a σ H) (hdg : decode cc pc = .ok (.getfield 171, 3)) (k : W p l e R s m args below meth c H locs cells slots Q (F0 m (pc + 3) ls (.int (iI (σ 100 28)) :: rest))) : W p l e R s m args below meth c H locs cells slots Q (F0 m pc ls (.ref (a 100) :: rest)) := z_get C hP (k0 := 100) (by decide) (Cn := RX8) (T := TX8) (N := 38) rfl rfl (inlX8) 28 (by decide) wd_419 rfl rfl hdg k
theorem zp_X8_171 (C : Cx p s m args c cc RX8 nL D Y a) {σ : zS} {H0 : Heap} (hP : GP D Y a σ H) (hS : va_S (inA a) H0 H locs) {x : Int} (hdg : decode cc pc = .ok (.putfield 171, 3)) (k : ∀ (H1 : Heap) (locs1 : List Loc), GP D Y a (zU σ 100 28 x) H1 → va_S (inA a) H0 H1 locs1 → W p l e R s m args below meth c H1 locs1 cells slots Q (F0 m (pc + 3) ls rest)) : W p l e R s m args below meth c H locs cells slots Q (F0 m pc ls (.int (iI x) :: .ref (a 100) :: rest)) := z_put C hP hS (k0 := 100) (by decide)  (Cn := RX8) (T := TX8) (N := 38) rfl rfl (inlX8) tyX8 tyX8_ok nmX8 28 (by decide) wd_419 rfl rfl rfl rfl (Nat.le_of_ble_eq_true rfl) (zU σ 100 28 x) rfl (fun i hi => zU_cell hi) hdg k
theorem zg_X8_174 (C : Cx p s m args c cc RX8 nL D Y a) {σ : zS} (hP : GP D Y a σ H) (hdg : decode cc pc = .ok (.getfield 174, 3)) (k : W p l e R s m args below meth c H locs cells slots Q (F0 m (pc + 3) ls (.int (iI (σ 100 29)) :: rest))) : W p l e R s m args below meth c H locs cells slots Q (F0 m pc ls (.ref (a 100) :: rest)) := z_get C hP (k0 := 100) (by decide) (Cn := RX8) (T := TX8) (N := 38) rfl rfl (inlX8) 29 (by decide) wd_420 rfl rfl hdg k
theorem zp_X8_174 (C : Cx p s m args c cc RX8 nL D Y a) {σ : zS} {H0 : Heap} (hP : GP D Y a σ H) (hS : va_S (inA a) H0 H locs) {x : Int} (hdg : decode cc pc = .ok (.putfield 174, 3)) (k : ∀ (H1 : Heap) (locs1 : List Loc), GP D Y a (zU σ 100 29 x) H1 → va_S (inA a) H0 H1 locs1 → W p l e R s m args below meth c H1 locs1 cells slots Q (F0 m (pc + 3) ls rest)) : W p l e R s m args below meth c H locs cells slots Q (F0 m pc ls (.int (iI x) :: .ref (a 100) :: rest)) := z_put C hP hS (k0 := 100) (by decide)  (Cn := RX8) (T := TX8) (N := 38) rfl rfl (inlX8) tyX8 tyX8_ok nmX8 29 (by decide) wd_420 rfl rfl rfl rfl (Nat.le_of_ble_eq_true rfl) (zU σ 100 29 x) rfl (fun i hi => zU_cell hi) hdg k
theorem zg_X8_177 (C : Cx p s m args c cc RX8 nL D Y a) {σ : zS} (hP : GP D Y a σ H) (hdg : decode cc pc = .ok (.getfield 177, 3)) (k : W p l e R s m args below meth c H locs cells slots Q (F0 m (pc + 3) ls (.int (iI (σ 100 30)) :: rest))) : W p l e R s m args below meth c H locs cells slots Q (F0 m pc ls (.ref (a 100) :: rest)) := z_get C hP (k0 := 100) (by decide) (Cn := RX8) (T := TX8) (N := 38) rfl rfl (inlX8) 30 (by decide) wd_421 rfl rfl hdg k
theorem zp_X8_177 (C : Cx p s m args c cc RX8 nL D Y a) {σ : zS} {H0 : Heap} (hP : GP D Y a σ H) (hS : va_S (inA a) H0 H locs) {x : Int} (hdg : decode cc pc = .ok (.putfield 177, 3)) (k : ∀ (H1 : Heap) (locs1 : List Loc), GP D Y a (zU σ 100 30 x) H1 → va_S (inA a) H0 H1 locs1 → W p l e R s m args below meth c H1 locs1 cells slots Q (F0 m (pc + 3) ls rest)) : W p l e R s m args below meth c H locs cells slots Q (F0 m pc ls (.int (iI x) :: .ref (a 100) :: rest)) := z_put C hP hS (k0 := 100) (by decide)  (Cn := RX8) (T := TX8) (N := 38) rfl rfl (inlX8) tyX8 tyX8_ok nmX8 30 (by decide) wd_421 rfl rfl rfl rfl (Nat.le_of_ble_eq_true rfl) (zU σ 100 30 x) rfl (fun i hi => zU_cell hi) hdg k
theorem zg_X7_141 (C : Cx p s m args c cc RX7 nL D Y a) {σ : zS} (hP : GP D Y a σ H) (hdg : decode cc pc = .ok (.getfield 141, 3)) (k : W p l e R s m args below meth c H locs cells slots Q (F0 m (pc + 3) ls (.ref (a 11) :: rest))) : W p l e R s m args below meth c H locs cells slots Q (F0 m pc ls (.ref (a 10) :: rest)) := z_get C hP (k0 := 10) (by decide) (Cn := RX3) (T := TX3) (N := 9) rfl rfl (inlX3) 0 (by decide) wd_447 rfl rfl hdg k
theorem zg_X7_145 (C : Cx p s m args c cc RX7 nL D Y a) {σ : zS} (hP : GP D Y a σ H) (hdg : decode cc pc = .ok (.getfield 145, 3)) (k : W p l e R s m args below meth c H locs cells slots Q (F0 m (pc + 3) ls (.ref (a 12) :: rest))) : W p l e R s m args below meth c H locs cells slots Q (F0 m pc ls (.ref (a 10) :: rest)) := z_get C hP (k0 := 10) (by decide) (Cn := RX3) (T := TX3) (N := 9) rfl rfl (inlX3) 1 (by decide) wd_448 rfl rfl hdg k
theorem zg_X7_148 (C : Cx p s m args c cc RX7 nL D Y a) {σ : zS} (hP : GP D Y a σ H) (hdg : decode cc pc = .ok (.getfield 148, 3)) (k : W p l e R s m args below meth c H locs cells slots Q (F0 m (pc + 3) ls (.ref (a 13) :: rest))) : W p l e R s m args below meth c H locs cells slots Q (F0 m pc ls (.ref (a 10) :: rest)) := z_get C hP (k0 := 10) (by decide) (Cn := RX3) (T := TX3) (N := 9) rfl rfl (inlX3) 2 (by decide) wd_449 rfl rfl hdg k
theorem zg_X7_151 (C : Cx p s m args c cc RX7 nL D Y a) {σ : zS} (hP : GP D Y a σ H) (hdg : decode cc pc = .ok (.getfield 151, 3)) (k : W p l e R s m args below meth c H locs cells slots Q (F0 m (pc + 3) ls (.ref (a 14) :: rest))) : W p l e R s m args below meth c H locs cells slots Q (F0 m pc ls (.ref (a 10) :: rest)) := z_get C hP (k0 := 10) (by decide) (Cn := RX3) (T := TX3) (N := 9) rfl rfl (inlX3) 3 (by decide) wd_450 rfl rfl hdg k
theorem zg_X7_160 (C : Cx p s m args c cc RX7 nL D Y a) {σ : zS} (hP : GP D Y a σ H) (hdg : decode cc pc = .ok (.getfield 160, 3)) (k : W p l e R s m args below meth c H locs cells slots Q (F0 m (pc + 3) ls (.int (iI (σ 10 6)) :: rest))) : W p l e R s m args below meth c H locs cells slots Q (F0 m pc ls (.ref (a 10) :: rest)) := z_get C hP (k0 := 10) (by decide) (Cn := RX3) (T := TX3) (N := 9) rfl rfl (inlX3) 6 (by decide) wd_471 rfl rfl hdg k
theorem zp_X7_160 (C : Cx p s m args c cc RX7 nL D Y a) {σ : zS} {H0 : Heap} (hP : GP D Y a σ H) (hS : va_S (inA a) H0 H locs) {x : Int} (hdg : decode cc pc = .ok (.putfield 160, 3)) (k : ∀ (H1 : Heap) (locs1 : List Loc), GP D Y a (zU σ 10 6 x) H1 → va_S (inA a) H0 H1 locs1 → W p l e R s m args below meth c H1 locs1 cells slots Q (F0 m (pc + 3) ls rest)) : W p l e R s m args below meth c H locs cells slots Q (F0 m pc ls (.int (iI x) :: .ref (a 10) :: rest)) := z_put C hP hS (k0 := 10) (by decide)  (Cn := RX3) (T := TX3) (N := 9) rfl rfl (inlX3) tyX3 tyX3_ok nmX3 6 (by decide) wd_471 rfl rfl rfl rfl (Nat.le_of_ble_eq_true rfl) (zU σ 10 6 x) rfl (fun i hi => zU_cell hi) hdg k
theorem zg_X7_163 (C : Cx p s m args c cc RX7 nL D Y a) {σ : zS} (hP : GP D Y a σ H) (hdg : decode cc pc = .ok (.getfield 163, 3)) (k : W p l e R s m args below meth c H locs cells slots Q (F0 m (pc + 3) ls (.int (iI (σ 10 7)) :: rest))) : W p l e R s m args below meth c H locs cells slots Q (F0 m pc ls (.ref (a 10) :: rest)) := z_get C hP (k0 := 10) (by decide) (Cn := RX3) (T := TX3) (N := 9) rfl rfl (inlX3) 7 (by decide) wd_472 rfl rfl hdg k
theorem zp_X7_163 (C : Cx p s m args c cc RX7 nL D Y a) {σ : zS} {H0 : Heap} (hP : GP D Y a σ H) (hS : va_S (inA a) H0 H locs) {x : Int} (hdg : decode cc pc = .ok (.putfield 163, 3)) (k : ∀ (H1 : Heap) (locs1 : List Loc), GP D Y a (zU σ 10 7 x) H1 → va_S (inA a) H0 H1 locs1 → W p l e R s m args below meth c H1 locs1 cells slots Q (F0 m (pc + 3) ls rest)) : W p l e R s m args below meth c H locs cells slots Q (F0 m pc ls (.int (iI x) :: .ref (a 10) :: rest)) := z_put C hP hS (k0 := 10) (by decide)  (Cn := RX3) (T := TX3) (N := 9) rfl rfl (inlX3) tyX3 tyX3_ok nmX3 7 (by decide) wd_472 rfl rfl rfl rfl (Nat.le_of_ble_eq_true rfl) (zU σ 10 7 x) rfl (fun i hi => zU_cell hi) hdg k
theorem zg_X7_170 (C : Cx p s m args c cc RX7 nL D Y a) {σ : zS} (hP : GP D Y a σ H) (hdg : decode cc pc = .ok (.getfield 170, 3)) (k : W p l e R s m args below meth c H locs cells slots Q (F0 m (pc + 3) ls (.int (iI (σ 10 8)) :: rest))) : W p l e R s m args below meth c H locs cells slots Q (F0 m pc ls (.ref (a 10) :: rest)) := z_get C hP (k0 := 10) (by decide) (Cn := RX3) (T := TX3) (N := 9) rfl rfl (inlX3) 8 (by decide) wd_490 rfl rfl hdg k
theorem zp_X7_170 (C : Cx p s m args c cc RX7 nL D Y a) {σ : zS} {H0 : Heap} (hP : GP D Y a σ H) (hS : va_S (inA a) H0 H locs) {x : Int} (hdg : decode cc pc = .ok (.putfield 170, 3)) (k : ∀ (H1 : Heap) (locs1 : List Loc), GP D Y a (zU σ 10 8 x) H1 → va_S (inA a) H0 H1 locs1 → W p l e R s m args below meth c H1 locs1 cells slots Q (F0 m (pc + 3) ls rest)) : W p l e R s m args below meth c H locs cells slots Q (F0 m pc ls (.int (iI x) :: .ref (a 10) :: rest)) := z_put C hP hS (k0 := 10) (by decide)  (Cn := RX3) (T := TX3) (N := 9) rfl rfl (inlX3) tyX3 tyX3_ok nmX3 8 (by decide) wd_490 rfl rfl rfl rfl (Nat.le_of_ble_eq_true rfl) (zU σ 10 8 x) rfl (fun i hi => zU_cell hi) hdg k
theorem zg_X7_184 (C : Cx p s m args c cc RX7 nL D Y a) {σ : zS} (hP : GP D Y a σ H) (hdg : decode cc pc = .ok (.getfield 184, 3)) (k : W p l e R s m args below meth c H locs cells slots Q (F0 m (pc + 3) ls (.int (iI (σ 15 0)) :: rest))) : W p l e R s m args below meth c H locs cells slots Q (F0 m pc ls (.ref (a 15) :: rest)) := z_get C hP (k0 := 15) (by decide) (Cn := RX5) (T := TX5) (N := 15) rfl rfl (inlX5) 0 (by decide) wd_499 rfl rfl hdg k
theorem zp_X7_184 (C : Cx p s m args c cc RX7 nL D Y a) {σ : zS} {H0 : Heap} (hP : GP D Y a σ H) (hS : va_S (inA a) H0 H locs) {x : Int} (hdg : decode cc pc = .ok (.putfield 184, 3)) (k : ∀ (H1 : Heap) (locs1 : List Loc), GP D Y a (zU σ 15 0 x) H1 → va_S (inA a) H0 H1 locs1 → W p l e R s m args below meth c H1 locs1 cells slots Q (F0 m (pc + 3) ls rest)) : W p l e R s m args below meth c H locs cells slots Q (F0 m pc ls (.int (iI x) :: .ref (a 15) :: rest)) := z_put C hP hS (k0 := 15) (by decide)  (Cn := RX5) (T := TX5) (N := 15) rfl rfl (inlX5) tyX5 tyX5_ok nmX5 0 (by decide) wd_499 rfl rfl rfl rfl (Nat.le_of_ble_eq_true rfl) (zU σ 15 0 x) rfl (fun i hi => zU_cell hi) hdg k
theorem zg_X7_187 (C : Cx p s m args c cc RX7 nL D Y a) {σ : zS} (hP : GP D Y a σ H) (hdg : decode cc pc = .ok (.getfield 187, 3)) (k : W p l e R s m args below meth c H locs cells slots Q (F0 m (pc + 3) ls (.int (iI (σ 15 1)) :: rest))) : W p l e R s m args below meth c H locs cells slots Q (F0 m pc ls (.ref (a 15) :: rest)) := z_get C hP (k0 := 15) (by decide) (Cn := RX5) (T := TX5) (N := 15) rfl rfl (inlX5) 1 (by decide) wd_500 rfl rfl hdg k
theorem zp_X7_187 (C : Cx p s m args c cc RX7 nL D Y a) {σ : zS} {H0 : Heap} (hP : GP D Y a σ H) (hS : va_S (inA a) H0 H locs) {x : Int} (hdg : decode cc pc = .ok (.putfield 187, 3)) (k : ∀ (H1 : Heap) (locs1 : List Loc), GP D Y a (zU σ 15 1 x) H1 → va_S (inA a) H0 H1 locs1 → W p l e R s m args below meth c H1 locs1 cells slots Q (F0 m (pc + 3) ls rest)) : W p l e R s m args below meth c H locs cells slots Q (F0 m pc ls (.int (iI x) :: .ref (a 15) :: rest)) := z_put C hP hS (k0 := 15) (by decide)  (Cn := RX5) (T := TX5) (N := 15) rfl rfl (inlX5) tyX5 tyX5_ok nmX5 1 (by decide) wd_500 rfl rfl rfl rfl (Nat.le_of_ble_eq_true rfl) (zU σ 15 1 x) rfl (fun i hi => zU_cell hi) hdg k
theorem zg_X5_66 (C : Cx p s m args c cc RX5 nL D Y a) {σ : zS} (hP : GP D Y a σ H) {k0 : Int} (hk : zSet k0) (hdg : decode cc pc = .ok (.getfield 66, 3)) (k : W p l e R s m args below meth c H locs cells slots Q (F0 m (pc + 3) ls (.int (iI (σ k0 12)) :: rest))) : W p l e R s m args below meth c H locs cells slots Q (F0 m pc ls (.ref (a k0) :: rest)) := z_get C hP (k0 := k0) (zSet_in hk) (Cn := RX6) (T := TX6) (N := 14) (sh_set hk _) rfl (inlX6) 12 (by decide) wd_507 rfl rfl hdg k
theorem zp_X5_66 (C : Cx p s m args c cc RX5 nL D Y a) {σ : zS} {H0 : Heap} (hP : GP D Y a σ H) (hS : va_S (inA a) H0 H locs) {k0 : Int} (hk : zSet k0) {x : Int} (hdg : decode cc pc = .ok (.putfield 66, 3)) (k : ∀ (H1 : Heap) (locs1 : List Loc), GP D Y a (zU σ k0 12 x) H1 → va_S (inA a) H0 H1 locs1 → W p l e R s m args below meth c H1 locs1 cells slots Q (F0 m (pc + 3) ls rest)) : W p l e R s m args below meth c H locs cells slots Q (F0 m pc ls (.int (iI x) :: .ref (a k0) :: rest)) := z_put C hP hS (k0 := k0) (zSet_in hk)  (Cn := RX6) (T := TX6) (N := 14) (sh_set hk _) rfl (inlX6) tyX6 tyX6_ok nmX6 12 (by decide) wd_507 rfl rfl rfl rfl (Nat.le_of_ble_eq_true rfl) (zU σ k0 12 x) (by rw [sh_set hk]; simp [zU]) (fun i hi => zU_cell hi) hdg k
theorem zg32_X5_66 (C : Cx p s m args c cc RX5 nL D Y a) {σ : zS} (hP : GP D Y a σ H) (hdg : decode cc pc = .ok (.getfield 66, 3)) (k : W p l e R s m args below meth c H locs cells slots Q (F0 m (pc + 3) ls (.int (iI (σ 32 12)) :: rest))) : W p l e R s m args below meth c H locs cells slots Q (F0 m pc ls (.ref (a 32) :: rest)) := z_get C hP (k0 := 32) (by decide) (Cn := RX6) (T := TX6) (N := 14) rfl rfl (inlX6) 12 (by decide) wd_507 rfl rfl hdg k
theorem zp32_X5_66 (C : Cx p s m args c cc RX5 nL D Y a) {σ : zS} {H0 : Heap} (hP : GP D Y a σ H) (hS : va_S (inA a) H0 H locs) {x : Int} (hdg : decode cc pc = .ok (.putfield 66, 3)) (k : ∀ (H1 : Heap) (locs1 : List Loc), GP D Y a (zU σ 32 12 x) H1 → va_S (inA a) H0 H1 locs1 → W p l e R s m args below meth c H1 locs1 cells slots Q (F0 m (pc + 3) ls rest)) : W p l e R s m args below meth c H locs cells slots Q (F0 m pc ls (.int (iI x) :: .ref (a 32) :: rest)) := z_put C hP hS (k0 := 32) (by decide)  (Cn := RX6) (T := TX6) (N := 14) rfl rfl (inlX6) tyX6 tyX6_ok nmX6 12 (by decide) wd_507 rfl rfl rfl rfl (Nat.le_of_ble_eq_true rfl) (zU σ 32 12 x) rfl (fun i hi => zU_cell hi) hdg k
theorem zg_X5_77 (C : Cx p s m args c cc RX5 nL D Y a) {σ : zS} (hP : GP D Y a σ H) {k0 : Int} (hk : zSet k0) (hdg : decode cc pc = .ok (.getfield 77, 3)) (k : W p l e R s m args below meth c H locs cells slots Q (F0 m (pc + 3) ls (.int (iI (σ k0 9)) :: rest))) : W p l e R s m args below meth c H locs cells slots Q (F0 m pc ls (.ref (a k0) :: rest)) := z_get C hP (k0 := k0) (zSet_in hk) (Cn := RX6) (T := TX6) (N := 14) (sh_set hk _) rfl (inlX6) 9 (by decide) wd_515 rfl rfl hdg k
theorem zp_X5_77 (C : Cx p s m args c cc RX5 nL D Y a) {σ : zS} {H0 : Heap} (hP : GP D Y a σ H) (hS : va_S (inA a) H0 H locs) {k0 : Int} (hk : zSet k0) {x : Int} (hdg : decode cc pc = .ok (.putfield 77, 3)) (k : ∀ (H1 : Heap) (locs1 : List Loc), GP D Y a (zU σ k0 9 x) H1 → va_S (inA a) H0 H1 locs1 → W p l e R s m args below meth c H1 locs1 cells slots Q (F0 m (pc + 3) ls rest)) : W p l e R s m args below meth c H locs cells slots Q (F0 m pc ls (.int (iI x) :: .ref (a k0) :: rest)) := z_put C hP hS (k0 := k0) (zSet_in hk)  (Cn := RX6) (T := TX6) (N := 14) (sh_set hk _) rfl (inlX6) tyX6 tyX6_ok nmX6 9 (by decide) wd_515 rfl rfl rfl rfl (Nat.le_of_ble_eq_true rfl) (zU σ k0 9 x) (by rw [sh_set hk]; simp [zU]) (fun i hi => zU_cell hi) hdg k
theorem zg32_X5_77 (C : Cx p s m args c cc RX5 nL D Y a) {σ : zS} (hP : GP D Y a σ H) (hdg : decode cc pc = .ok (.getfield 77, 3)) (k : W p l e R s m args below meth c H locs cells slots Q (F0 m (pc + 3) ls (.int (iI (σ 32 9)) :: rest))) : W p l e R s m args below meth c H locs cells slots Q (F0 m pc ls (.ref (a 32) :: rest)) := z_get C hP (k0 := 32) (by decide) (Cn := RX6) (T := TX6) (N := 14) rfl rfl (inlX6) 9 (by decide) wd_515 rfl rfl hdg k
theorem zp32_X5_77 (C : Cx p s m args c cc RX5 nL D Y a) {σ : zS} {H0 : Heap} (hP : GP D Y a σ H) (hS : va_S (inA a) H0 H locs) {x : Int} (hdg : decode cc pc = .ok (.putfield 77, 3)) (k : ∀ (H1 : Heap) (locs1 : List Loc), GP D Y a (zU σ 32 9 x) H1 → va_S (inA a) H0 H1 locs1 → W p l e R s m args below meth c H1 locs1 cells slots Q (F0 m (pc + 3) ls rest)) : W p l e R s m args below meth c H locs cells slots Q (F0 m pc ls (.int (iI x) :: .ref (a 32) :: rest)) := z_put C hP hS (k0 := 32) (by decide)  (Cn := RX6) (T := TX6) (N := 14) rfl rfl (inlX6) tyX6 tyX6_ok nmX6 9 (by decide) wd_515 rfl rfl rfl rfl (Nat.le_of_ble_eq_true rfl) (zU σ 32 9 x) rfl (fun i hi => zU_cell hi) hdg k
theorem zg_X5_80 (C : Cx p s m args c cc RX5 nL D Y a) {σ : zS} (hP : GP D Y a σ H) {k0 : Int} (hk : zSet k0) (hdg : decode cc pc = .ok (.getfield 80, 3)) (k : W p l e R s m args below meth c H locs cells slots Q (F0 m (pc + 3) ls (.ref (a (k0 + 3)) :: rest))) : W p l e R s m args below meth c H locs cells slots Q (F0 m pc ls (.ref (a k0) :: rest)) := z_get C hP (k0 := k0) (zSet_in hk) (Cn := RX6) (T := TX6) (N := 14) (sh_set hk _) rfl (inlX6) 2 (by decide) wd_516 rfl rfl hdg k
theorem zg32_X5_80 (C : Cx p s m args c cc RX5 nL D Y a) {σ : zS} (hP : GP D Y a σ H) (hdg : decode cc pc = .ok (.getfield 80, 3)) (k : W p l e R s m args below meth c H locs cells slots Q (F0 m (pc + 3) ls (.ref (a 35) :: rest))) : W p l e R s m args below meth c H locs cells slots Q (F0 m pc ls (.ref (a 32) :: rest)) := z_get C hP (k0 := 32) (by decide) (Cn := RX6) (T := TX6) (N := 14) rfl rfl (inlX6) 2 (by decide) wd_516 rfl rfl hdg k
theorem zg_X5_96 (C : Cx p s m args c cc RX5 nL D Y a) {σ : zS} (hP : GP D Y a σ H) {k0 : Int} (hk : zSet k0) (hdg : decode cc pc = .ok (.getfield 96, 3)) (k : W p l e R s m args below meth c H locs cells slots Q (F0 m (pc + 3) ls (.int (iI (σ k0 10)) :: rest))) : W p l e R s m args below meth c H locs cells slots Q (F0 m pc ls (.ref (a k0) :: rest)) := z_get C hP (k0 := k0) (zSet_in hk) (Cn := RX6) (T := TX6) (N := 14) (sh_set hk _) rfl (inlX6) 10 (by decide) wd_522 rfl rfl hdg k
theorem zp_X5_96 (C : Cx p s m args c cc RX5 nL D Y a) {σ : zS} {H0 : Heap} (hP : GP D Y a σ H) (hS : va_S (inA a) H0 H locs) {k0 : Int} (hk : zSet k0) {x : Int} (hdg : decode cc pc = .ok (.putfield 96, 3)) (k : ∀ (H1 : Heap) (locs1 : List Loc), GP D Y a (zU σ k0 10 x) H1 → va_S (inA a) H0 H1 locs1 → W p l e R s m args below meth c H1 locs1 cells slots Q (F0 m (pc + 3) ls rest)) : W p l e R s m args below meth c H locs cells slots Q (F0 m pc ls (.int (iI x) :: .ref (a k0) :: rest)) := z_put C hP hS (k0 := k0) (zSet_in hk)  (Cn := RX6) (T := TX6) (N := 14) (sh_set hk _) rfl (inlX6) tyX6 tyX6_ok nmX6 10 (by decide) wd_522 rfl rfl rfl rfl (Nat.le_of_ble_eq_true rfl) (zU σ k0 10 x) (by rw [sh_set hk]; simp [zU]) (fun i hi => zU_cell hi) hdg k
theorem zg32_X5_96 (C : Cx p s m args c cc RX5 nL D Y a) {σ : zS} (hP : GP D Y a σ H) (hdg : decode cc pc = .ok (.getfield 96, 3)) (k : W p l e R s m args below meth c H locs cells slots Q (F0 m (pc + 3) ls (.int (iI (σ 32 10)) :: rest))) : W p l e R s m args below meth c H locs cells slots Q (F0 m pc ls (.ref (a 32) :: rest)) := z_get C hP (k0 := 32) (by decide) (Cn := RX6) (T := TX6) (N := 14) rfl rfl (inlX6) 10 (by decide) wd_522 rfl rfl hdg k
theorem zp32_X5_96 (C : Cx p s m args c cc RX5 nL D Y a) {σ : zS} {H0 : Heap} (hP : GP D Y a σ H) (hS : va_S (inA a) H0 H locs) {x : Int} (hdg : decode cc pc = .ok (.putfield 96, 3)) (k : ∀ (H1 : Heap) (locs1 : List Loc), GP D Y a (zU σ 32 10 x) H1 → va_S (inA a) H0 H1 locs1 → W p l e R s m args below meth c H1 locs1 cells slots Q (F0 m (pc + 3) ls rest)) : W p l e R s m args below meth c H locs cells slots Q (F0 m pc ls (.int (iI x) :: .ref (a 32) :: rest)) := z_put C hP hS (k0 := 32) (by decide)  (Cn := RX6) (T := TX6) (N := 14) rfl rfl (inlX6) tyX6 tyX6_ok nmX6 10 (by decide) wd_522 rfl rfl rfl rfl (Nat.le_of_ble_eq_true rfl) (zU σ 32 10 x) rfl (fun i hi => zU_cell hi) hdg k
theorem zg_X5_99 (C : Cx p s m args c cc RX5 nL D Y a) {σ : zS} (hP : GP D Y a σ H) {k0 : Int} (hk : zRid k0) (hdg : decode cc pc = .ok (.getfield 99, 3)) (k : W p l e R s m args below meth c H locs cells slots Q (F0 m (pc + 3) ls (.int (iI (σ k0 3)) :: rest))) : W p l e R s m args below meth c H locs cells slots Q (F0 m pc ls (.ref (a k0) :: rest)) := z_get C hP (k0 := k0) (zRid_in hk) (Cn := RX4) (T := TX4) (N := 5) (sh_rid hk _) rfl (inlX4) 3 (by decide) wd_523 rfl rfl hdg k
theorem zp_X5_99 (C : Cx p s m args c cc RX5 nL D Y a) {σ : zS} {H0 : Heap} (hP : GP D Y a σ H) (hS : va_S (inA a) H0 H locs) {k0 : Int} (hk : zRid k0) {x : Int} (hdg : decode cc pc = .ok (.putfield 99, 3)) (k : ∀ (H1 : Heap) (locs1 : List Loc), GP D Y a (zU σ k0 3 x) H1 → va_S (inA a) H0 H1 locs1 → W p l e R s m args below meth c H1 locs1 cells slots Q (F0 m (pc + 3) ls rest)) : W p l e R s m args below meth c H locs cells slots Q (F0 m pc ls (.int (iI x) :: .ref (a k0) :: rest)) := z_put C hP hS (k0 := k0) (zRid_in hk)  (Cn := RX4) (T := TX4) (N := 5) (sh_rid hk _) rfl (inlX4) tyX4 tyX4_ok nmX4 3 (by decide) wd_523 rfl rfl rfl rfl (Nat.le_of_ble_eq_true rfl) (zU σ k0 3 x) (by rw [sh_rid hk]; simp [zU]) (fun i hi => zU_cell hi) hdg k
theorem zg_X5_113 (C : Cx p s m args c cc RX5 nL D Y a) {σ : zS} (hP : GP D Y a σ H) (hdg : decode cc pc = .ok (.getfield 113, 3)) (k : W p l e R s m args below meth c H locs cells slots Q (F0 m (pc + 3) ls (.int (iI (σ 15 6)) :: rest))) : W p l e R s m args below meth c H locs cells slots Q (F0 m pc ls (.ref (a 15) :: rest)) := z_get C hP (k0 := 15) (by decide) (Cn := RX5) (T := TX5) (N := 15) rfl rfl (inlX5) 6 (by decide) wd_530 rfl rfl hdg k
theorem zp_X5_113 (C : Cx p s m args c cc RX5 nL D Y a) {σ : zS} {H0 : Heap} (hP : GP D Y a σ H) (hS : va_S (inA a) H0 H locs) {x : Int} (hdg : decode cc pc = .ok (.putfield 113, 3)) (k : ∀ (H1 : Heap) (locs1 : List Loc), GP D Y a (zU σ 15 6 x) H1 → va_S (inA a) H0 H1 locs1 → W p l e R s m args below meth c H1 locs1 cells slots Q (F0 m (pc + 3) ls rest)) : W p l e R s m args below meth c H locs cells slots Q (F0 m pc ls (.int (iI x) :: .ref (a 15) :: rest)) := z_put C hP hS (k0 := 15) (by decide)  (Cn := RX5) (T := TX5) (N := 15) rfl rfl (inlX5) tyX5 tyX5_ok nmX5 6 (by decide) wd_530 rfl rfl rfl rfl (Nat.le_of_ble_eq_true rfl) (zU σ 15 6 x) rfl (fun i hi => zU_cell hi) hdg k
theorem zg_X5_127 (C : Cx p s m args c cc RX5 nL D Y a) {σ : zS} (hP : GP D Y a σ H) (hdg : decode cc pc = .ok (.getfield 127, 3)) (k : W p l e R s m args below meth c H locs cells slots Q (F0 m (pc + 3) ls (.int (iI (σ 15 0)) :: rest))) : W p l e R s m args below meth c H locs cells slots Q (F0 m pc ls (.ref (a 15) :: rest)) := z_get C hP (k0 := 15) (by decide) (Cn := RX5) (T := TX5) (N := 15) rfl rfl (inlX5) 0 (by decide) wd_545 rfl rfl hdg k
theorem zp_X5_127 (C : Cx p s m args c cc RX5 nL D Y a) {σ : zS} {H0 : Heap} (hP : GP D Y a σ H) (hS : va_S (inA a) H0 H locs) {x : Int} (hdg : decode cc pc = .ok (.putfield 127, 3)) (k : ∀ (H1 : Heap) (locs1 : List Loc), GP D Y a (zU σ 15 0 x) H1 → va_S (inA a) H0 H1 locs1 → W p l e R s m args below meth c H1 locs1 cells slots Q (F0 m (pc + 3) ls rest)) : W p l e R s m args below meth c H locs cells slots Q (F0 m pc ls (.int (iI x) :: .ref (a 15) :: rest)) := z_put C hP hS (k0 := 15) (by decide)  (Cn := RX5) (T := TX5) (N := 15) rfl rfl (inlX5) tyX5 tyX5_ok nmX5 0 (by decide) wd_545 rfl rfl rfl rfl (Nat.le_of_ble_eq_true rfl) (zU σ 15 0 x) rfl (fun i hi => zU_cell hi) hdg k
theorem zg_X5_130 (C : Cx p s m args c cc RX5 nL D Y a) {σ : zS} (hP : GP D Y a σ H) (hdg : decode cc pc = .ok (.getfield 130, 3)) (k : W p l e R s m args below meth c H locs cells slots Q (F0 m (pc + 3) ls (.int (iI (σ 15 1)) :: rest))) : W p l e R s m args below meth c H locs cells slots Q (F0 m pc ls (.ref (a 15) :: rest)) := z_get C hP (k0 := 15) (by decide) (Cn := RX5) (T := TX5) (N := 15) rfl rfl (inlX5) 1 (by decide) wd_546 rfl rfl hdg k
theorem zp_X5_130 (C : Cx p s m args c cc RX5 nL D Y a) {σ : zS} {H0 : Heap} (hP : GP D Y a σ H) (hS : va_S (inA a) H0 H locs) {x : Int} (hdg : decode cc pc = .ok (.putfield 130, 3)) (k : ∀ (H1 : Heap) (locs1 : List Loc), GP D Y a (zU σ 15 1 x) H1 → va_S (inA a) H0 H1 locs1 → W p l e R s m args below meth c H1 locs1 cells slots Q (F0 m (pc + 3) ls rest)) : W p l e R s m args below meth c H locs cells slots Q (F0 m pc ls (.int (iI x) :: .ref (a 15) :: rest)) := z_put C hP hS (k0 := 15) (by decide)  (Cn := RX5) (T := TX5) (N := 15) rfl rfl (inlX5) tyX5 tyX5_ok nmX5 1 (by decide) wd_546 rfl rfl rfl rfl (Nat.le_of_ble_eq_true rfl) (zU σ 15 1 x) rfl (fun i hi => zU_cell hi) hdg k
theorem zg_X7_280 (C : Cx p s m args c cc RX7 nL D Y a) {σ : zS} (hP : GP D Y a σ H) {k0 : Int} (hk : zRid k0) (hdg : decode cc pc = .ok (.getfield 280, 3)) (k : W p l e R s m args below meth c H locs cells slots Q (F0 m (pc + 3) ls (.int (iI (σ k0 1)) :: rest))) : W p l e R s m args below meth c H locs cells slots Q (F0 m pc ls (.ref (a k0) :: rest)) := z_get C hP (k0 := k0) (zRid_in hk) (Cn := RX4) (T := TX4) (N := 5) (sh_rid hk _) rfl (inlX4) 1 (by decide) wd_658 rfl rfl hdg k
theorem zp_X7_280 (C : Cx p s m args c cc RX7 nL D Y a) {σ : zS} {H0 : Heap} (hP : GP D Y a σ H) (hS : va_S (inA a) H0 H locs) {k0 : Int} (hk : zRid k0) {x : Int} (hdg : decode cc pc = .ok (.putfield 280, 3)) (k : ∀ (H1 : Heap) (locs1 : List Loc), GP D Y a (zU σ k0 1 x) H1 → va_S (inA a) H0 H1 locs1 → W p l e R s m args below meth c H1 locs1 cells slots Q (F0 m (pc + 3) ls rest)) : W p l e R s m args below meth c H locs cells slots Q (F0 m pc ls (.int (iI x) :: .ref (a k0) :: rest)) := z_put C hP hS (k0 := k0) (zRid_in hk)  (Cn := RX4) (T := TX4) (N := 5) (sh_rid hk _) rfl (inlX4) tyX4 tyX4_ok nmX4 1 (by decide) wd_658 rfl rfl rfl rfl (Nat.le_of_ble_eq_true rfl) (zU σ k0 1 x) (by rw [sh_rid hk]; simp [zU]) (fun i hi => zU_cell hi) hdg k
theorem zg_X7_289 (C : Cx p s m args c cc RX7 nL D Y a) {σ : zS} (hP : GP D Y a σ H) {k0 : Int} (hk : zRid k0) (hdg : decode cc pc = .ok (.getfield 289, 3)) (k : W p l e R s m args below meth c H locs cells slots Q (F0 m (pc + 3) ls (.int (iI (σ k0 4)) :: rest))) : W p l e R s m args below meth c H locs cells slots Q (F0 m pc ls (.ref (a k0) :: rest)) := z_get C hP (k0 := k0) (zRid_in hk) (Cn := RX4) (T := TX4) (N := 5) (sh_rid hk _) rfl (inlX4) 4 (by decide) wd_758 rfl rfl hdg k
theorem zp_X7_289 (C : Cx p s m args c cc RX7 nL D Y a) {σ : zS} {H0 : Heap} (hP : GP D Y a σ H) (hS : va_S (inA a) H0 H locs) {k0 : Int} (hk : zRid k0) {x : Int} (hdg : decode cc pc = .ok (.putfield 289, 3)) (k : ∀ (H1 : Heap) (locs1 : List Loc), GP D Y a (zU σ k0 4 x) H1 → va_S (inA a) H0 H1 locs1 → W p l e R s m args below meth c H1 locs1 cells slots Q (F0 m (pc + 3) ls rest)) : W p l e R s m args below meth c H locs cells slots Q (F0 m pc ls (.int (iI x) :: .ref (a k0) :: rest)) := z_put C hP hS (k0 := k0) (zRid_in hk)  (Cn := RX4) (T := TX4) (N := 5) (sh_rid hk _) rfl (inlX4) tyX4 tyX4_ok nmX4 4 (by decide) wd_758 rfl rfl rfl rfl (Nat.le_of_ble_eq_true rfl) (zU σ k0 4 x) (by rw [sh_rid hk]; simp [zU]) (fun i hi => zU_cell hi) hdg k
theorem zg_X7_256 (C : Cx p s m args c cc RX7 nL D Y a) {σ : zS} (hP : GP D Y a σ H) {k0 : Int} (hk : zSet k0) (hdg : decode cc pc = .ok (.getfield 256, 3)) (k : W p l e R s m args below meth c H locs cells slots Q (F0 m (pc + 3) ls (.int (iI (σ k0 13)) :: rest))) : W p l e R s m args below meth c H locs cells slots Q (F0 m pc ls (.ref (a k0) :: rest)) := z_get C hP (k0 := k0) (zSet_in hk) (Cn := RX6) (T := TX6) (N := 14) (sh_set hk _) rfl (inlX6) 13 (by decide) wd_804 rfl rfl hdg k
theorem zp_X7_256 (C : Cx p s m args c cc RX7 nL D Y a) {σ : zS} {H0 : Heap} (hP : GP D Y a σ H) (hS : va_S (inA a) H0 H locs) {k0 : Int} (hk : zSet k0) {x : Int} (hdg : decode cc pc = .ok (.putfield 256, 3)) (k : ∀ (H1 : Heap) (locs1 : List Loc), GP D Y a (zU σ k0 13 x) H1 → va_S (inA a) H0 H1 locs1 → W p l e R s m args below meth c H1 locs1 cells slots Q (F0 m (pc + 3) ls rest)) : W p l e R s m args below meth c H locs cells slots Q (F0 m pc ls (.int (iI x) :: .ref (a k0) :: rest)) := z_put C hP hS (k0 := k0) (zSet_in hk)  (Cn := RX6) (T := TX6) (N := 14) (sh_set hk _) rfl (inlX6) tyX6 tyX6_ok nmX6 13 (by decide) wd_804 rfl rfl rfl rfl (Nat.le_of_ble_eq_true rfl) (zU σ k0 13 x) (by rw [sh_set hk]; simp [zU]) (fun i hi => zU_cell hi) hdg k
theorem zg32_X7_256 (C : Cx p s m args c cc RX7 nL D Y a) {σ : zS} (hP : GP D Y a σ H) (hdg : decode cc pc = .ok (.getfield 256, 3)) (k : W p l e R s m args below meth c H locs cells slots Q (F0 m (pc + 3) ls (.int (iI (σ 32 13)) :: rest))) : W p l e R s m args below meth c H locs cells slots Q (F0 m pc ls (.ref (a 32) :: rest)) := z_get C hP (k0 := 32) (by decide) (Cn := RX6) (T := TX6) (N := 14) rfl rfl (inlX6) 13 (by decide) wd_804 rfl rfl hdg k
theorem zp32_X7_256 (C : Cx p s m args c cc RX7 nL D Y a) {σ : zS} {H0 : Heap} (hP : GP D Y a σ H) (hS : va_S (inA a) H0 H locs) {x : Int} (hdg : decode cc pc = .ok (.putfield 256, 3)) (k : ∀ (H1 : Heap) (locs1 : List Loc), GP D Y a (zU σ 32 13 x) H1 → va_S (inA a) H0 H1 locs1 → W p l e R s m args below meth c H1 locs1 cells slots Q (F0 m (pc + 3) ls rest)) : W p l e R s m args below meth c H locs cells slots Q (F0 m pc ls (.int (iI x) :: .ref (a 32) :: rest)) := z_put C hP hS (k0 := 32) (by decide)  (Cn := RX6) (T := TX6) (N := 14) rfl rfl (inlX6) tyX6 tyX6_ok nmX6 13 (by decide) wd_804 rfl rfl rfl rfl (Nat.le_of_ble_eq_true rfl) (zU σ 32 13 x) rfl (fun i hi => zU_cell hi) hdg k
theorem zg_X8_301 (C : Cx p s m args c cc RX8 nL D Y a) {σ : zS} (hP : GP D Y a σ H) (hdg : decode cc pc = .ok (.getfield 301, 3)) (k : W p l e R s m args below meth c H locs cells slots Q (F0 m (pc + 3) ls (.int (iI (σ 100 16)) :: rest))) : W p l e R s m args below meth c H locs cells slots Q (F0 m pc ls (.ref (a 100) :: rest)) := z_get C hP (k0 := 100) (by decide) (Cn := RX8) (T := TX8) (N := 38) rfl rfl (inlX8) 16 (by decide) wd_814 rfl rfl hdg k
theorem zp_X8_301 (C : Cx p s m args c cc RX8 nL D Y a) {σ : zS} {H0 : Heap} (hP : GP D Y a σ H) (hS : va_S (inA a) H0 H locs) {x : Int} (hdg : decode cc pc = .ok (.putfield 301, 3)) (k : ∀ (H1 : Heap) (locs1 : List Loc), GP D Y a (zU σ 100 16 x) H1 → va_S (inA a) H0 H1 locs1 → W p l e R s m args below meth c H1 locs1 cells slots Q (F0 m (pc + 3) ls rest)) : W p l e R s m args below meth c H locs cells slots Q (F0 m pc ls (.int (iI x) :: .ref (a 100) :: rest)) := z_put C hP hS (k0 := 100) (by decide)  (Cn := RX8) (T := TX8) (N := 38) rfl rfl (inlX8) tyX8 tyX8_ok nmX8 16 (by decide) wd_814 rfl rfl rfl rfl (Nat.le_of_ble_eq_true rfl) (zU σ 100 16 x) rfl (fun i hi => zU_cell hi) hdg k
theorem zg_X8_319 (C : Cx p s m args c cc RX8 nL D Y a) {σ : zS} (hP : GP D Y a σ H) (hdg : decode cc pc = .ok (.getfield 319, 3)) (k : W p l e R s m args below meth c H locs cells slots Q (F0 m (pc + 3) ls (.int (iI (σ 100 36)) :: rest))) : W p l e R s m args below meth c H locs cells slots Q (F0 m pc ls (.ref (a 100) :: rest)) := z_get C hP (k0 := 100) (by decide) (Cn := RX8) (T := TX8) (N := 38) rfl rfl (inlX8) 36 (by decide) wd_872 rfl rfl hdg k
theorem zp_X8_319 (C : Cx p s m args c cc RX8 nL D Y a) {σ : zS} {H0 : Heap} (hP : GP D Y a σ H) (hS : va_S (inA a) H0 H locs) {x : Int} (hdg : decode cc pc = .ok (.putfield 319, 3)) (k : ∀ (H1 : Heap) (locs1 : List Loc), GP D Y a (zU σ 100 36 x) H1 → va_S (inA a) H0 H1 locs1 → W p l e R s m args below meth c H1 locs1 cells slots Q (F0 m (pc + 3) ls rest)) : W p l e R s m args below meth c H locs cells slots Q (F0 m pc ls (.int (iI x) :: .ref (a 100) :: rest)) := z_put C hP hS (k0 := 100) (by decide)  (Cn := RX8) (T := TX8) (N := 38) rfl rfl (inlX8) tyX8 tyX8_ok nmX8 36 (by decide) wd_872 rfl rfl rfl rfl (Nat.le_of_ble_eq_true rfl) (zU σ 100 36 x) rfl (fun i hi => zU_cell hi) hdg k
theorem zg_X8_315 (C : Cx p s m args c cc RX8 nL D Y a) {σ : zS} (hP : GP D Y a σ H) (hdg : decode cc pc = .ok (.getfield 315, 3)) (k : W p l e R s m args below meth c H locs cells slots Q (F0 m (pc + 3) ls (.int (iI (σ 100 37)) :: rest))) : W p l e R s m args below meth c H locs cells slots Q (F0 m pc ls (.ref (a 100) :: rest)) := z_get C hP (k0 := 100) (by decide) (Cn := RX8) (T := TX8) (N := 38) rfl rfl (inlX8) 37 (by decide) wd_873 rfl rfl hdg k
theorem zp_X8_315 (C : Cx p s m args c cc RX8 nL D Y a) {σ : zS} {H0 : Heap} (hP : GP D Y a σ H) (hS : va_S (inA a) H0 H locs) {x : Int} (hx : x = 0 ∨ x = 1) (hdg : decode cc pc = .ok (.putfield 315, 3)) (k : ∀ (H1 : Heap) (locs1 : List Loc), GP D Y a (zU σ 100 37 x) H1 → va_S (inA a) H0 H1 locs1 → W p l e R s m args below meth c H1 locs1 cells slots Q (F0 m (pc + 3) ls rest)) : W p l e R s m args below meth c H locs cells slots Q (F0 m pc ls (.int (iI x) :: .ref (a 100) :: rest)) := z_put C hP hS (k0 := 100) (by decide)  (Cn := RX8) (T := TX8) (N := 38) rfl rfl (inlX8) tyX8 tyX8_ok nmX8 37 (by decide) wd_873 rfl rfl (by rcases hx with rfl | rfl <;> rfl) (by rcases hx with rfl | rfl <;> rfl) (Nat.le_of_ble_eq_true rfl) (zU σ 100 37 x) rfl (fun i hi => zU_cell hi) hdg k
theorem zg_X7_274 (C : Cx p s m args c cc RX7 nL D Y a) {σ : zS} (hP : GP D Y a σ H) {k0 : Int} (hk : zSet k0) (hdg : decode cc pc = .ok (.getfield 274, 3)) (k : W p l e R s m args below meth c H locs cells slots Q (F0 m (pc + 3) ls (.ref (a (k0 + 2)) :: rest))) : W p l e R s m args below meth c H locs cells slots Q (F0 m pc ls (.ref (a k0) :: rest)) := z_get C hP (k0 := k0) (zSet_in hk) (Cn := RX6) (T := TX6) (N := 14) (sh_set hk _) rfl (inlX6) 1 (by decide) wd_894 rfl rfl hdg k
theorem zg32_X7_274 (C : Cx p s m args c cc RX7 nL D Y a) {σ : zS} (hP : GP D Y a σ H) (hdg : decode cc pc = .ok (.getfield 274, 3)) (k : W p l e R s m args below meth c H locs cells slots Q (F0 m (pc + 3) ls (.ref (a 34) :: rest))) : W p l e R s m args below meth c H locs cells slots Q (F0 m pc ls (.ref (a 32) :: rest)) := z_get C hP (k0 := 32) (by decide) (Cn := RX6) (T := TX6) (N := 14) rfl rfl (inlX6) 1 (by decide) wd_894 rfl rfl hdg k
theorem zg_X7_283 (C : Cx p s m args c cc RX7 nL D Y a) {σ : zS} (hP : GP D Y a σ H) {k0 : Int} (hk : zRid k0) (hdg : decode cc pc = .ok (.getfield 283, 3)) (k : W p l e R s m args below meth c H locs cells slots Q (F0 m (pc + 3) ls (.int (iI (σ k0 2)) :: rest))) : W p l e R s m args below meth c H locs cells slots Q (F0 m pc ls (.ref (a k0) :: rest)) := z_get C hP (k0 := k0) (zRid_in hk) (Cn := RX4) (T := TX4) (N := 5) (sh_rid hk _) rfl (inlX4) 2 (by decide) wd_900 rfl rfl hdg k
theorem zp_X7_283 (C : Cx p s m args c cc RX7 nL D Y a) {σ : zS} {H0 : Heap} (hP : GP D Y a σ H) (hS : va_S (inA a) H0 H locs) {k0 : Int} (hk : zRid k0) {x : Int} (hdg : decode cc pc = .ok (.putfield 283, 3)) (k : ∀ (H1 : Heap) (locs1 : List Loc), GP D Y a (zU σ k0 2 x) H1 → va_S (inA a) H0 H1 locs1 → W p l e R s m args below meth c H1 locs1 cells slots Q (F0 m (pc + 3) ls rest)) : W p l e R s m args below meth c H locs cells slots Q (F0 m pc ls (.int (iI x) :: .ref (a k0) :: rest)) := z_put C hP hS (k0 := k0) (zRid_in hk)  (Cn := RX4) (T := TX4) (N := 5) (sh_rid hk _) rfl (inlX4) tyX4 tyX4_ok nmX4 2 (by decide) wd_900 rfl rfl rfl rfl (Nat.le_of_ble_eq_true rfl) (zU σ k0 2 x) (by rw [sh_rid hk]; simp [zU]) (fun i hi => zU_cell hi) hdg k
theorem zg_X7_286 (C : Cx p s m args c cc RX7 nL D Y a) {σ : zS} (hP : GP D Y a σ H) {k0 : Int} (hk : zRid k0) (hdg : decode cc pc = .ok (.getfield 286, 3)) (k : W p l e R s m args below meth c H locs cells slots Q (F0 m (pc + 3) ls (.int (iI (σ k0 3)) :: rest))) : W p l e R s m args below meth c H locs cells slots Q (F0 m pc ls (.ref (a k0) :: rest)) := z_get C hP (k0 := k0) (zRid_in hk) (Cn := RX4) (T := TX4) (N := 5) (sh_rid hk _) rfl (inlX4) 3 (by decide) wd_901 rfl rfl hdg k
theorem zp_X7_286 (C : Cx p s m args c cc RX7 nL D Y a) {σ : zS} {H0 : Heap} (hP : GP D Y a σ H) (hS : va_S (inA a) H0 H locs) {k0 : Int} (hk : zRid k0) {x : Int} (hdg : decode cc pc = .ok (.putfield 286, 3)) (k : ∀ (H1 : Heap) (locs1 : List Loc), GP D Y a (zU σ k0 3 x) H1 → va_S (inA a) H0 H1 locs1 → W p l e R s m args below meth c H1 locs1 cells slots Q (F0 m (pc + 3) ls rest)) : W p l e R s m args below meth c H locs cells slots Q (F0 m pc ls (.int (iI x) :: .ref (a k0) :: rest)) := z_put C hP hS (k0 := k0) (zRid_in hk)  (Cn := RX4) (T := TX4) (N := 5) (sh_rid hk _) rfl (inlX4) tyX4 tyX4_ok nmX4 3 (by decide) wd_901 rfl rfl rfl rfl (Nat.le_of_ble_eq_true rfl) (zU σ k0 3 x) (by rw [sh_rid hk]; simp [zU]) (fun i hi => zU_cell hi) hdg k
end ZFLD
end
section
def zLv (own : String) (ix : Nat) (y : MethodName) (bytes : ByteArray) (maxL : Nat) (ret : Option FieldType) (n : Nat) : Prop := GoodIn wsL_law (wsV own ix y.cls y (.code y bytes maxL ret :: wsL_law)) ∧ y.cls ≠ "java/lang/invoke/MethodHandle" ∧ y.cls ≠ "java/lang/invoke/VarHandle" ∧ (parseMethodDescriptor y.desc).map (fun d => d.parameters.length) = some n
def zLs (own : String) (ix : Nat) (y : MethodName) (bytes : ByteArray) (maxL : Nat) (ret : Option FieldType) (n : Nat) : Prop := GoodIn wsL_law (va_wsS own ix y (.code y bytes maxL ret :: wsL_law)) ∧ y.cls ≠ "java/lang/invoke/MethodHandle" ∧ y.cls ≠ "java/lang/invoke/VarHandle" ∧ (parseMethodDescriptor y.desc).map (fun d => d.parameters.length) = some n
section ZCALL
variable {p : Program} {l : Launch} {e : Env} {R : Room} {s : State} {m : MethodId} {args : Array Value} {below : List Frame} {meth : Method} {c : Code} {H : Heap} {locs : List Loc} {cells slots : Nat} {Q : State → Prop} {cc : ByteArray} {pc : Nat} {ls : Array Slot} {rest : List Value} {own : String} {nL : Nat} {D : va_G} {Y : Nat → ClassId} {a : Int → Nat}
theorem z_runV {Qc : Array Value → State → Outcome → State → Prop} {free : Addr → Prop} (C : Cx p s m args c cc own nL D Y a) {σ : zS} (hP : GP D Y a σ H) {y : MethodName} {bytes : ByteArray} {maxL n ix h : Nat} {ret : Option FieldType} {As : List Value} {st0 : List Value} {kb : Int} {ci : Nat} {q : vw_C} (hlk : zLv own ix y bytes maxL ret n) (hM : zMet l y bytes maxL ret h (zPc D Y a σ (.ref (a kb) :: As)) (Qc) free) (hob : zOb Y a kb ci) (hci : vwCl[ci]? = some q) (hcl : q.1 = y.cls) (hn : As.length = n) (hsz : ls.size = nL) (hst : st0 = As.reverse ++ .ref (a kb) :: rest) (hcat : (rest.map fun v => v.category).sum ≤ 8) (hR : h + 1 ≤ R.frames ∧ 8 + (maxL + 11) + 31 * h ≤ R.locals) (hc : cells ≤ R.cells ∧ slots ≤ R.slots) (hdg : decode cc pc = .ok (.invokevirtual ix, 3)) : va_Run p l e R s m args below meth c H locs cells slots 0 0 (F0 m pc ls st0) rest (Qc (Value.ref (a kb) :: As).toArray) free := by
  have hK := C.2.2.2.2.2.1
  obtain ⟨q0, hq0, hw⟩ := zW_at (Y := Y) (a := a) (σ := σ) hob.1
  obtain ⟨fs, hfs⟩ := hob.2 (σ kb)
  rw [hfs] at hw
  have hrc := va_recv hK hP hci hw
  rw [hcl] at hrc
  exact va_runV ⟨C.1, C.2.1, C.2.2.1, C.2.2.2.1, C.2.2.2.2.1⟩ hM (cwV n C.2.2.2.2.1 hlk.1 rfl rfl rfl ⟨rfl, hlk.2⟩ hR) ⟨zPc_blind, hrc, fun U hU hW => ⟨rfl, by rw [hU]; exact hP, va_K.moved hW.alike hK⟩⟩ rfl hn hsz hst (lv_room hcat) hdg ⟨hc.1, hc.2⟩
theorem z_runS {Qc : Array Value → State → Outcome → State → Prop} {free : Addr → Prop} (C : Cx p s m args c cc own nL D Y a) {σ : zS} (hP : GP D Y a σ H) {y : MethodName} {bytes : ByteArray} {maxL n ix h : Nat} {ret : Option FieldType} {As : List Value} {st0 : List Value} (hlk : zLs own ix y bytes maxL ret n) (hM : zMet l y bytes maxL ret h (zPc D Y a σ As) (Qc) free) (hn : As.length = n) (hsz : ls.size = nL) (hst : st0 = As.reverse ++ rest) (hcat : (rest.map fun v => v.category).sum ≤ 8) (hR : h + 1 ≤ R.frames ∧ 8 + (maxL + 11) + 31 * h ≤ R.locals) (hc : cells ≤ R.cells ∧ slots ≤ R.slots) (hdg : decode cc pc = .ok (.invokestatic ix, 3)) : va_Run p l e R s m args below meth c H locs cells slots 0 0 (F0 m pc ls st0) rest (Qc As.toArray) free := by
  have hK := C.2.2.2.2.2.1
  exact va_runS ⟨C.1, C.2.1, C.2.2.1, C.2.2.2.1, C.2.2.2.2.1⟩ hM (va_cwS n C.2.2.2.2.1 hlk.1 rfl rfl rfl hlk.2 hR) ⟨zPc_blind, fun U hU hW => ⟨rfl, by rw [hU]; exact hP, va_K.moved hW.alike hK⟩⟩ rfl hn hsz hst (lv_room hcat) hdg ⟨hc.1, hc.2⟩
theorem z_vSi {r : Int} (C : Cx p s m args c cc own nL D Y a) {σ : zS} (hP : GP D Y a σ H) {y : MethodName} {bytes : ByteArray} {maxL n ix h : Nat} {ret : Option FieldType} {As : List Value} {st0 : List Value} {kb : Int} {ci : Nat} {q : vw_C} (hlk : zLv own ix y bytes maxL ret n) (hM : zMet l y bytes maxL ret h (zPc D Y a σ (.ref (a kb) :: As)) (zSi r) zNo) (hob : zOb Y a kb ci) (hci : vwCl[ci]? = some q) (hcl : q.1 = y.cls) (hn : As.length = n) (hsz : ls.size = nL) (hst : st0 = As.reverse ++ .ref (a kb) :: rest) (hcat : (rest.map fun v => v.category).sum ≤ 8) (hR : h + 1 ≤ R.frames ∧ 8 + (maxL + 11) + 31 * h ≤ R.locals) (hc : cells ≤ R.cells ∧ slots ≤ R.slots) (hdg : decode cc pc = .ok (.invokevirtual ix, 3)) (k : W p l e R s m args below meth c H locs cells slots Q (F0 m (pc + 3) ls (.int (iI r) :: rest))) : W p l e R s m args below meth c H locs cells slots Q (F0 m pc ls st0) := by
  have hrun := z_runV (e := e) (below := below) (meth := meth) (locs := locs) C hP hlk hM hob hci hcl hn hsz hst hcat hR hc hdg
  intro T hT X
  obtain ⟨v, st₀, t, T', L, h0, X', hL, e1, e2, ⟨hv, hh⟩, st⟩ := hrun T hT X
  cases hv
  obtain ⟨t2, a1, b1⟩ := k T' (by rw [e1, hh, h0]) (Stand.forget X' (fun q h => (hL q h).elim))
  exact ⟨t2, st t2 a1, b1⟩
theorem z_sSi {r : Int} (C : Cx p s m args c cc own nL D Y a) {σ : zS} (hP : GP D Y a σ H) {y : MethodName} {bytes : ByteArray} {maxL n ix h : Nat} {ret : Option FieldType} {As : List Value} {st0 : List Value} (hlk : zLs own ix y bytes maxL ret n) (hM : zMet l y bytes maxL ret h (zPc D Y a σ As) (zSi r) zNo) (hn : As.length = n) (hsz : ls.size = nL) (hst : st0 = As.reverse ++ rest) (hcat : (rest.map fun v => v.category).sum ≤ 8) (hR : h + 1 ≤ R.frames ∧ 8 + (maxL + 11) + 31 * h ≤ R.locals) (hc : cells ≤ R.cells ∧ slots ≤ R.slots) (hdg : decode cc pc = .ok (.invokestatic ix, 3)) (k : W p l e R s m args below meth c H locs cells slots Q (F0 m (pc + 3) ls (.int (iI r) :: rest))) : W p l e R s m args below meth c H locs cells slots Q (F0 m pc ls st0) := by
  have hrun := z_runS (e := e) (below := below) (meth := meth) (locs := locs) C hP hlk hM hn hsz hst hcat hR hc hdg
  intro T hT X
  obtain ⟨v, st₀, t, T', L, h0, X', hL, e1, e2, ⟨hv, hh⟩, st⟩ := hrun T hT X
  cases hv
  obtain ⟨t2, a1, b1⟩ := k T' (by rw [e1, hh, h0]) (Stand.forget X' (fun q h => (hL q h).elim))
  exact ⟨t2, st t2 a1, b1⟩
theorem z_vSl {r : Int} (C : Cx p s m args c cc own nL D Y a) {σ : zS} (hP : GP D Y a σ H) {y : MethodName} {bytes : ByteArray} {maxL n ix h : Nat} {ret : Option FieldType} {As : List Value} {st0 : List Value} {kb : Int} {ci : Nat} {q : vw_C} (hlk : zLv own ix y bytes maxL ret n) (hM : zMet l y bytes maxL ret h (zPc D Y a σ (.ref (a kb) :: As)) (zSl r) zNo) (hob : zOb Y a kb ci) (hci : vwCl[ci]? = some q) (hcl : q.1 = y.cls) (hn : As.length = n) (hsz : ls.size = nL) (hst : st0 = As.reverse ++ .ref (a kb) :: rest) (hcat : (rest.map fun v => v.category).sum ≤ 8) (hR : h + 1 ≤ R.frames ∧ 8 + (maxL + 11) + 31 * h ≤ R.locals) (hc : cells ≤ R.cells ∧ slots ≤ R.slots) (hdg : decode cc pc = .ok (.invokevirtual ix, 3)) (k : W p l e R s m args below meth c H locs cells slots Q (F0 m (pc + 3) ls (.long (jI r) :: rest))) : W p l e R s m args below meth c H locs cells slots Q (F0 m pc ls st0) := by
  have hrun := z_runV (e := e) (below := below) (meth := meth) (locs := locs) C hP hlk hM hob hci hcl hn hsz hst hcat hR hc hdg
  intro T hT X
  obtain ⟨v, st₀, t, T', L, h0, X', hL, e1, e2, ⟨hv, hh⟩, st⟩ := hrun T hT X
  cases hv
  obtain ⟨t2, a1, b1⟩ := k T' (by rw [e1, hh, h0]) (Stand.forget X' (fun q h => (hL q h).elim))
  exact ⟨t2, st t2 a1, b1⟩
theorem z_sSl {r : Int} (C : Cx p s m args c cc own nL D Y a) {σ : zS} (hP : GP D Y a σ H) {y : MethodName} {bytes : ByteArray} {maxL n ix h : Nat} {ret : Option FieldType} {As : List Value} {st0 : List Value} (hlk : zLs own ix y bytes maxL ret n) (hM : zMet l y bytes maxL ret h (zPc D Y a σ As) (zSl r) zNo) (hn : As.length = n) (hsz : ls.size = nL) (hst : st0 = As.reverse ++ rest) (hcat : (rest.map fun v => v.category).sum ≤ 8) (hR : h + 1 ≤ R.frames ∧ 8 + (maxL + 11) + 31 * h ≤ R.locals) (hc : cells ≤ R.cells ∧ slots ≤ R.slots) (hdg : decode cc pc = .ok (.invokestatic ix, 3)) (k : W p l e R s m args below meth c H locs cells slots Q (F0 m (pc + 3) ls (.long (jI r) :: rest))) : W p l e R s m args below meth c H locs cells slots Q (F0 m pc ls st0) := by
  have hrun := z_runS (e := e) (below := below) (meth := meth) (locs := locs) C hP hlk hM hn hsz hst hcat hR hc hdg
  intro T hT X
  obtain ⟨v, st₀, t, T', L, h0, X', hL, e1, e2, ⟨hv, hh⟩, st⟩ := hrun T hT X
  cases hv
  obtain ⟨t2, a1, b1⟩ := k T' (by rw [e1, hh, h0]) (Stand.forget X' (fun q h => (hL q h).elim))
  exact ⟨t2, st t2 a1, b1⟩
theorem z_vSr {r : Nat} (C : Cx p s m args c cc own nL D Y a) {σ : zS} (hP : GP D Y a σ H) {y : MethodName} {bytes : ByteArray} {maxL n ix h : Nat} {ret : Option FieldType} {As : List Value} {st0 : List Value} {kb : Int} {ci : Nat} {q : vw_C} (hlk : zLv own ix y bytes maxL ret n) (hM : zMet l y bytes maxL ret h (zPc D Y a σ (.ref (a kb) :: As)) (zSr r) zNo) (hob : zOb Y a kb ci) (hci : vwCl[ci]? = some q) (hcl : q.1 = y.cls) (hn : As.length = n) (hsz : ls.size = nL) (hst : st0 = As.reverse ++ .ref (a kb) :: rest) (hcat : (rest.map fun v => v.category).sum ≤ 8) (hR : h + 1 ≤ R.frames ∧ 8 + (maxL + 11) + 31 * h ≤ R.locals) (hc : cells ≤ R.cells ∧ slots ≤ R.slots) (hdg : decode cc pc = .ok (.invokevirtual ix, 3)) (k : W p l e R s m args below meth c H locs cells slots Q (F0 m (pc + 3) ls (.ref r :: rest))) : W p l e R s m args below meth c H locs cells slots Q (F0 m pc ls st0) := by
  have hrun := z_runV (e := e) (below := below) (meth := meth) (locs := locs) C hP hlk hM hob hci hcl hn hsz hst hcat hR hc hdg
  intro T hT X
  obtain ⟨v, st₀, t, T', L, h0, X', hL, e1, e2, ⟨hv, hh⟩, st⟩ := hrun T hT X
  cases hv
  obtain ⟨t2, a1, b1⟩ := k T' (by rw [e1, hh, h0]) (Stand.forget X' (fun q h => (hL q h).elim))
  exact ⟨t2, st t2 a1, b1⟩
theorem z_sSr {r : Nat} (C : Cx p s m args c cc own nL D Y a) {σ : zS} (hP : GP D Y a σ H) {y : MethodName} {bytes : ByteArray} {maxL n ix h : Nat} {ret : Option FieldType} {As : List Value} {st0 : List Value} (hlk : zLs own ix y bytes maxL ret n) (hM : zMet l y bytes maxL ret h (zPc D Y a σ As) (zSr r) zNo) (hn : As.length = n) (hsz : ls.size = nL) (hst : st0 = As.reverse ++ rest) (hcat : (rest.map fun v => v.category).sum ≤ 8) (hR : h + 1 ≤ R.frames ∧ 8 + (maxL + 11) + 31 * h ≤ R.locals) (hc : cells ≤ R.cells ∧ slots ≤ R.slots) (hdg : decode cc pc = .ok (.invokestatic ix, 3)) (k : W p l e R s m args below meth c H locs cells slots Q (F0 m (pc + 3) ls (.ref r :: rest))) : W p l e R s m args below meth c H locs cells slots Q (F0 m pc ls st0) := by
  have hrun := z_runS (e := e) (below := below) (meth := meth) (locs := locs) C hP hlk hM hn hsz hst hcat hR hc hdg
  intro T hT X
  obtain ⟨v, st₀, t, T', L, h0, X', hL, e1, e2, ⟨hv, hh⟩, st⟩ := hrun T hT X
  cases hv
  obtain ⟨t2, a1, b1⟩ := k T' (by rw [e1, hh, h0]) (Stand.forget X' (fun q h => (hL q h).elim))
  exact ⟨t2, st t2 a1, b1⟩
theorem z_vQi {post : Int → zS → Prop} {H0 : Heap} (hS : va_S (inA a) H0 H locs) (C : Cx p s m args c cc own nL D Y a) {σ : zS} (hP : GP D Y a σ H) {y : MethodName} {bytes : ByteArray} {maxL n ix h : Nat} {ret : Option FieldType} {As : List Value} {st0 : List Value} {kb : Int} {ci : Nat} {q : vw_C} (hlk : zLv own ix y bytes maxL ret n) (hM : zMet l y bytes maxL ret h (zPc D Y a σ (.ref (a kb) :: As)) (zQi D Y a post) (inA a)) (hob : zOb Y a kb ci) (hci : vwCl[ci]? = some q) (hcl : q.1 = y.cls) (hn : As.length = n) (hsz : ls.size = nL) (hst : st0 = As.reverse ++ .ref (a kb) :: rest) (hcat : (rest.map fun v => v.category).sum ≤ 8) (hR : h + 1 ≤ R.frames ∧ 8 + (maxL + 11) + 31 * h ≤ R.locals) (hc : cells ≤ R.cells ∧ slots ≤ R.slots) (hdg : decode cc pc = .ok (.invokevirtual ix, 3)) (k : ∀ (r : Int) (σ' : zS) (H1 : Heap) (locs1 : List Loc), post r σ' → GP D Y a σ' H1 → va_S (inA a) H0 H1 locs1 → W p l e R s m args below meth c H1 locs1 cells slots Q (F0 m (pc + 3) ls (.int (iI r) :: rest))) : W p l e R s m args below meth c H locs cells slots Q (F0 m pc ls st0) := by
  have hrun := z_runV (e := e) (below := below) (meth := meth) (locs := locs) C hP hlk hM hob hci hcl hn hsz hst hcat hR hc hdg
  intro T hT X
  obtain ⟨v, st₀, t, T', L, h0, X', hL, e1, e2, ⟨⟨r, σ1, hv, hp, hg⟩, hz, hk⟩, st⟩ := hrun T hT X
  cases hv
  rw [h0] at hz hk
  obtain ⟨t2, a1, b1⟩ := k r σ1 T'.heap (locs ++ L) hp (by rw [e1]; exact hg)
    ⟨Nat.le_trans hS.1 (by rw [e1]; exact hz), fun q h1 h2 => by rw [e1, hk q (Nat.lt_of_lt_of_le h1 hS.1) h2]; exact hS.2.1 q h1 h2, fun q hq => by
      rcases List.mem_append.mp hq with h | h
      · exact hS.2.2 q h
      · exact hL q h⟩ T' rfl X'
  exact ⟨t2, st t2 a1, b1⟩
theorem z_vQl {post : Int → zS → Prop} {H0 : Heap} (hS : va_S (inA a) H0 H locs) (C : Cx p s m args c cc own nL D Y a) {σ : zS} (hP : GP D Y a σ H) {y : MethodName} {bytes : ByteArray} {maxL n ix h : Nat} {ret : Option FieldType} {As : List Value} {st0 : List Value} {kb : Int} {ci : Nat} {q : vw_C} (hlk : zLv own ix y bytes maxL ret n) (hM : zMet l y bytes maxL ret h (zPc D Y a σ (.ref (a kb) :: As)) (zQl D Y a post) (inA a)) (hob : zOb Y a kb ci) (hci : vwCl[ci]? = some q) (hcl : q.1 = y.cls) (hn : As.length = n) (hsz : ls.size = nL) (hst : st0 = As.reverse ++ .ref (a kb) :: rest) (hcat : (rest.map fun v => v.category).sum ≤ 8) (hR : h + 1 ≤ R.frames ∧ 8 + (maxL + 11) + 31 * h ≤ R.locals) (hc : cells ≤ R.cells ∧ slots ≤ R.slots) (hdg : decode cc pc = .ok (.invokevirtual ix, 3)) (k : ∀ (r : Int) (σ' : zS) (H1 : Heap) (locs1 : List Loc), post r σ' → GP D Y a σ' H1 → va_S (inA a) H0 H1 locs1 → W p l e R s m args below meth c H1 locs1 cells slots Q (F0 m (pc + 3) ls (.long (jI r) :: rest))) : W p l e R s m args below meth c H locs cells slots Q (F0 m pc ls st0) := by
  have hrun := z_runV (e := e) (below := below) (meth := meth) (locs := locs) C hP hlk hM hob hci hcl hn hsz hst hcat hR hc hdg
  intro T hT X
  obtain ⟨v, st₀, t, T', L, h0, X', hL, e1, e2, ⟨⟨r, σ1, hv, hp, hg⟩, hz, hk⟩, st⟩ := hrun T hT X
  cases hv
  rw [h0] at hz hk
  obtain ⟨t2, a1, b1⟩ := k r σ1 T'.heap (locs ++ L) hp (by rw [e1]; exact hg)
    ⟨Nat.le_trans hS.1 (by rw [e1]; exact hz), fun q h1 h2 => by rw [e1, hk q (Nat.lt_of_lt_of_le h1 hS.1) h2]; exact hS.2.1 q h1 h2, fun q hq => by
      rcases List.mem_append.mp hq with h | h
      · exact hS.2.2 q h
      · exact hL q h⟩ T' rfl X'
  exact ⟨t2, st t2 a1, b1⟩
theorem z_vQv {post : zS → Prop} {H0 : Heap} (hS : va_S (inA a) H0 H locs) (C : Cx p s m args c cc own nL D Y a) {σ : zS} (hP : GP D Y a σ H) {y : MethodName} {bytes : ByteArray} {maxL n ix h : Nat} {ret : Option FieldType} {As : List Value} {st0 : List Value} {kb : Int} {ci : Nat} {q : vw_C} (hlk : zLv own ix y bytes maxL ret n) (hM : zMet l y bytes maxL ret h (zPc D Y a σ (.ref (a kb) :: As)) (zQv D Y a post) (inA a)) (hob : zOb Y a kb ci) (hci : vwCl[ci]? = some q) (hcl : q.1 = y.cls) (hn : As.length = n) (hsz : ls.size = nL) (hst : st0 = As.reverse ++ .ref (a kb) :: rest) (hcat : (rest.map fun v => v.category).sum ≤ 8) (hR : h + 1 ≤ R.frames ∧ 8 + (maxL + 11) + 31 * h ≤ R.locals) (hc : cells ≤ R.cells ∧ slots ≤ R.slots) (hdg : decode cc pc = .ok (.invokevirtual ix, 3)) (k : ∀ (σ' : zS) (H1 : Heap) (locs1 : List Loc), post σ' → GP D Y a σ' H1 → va_S (inA a) H0 H1 locs1 → W p l e R s m args below meth c H1 locs1 cells slots Q (F0 m (pc + 3) ls (rest))) : W p l e R s m args below meth c H locs cells slots Q (F0 m pc ls st0) := by
  have hrun := z_runV (e := e) (below := below) (meth := meth) (locs := locs) C hP hlk hM hob hci hcl hn hsz hst hcat hR hc hdg
  intro T hT X
  obtain ⟨v, st₀, t, T', L, h0, X', hL, e1, e2, ⟨⟨σ1, hv, hp, hg⟩, hz, hk⟩, st⟩ := hrun T hT X
  cases hv
  rw [h0] at hz hk
  obtain ⟨t2, a1, b1⟩ := k σ1 T'.heap (locs ++ L) hp (by rw [e1]; exact hg)
    ⟨Nat.le_trans hS.1 (by rw [e1]; exact hz), fun q h1 h2 => by rw [e1, hk q (Nat.lt_of_lt_of_le h1 hS.1) h2]; exact hS.2.1 q h1 h2, fun q hq => by
      rcases List.mem_append.mp hq with h | h
      · exact hS.2.2 q h
      · exact hL q h⟩ T' rfl X'
  exact ⟨t2, st t2 a1, b1⟩
end ZCALL
section ZRET
variable {p : Program} {l : Launch} {e : Env} {R : Room} {s : State} {m : MethodId} {args : Array Value} {below : List Frame} {meth : Method} {c : Code} {H : Heap} {locs : List Loc} {cc : ByteArray} {pc : Nat} {ls : Array Slot} {own : String} {nL : Nat} {D : va_G} {Y : Nat → ClassId} {a : Int → Nat}
theorem z_retSi (C : Cx p s m args c cc own nL D Y a) {x r : Int} {ty : FieldType} (hr : meth.sig.returnType = some ty) (hlocks : meth.locks = false) (hn : narrow ty (.int (iI x)) = .int (iI x)) (hx : x = r) (hdg : decode cc pc = .ok (.ireturn, 1)) : W p l e R s m args below meth c s.heap [] 0 0 (MQ below (zSi r) args s 0 0 zNo) (F0 m pc ls [.int (iI x)]) := W.zret C.1 C.2.1 hr hn (fun t ht _ => ⟨by rw [hx], ht⟩) (fun q h => absurd h List.not_mem_nil) hdg hlocks
theorem z_retSl (C : Cx p s m args c cc own nL D Y a) {x r : Int} (hr : meth.sig.returnType = some .long) (hlocks : meth.locks = false) (hx : x = r) (hdg : decode cc pc = .ok (.lreturn, 1)) : W p l e R s m args below meth c s.heap [] 0 0 (MQ below (zSl r) args s 0 0 zNo) (F0 m pc ls [.long (jI x)]) := W.lret C.1 C.2.1 hr (fun t ht _ => ⟨by rw [hx], ht⟩) (fun q h => absurd h List.not_mem_nil) hdg hlocks
theorem z_retSr (C : Cx p s m args c cc own nL D Y a) {x r : Nat} {nm : String} (hr : meth.sig.returnType = some (.object nm)) (hlocks : meth.locks = false) (hx : x = r) (hdg : decode cc pc = .ok (.areturn, 1)) : W p l e R s m args below meth c s.heap [] 0 0 (MQ below (zSr r) args s 0 0 zNo) (F0 m pc ls [.ref x]) := W.aret C.1 C.2.1 hr (Or.inl ⟨_, rfl⟩) (Or.inr ⟨_, rfl⟩) (fun t ht _ => ⟨by rw [hx], ht⟩) (fun q h => absurd h List.not_mem_nil) hdg hlocks
theorem z_retQi (C : Cx p s m args c cc own nL D Y a) {σ : zS} (hP : GP D Y a σ H) (hS : va_S (inA a) s.heap H locs) {x : Int} {post : Int → zS → Prop} {ty : FieldType} (hr : meth.sig.returnType = some ty) (hlocks : meth.locks = false) (hn : narrow ty (.int (iI x)) = .int (iI x)) (hx : post x σ) (hdg : decode cc pc = .ok (.ireturn, 1)) : W p l e R s m args below meth c H locs 0 0 (MQ below (zQi D Y a post) args s 0 0 (inA a)) (F0 m pc ls [.int (iI x)]) := W.zret C.1 C.2.1 hr hn (fun t ht _ => ⟨⟨x, σ, rfl, hx, by rw [ht]; exact hP⟩, hS.F ht⟩) hS.2.2 hdg hlocks
theorem z_retQl (C : Cx p s m args c cc own nL D Y a) {σ : zS} (hP : GP D Y a σ H) (hS : va_S (inA a) s.heap H locs) {x : Int} {post : Int → zS → Prop} (hr : meth.sig.returnType = some .long) (hlocks : meth.locks = false) (hx : post x σ) (hdg : decode cc pc = .ok (.lreturn, 1)) : W p l e R s m args below meth c H locs 0 0 (MQ below (zQl D Y a post) args s 0 0 (inA a)) (F0 m pc ls [.long (jI x)]) := W.lret C.1 C.2.1 hr (fun t ht _ => ⟨⟨x, σ, rfl, hx, by rw [ht]; exact hP⟩, hS.F ht⟩) hS.2.2 hdg hlocks
theorem z_retQv (C : Cx p s m args c cc own nL D Y a) {σ : zS} (hP : GP D Y a σ H) (hS : va_S (inA a) s.heap H locs) {post : zS → Prop} (hr : meth.sig.returnType = none) (hlocks : meth.locks = false) (hx : post σ) (hdg : decode cc pc = .ok (.return_, 1)) : W p l e R s m args below meth c H locs 0 0 (MQ below (zQv D Y a post) args s 0 0 (inA a)) (F0 m pc ls []) := W.vret C.1 C.2.1 hr (fun t ht _ => ⟨⟨σ, rfl, hx, by rw [ht]; exact hP⟩, hS.F ht⟩) hS.2.2 hdg hlocks
end ZRET
theorem zNb {x : Int} (h : x = 0 ∨ x = 1) : narrow .boolean (.int (iI x)) = .int (iI x) := by rcases h with rfl | rfl <;> rfl
theorem z_start {l : Launch} {y : MethodName} {cc : ByteArray} {maxL h : Nat} {ret : Option FieldType} {av : List Value} {Qc : Array Value → State → Outcome → State → Prop} {free : Addr → Prop} {D : va_G} {Y : Nat → ClassId} {a : Int → Nat} {σ : zS} (hy : plainName y.cls = true) (hlen : (lg_sl av).length ≤ maxL) (hI : zI a)
    (body : ∀ (p : Program) (e : Env) (s : State) (m : MethodId) (below : List Frame) (meth : Method) (c : Code) (ls : Array Slot), Cx p s m av.toArray c cc y.cls maxL D Y a → meth.sig.returnType = ret → meth.locks = false → lv_has ls maxL (lv_args 0 av) → GP D Y a σ s.heap → W p l e (zR h) s m av.toArray below meth c s.heap [] 0 0 (MQ below Qc av.toArray s 0 0 free) (F0 m 0 ls [])) : zMet l y cc maxL ret h (zPc D Y a σ av) Qc free := by
  refine Met.ofW (cc := cc) (maxL := maxL) (ret := ret) hy rfl ?_
  intro p e s m args below meth c s₁ B hml hv
  obtain ⟨rfl, hP, hK⟩ := hv
  have hl := lv_entry av (n := maxL) hlen
  rw [lg_entry_eq]
  exact body p e s m below meth c _ ⟨B.exec, B.bytes, hml, findClass_of_methodNamed B.named, fun w hw => atoms_spec (ws := .code y cc maxL ret :: wsL_law) B.pre w (List.mem_cons_of_mem _ hw), hK, hI⟩ B.returns B.notSynchronized hl hP
theorem lk_X5_43 : zLv RX5 43 yX6_riderInFront cX6_riderInFront 1 (some (.object "TandemRide$Rider")) 0 := ⟨gA1 wd_94 (gA1 wd_95 (gA1 wd_96 (gA1 wd_14 (gA1 wd_97 gA)))), by decide +kernel, by decide +kernel, by decide +kernel⟩
theorem lk_X5_53 : zLv RX5 53 yX6_riderInBack cX6_riderInBack 1 (some (.object "TandemRide$Rider")) 0 := ⟨gA1 wd_98 (gA1 wd_99 (gA1 wd_100 (gA1 wd_14 (gA1 wd_101 gA)))), by decide +kernel, by decide +kernel, by decide +kernel⟩
theorem lk_L_13 : zLv RL 13 yX7_rider cX7_rider 6 (some .int) 5 := ⟨gA1 wd_130 (gA1 wd_131 (gA1 wd_132 (gA1 wd_2 (gA1 wd_133 gA)))), by decide +kernel, by decide +kernel, by decide +kernel⟩
theorem lk_X7_54 : zLs RX7 54 yX7_isWithin cX7_isWithin 3 (some .boolean) 3 := ⟨gA1 wd_135 (gA1 wd_136 (gA1 wd_2 (gA1 wd_137 gA))), by decide +kernel, by decide +kernel, by decide +kernel⟩
theorem lk_X7_62 : zLv RX7 62 yX4_come cX4_come 5 none 4 := ⟨gA1 wd_138 (gA1 wd_139 (gA1 wd_140 (gA1 wd_56 (gA1 wd_141 gA)))), by decide +kernel, by decide +kernel, by decide +kernel⟩
theorem lk_X7_68 : zLv RX7 68 yX6_ridersThere cX6_ridersThere 1 (some .int) 0 := ⟨gA1 wd_147 (gA1 wd_148 (gA1 wd_149 (gA1 wd_14 (gA1 wd_150 gA)))), by decide +kernel, by decide +kernel, by decide +kernel⟩
theorem lk_X6_77 : zLv RX6 77 yX6_riderBits cX6_riderBits 3 (some .int) 0 := ⟨gA1 wd_151 (gA1 wd_152 (gA1 wd_153 (gA1 wd_14 (gA1 wd_154 gA)))), by decide +kernel, by decide +kernel, by decide +kernel⟩
theorem lk_X6_81 : zLs RX6 81 yJ6_bitCount_0f7a4 cJ6_bitCount_0f7a4 1 (some .int) 1 := ⟨gA1 wd_156 (gA1 wd_157 (gA1 wd_158 (gA1 wd_159 gA))), by decide +kernel, by decide +kernel, by decide +kernel⟩
theorem lk_L_17 : zLv RL 17 yX8_rider cX8_rider 6 (some .int) 5 := ⟨gA1 wd_163 (gA1 wd_164 (gA1 wd_165 (gA1 wd_5 (gA1 wd_166 gA)))), by decide +kernel, by decide +kernel, by decide +kernel⟩
theorem lk_X8_90 : zLs RX8 90 yX8_isNumber cX8_isNumber 1 (some .boolean) 1 := ⟨gA1 wd_171 (gA1 wd_172 (gA1 wd_5 (gA1 wd_173 gA))), by decide +kernel, by decide +kernel, by decide +kernel⟩
theorem lk_X8_86 : zLs RX8 86 yX8_in cX8_in 6 (some .boolean) 3 := ⟨gA1 wd_175 (gA1 wd_176 (gA1 wd_5 (gA1 wd_177 gA))), by decide +kernel, by decide +kernel, by decide +kernel⟩
theorem lk_X8_99 : zLs RX8 99 yX8_isBeat cX8_isBeat 1 (some .boolean) 1 := ⟨gA1 wd_178 (gA1 wd_179 (gA1 wd_5 (gA1 wd_180 gA))), by decide +kernel, by decide +kernel, by decide +kernel⟩
theorem lk_X8_106 : zLs RX8 106 yX8_ones cX8_ones 3 (some .int) 1 := ⟨gA1 wd_183 (gA1 wd_184 (gA1 wd_5 (gA1 wd_185 gA))), by decide +kernel, by decide +kernel, by decide +kernel⟩
theorem lk_L_18 : zLv RL 18 yX7_leave cX7_leave 2 (some .int) 1 := ⟨gA1 wd_186 (gA1 wd_187 (gA1 wd_188 (gA1 wd_2 (gA1 wd_189 gA)))), by decide +kernel, by decide +kernel, by decide +kernel⟩
theorem lk_X7_72 : zLv RX7 72 yX6_isThere cX6_isThere 2 (some .boolean) 1 := ⟨gA1 wd_191 (gA1 wd_192 (gA1 wd_193 (gA1 wd_14 (gA1 wd_194 gA)))), by decide +kernel, by decide +kernel, by decide +kernel⟩
theorem lk_L_22 : zLv RL 22 yX8_leave cX8_leave 2 (some .int) 1 := ⟨gA1 wd_195 (gA1 wd_196 (gA1 wd_197 (gA1 wd_5 (gA1 wd_198 gA)))), by decide +kernel, by decide +kernel, by decide +kernel⟩
theorem lk_X8_110 : zLv RX8 110 yX8_isThere cX8_isThere 2 (some .boolean) 1 := ⟨gA1 wd_199 (gA1 wd_200 (gA1 wd_201 (gA1 wd_5 (gA1 wd_202 gA)))), by decide +kernel, by decide +kernel, by decide +kernel⟩
theorem lk_L_23 : zLv RL 23 yX7_seat cX7_seat 3 (some .int) 2 := ⟨gA1 wd_203 (gA1 wd_204 (gA1 wd_205 (gA1 wd_2 (gA1 wd_206 gA)))), by decide +kernel, by decide +kernel, by decide +kernel⟩
theorem lk_L_27 : zLv RL 27 yX8_seat cX8_seat 3 (some .int) 2 := ⟨gA1 wd_209 (gA1 wd_210 (gA1 wd_211 (gA1 wd_5 (gA1 wd_212 gA)))), by decide +kernel, by decide +kernel, by decide +kernel⟩
theorem lk_L_28 : zLv RL 28 yX7_set cX7_set 4 (some .int) 2 := ⟨gA1 wd_214 (gA1 wd_215 (gA1 wd_216 (gA1 wd_2 (gA1 wd_217 gA)))), by decide +kernel, by decide +kernel, by decide +kernel⟩
theorem lk_L_31 : zLv RL 31 yX8_set cX8_set 5 (some .int) 2 := ⟨gA1 wd_221 (gA1 wd_222 (gA1 wd_223 (gA1 wd_5 (gA1 wd_224 gA)))), by decide +kernel, by decide +kernel, by decide +kernel⟩
theorem lk_L_32 : zLv RL 32 yX7_say cX7_say 2 (some .int) 1 := ⟨gA1 wd_227 (gA1 wd_228 (gA1 wd_229 (gA1 wd_2 (gA1 wd_230 gA)))), by decide +kernel, by decide +kernel, by decide +kernel⟩
theorem lk_X7_99 : zLv RX7 99 yX1_add cX1_add 2 none 1 := ⟨gA1 wd_232 (gA1 wd_233 (gA1 wd_234 (gA1 wd_21 (gA1 wd_235 gA)))), by decide +kernel, by decide +kernel, by decide +kernel⟩
theorem lk_L_35 : zLv RL 35 yX8_say cX8_say 2 (some .int) 1 := ⟨gA1 wd_237 (gA1 wd_238 (gA1 wd_239 (gA1 wd_5 (gA1 wd_240 gA)))), by decide +kernel, by decide +kernel, by decide +kernel⟩
theorem lk_L_36 : zLv RL 36 yX7_wipe cX7_wipe 2 (some .int) 0 := ⟨gA1 wd_244 (gA1 wd_245 (gA1 wd_246 (gA1 wd_2 (gA1 wd_247 gA)))), by decide +kernel, by decide +kernel, by decide +kernel⟩
theorem lk_L_40 : zLv RL 40 yX8_wipe cX8_wipe 2 (some .int) 0 := ⟨gA1 wd_248 (gA1 wd_249 (gA1 wd_250 (gA1 wd_5 (gA1 wd_251 gA)))), by decide +kernel, by decide +kernel, by decide +kernel⟩
theorem lk_L_41 : zLv RL 41 yX7_fault cX7_fault 2 (some .int) 1 := ⟨gA1 wd_252 (gA1 wd_253 (gA1 wd_254 (gA1 wd_2 (gA1 wd_255 gA)))), by decide +kernel, by decide +kernel, by decide +kernel⟩
theorem lk_X7_103 : zLv RX7 103 yX1_faultAsWay cX1_faultAsWay 2 (some .int) 0 := ⟨gA1 wd_257 (gA1 wd_258 (gA1 wd_259 (gA1 wd_21 (gA1 wd_260 gA)))), by decide +kernel, by decide +kernel, by decide +kernel⟩
theorem lk_X1_19 : zLv RX1 19 yX1_signAt cX1_signAt 2 (some .int) 1 := ⟨gA1 wd_261 (gA1 wd_262 (gA1 wd_263 (gA1 wd_21 (gA1 wd_264 gA)))), by decide +kernel, by decide +kernel, by decide +kernel⟩
theorem lk_X1_23 : zLs RX1 23 yX0_sortOf cX0_sortOf 1 (some .int) 1 := ⟨gA1 wd_265 (gA1 wd_266 (gA1 wd_267 (gA1 wd_268 gA))), by decide +kernel, by decide +kernel, by decide +kernel⟩
theorem lk_X7_109 : zLv RX7 109 yX2_read cX2_read 5 (some .int) 2 := ⟨gA1 wd_269 (gA1 wd_270 (gA1 wd_271 (gA1 wd_25 (gA1 wd_272 gA)))), by decide +kernel, by decide +kernel, by decide +kernel⟩
theorem lk_X2_25 : zLv RX2 25 yX1_signAt cX1_signAt 2 (some .int) 1 := ⟨gA1 wd_274 (gA1 wd_262 (gA1 wd_263 (gA1 wd_21 (gA1 wd_264 gA)))), by decide +kernel, by decide +kernel, by decide +kernel⟩
theorem lk_L_44 : zLv RL 44 yX8_fault cX8_fault 2 (some .int) 1 := ⟨gA1 wd_277 (gA1 wd_278 (gA1 wd_279 (gA1 wd_5 (gA1 wd_280 gA)))), by decide +kernel, by decide +kernel, by decide +kernel⟩
theorem lk_X8_138 : zLv RX8 138 yX8_faultOfWay cX8_faultOfWay 2 (some .int) 0 := ⟨gA1 wd_281 (gA1 wd_282 (gA1 wd_283 (gA1 wd_5 (gA1 wd_284 gA)))), by decide +kernel, by decide +kernel, by decide +kernel⟩
theorem lk_X8_127 : zLs RX8 127 yX8_isSort cX8_isSort 1 (some .boolean) 1 := ⟨gA1 wd_285 (gA1 wd_286 (gA1 wd_5 (gA1 wd_287 gA))), by decide +kernel, by decide +kernel, by decide +kernel⟩
theorem lk_X8_142 : zLv RX8 142 yX8_faultOfPlan cX8_faultOfPlan 7 (some .int) 0 := ⟨gA1 wd_288 (gA1 wd_289 (gA1 wd_290 (gA1 wd_5 (gA1 wd_291 gA)))), by decide +kernel, by decide +kernel, by decide +kernel⟩
theorem lk_L_45 : zLv RL 45 yX7_way cX7_way 1 (some .int) 0 := ⟨gA1 wd_296 (gA1 wd_297 (gA1 wd_298 (gA1 wd_2 (gA1 wd_299 gA)))), by decide +kernel, by decide +kernel, by decide +kernel⟩
theorem lk_X7_113 : zLv RX7 113 yX6_takeWay cX6_takeWay 3 none 1 := ⟨gA1 wd_300 (gA1 wd_301 (gA1 wd_302 (gA1 wd_14 (gA1 wd_303 gA)))), by decide +kernel, by decide +kernel, by decide +kernel⟩
theorem lk_X6_101 : zLv RX6 101 yX1_signAt cX1_signAt 2 (some .int) 1 := ⟨gA1 wd_312 (gA1 wd_262 (gA1 wd_263 (gA1 wd_21 (gA1 wd_264 gA)))), by decide +kernel, by decide +kernel, by decide +kernel⟩
theorem lk_X6_104 : zLs RX6 104 yX0_sortOf cX0_sortOf 1 (some .int) 1 := ⟨gA1 wd_313 (gA1 wd_266 (gA1 wd_267 (gA1 wd_268 gA))), by decide +kernel, by decide +kernel, by decide +kernel⟩
theorem lk_L_48 : zLv RL 48 yX8_way cX8_way 2 (some .int) 0 := ⟨gA1 wd_314 (gA1 wd_315 (gA1 wd_316 (gA1 wd_5 (gA1 wd_317 gA)))), by decide +kernel, by decide +kernel, by decide +kernel⟩
theorem lk_L_49 : zLv RL 49 yX7_tread cX7_tread 4 (some .int) 3 := ⟨gA1 wd_318 (gA1 wd_319 (gA1 wd_320 (gA1 wd_2 (gA1 wd_321 gA)))), by decide +kernel, by decide +kernel, by decide +kernel⟩
theorem lk_X7_117 : zLs RX7 117 yX7_isEffort cX7_isEffort 1 (some .boolean) 1 := ⟨gA1 wd_322 (gA1 wd_275 (gA1 wd_2 (gA1 wd_276 gA))), by decide +kernel, by decide +kernel, by decide +kernel⟩
theorem lk_X7_120 : zLv RX7 120 yX4_treads cX4_treads 3 (some .int) 2 := ⟨gA1 wd_323 (gA1 wd_324 (gA1 wd_325 (gA1 wd_56 (gA1 wd_326 gA)))), by decide +kernel, by decide +kernel, by decide +kernel⟩
theorem lk_L_53 : zLv RL 53 yX8_tread cX8_tread 4 (some .int) 3 := ⟨gA1 wd_330 (gA1 wd_331 (gA1 wd_332 (gA1 wd_5 (gA1 wd_333 gA)))), by decide +kernel, by decide +kernel, by decide +kernel⟩
theorem lk_X8_149 : zLs RX8 149 yX8_isEffort cX8_isEffort 1 (some .boolean) 1 := ⟨gA1 wd_334 (gA1 wd_335 (gA1 wd_5 (gA1 wd_336 gA))), by decide +kernel, by decide +kernel, by decide +kernel⟩
theorem lk_X8_152 : zLv RX8 152 yX8_treadOf cX8_treadOf 5 (some .int) 3 := ⟨gA1 wd_337 (gA1 wd_338 (gA1 wd_339 (gA1 wd_5 (gA1 wd_340 gA)))), by decide +kernel, by decide +kernel, by decide +kernel⟩
theorem lk_L_54 : zLv RL 54 yX7_judge cX7_judge 2 (some .int) 1 := ⟨gA1 wd_341 (gA1 wd_342 (gA1 wd_343 (gA1 wd_2 (gA1 wd_344 gA)))), by decide +kernel, by decide +kernel, by decide +kernel⟩
theorem lk_X7_124 : zLv RX7 124 yX7_areSeated cX7_areSeated 1 (some .boolean) 0 := ⟨gA1 wd_347 (gA1 wd_348 (gA1 wd_349 (gA1 wd_2 (gA1 wd_350 gA)))), by decide +kernel, by decide +kernel, by decide +kernel⟩
theorem lk_X7_128 : zLv RX7 128 yX3_go cX3_go 15 none 3 := ⟨gA1 wd_351 (gA1 wd_352 (gA1 wd_353 (gA1 wd_29 (gA1 wd_354 gA)))), by decide +kernel, by decide +kernel, by decide +kernel⟩
theorem lk_X3_24 : zLv RX3 24 yX6_riderInFront cX6_riderInFront 1 (some (.object "TandemRide$Rider")) 0 := ⟨gA1 wd_369 (gA1 wd_95 (gA1 wd_96 (gA1 wd_14 (gA1 wd_97 gA)))), by decide +kernel, by decide +kernel, by decide +kernel⟩
theorem lk_X3_30 : zLv RX3 30 yX6_riderInBack cX6_riderInBack 1 (some (.object "TandemRide$Rider")) 0 := ⟨gA1 wd_370 (gA1 wd_99 (gA1 wd_100 (gA1 wd_14 (gA1 wd_101 gA)))), by decide +kernel, by decide +kernel, by decide +kernel⟩
theorem lk_X3_39 : zLv RX3 39 yX3_start cX3_start 1 none 0 := ⟨gA1 wd_371 (gA1 wd_372 (gA1 wd_373 (gA1 wd_29 (gA1 wd_374 gA)))), by decide +kernel, by decide +kernel, by decide +kernel⟩
theorem lk_X3_57 : zLv RX3 57 yX4_windBehind cX4_windBehind 3 (some .int) 2 := ⟨gA1 wd_375 (gA1 wd_376 (gA1 wd_377 (gA1 wd_56 (gA1 wd_378 gA)))), by decide +kernel, by decide +kernel, by decide +kernel⟩
theorem lk_X3_67 : zLs RX3 67 yX0_heatBehind cX0_heatBehind 2 (some .int) 2 := ⟨gA1 wd_380 (gA1 wd_381 (gA1 wd_267 (gA1 wd_382 gA))), by decide +kernel, by decide +kernel, by decide +kernel⟩
theorem lk_X3_75 : zLs RX3 75 yX3_reasonAgainst cX3_reasonAgainst 4 (some .int) 4 := ⟨gA1 wd_384 (gA1 wd_385 (gA1 wd_29 (gA1 wd_386 gA))), by decide +kernel, by decide +kernel, by decide +kernel⟩
theorem lk_X3_88 : zLv RX3 88 yX4_treads cX4_treads 3 (some .int) 2 := ⟨gA1 wd_387 (gA1 wd_324 (gA1 wd_325 (gA1 wd_56 (gA1 wd_326 gA)))), by decide +kernel, by decide +kernel, by decide +kernel⟩
theorem lk_X3_91 : zLs RX3 91 yX0_hardOf cX0_hardOf 1 (some .int) 1 := ⟨gA1 wd_388 (gA1 wd_389 (gA1 wd_267 (gA1 wd_390 gA))), by decide +kernel, by decide +kernel, by decide +kernel⟩
theorem lk_X3_95 : zLs RX3 95 yX0_secondsOf cX0_secondsOf 2 (some .int) 2 := ⟨gA1 wd_391 (gA1 wd_392 (gA1 wd_267 (gA1 wd_393 gA))), by decide +kernel, by decide +kernel, by decide +kernel⟩
theorem lk_L_57 : zLv RL 57 yX8_judge cX8_judge 2 (some .int) 1 := ⟨gA1 wd_394 (gA1 wd_395 (gA1 wd_396 (gA1 wd_5 (gA1 wd_397 gA)))), by decide +kernel, by decide +kernel, by decide +kernel⟩
theorem lk_X8_206 : zLv RX8 206 yX8_isNobody cX8_isNobody 1 (some .boolean) 0 := ⟨gA1 wd_400 (gA1 wd_401 (gA1 wd_402 (gA1 wd_5 (gA1 wd_403 gA)))), by decide +kernel, by decide +kernel, by decide +kernel⟩
theorem lk_X8_210 : zLv RX8 210 yX8_rideAll cX8_rideAll 1 none 0 := ⟨gA1 wd_404 (gA1 wd_405 (gA1 wd_406 (gA1 wd_5 (gA1 wd_407 gA)))), by decide +kernel, by decide +kernel, by decide +kernel⟩
theorem lk_X8_203 : zLv RX8 203 yX8_ride cX8_ride 3 none 1 := ⟨gA1 wd_408 (gA1 wd_409 (gA1 wd_410 (gA1 wd_5 (gA1 wd_411 gA)))), by decide +kernel, by decide +kernel, by decide +kernel⟩
theorem lk_X8_196 : zLv RX8 196 yX8_begin cX8_begin 1 none 0 := ⟨gA1 wd_412 (gA1 wd_413 (gA1 wd_414 (gA1 wd_5 (gA1 wd_415 gA)))), by decide +kernel, by decide +kernel, by decide +kernel⟩
theorem lk_X8_199 : zLv RX8 199 yX8_rideOne cX8_rideOne 5 none 1 := ⟨gA1 wd_422 (gA1 wd_423 (gA1 wd_424 (gA1 wd_5 (gA1 wd_425 gA)))), by decide +kernel, by decide +kernel, by decide +kernel⟩
theorem lk_X8_180 : zLv RX8 180 yX8_rest cX8_rest 1 none 0 := ⟨gA1 wd_426 (gA1 wd_427 (gA1 wd_428 (gA1 wd_5 (gA1 wd_429 gA)))), by decide +kernel, by decide +kernel, by decide +kernel⟩
theorem lk_X8_183 : zLv RX8 183 yX8_winded cX8_winded 5 (some .int) 3 := ⟨gA1 wd_430 (gA1 wd_431 (gA1 wd_432 (gA1 wd_5 (gA1 wd_433 gA)))), by decide +kernel, by decide +kernel, by decide +kernel⟩
theorem lk_X8_186 : zLs RX8 186 yX8_heated cX8_heated 3 (some .int) 2 := ⟨gA1 wd_434 (gA1 wd_435 (gA1 wd_5 (gA1 wd_436 gA))), by decide +kernel, by decide +kernel, by decide +kernel⟩
theorem lk_X8_190 : zLs RX8 190 yX8_hard cX8_hard 1 (some .int) 1 := ⟨gA1 wd_437 (gA1 wd_438 (gA1 wd_5 (gA1 wd_439 gA))), by decide +kernel, by decide +kernel, by decide +kernel⟩
theorem lk_X8_193 : zLs RX8 193 yX8_seconds cX8_seconds 2 (some .int) 2 := ⟨gA1 wd_440 (gA1 wd_441 (gA1 wd_5 (gA1 wd_442 gA))), by decide +kernel, by decide +kernel, by decide +kernel⟩
theorem lk_L_58 : zLv RL 58 yX7_ridden cX7_ridden 4 (some .int) 2 := ⟨gA1 wd_443 (gA1 wd_444 (gA1 wd_445 (gA1 wd_2 (gA1 wd_446 gA)))), by decide +kernel, by decide +kernel, by decide +kernel⟩
theorem lk_X7_138 : zLv RX7 138 yX7_planIsRidden cX7_planIsRidden 1 (some .boolean) 0 := ⟨gA1 wd_451 (gA1 wd_452 (gA1 wd_453 (gA1 wd_2 (gA1 wd_454 gA)))), by decide +kernel, by decide +kernel, by decide +kernel⟩
theorem lk_L_61 : zLv RL 61 yX8_ridden cX8_ridden 3 (some .int) 2 := ⟨gA1 wd_455 (gA1 wd_456 (gA1 wd_457 (gA1 wd_5 (gA1 wd_458 gA)))), by decide +kernel, by decide +kernel, by decide +kernel⟩
theorem lk_X8_215 : zLv RX8 215 yX8_isRefused cX8_isRefused 1 (some .boolean) 0 := ⟨gA1 wd_460 (gA1 wd_461 (gA1 wd_462 (gA1 wd_5 (gA1 wd_463 gA)))), by decide +kernel, by decide +kernel, by decide +kernel⟩
theorem lk_L_62 : zLv RL 62 yX7_share cX7_share 3 (some .long) 1 := ⟨gA1 wd_464 (gA1 wd_465 (gA1 wd_466 (gA1 wd_2 (gA1 wd_467 gA)))), by decide +kernel, by decide +kernel, by decide +kernel⟩
theorem lk_X7_166 : zLs RX7 166 yX7_fractionPart cX7_fractionPart 12 (some .long) 3 := ⟨gA1 wd_473 (gA1 wd_474 (gA1 wd_2 (gA1 wd_475 gA))), by decide +kernel, by decide +kernel, by decide +kernel⟩
theorem lk_L_66 : zLv RL 66 yX8_share cX8_share 3 (some .long) 1 := ⟨gA1 wd_476 (gA1 wd_477 (gA1 wd_478 (gA1 wd_5 (gA1 wd_479 gA)))), by decide +kernel, by decide +kernel, by decide +kernel⟩
theorem lk_X8_224 : zLs RX8 224 yX8_lowest cX8_lowest 11 (some .long) 3 := ⟨gA1 wd_483 (gA1 wd_484 (gA1 wd_5 (gA1 wd_485 gA))), by decide +kernel, by decide +kernel, by decide +kernel⟩
theorem lk_L_67 : zLv RL 67 yX7_unseen cX7_unseen 1 (some .int) 0 := ⟨gA1 wd_486 (gA1 wd_487 (gA1 wd_488 (gA1 wd_2 (gA1 wd_489 gA)))), by decide +kernel, by decide +kernel, by decide +kernel⟩
theorem lk_L_70 : zLv RL 70 yX8_unseen cX8_unseen 6 (some .int) 0 := ⟨gA1 wd_491 (gA1 wd_492 (gA1 wd_493 (gA1 wd_5 (gA1 wd_494 gA)))), by decide +kernel, by decide +kernel, by decide +kernel⟩
theorem lk_L_71 : zLv RL 71 yX7_soonest cX7_soonest 2 (some .int) 1 := ⟨gA1 wd_495 (gA1 wd_496 (gA1 wd_497 (gA1 wd_2 (gA1 wd_498 gA)))), by decide +kernel, by decide +kernel, by decide +kernel⟩
theorem lk_X7_173 : zLv RX7 173 yX6_riderInFront cX6_riderInFront 1 (some (.object "TandemRide$Rider")) 0 := ⟨gA1 wd_501 (gA1 wd_95 (gA1 wd_96 (gA1 wd_14 (gA1 wd_97 gA)))), by decide +kernel, by decide +kernel, by decide +kernel⟩
theorem lk_X7_177 : zLv RX7 177 yX6_riderInBack cX6_riderInBack 1 (some (.object "TandemRide$Rider")) 0 := ⟨gA1 wd_502 (gA1 wd_99 (gA1 wd_100 (gA1 wd_14 (gA1 wd_101 gA)))), by decide +kernel, by decide +kernel, by decide +kernel⟩
theorem lk_X7_180 : zLv RX7 180 yX5_seek cX5_seek 4 none 2 := ⟨gA1 wd_503 (gA1 wd_504 (gA1 wd_505 (gA1 wd_33 (gA1 wd_506 gA)))), by decide +kernel, by decide +kernel, by decide +kernel⟩
theorem lk_X5_63 : zLv RX5 63 yX5_findHeats cX5_findHeats 5 none 0 := ⟨gA1 wd_511 (gA1 wd_512 (gA1 wd_513 (gA1 wd_33 (gA1 wd_514 gA)))), by decide +kernel, by decide +kernel, by decide +kernel⟩
theorem lk_X5_83 : zLs RX5 83 yX0_heatBehind cX0_heatBehind 2 (some .int) 2 := ⟨gA1 wd_517 (gA1 wd_381 (gA1 wd_267 (gA1 wd_382 gA))), by decide +kernel, by decide +kernel, by decide +kernel⟩
theorem lk_X5_70 : zLv RX5 70 yX5_stepAhead cX5_stepAhead 8 none 1 := ⟨gA1 wd_518 (gA1 wd_519 (gA1 wd_520 (gA1 wd_33 (gA1 wd_521 gA)))), by decide +kernel, by decide +kernel, by decide +kernel⟩
theorem lk_X5_89 : zLs RX5 89 yX0_hardOf cX0_hardOf 1 (some .int) 1 := ⟨gA1 wd_525 (gA1 wd_389 (gA1 wd_267 (gA1 wd_390 gA))), by decide +kernel, by decide +kernel, by decide +kernel⟩
theorem lk_X5_93 : zLv RX5 93 yX5_listChoices cX5_listChoices 4 none 1 := ⟨gA1 wd_526 (gA1 wd_527 (gA1 wd_528 (gA1 wd_33 (gA1 wd_529 gA)))), by decide +kernel, by decide +kernel, by decide +kernel⟩
theorem lk_X5_116 : zLs RX5 116 yX0_secondsOf cX0_secondsOf 2 (some .int) 2 := ⟨gA1 wd_531 (gA1 wd_392 (gA1 wd_267 (gA1 wd_393 gA))), by decide +kernel, by decide +kernel, by decide +kernel⟩
theorem lk_X5_105 : zLv RX5 105 yX5_fewestOnward cX5_fewestOnward 9 (some .int) 4 := ⟨gA1 wd_532 (gA1 wd_533 (gA1 wd_534 (gA1 wd_33 (gA1 wd_535 gA)))), by decide +kernel, by decide +kernel, by decide +kernel⟩
theorem lk_X5_119 : zLv RX5 119 yX4_windBehind cX4_windBehind 3 (some .int) 2 := ⟨gA1 wd_537 (gA1 wd_376 (gA1 wd_377 (gA1 wd_56 (gA1 wd_378 gA)))), by decide +kernel, by decide +kernel, by decide +kernel⟩
theorem lk_X5_109 : zLs RX5 109 yX5_cellOf cX5_cellOf 3 (some .int) 3 := ⟨gA1 wd_538 (gA1 wd_539 (gA1 wd_33 (gA1 wd_540 gA))), by decide +kernel, by decide +kernel, by decide +kernel⟩
theorem lk_X5_74 : zLv RX5 74 yX5_chooseFirst cX5_chooseFirst 8 none 0 := ⟨gA1 wd_541 (gA1 wd_542 (gA1 wd_543 (gA1 wd_33 (gA1 wd_544 gA)))), by decide +kernel, by decide +kernel, by decide +kernel⟩
theorem lk_X5_133 : zLv RX5 133 yX5_leastBeatFor cX5_leastBeatFor 6 (some .int) 3 := ⟨gA1 wd_547 (gA1 wd_548 (gA1 wd_549 (gA1 wd_33 (gA1 wd_550 gA)))), by decide +kernel, by decide +kernel, by decide +kernel⟩
theorem lk_X5_136 : zLv RX5 136 yX4_treads cX4_treads 3 (some .int) 2 := ⟨gA1 wd_551 (gA1 wd_324 (gA1 wd_325 (gA1 wd_56 (gA1 wd_326 gA)))), by decide +kernel, by decide +kernel, by decide +kernel⟩
theorem lk_L_74 : zLv RL 74 yX8_soonest cX8_soonest 5 (some .int) 1 := ⟨gA1 wd_552 (gA1 wd_553 (gA1 wd_554 (gA1 wd_5 (gA1 wd_555 gA)))), by decide +kernel, by decide +kernel, by decide +kernel⟩
theorem lk_X8_252 : zLv RX8 252 yX8_soonestOf cX8_soonestOf 4 (some .int) 2 := ⟨gA1 wd_556 (gA1 wd_557 (gA1 wd_558 (gA1 wd_5 (gA1 wd_559 gA)))), by decide +kernel, by decide +kernel, by decide +kernel⟩
theorem lk_X8_248 : zLv RX8 248 yX8_goBack cX8_goBack 9 none 2 := ⟨gA1 wd_561 (gA1 wd_562 (gA1 wd_563 (gA1 wd_5 (gA1 wd_564 gA)))), by decide +kernel, by decide +kernel, by decide +kernel⟩
theorem lk_X8_240 : zLv RX8 240 yX8_findQuickest cX8_findQuickest 7 none 3 := ⟨gA1 wd_565 (gA1 wd_566 (gA1 wd_567 (gA1 wd_5 (gA1 wd_568 gA)))), by decide +kernel, by decide +kernel, by decide +kernel⟩
theorem lk_X8_229 : zLv RX8 229 yX8_secondsBy cX8_secondsBy 6 (some .int) 5 := ⟨gA1 wd_569 (gA1 wd_570 (gA1 wd_571 (gA1 wd_5 (gA1 wd_572 gA)))), by decide +kernel, by decide +kernel, by decide +kernel⟩
theorem lk_X8_244 : zLv RX8 244 yX8_bestFrom cX8_bestFrom 10 (some .int) 6 := ⟨gA1 wd_573 (gA1 wd_574 (gA1 wd_575 (gA1 wd_5 (gA1 wd_576 gA)))), by decide +kernel, by decide +kernel, by decide +kernel⟩
theorem lk_X8_236 : zLv RX8 236 yX8_secondsFrom cX8_secondsFrom 11 (some .int) 7 := ⟨gA1 wd_577 (gA1 wd_578 (gA1 wd_579 (gA1 wd_5 (gA1 wd_580 gA)))), by decide +kernel, by decide +kernel, by decide +kernel⟩
theorem lk_X8_233 : zLs RX8 233 yX8_stateOf cX8_stateOf 3 (some .int) 3 := ⟨gA1 wd_581 (gA1 wd_582 (gA1 wd_5 (gA1 wd_583 gA))), by decide +kernel, by decide +kernel, by decide +kernel⟩
theorem lk_L_75 : zLv RL 75 yX7_oneBeat cX7_oneBeat 8 (some .int) 3 := ⟨gA1 wd_584 (gA1 wd_585 (gA1 wd_586 (gA1 wd_2 (gA1 wd_587 gA)))), by decide +kernel, by decide +kernel, by decide +kernel⟩
theorem lk_X7_190 : zLv RX7 190 yX7_secondsAtBeat cX7_secondsAtBeat 5 (some .int) 3 := ⟨gA1 wd_588 (gA1 wd_589 (gA1 wd_590 (gA1 wd_2 (gA1 wd_591 gA)))), by decide +kernel, by decide +kernel, by decide +kernel⟩
theorem lk_X7_292 : zLv RX7 292 yX6_secondsTogether cX6_secondsTogether 4 (some .int) 1 := ⟨gA1 wd_592 (gA1 wd_593 (gA1 wd_594 (gA1 wd_14 (gA1 wd_595 gA)))), by decide +kernel, by decide +kernel, by decide +kernel⟩
theorem lk_X6_112 : zLs RX6 112 yX0_hardOf cX0_hardOf 1 (some .int) 1 := ⟨gA1 wd_596 (gA1 wd_389 (gA1 wd_267 (gA1 wd_390 gA))), by decide +kernel, by decide +kernel, by decide +kernel⟩
theorem lk_X6_115 : zLs RX6 115 yX0_secondsOf cX0_secondsOf 2 (some .int) 2 := ⟨gA1 wd_597 (gA1 wd_392 (gA1 wd_267 (gA1 wd_393 gA))), by decide +kernel, by decide +kernel, by decide +kernel⟩
theorem lk_X7_194 : zLv RX7 194 yX4_losesAt cX4_losesAt 3 (some .int) 2 := ⟨gA1 wd_598 (gA1 wd_599 (gA1 wd_600 (gA1 wd_56 (gA1 wd_601 gA)))), by decide +kernel, by decide +kernel, by decide +kernel⟩
theorem lk_X4_32 : zLv RX4 32 yX4_treadsAsLiked cX4_treadsAsLiked 2 (some .int) 1 := ⟨gA1 wd_602 (gA1 wd_603 (gA1 wd_604 (gA1 wd_56 (gA1 wd_605 gA)))), by decide +kernel, by decide +kernel, by decide +kernel⟩
theorem lk_X4_35 : zLv RX4 35 yX4_treads cX4_treads 3 (some .int) 2 := ⟨gA1 wd_606 (gA1 wd_324 (gA1 wd_325 (gA1 wd_56 (gA1 wd_326 gA)))), by decide +kernel, by decide +kernel, by decide +kernel⟩
theorem lk_L_78 : zLv RL 78 yX8_oneBeat cX8_oneBeat 7 (some .int) 3 := ⟨gA1 wd_607 (gA1 wd_608 (gA1 wd_609 (gA1 wd_5 (gA1 wd_610 gA)))), by decide +kernel, by decide +kernel, by decide +kernel⟩
theorem lk_X8_255 : zLv RX8 255 yX8_secondsAt cX8_secondsAt 5 (some .int) 2 := ⟨gA1 wd_611 (gA1 wd_612 (gA1 wd_613 (gA1 wd_5 (gA1 wd_614 gA)))), by decide +kernel, by decide +kernel, by decide +kernel⟩
theorem lk_X8_258 : zLv RX8 258 yX8_lost cX8_lost 4 (some .int) 3 := ⟨gA1 wd_615 (gA1 wd_616 (gA1 wd_617 (gA1 wd_5 (gA1 wd_618 gA)))), by decide +kernel, by decide +kernel, by decide +kernel⟩
theorem lk_L_79 : zLv RL 79 yX7_single cX7_single 3 (some .int) 2 := ⟨gA1 wd_619 (gA1 wd_620 (gA1 wd_621 (gA1 wd_2 (gA1 wd_622 gA)))), by decide +kernel, by decide +kernel, by decide +kernel⟩
theorem lk_X7_197 : zLv RX7 197 yX4_treadsAsLiked cX4_treadsAsLiked 2 (some .int) 1 := ⟨gA1 wd_623 (gA1 wd_603 (gA1 wd_604 (gA1 wd_56 (gA1 wd_605 gA)))), by decide +kernel, by decide +kernel, by decide +kernel⟩
theorem lk_X7_201 : zLv RX7 201 yX6_secondsAlone cX6_secondsAlone 4 (some .int) 1 := ⟨gA1 wd_624 (gA1 wd_625 (gA1 wd_626 (gA1 wd_14 (gA1 wd_627 gA)))), by decide +kernel, by decide +kernel, by decide +kernel⟩
theorem lk_L_82 : zLv RL 82 yX8_single cX8_single 5 (some .int) 2 := ⟨gA1 wd_628 (gA1 wd_629 (gA1 wd_630 (gA1 wd_5 (gA1 wd_631 gA)))), by decide +kernel, by decide +kernel, by decide +kernel⟩
theorem lk_X8_261 : zLv RX8 261 yX8_alone cX8_alone 4 (some .int) 3 := ⟨gA1 wd_632 (gA1 wd_633 (gA1 wd_634 (gA1 wd_5 (gA1 wd_635 gA)))), by decide +kernel, by decide +kernel, by decide +kernel⟩
theorem lk_L_83 : zLv RL 83 yX7_sorts cX7_sorts 7 (some .int) 1 := ⟨gA1 wd_636 (gA1 wd_637 (gA1 wd_638 (gA1 wd_2 (gA1 wd_639 gA)))), by decide +kernel, by decide +kernel, by decide +kernel⟩
theorem lk_X7_204 : zLs RX7 204 yX7_mostTreads cX7_mostTreads 6 (some .int) 4 := ⟨gA1 wd_640 (gA1 wd_508 (gA1 wd_2 (gA1 wd_509 gA))), by decide +kernel, by decide +kernel, by decide +kernel⟩
theorem lk_X7_213 : zLs RX7 213 yX0_hardOf cX0_hardOf 1 (some .int) 1 := ⟨gA1 wd_641 (gA1 wd_389 (gA1 wd_267 (gA1 wd_390 gA))), by decide +kernel, by decide +kernel, by decide +kernel⟩
theorem lk_X7_218 : zLs RX7 218 yX0_secondsOf cX0_secondsOf 2 (some .int) 2 := ⟨gA1 wd_642 (gA1 wd_392 (gA1 wd_267 (gA1 wd_393 gA))), by decide +kernel, by decide +kernel, by decide +kernel⟩
theorem lk_L_86 : zLv RL 86 yX8_sorts cX8_sorts 6 (some .int) 1 := ⟨gA1 wd_643 (gA1 wd_644 (gA1 wd_645 (gA1 wd_5 (gA1 wd_646 gA)))), by decide +kernel, by decide +kernel, by decide +kernel⟩
theorem lk_X8_264 : zLs RX8 264 yX8_sortOf cX8_sortOf 1 (some .int) 1 := ⟨gA1 wd_647 (gA1 wd_648 (gA1 wd_5 (gA1 wd_649 gA))), by decide +kernel, by decide +kernel, by decide +kernel⟩
theorem lk_L_87 : zLv RL 87 yX7_uneven cX7_uneven 4 (some .int) 3 := ⟨gA1 wd_650 (gA1 wd_651 (gA1 wd_652 (gA1 wd_2 (gA1 wd_653 gA)))), by decide +kernel, by decide +kernel, by decide +kernel⟩
theorem lk_X7_221 : zLv RX7 221 yX7_unevenness cX7_unevenness 10 (some .int) 3 := ⟨gA1 wd_654 (gA1 wd_655 (gA1 wd_656 (gA1 wd_2 (gA1 wd_657 gA)))), by decide +kernel, by decide +kernel, by decide +kernel⟩
theorem lk_X7_295 : zLs RX7 295 yX7_crankAt cX7_crankAt 1 (some .int) 1 := ⟨gA1 wd_661 (gA1 wd_662 (gA1 wd_2 (gA1 wd_663 gA))), by decide +kernel, by decide +kernel, by decide +kernel⟩
theorem lk_L_90 : zLv RL 90 yX8_uneven cX8_uneven 4 (some .int) 3 := ⟨gA1 wd_665 (gA1 wd_666 (gA1 wd_667 (gA1 wd_5 (gA1 wd_668 gA)))), by decide +kernel, by decide +kernel, by decide +kernel⟩
theorem lk_X8_272 : zLv RX8 272 yX8_unevenBy cX8_unevenBy 8 (some .int) 3 := ⟨gA1 wd_670 (gA1 wd_671 (gA1 wd_672 (gA1 wd_5 (gA1 wd_673 gA)))), by decide +kernel, by decide +kernel, by decide +kernel⟩
theorem lk_X8_267 : zLs RX8 267 yX8_fromSix cX8_fromSix 1 (some .int) 1 := ⟨gA1 wd_674 (gA1 wd_675 (gA1 wd_5 (gA1 wd_676 gA))), by decide +kernel, by decide +kernel, by decide +kernel⟩
theorem lk_L_91 : zLv RL 91 yX7_evenest cX7_evenest 7 (some .int) 2 := ⟨gA1 wd_677 (gA1 wd_678 (gA1 wd_679 (gA1 wd_2 (gA1 wd_680 gA)))), by decide +kernel, by decide +kernel, by decide +kernel⟩
theorem lk_L_94 : zLv RL 94 yX8_evenest cX8_evenest 5 (some .int) 2 := ⟨gA1 wd_681 (gA1 wd_682 (gA1 wd_683 (gA1 wd_5 (gA1 wd_684 gA)))), by decide +kernel, by decide +kernel, by decide +kernel⟩
theorem lk_L_95 : zLv RL 95 yX7_calls cX7_calls 4 (some .int) 2 := ⟨gA1 wd_685 (gA1 wd_686 (gA1 wd_687 (gA1 wd_2 (gA1 wd_688 gA)))), by decide +kernel, by decide +kernel, by decide +kernel⟩
theorem lk_X7_224 : zLv RX7 224 yX6_corners cX6_corners 1 (some .int) 0 := ⟨gA1 wd_690 (gA1 wd_691 (gA1 wd_692 (gA1 wd_14 (gA1 wd_693 gA)))), by decide +kernel, by decide +kernel, by decide +kernel⟩
theorem lk_X6_109 : zLv RX6 109 yX6_stretchesOf cX6_stretchesOf 4 (some .int) 1 := ⟨gA1 wd_694 (gA1 wd_695 (gA1 wd_696 (gA1 wd_14 (gA1 wd_697 gA)))), by decide +kernel, by decide +kernel, by decide +kernel⟩
theorem lk_X7_227 : zLv RX7 227 yX6_bumps cX6_bumps 1 (some .int) 0 := ⟨gA1 wd_698 (gA1 wd_699 (gA1 wd_700 (gA1 wd_14 (gA1 wd_701 gA)))), by decide +kernel, by decide +kernel, by decide +kernel⟩
theorem lk_X7_230 : zLv RX7 230 yX5_fewestCalls cX5_fewestCalls 7 (some .int) 1 := ⟨gA1 wd_702 (gA1 wd_703 (gA1 wd_704 (gA1 wd_33 (gA1 wd_705 gA)))), by decide +kernel, by decide +kernel, by decide +kernel⟩
theorem lk_X5_139 : zLs RX5 139 yX0_soreBehind cX0_soreBehind 2 (some .int) 2 := ⟨gA1 wd_707 (gA1 wd_708 (gA1 wd_267 (gA1 wd_709 gA))), by decide +kernel, by decide +kernel, by decide +kernel⟩
theorem lk_X5_142 : zLv RX5 142 yX5_keepFewer cX5_keepFewer 3 none 2 := ⟨gA1 wd_710 (gA1 wd_711 (gA1 wd_712 (gA1 wd_33 (gA1 wd_713 gA)))), by decide +kernel, by decide +kernel, by decide +kernel⟩
theorem lk_L_98 : zLv RL 98 yX8_calls cX8_calls 6 (some .int) 2 := ⟨gA1 wd_714 (gA1 wd_715 (gA1 wd_716 (gA1 wd_5 (gA1 wd_717 gA)))), by decide +kernel, by decide +kernel, by decide +kernel⟩
theorem lk_X8_275 : zLv RX8 275 yX8_bumps cX8_bumps 3 (some .int) 0 := ⟨gA1 wd_718 (gA1 wd_719 (gA1 wd_720 (gA1 wd_5 (gA1 wd_721 gA)))), by decide +kernel, by decide +kernel, by decide +kernel⟩
theorem lk_X8_278 : zLv RX8 278 yX8_isBorne cX8_isBorne 8 (some .boolean) 2 := ⟨gA1 wd_722 (gA1 wd_723 (gA1 wd_724 (gA1 wd_5 (gA1 wd_725 gA)))), by decide +kernel, by decide +kernel, by decide +kernel⟩
theorem lk_X8_282 : zLv RX8 282 yX8_stretchesOf cX8_stretchesOf 5 (some .int) 1 := ⟨gA1 wd_726 (gA1 wd_727 (gA1 wd_728 (gA1 wd_5 (gA1 wd_729 gA)))), by decide +kernel, by decide +kernel, by decide +kernel⟩
theorem lk_L_99 : zLv RL 99 yX7_worth cX7_worth 3 (some .int) 0 := ⟨gA1 wd_730 (gA1 wd_731 (gA1 wd_732 (gA1 wd_2 (gA1 wd_733 gA)))), by decide +kernel, by decide +kernel, by decide +kernel⟩
theorem lk_X7_234 : zLv RX7 234 yX2_restsIn cX2_restsIn 3 (some .boolean) 1 := ⟨gA1 wd_734 (gA1 wd_735 (gA1 wd_736 (gA1 wd_25 (gA1 wd_737 gA)))), by decide +kernel, by decide +kernel, by decide +kernel⟩
theorem lk_L_102 : zLv RL 102 yX8_worth cX8_worth 4 (some .int) 0 := ⟨gA1 wd_738 (gA1 wd_739 (gA1 wd_740 (gA1 wd_5 (gA1 wd_741 gA)))), by decide +kernel, by decide +kernel, by decide +kernel⟩
theorem lk_L_103 : zLv RL 103 yX7_bestPair cX7_bestPair 6 (some .int) 1 := ⟨gA1 wd_742 (gA1 wd_743 (gA1 wd_744 (gA1 wd_2 (gA1 wd_745 gA)))), by decide +kernel, by decide +kernel, by decide +kernel⟩
theorem lk_L_106 : zLv RL 106 yX8_bestPair cX8_bestPair 8 (some .int) 1 := ⟨gA1 wd_746 (gA1 wd_747 (gA1 wd_748 (gA1 wd_5 (gA1 wd_749 gA)))), by decide +kernel, by decide +kernel, by decide +kernel⟩
theorem lk_L_107 : zLv RL 107 yX7_quarrel cX7_quarrel 7 (some .int) 1 := ⟨gA1 wd_750 (gA1 wd_751 (gA1 wd_752 (gA1 wd_2 (gA1 wd_753 gA)))), by decide +kernel, by decide +kernel, by decide +kernel⟩
theorem lk_X7_237 : zLv RX7 237 yX7_believedBy cX7_believedBy 5 (some .int) 2 := ⟨gA1 wd_754 (gA1 wd_755 (gA1 wd_756 (gA1 wd_2 (gA1 wd_757 gA)))), by decide +kernel, by decide +kernel, by decide +kernel⟩
theorem lk_L_110 : zLv RL 110 yX8_quarrel cX8_quarrel 5 (some .int) 1 := ⟨gA1 wd_759 (gA1 wd_760 (gA1 wd_761 (gA1 wd_5 (gA1 wd_762 gA)))), by decide +kernel, by decide +kernel, by decide +kernel⟩
theorem lk_X8_285 : zLv RX8 285 yX8_believed cX8_believed 5 (some .int) 2 := ⟨gA1 wd_763 (gA1 wd_764 (gA1 wd_765 (gA1 wd_5 (gA1 wd_766 gA)))), by decide +kernel, by decide +kernel, by decide +kernel⟩
theorem lk_L_111 : zLv RL 111 yX7_home cX7_home 8 (some .long) 3 := ⟨gA1 wd_767 (gA1 wd_768 (gA1 wd_769 (gA1 wd_2 (gA1 wd_770 gA)))), by decide +kernel, by decide +kernel, by decide +kernel⟩
theorem lk_X7_246 : zLs RX7 246 yX7_chancesOfSlips cX7_chancesOfSlips 8 (some .long) 3 := ⟨gA1 wd_773 (gA1 wd_774 (gA1 wd_2 (gA1 wd_775 gA))), by decide +kernel, by decide +kernel, by decide +kernel⟩
theorem lk_X7_252 : zLs RX7 252 yX7_power cX7_power 6 (some .long) 2 := ⟨gA1 wd_776 (gA1 wd_777 (gA1 wd_2 (gA1 wd_778 gA))), by decide +kernel, by decide +kernel, by decide +kernel⟩
theorem lk_L_115 : zLv RL 115 yX8_home cX8_home 9 (some .long) 3 := ⟨gA1 wd_779 (gA1 wd_780 (gA1 wd_781 (gA1 wd_5 (gA1 wd_782 gA)))), by decide +kernel, by decide +kernel, by decide +kernel⟩
theorem lk_X8_290 : zLv RX8 290 yX8_corners cX8_corners 3 (some .int) 0 := ⟨gA1 wd_785 (gA1 wd_786 (gA1 wd_787 (gA1 wd_5 (gA1 wd_788 gA)))), by decide +kernel, by decide +kernel, by decide +kernel⟩
theorem lk_X8_295 : zLs RX8 295 yX8_powers cX8_powers 5 (some .long) 2 := ⟨gA1 wd_789 (gA1 wd_790 (gA1 wd_5 (gA1 wd_791 gA))), by decide +kernel, by decide +kernel, by decide +kernel⟩
theorem lk_L_116 : zLv RL 116 yX7_mean cX7_mean 4 (some .long) 2 := ⟨gA1 wd_792 (gA1 wd_793 (gA1 wd_794 (gA1 wd_2 (gA1 wd_795 gA)))), by decide +kernel, by decide +kernel, by decide +kernel⟩
theorem lk_L_120 : zLv RL 120 yX8_mean cX8_mean 3 (some .long) 2 := ⟨gA1 wd_796 (gA1 wd_797 (gA1 wd_798 (gA1 wd_5 (gA1 wd_799 gA)))), by decide +kernel, by decide +kernel, by decide +kernel⟩
theorem lk_L_121 : zLv RL 121 yX7_time cX7_time 5 (some .int) 4 := ⟨gA1 wd_800 (gA1 wd_801 (gA1 wd_802 (gA1 wd_2 (gA1 wd_803 gA)))), by decide +kernel, by decide +kernel, by decide +kernel⟩
theorem lk_X7_259 : zLv RX7 259 yX6_addTime cX6_addTime 5 none 4 := ⟨gA1 wd_805 (gA1 wd_806 (gA1 wd_807 (gA1 wd_14 (gA1 wd_808 gA)))), by decide +kernel, by decide +kernel, by decide +kernel⟩
theorem lk_L_125 : zLv RL 125 yX8_time cX8_time 5 (some .int) 4 := ⟨gA1 wd_809 (gA1 wd_810 (gA1 wd_811 (gA1 wd_5 (gA1 wd_812 gA)))), by decide +kernel, by decide +kernel, by decide +kernel⟩
theorem lk_L_126 : zLv RL 126 yX7_forget cX7_forget 2 (some .int) 0 := ⟨gA1 wd_815 (gA1 wd_816 (gA1 wd_817 (gA1 wd_2 (gA1 wd_818 gA)))), by decide +kernel, by decide +kernel, by decide +kernel⟩
theorem lk_L_129 : zLv RL 129 yX8_forget cX8_forget 2 (some .int) 0 := ⟨gA1 wd_819 (gA1 wd_820 (gA1 wd_821 (gA1 wd_5 (gA1 wd_822 gA)))), by decide +kernel, by decide +kernel, by decide +kernel⟩
theorem lk_L_130 : zLv RL 130 yX7_strong cX7_strong 7 (some .int) 2 := ⟨gA1 wd_823 (gA1 wd_824 (gA1 wd_825 (gA1 wd_2 (gA1 wd_826 gA)))), by decide +kernel, by decide +kernel, by decide +kernel⟩
theorem lk_X7_262 : zLv RX7 262 yX6_timesHold cX6_timesHold 5 (some .boolean) 2 := ⟨gA1 wd_827 (gA1 wd_828 (gA1 wd_829 (gA1 wd_14 (gA1 wd_830 gA)))), by decide +kernel, by decide +kernel, by decide +kernel⟩
theorem lk_L_133 : zLv RL 133 yX8_strong cX8_strong 7 (some .int) 2 := ⟨gA1 wd_831 (gA1 wd_832 (gA1 wd_833 (gA1 wd_5 (gA1 wd_834 gA)))), by decide +kernel, by decide +kernel, by decide +kernel⟩
theorem lk_X8_306 : zLv RX8 306 yX8_holds cX8_holds 6 (some .boolean) 2 := ⟨gA1 wd_836 (gA1 wd_837 (gA1 wd_838 (gA1 wd_5 (gA1 wd_839 gA)))), by decide +kernel, by decide +kernel, by decide +kernel⟩
theorem lk_L_134 : zLv RL 134 yX7_year cX7_year 11 (some .int) 3 := ⟨gA1 wd_840 (gA1 wd_841 (gA1 wd_842 (gA1 wd_2 (gA1 wd_843 gA)))), by decide +kernel, by decide +kernel, by decide +kernel⟩
theorem lk_L_137 : zLv RL 137 yX8_year cX8_year 11 (some .int) 3 := ⟨gA1 wd_845 (gA1 wd_846 (gA1 wd_847 (gA1 wd_5 (gA1 wd_848 gA)))), by decide +kernel, by decide +kernel, by decide +kernel⟩
theorem lk_L_138 : zLv RL 138 yX7_image cX7_image 2 (some .int) 1 := ⟨gA1 wd_852 (gA1 wd_853 (gA1 wd_854 (gA1 wd_2 (gA1 wd_855 gA)))), by decide +kernel, by decide +kernel, by decide +kernel⟩
theorem lk_X7_268 : zLv RX7 268 yX6_copyFrom cX6_copyFrom 3 none 1 := ⟨gA1 wd_856 (gA1 wd_857 (gA1 wd_858 (gA1 wd_14 (gA1 wd_859 gA)))), by decide +kernel, by decide +kernel, by decide +kernel⟩
theorem lk_X6_59 : zLv RX6 59 yX4_copyFrom cX4_copyFrom 2 none 1 := ⟨gA1 wd_864 (gA1 wd_865 (gA1 wd_866 (gA1 wd_56 (gA1 wd_867 gA)))), by decide +kernel, by decide +kernel, by decide +kernel⟩
theorem lk_L_141 : zLv RL 141 yX8_image cX8_image 2 (some .int) 1 := ⟨gA1 wd_868 (gA1 wd_869 (gA1 wd_870 (gA1 wd_5 (gA1 wd_871 gA)))), by decide +kernel, by decide +kernel, by decide +kernel⟩
theorem lk_X8_325 : zLv RX8 325 yX8_passAll cX8_passAll 2 none 0 := ⟨gA1 wd_874 (gA1 wd_875 (gA1 wd_876 (gA1 wd_5 (gA1 wd_877 gA)))), by decide +kernel, by decide +kernel, by decide +kernel⟩
theorem lk_X8_322 : zLv RX8 322 yX8_pass cX8_pass 3 (some .int) 1 := ⟨gA1 wd_878 (gA1 wd_879 (gA1 wd_880 (gA1 wd_5 (gA1 wd_881 gA)))), by decide +kernel, by decide +kernel, by decide +kernel⟩
theorem lk_L_142 : zLv RL 142 yX7_restore cX7_restore 2 (some .int) 1 := ⟨gA1 wd_882 (gA1 wd_883 (gA1 wd_884 (gA1 wd_2 (gA1 wd_885 gA)))), by decide +kernel, by decide +kernel, by decide +kernel⟩
theorem lk_L_145 : zLv RL 145 yX8_restore cX8_restore 2 (some .int) 1 := ⟨gA1 wd_886 (gA1 wd_887 (gA1 wd_888 (gA1 wd_5 (gA1 wd_889 gA)))), by decide +kernel, by decide +kernel, by decide +kernel⟩
theorem lk_L_146 : zLv RL 146 yX7_told cX7_told 2 (some .int) 1 := ⟨gA1 wd_890 (gA1 wd_891 (gA1 wd_892 (gA1 wd_2 (gA1 wd_893 gA)))), by decide +kernel, by decide +kernel, by decide +kernel⟩
theorem lk_X7_271 : zLv RX7 271 yX6_riderBits cX6_riderBits 3 (some .int) 0 := ⟨gA1 wd_895 (gA1 wd_152 (gA1 wd_153 (gA1 wd_14 (gA1 wd_154 gA)))), by decide +kernel, by decide +kernel, by decide +kernel⟩
theorem lk_X7_277 : zLv RX7 277 yX7_toldOfRider cX7_toldOfRider 4 (some .int) 2 := ⟨gA1 wd_896 (gA1 wd_897 (gA1 wd_898 (gA1 wd_2 (gA1 wd_899 gA)))), by decide +kernel, by decide +kernel, by decide +kernel⟩
theorem lk_L_149 : zLv RL 149 yX8_told cX8_told 2 (some .int) 1 := ⟨gA1 wd_902 (gA1 wd_903 (gA1 wd_904 (gA1 wd_5 (gA1 wd_905 gA)))), by decide +kernel, by decide +kernel, by decide +kernel⟩
theorem lk_X8_330 : zLv RX8 330 yX8_toldOf cX8_toldOf 3 (some .int) 2 := ⟨gA1 wd_908 (gA1 wd_909 (gA1 wd_910 (gA1 wd_5 (gA1 wd_911 gA)))), by decide +kernel, by decide +kernel, by decide +kernel⟩
end
