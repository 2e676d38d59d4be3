section
-- ===== PART A: goes FIRST, ahead of the names: the tables' words, and 'selects' of the private methods out of them =====
/-- a private method of a class that the tables say can be made, by its rows of tables_1 -/
def lw_okq (q : MethodName × Nat) : Prop := (q.1.cls ≠ "java/lang/invoke/MethodHandle" ∧ q.1.cls ≠ "java/lang/invoke/VarHandle") ∧ Cond.instantiable q.1.cls q.2 ∈ tables_1 ∧ Cond.privateMethod q.1 ∈ tables_1 ∧ Cond.instanceMethod q.1 ∈ tables_1
theorem lw_p0 : lw_okq (⟨"WhistleStop$Journey", "timeNow", "()I"⟩, 14) := ⟨⟨by decide +kernel, by decide +kernel⟩, List.mem_of_getElem? (i := 224) (by decide +kernel), List.mem_of_getElem? (i := 326) (by decide +kernel), List.mem_of_getElem? (i := 327) (by decide +kernel)⟩
theorem lw_p1 : lw_okq (⟨"WhistleStop", "needTrip", "(I)V"⟩, 7) := ⟨⟨by decide +kernel, by decide +kernel⟩, List.mem_of_getElem? (i := 24) (by decide +kernel), List.mem_of_getElem? (i := 347) (by decide +kernel), List.mem_of_getElem? (i := 348) (by decide +kernel)⟩
theorem lw_p2 : lw_okq (⟨"java/lang/Throwable", "fillInStackTrace", "(I)Ljava/lang/Throwable;"⟩, 6) := ⟨⟨by decide +kernel, by decide +kernel⟩, List.mem_of_getElem? (i := 392) (by decide +kernel), List.mem_of_getElem? (i := 390) (by decide +kernel), List.mem_of_getElem? (i := 391) (by decide +kernel)⟩
theorem lw_p3 : lw_okq (⟨"WhistleStop", "mixJourney", "(J)J"⟩, 7) := ⟨⟨by decide +kernel, by decide +kernel⟩, List.mem_of_getElem? (i := 24) (by decide +kernel), List.mem_of_getElem? (i := 439) (by decide +kernel), List.mem_of_getElem? (i := 440) (by decide +kernel)⟩
theorem lw_p4 : lw_okq (⟨"WhistleStop", "needStop", "(I)V"⟩, 7) := ⟨⟨by decide +kernel, by decide +kernel⟩, List.mem_of_getElem? (i := 24) (by decide +kernel), List.mem_of_getElem? (i := 512) (by decide +kernel), List.mem_of_getElem? (i := 513) (by decide +kernel)⟩
theorem lw_p5 : lw_okq (⟨"WhistleStop$Runs", "add", "(LWhistleStop$Trip;III)V"⟩, 4) := ⟨⟨by decide +kernel, by decide +kernel⟩, List.mem_of_getElem? (i := 90) (by decide +kernel), List.mem_of_getElem? (i := 733) (by decide +kernel), List.mem_of_getElem? (i := 734) (by decide +kernel)⟩
theorem lw_p6 : lw_okq (⟨"WhistleStop$Board", "insert", "(J)V"⟩, 2) := ⟨⟨by decide +kernel, by decide +kernel⟩, List.mem_of_getElem? (i := 127) (by decide +kernel), List.mem_of_getElem? (i := 743) (by decide +kernel), List.mem_of_getElem? (i := 744) (by decide +kernel)⟩
theorem lw_p7 : lw_okq (⟨"WhistleStop", "leastEnd", "(IIII)I"⟩, 7) := ⟨⟨by decide +kernel, by decide +kernel⟩, List.mem_of_getElem? (i := 24) (by decide +kernel), List.mem_of_getElem? (i := 778) (by decide +kernel), List.mem_of_getElem? (i := 779) (by decide +kernel)⟩
theorem lw_p8 : lw_okq (⟨"WhistleStop$Onward", "begin", "(II)V"⟩, 4) := ⟨⟨by decide +kernel, by decide +kernel⟩, List.mem_of_getElem? (i := 142) (by decide +kernel), List.mem_of_getElem? (i := 787) (by decide +kernel), List.mem_of_getElem? (i := 788) (by decide +kernel)⟩
theorem lw_p9 : lw_okq (⟨"WhistleStop$Onward", "walk", "(LWhistleStop$Network;I)V"⟩, 4) := ⟨⟨by decide +kernel, by decide +kernel⟩, List.mem_of_getElem? (i := 142) (by decide +kernel), List.mem_of_getElem? (i := 795) (by decide +kernel), List.mem_of_getElem? (i := 796) (by decide +kernel)⟩
theorem lw_p10 : lw_okq (⟨"WhistleStop$Onward", "cross", "(IIII)V"⟩, 4) := ⟨⟨by decide +kernel, by decide +kernel⟩, List.mem_of_getElem? (i := 142) (by decide +kernel), List.mem_of_getElem? (i := 799) (by decide +kernel), List.mem_of_getElem? (i := 800) (by decide +kernel)⟩
theorem lw_p11 : lw_okq (⟨"WhistleStop$Onward", "ride", "(LWhistleStop$Runs;[I)Z"⟩, 4) := ⟨⟨by decide +kernel, by decide +kernel⟩, List.mem_of_getElem? (i := 142) (by decide +kernel), List.mem_of_getElem? (i := 807) (by decide +kernel), List.mem_of_getElem? (i := 808) (by decide +kernel)⟩
theorem lw_p12 : lw_okq (⟨"WhistleStop$Onward", "rideRun", "(LWhistleStop$Trip;I[I)Z"⟩, 4) := ⟨⟨by decide +kernel, by decide +kernel⟩, List.mem_of_getElem? (i := 142) (by decide +kernel), List.mem_of_getElem? (i := 811) (by decide +kernel), List.mem_of_getElem? (i := 812) (by decide +kernel)⟩
theorem lw_p13 : lw_okq (⟨"WhistleStop$Onward", "alight", "(LWhistleStop$Network;I)V"⟩, 4) := ⟨⟨by decide +kernel, by decide +kernel⟩, List.mem_of_getElem? (i := 142) (by decide +kernel), List.mem_of_getElem? (i := 815) (by decide +kernel), List.mem_of_getElem? (i := 816) (by decide +kernel)⟩
theorem lw_p14 : lw_okq (⟨"WhistleStop$Offers", "makeRoom", "(I)V"⟩, 3) := ⟨⟨by decide +kernel, by decide +kernel⟩, List.mem_of_getElem? (i := 191) (by decide +kernel), List.mem_of_getElem? (i := 870) (by decide +kernel), List.mem_of_getElem? (i := 871) (by decide +kernel)⟩
theorem lw_p15 : lw_okq (⟨"WhistleStop$Fares", "walk", "(LWhistleStop$Network;III)Z"⟩, 5) := ⟨⟨by decide +kernel, by decide +kernel⟩, List.mem_of_getElem? (i := 184) (by decide +kernel), List.mem_of_getElem? (i := 887) (by decide +kernel), List.mem_of_getElem? (i := 888) (by decide +kernel)⟩
def lw_privs_1 : List (MethodName × Nat) := [(⟨"WhistleStop$Journey", "timeNow", "()I"⟩, 14), (⟨"WhistleStop", "needTrip", "(I)V"⟩, 7), (⟨"java/lang/Throwable", "fillInStackTrace", "(I)Ljava/lang/Throwable;"⟩, 6), (⟨"WhistleStop", "mixJourney", "(J)J"⟩, 7), (⟨"WhistleStop", "needStop", "(I)V"⟩, 7), (⟨"WhistleStop$Runs", "add", "(LWhistleStop$Trip;III)V"⟩, 4), (⟨"WhistleStop$Board", "insert", "(J)V"⟩, 2), (⟨"WhistleStop", "leastEnd", "(IIII)I"⟩, 7), (⟨"WhistleStop$Onward", "begin", "(II)V"⟩, 4), (⟨"WhistleStop$Onward", "walk", "(LWhistleStop$Network;I)V"⟩, 4), (⟨"WhistleStop$Onward", "cross", "(IIII)V"⟩, 4), (⟨"WhistleStop$Onward", "ride", "(LWhistleStop$Runs;[I)Z"⟩, 4), (⟨"WhistleStop$Onward", "rideRun", "(LWhistleStop$Trip;I[I)Z"⟩, 4), (⟨"WhistleStop$Onward", "alight", "(LWhistleStop$Network;I)V"⟩, 4), (⟨"WhistleStop$Offers", "makeRoom", "(I)V"⟩, 3), (⟨"WhistleStop$Fares", "walk", "(LWhistleStop$Network;III)Z"⟩, 5)]
theorem lw_r1 : ∀ q ∈ lw_privs_1, lw_okq q := List.forall_mem_cons.mpr ⟨lw_p0, List.forall_mem_cons.mpr ⟨lw_p1, List.forall_mem_cons.mpr ⟨lw_p2, List.forall_mem_cons.mpr ⟨lw_p3, List.forall_mem_cons.mpr ⟨lw_p4, List.forall_mem_cons.mpr ⟨lw_p5, List.forall_mem_cons.mpr ⟨lw_p6, List.forall_mem_cons.mpr ⟨lw_p7, List.forall_mem_cons.mpr ⟨lw_p8, List.forall_mem_cons.mpr ⟨lw_p9, List.forall_mem_cons.mpr ⟨lw_p10, List.forall_mem_cons.mpr ⟨lw_p11, List.forall_mem_cons.mpr ⟨lw_p12, List.forall_mem_cons.mpr ⟨lw_p13, List.forall_mem_cons.mpr ⟨lw_p14, List.forall_mem_cons.mpr ⟨lw_p15, fun _ h => absurd h List.not_mem_nil⟩⟩⟩⟩⟩⟩⟩⟩⟩⟩⟩⟩⟩⟩⟩⟩
theorem lw_p16 : lw_okq (⟨"WhistleStop$Fares", "swap", "()V"⟩, 5) := ⟨⟨by decide +kernel, by decide +kernel⟩, List.mem_of_getElem? (i := 184) (by decide +kernel), List.mem_of_getElem? (i := 896) (by decide +kernel), List.mem_of_getElem? (i := 897) (by decide +kernel)⟩
theorem lw_p17 : lw_okq (⟨"WhistleStop$Fares", "rideRun", "(LWhistleStop$Network;LWhistleStop$Trip;I)Z"⟩, 5) := ⟨⟨by decide +kernel, by decide +kernel⟩, List.mem_of_getElem? (i := 184) (by decide +kernel), List.mem_of_getElem? (i := 904) (by decide +kernel), List.mem_of_getElem? (i := 905) (by decide +kernel)⟩
theorem lw_p18 : lw_okq (⟨"WhistleStop$Fares", "alight", "(LWhistleStop$Network;III)Z"⟩, 5) := ⟨⟨by decide +kernel, by decide +kernel⟩, List.mem_of_getElem? (i := 184) (by decide +kernel), List.mem_of_getElem? (i := 908) (by decide +kernel), List.mem_of_getElem? (i := 909) (by decide +kernel)⟩
theorem lw_p19 : lw_okq (⟨"WhistleStop$Backward", "alight", "(LWhistleStop$Network;I)V"⟩, 4) := ⟨⟨by decide +kernel, by decide +kernel⟩, List.mem_of_getElem? (i := 163) (by decide +kernel), List.mem_of_getElem? (i := 926) (by decide +kernel), List.mem_of_getElem? (i := 927) (by decide +kernel)⟩
theorem lw_p20 : lw_okq (⟨"WhistleStop$Backward", "cross", "(IIII)V"⟩, 4) := ⟨⟨by decide +kernel, by decide +kernel⟩, List.mem_of_getElem? (i := 163) (by decide +kernel), List.mem_of_getElem? (i := 930) (by decide +kernel), List.mem_of_getElem? (i := 931) (by decide +kernel)⟩
theorem lw_p21 : lw_okq (⟨"WhistleStop$Backward", "ride", "(LWhistleStop$Runs;[I[I)Z"⟩, 4) := ⟨⟨by decide +kernel, by decide +kernel⟩, List.mem_of_getElem? (i := 163) (by decide +kernel), List.mem_of_getElem? (i := 941) (by decide +kernel), List.mem_of_getElem? (i := 942) (by decide +kernel)⟩
theorem lw_p22 : lw_okq (⟨"WhistleStop$Backward", "rideRun", "(LWhistleStop$Trip;I[I[I)Z"⟩, 4) := ⟨⟨by decide +kernel, by decide +kernel⟩, List.mem_of_getElem? (i := 163) (by decide +kernel), List.mem_of_getElem? (i := 945) (by decide +kernel), List.mem_of_getElem? (i := 946) (by decide +kernel)⟩
theorem lw_p23 : lw_okq (⟨"WhistleStop$Journey", "stopNow", "()I"⟩, 14) := ⟨⟨by decide +kernel, by decide +kernel⟩, List.mem_of_getElem? (i := 224) (by decide +kernel), List.mem_of_getElem? (i := 977) (by decide +kernel), List.mem_of_getElem? (i := 978) (by decide +kernel)⟩
theorem lw_p24 : lw_okq (⟨"WhistleStop$Journey", "takeRide", "(LWhistleStop$Network;LWhistleStop$Runs;LWhistleStop$Backward;I)Z"⟩, 14) := ⟨⟨by decide +kernel, by decide +kernel⟩, List.mem_of_getElem? (i := 224) (by decide +kernel), List.mem_of_getElem? (i := 981) (by decide +kernel), List.mem_of_getElem? (i := 982) (by decide +kernel)⟩
theorem lw_p25 : lw_okq (⟨"WhistleStop$Journey", "isAfterRide", "()Z"⟩, 14) := ⟨⟨by decide +kernel, by decide +kernel⟩, List.mem_of_getElem? (i := 224) (by decide +kernel), List.mem_of_getElem? (i := 985) (by decide +kernel), List.mem_of_getElem? (i := 986) (by decide +kernel)⟩
theorem lw_p26 : lw_okq (⟨"WhistleStop$Journey", "alightingOf", "(LWhistleStop$Trip;II[I)I"⟩, 14) := ⟨⟨by decide +kernel, by decide +kernel⟩, List.mem_of_getElem? (i := 224) (by decide +kernel), List.mem_of_getElem? (i := 989) (by decide +kernel), List.mem_of_getElem? (i := 990) (by decide +kernel)⟩
theorem lw_p27 : lw_okq (⟨"WhistleStop$Journey", "addRide", "(LWhistleStop$Trip;IIII)V"⟩, 14) := ⟨⟨by decide +kernel, by decide +kernel⟩, List.mem_of_getElem? (i := 224) (by decide +kernel), List.mem_of_getElem? (i := 993) (by decide +kernel), List.mem_of_getElem? (i := 994) (by decide +kernel)⟩
theorem lw_p28 : lw_okq (⟨"WhistleStop$Journey", "addLeg", "(III)V"⟩, 14) := ⟨⟨by decide +kernel, by decide +kernel⟩, List.mem_of_getElem? (i := 224) (by decide +kernel), List.mem_of_getElem? (i := 998) (by decide +kernel), List.mem_of_getElem? (i := 999) (by decide +kernel)⟩
theorem lw_p29 : lw_okq (⟨"WhistleStop$Journey", "takeWalk", "(LWhistleStop$Network;LWhistleStop$Backward;I)Z"⟩, 14) := ⟨⟨by decide +kernel, by decide +kernel⟩, List.mem_of_getElem? (i := 224) (by decide +kernel), List.mem_of_getElem? (i := 1002) (by decide +kernel), List.mem_of_getElem? (i := 1003) (by decide +kernel)⟩
theorem lw_p30 : lw_okq (⟨"WhistleStop", "needLeg", "(I)V"⟩, 7) := ⟨⟨by decide +kernel, by decide +kernel⟩, List.mem_of_getElem? (i := 24) (by decide +kernel), List.mem_of_getElem? (i := 1015) (by decide +kernel), List.mem_of_getElem? (i := 1016) (by decide +kernel)⟩
theorem lw_p31 : lw_okq (⟨"WhistleStopModel", "no", "(I)I"⟩, 39) := ⟨⟨by decide +kernel, by decide +kernel⟩, List.mem_of_getElem? (i := 1068) (by decide +kernel), List.mem_of_getElem? (i := 1204) (by decide +kernel), List.mem_of_getElem? (i := 1205) (by decide +kernel)⟩
def lw_privs_2 : List (MethodName × Nat) := [(⟨"WhistleStop$Fares", "swap", "()V"⟩, 5), (⟨"WhistleStop$Fares", "rideRun", "(LWhistleStop$Network;LWhistleStop$Trip;I)Z"⟩, 5), (⟨"WhistleStop$Fares", "alight", "(LWhistleStop$Network;III)Z"⟩, 5), (⟨"WhistleStop$Backward", "alight", "(LWhistleStop$Network;I)V"⟩, 4), (⟨"WhistleStop$Backward", "cross", "(IIII)V"⟩, 4), (⟨"WhistleStop$Backward", "ride", "(LWhistleStop$Runs;[I[I)Z"⟩, 4), (⟨"WhistleStop$Backward", "rideRun", "(LWhistleStop$Trip;I[I[I)Z"⟩, 4), (⟨"WhistleStop$Journey", "stopNow", "()I"⟩, 14), (⟨"WhistleStop$Journey", "takeRide", "(LWhistleStop$Network;LWhistleStop$Runs;LWhistleStop$Backward;I)Z"⟩, 14), (⟨"WhistleStop$Journey", "isAfterRide", "()Z"⟩, 14), (⟨"WhistleStop$Journey", "alightingOf", "(LWhistleStop$Trip;II[I)I"⟩, 14), (⟨"WhistleStop$Journey", "addRide", "(LWhistleStop$Trip;IIII)V"⟩, 14), (⟨"WhistleStop$Journey", "addLeg", "(III)V"⟩, 14), (⟨"WhistleStop$Journey", "takeWalk", "(LWhistleStop$Network;LWhistleStop$Backward;I)Z"⟩, 14), (⟨"WhistleStop", "needLeg", "(I)V"⟩, 7), (⟨"WhistleStopModel", "no", "(I)I"⟩, 39)]
theorem lw_r2 : ∀ q ∈ lw_privs_2, lw_okq q := List.forall_mem_cons.mpr ⟨lw_p16, List.forall_mem_cons.mpr ⟨lw_p17, List.forall_mem_cons.mpr ⟨lw_p18, List.forall_mem_cons.mpr ⟨lw_p19, List.forall_mem_cons.mpr ⟨lw_p20, List.forall_mem_cons.mpr ⟨lw_p21, List.forall_mem_cons.mpr ⟨lw_p22, List.forall_mem_cons.mpr ⟨lw_p23, List.forall_mem_cons.mpr ⟨lw_p24, List.forall_mem_cons.mpr ⟨lw_p25, List.forall_mem_cons.mpr ⟨lw_p26, List.forall_mem_cons.mpr ⟨lw_p27, List.forall_mem_cons.mpr ⟨lw_p28, List.forall_mem_cons.mpr ⟨lw_p29, List.forall_mem_cons.mpr ⟨lw_p30, List.forall_mem_cons.mpr ⟨lw_p31, fun _ h => absurd h List.not_mem_nil⟩⟩⟩⟩⟩⟩⟩⟩⟩⟩⟩⟩⟩⟩⟩⟩
theorem lw_p32 : lw_okq (⟨"WhistleStopModel", "isStop", "(I)Z"⟩, 39) := ⟨⟨by decide +kernel, by decide +kernel⟩, List.mem_of_getElem? (i := 1068) (by decide +kernel), List.mem_of_getElem? (i := 1212) (by decide +kernel), List.mem_of_getElem? (i := 1213) (by decide +kernel)⟩
theorem lw_p33 : lw_okq (⟨"WhistleStopModel", "isNot", "(I)Z"⟩, 39) := ⟨⟨by decide +kernel, by decide +kernel⟩, List.mem_of_getElem? (i := 1068) (by decide +kernel), List.mem_of_getElem? (i := 1228) (by decide +kernel), List.mem_of_getElem? (i := 1229) (by decide +kernel)⟩
theorem lw_p34 : lw_okq (⟨"WhistleStopModel", "runs", "(II)Z"⟩, 39) := ⟨⟨by decide +kernel, by decide +kernel⟩, List.mem_of_getElem? (i := 1068) (by decide +kernel), List.mem_of_getElem? (i := 1232) (by decide +kernel), List.mem_of_getElem? (i := 1233) (by decide +kernel)⟩
theorem lw_p35 : lw_okq (⟨"WhistleStopModel", "isTrip", "(I)Z"⟩, 39) := ⟨⟨by decide +kernel, by decide +kernel⟩, List.mem_of_getElem? (i := 1068) (by decide +kernel), List.mem_of_getElem? (i := 1248) (by decide +kernel), List.mem_of_getElem? (i := 1249) (by decide +kernel)⟩
theorem lw_p36 : lw_okq (⟨"WhistleStopModel", "ok", "(I)I"⟩, 39) := ⟨⟨by decide +kernel, by decide +kernel⟩, List.mem_of_getElem? (i := 1068) (by decide +kernel), List.mem_of_getElem? (i := 1256) (by decide +kernel), List.mem_of_getElem? (i := 1257) (by decide +kernel)⟩
theorem lw_p37 : lw_okq (⟨"WhistleStopModel", "lateNow", "(II)I"⟩, 39) := ⟨⟨by decide +kernel, by decide +kernel⟩, List.mem_of_getElem? (i := 1068) (by decide +kernel), List.mem_of_getElem? (i := 1280) (by decide +kernel), List.mem_of_getElem? (i := 1281) (by decide +kernel)⟩
theorem lw_p38 : lw_okq (⟨"WhistleStopModel", "board", "(IIIZ)I"⟩, 39) := ⟨⟨by decide +kernel, by decide +kernel⟩, List.mem_of_getElem? (i := 1068) (by decide +kernel), List.mem_of_getElem? (i := 1293) (by decide +kernel), List.mem_of_getElem? (i := 1294) (by decide +kernel)⟩
theorem lw_p39 : lw_okq (⟨"WhistleStopModel", "question", "(III)I"⟩, 39) := ⟨⟨by decide +kernel, by decide +kernel⟩, List.mem_of_getElem? (i := 1068) (by decide +kernel), List.mem_of_getElem? (i := 1317) (by decide +kernel), List.mem_of_getElem? (i := 1318) (by decide +kernel)⟩
theorem lw_p40 : lw_okq (⟨"WhistleStopModel", "earliestNow", "(III)I"⟩, 39) := ⟨⟨by decide +kernel, by decide +kernel⟩, List.mem_of_getElem? (i := 1068) (by decide +kernel), List.mem_of_getElem? (i := 1321) (by decide +kernel), List.mem_of_getElem? (i := 1322) (by decide +kernel)⟩
theorem lw_p41 : lw_okq (⟨"WhistleStopModel", "rounds", "(II)[[I"⟩, 39) := ⟨⟨by decide +kernel, by decide +kernel⟩, List.mem_of_getElem? (i := 1068) (by decide +kernel), List.mem_of_getElem? (i := 1325) (by decide +kernel), List.mem_of_getElem? (i := 1326) (by decide +kernel)⟩
theorem lw_p42 : lw_okq (⟨"WhistleStopModel", "walk", "([I[I)V"⟩, 39) := ⟨⟨by decide +kernel, by decide +kernel⟩, List.mem_of_getElem? (i := 1068) (by decide +kernel), List.mem_of_getElem? (i := 1334) (by decide +kernel), List.mem_of_getElem? (i := 1335) (by decide +kernel)⟩
theorem lw_p43 : lw_okq (⟨"WhistleStopModel", "ride", "([I[II)V"⟩, 39) := ⟨⟨by decide +kernel, by decide +kernel⟩, List.mem_of_getElem? (i := 1068) (by decide +kernel), List.mem_of_getElem? (i := 1339) (by decide +kernel), List.mem_of_getElem? (i := 1340) (by decide +kernel)⟩
theorem lw_p44 : lw_okq (⟨"WhistleStopModel", "fewest", "(III)I"⟩, 39) := ⟨⟨by decide +kernel, by decide +kernel⟩, List.mem_of_getElem? (i := 1068) (by decide +kernel), List.mem_of_getElem? (i := 1354) (by decide +kernel), List.mem_of_getElem? (i := 1355) (by decide +kernel)⟩
theorem lw_p45 : lw_okq (⟨"WhistleStopModel", "cheapestNow", "(IIII)I"⟩, 39) := ⟨⟨by decide +kernel, by decide +kernel⟩, List.mem_of_getElem? (i := 1068) (by decide +kernel), List.mem_of_getElem? (i := 1366) (by decide +kernel), List.mem_of_getElem? (i := 1367) (by decide +kernel)⟩
theorem lw_p46 : lw_okq (⟨"WhistleStopModel", "addLabel", "(III)V"⟩, 39) := ⟨⟨by decide +kernel, by decide +kernel⟩, List.mem_of_getElem? (i := 1068) (by decide +kernel), List.mem_of_getElem? (i := 1370) (by decide +kernel), List.mem_of_getElem? (i := 1371) (by decide +kernel)⟩
theorem lw_p47 : lw_okq (⟨"WhistleStopModel", "arrive", "(IIIII)I"⟩, 39) := ⟨⟨by decide +kernel, by decide +kernel⟩, List.mem_of_getElem? (i := 1068) (by decide +kernel), List.mem_of_getElem? (i := 1374) (by decide +kernel), List.mem_of_getElem? (i := 1375) (by decide +kernel)⟩
def lw_privs_3 : List (MethodName × Nat) := [(⟨"WhistleStopModel", "isStop", "(I)Z"⟩, 39), (⟨"WhistleStopModel", "isNot", "(I)Z"⟩, 39), (⟨"WhistleStopModel", "runs", "(II)Z"⟩, 39), (⟨"WhistleStopModel", "isTrip", "(I)Z"⟩, 39), (⟨"WhistleStopModel", "ok", "(I)I"⟩, 39), (⟨"WhistleStopModel", "lateNow", "(II)I"⟩, 39), (⟨"WhistleStopModel", "board", "(IIIZ)I"⟩, 39), (⟨"WhistleStopModel", "question", "(III)I"⟩, 39), (⟨"WhistleStopModel", "earliestNow", "(III)I"⟩, 39), (⟨"WhistleStopModel", "rounds", "(II)[[I"⟩, 39), (⟨"WhistleStopModel", "walk", "([I[I)V"⟩, 39), (⟨"WhistleStopModel", "ride", "([I[II)V"⟩, 39), (⟨"WhistleStopModel", "fewest", "(III)I"⟩, 39), (⟨"WhistleStopModel", "cheapestNow", "(IIII)I"⟩, 39), (⟨"WhistleStopModel", "addLabel", "(III)V"⟩, 39), (⟨"WhistleStopModel", "arrive", "(IIIII)I"⟩, 39)]
theorem lw_r3 : ∀ q ∈ lw_privs_3, lw_okq q := List.forall_mem_cons.mpr ⟨lw_p32, List.forall_mem_cons.mpr ⟨lw_p33, List.forall_mem_cons.mpr ⟨lw_p34, List.forall_mem_cons.mpr ⟨lw_p35, List.forall_mem_cons.mpr ⟨lw_p36, List.forall_mem_cons.mpr ⟨lw_p37, List.forall_mem_cons.mpr ⟨lw_p38, List.forall_mem_cons.mpr ⟨lw_p39, List.forall_mem_cons.mpr ⟨lw_p40, List.forall_mem_cons.mpr ⟨lw_p41, List.forall_mem_cons.mpr ⟨lw_p42, List.forall_mem_cons.mpr ⟨lw_p43, List.forall_mem_cons.mpr ⟨lw_p44, List.forall_mem_cons.mpr ⟨lw_p45, List.forall_mem_cons.mpr ⟨lw_p46, List.forall_mem_cons.mpr ⟨lw_p47, fun _ h => absurd h List.not_mem_nil⟩⟩⟩⟩⟩⟩⟩⟩⟩⟩⟩⟩⟩⟩⟩⟩
theorem lw_p48 : lw_okq (⟨"WhistleStopModel", "latestNow", "(III)I"⟩, 39) := ⟨⟨by decide +kernel, by decide +kernel⟩, List.mem_of_getElem? (i := 1068) (by decide +kernel), List.mem_of_getElem? (i := 1382) (by decide +kernel), List.mem_of_getElem? (i := 1383) (by decide +kernel)⟩
theorem lw_p49 : lw_okq (⟨"WhistleStopModel", "backwards", "(III)[[I"⟩, 39) := ⟨⟨by decide +kernel, by decide +kernel⟩, List.mem_of_getElem? (i := 1068) (by decide +kernel), List.mem_of_getElem? (i := 1386) (by decide +kernel), List.mem_of_getElem? (i := 1387) (by decide +kernel)⟩
theorem lw_p50 : lw_okq (⟨"WhistleStopModel", "goesOn", "(IIII[I)Z"⟩, 39) := ⟨⟨by decide +kernel, by decide +kernel⟩, List.mem_of_getElem? (i := 1068) (by decide +kernel), List.mem_of_getElem? (i := 1391) (by decide +kernel), List.mem_of_getElem? (i := 1392) (by decide +kernel)⟩
theorem lw_p51 : lw_okq (⟨"WhistleStopModel", "addRide", "(IIII[I)Z"⟩, 39) := ⟨⟨by decide +kernel, by decide +kernel⟩, List.mem_of_getElem? (i := 1068) (by decide +kernel), List.mem_of_getElem? (i := 1399) (by decide +kernel), List.mem_of_getElem? (i := 1400) (by decide +kernel)⟩
theorem lw_p52 : lw_okq (⟨"WhistleStopModel", "addWalk", "(IIII[II)V"⟩, 39) := ⟨⟨by decide +kernel, by decide +kernel⟩, List.mem_of_getElem? (i := 1068) (by decide +kernel), List.mem_of_getElem? (i := 1403) (by decide +kernel), List.mem_of_getElem? (i := 1404) (by decide +kernel)⟩
theorem lw_p53 : lw_okq (⟨"WhistleStopModel", "leastSlack", "()I"⟩, 39) := ⟨⟨by decide +kernel, by decide +kernel⟩, List.mem_of_getElem? (i := 1068) (by decide +kernel), List.mem_of_getElem? (i := 1407) (by decide +kernel), List.mem_of_getElem? (i := 1408) (by decide +kernel)⟩
theorem lw_p54 : lw_okq (⟨"WhistleStopModel", "ofLeg", "(I[I)I"⟩, 39) := ⟨⟨by decide +kernel, by decide +kernel⟩, List.mem_of_getElem? (i := 1068) (by decide +kernel), List.mem_of_getElem? (i := 1419) (by decide +kernel), List.mem_of_getElem? (i := 1420) (by decide +kernel)⟩
theorem lw_p55 : lw_okq (⟨"WhistleStopModel", "priceNow", "()I"⟩, 39) := ⟨⟨by decide +kernel, by decide +kernel⟩, List.mem_of_getElem? (i := 1068) (by decide +kernel), List.mem_of_getElem? (i := 1443) (by decide +kernel), List.mem_of_getElem? (i := 1444) (by decide +kernel)⟩
theorem lw_p56 : lw_okq (⟨"WhistleStopModel", "holdsNow", "()Z"⟩, 39) := ⟨⟨by decide +kernel, by decide +kernel⟩, List.mem_of_getElem? (i := 1068) (by decide +kernel), List.mem_of_getElem? (i := 1451) (by decide +kernel), List.mem_of_getElem? (i := 1452) (by decide +kernel)⟩
def lw_privs_4 : List (MethodName × Nat) := [(⟨"WhistleStopModel", "latestNow", "(III)I"⟩, 39), (⟨"WhistleStopModel", "backwards", "(III)[[I"⟩, 39), (⟨"WhistleStopModel", "goesOn", "(IIII[I)Z"⟩, 39), (⟨"WhistleStopModel", "addRide", "(IIII[I)Z"⟩, 39), (⟨"WhistleStopModel", "addWalk", "(IIII[II)V"⟩, 39), (⟨"WhistleStopModel", "leastSlack", "()I"⟩, 39), (⟨"WhistleStopModel", "ofLeg", "(I[I)I"⟩, 39), (⟨"WhistleStopModel", "priceNow", "()I"⟩, 39), (⟨"WhistleStopModel", "holdsNow", "()Z"⟩, 39)]
theorem lw_r4 : ∀ q ∈ lw_privs_4, lw_okq q := List.forall_mem_cons.mpr ⟨lw_p48, List.forall_mem_cons.mpr ⟨lw_p49, List.forall_mem_cons.mpr ⟨lw_p50, List.forall_mem_cons.mpr ⟨lw_p51, List.forall_mem_cons.mpr ⟨lw_p52, List.forall_mem_cons.mpr ⟨lw_p53, List.forall_mem_cons.mpr ⟨lw_p54, List.forall_mem_cons.mpr ⟨lw_p55, List.forall_mem_cons.mpr ⟨lw_p56, fun _ h => absurd h List.not_mem_nil⟩⟩⟩⟩⟩⟩⟩⟩⟩
def lw_privs : List (MethodName × Nat) := lw_privs_1 ++ (lw_privs_2 ++ (lw_privs_3 ++ (lw_privs_4)))
def lw_tbl : List Cond := k2_sels lw_privs ++ tables_1
theorem lw_privs_ok : ∀ q ∈ lw_privs, lw_okq q := by
  show ∀ q ∈ lw_privs_1 ++ (lw_privs_2 ++ (lw_privs_3 ++ (lw_privs_4))), lw_okq q
  exact List.forall_mem_append.mpr ⟨lw_r1, List.forall_mem_append.mpr ⟨lw_r2, List.forall_mem_append.mpr ⟨lw_r3, lw_r4⟩⟩⟩
/-- the streams that the claim lets the run draw from -/
abbrev lw_cs : List Choice := [Jvm.Choice.named "NaN.bits"]
theorem lw_bits : nanBits ∈ lw_cs := by first | decide | exact List.mem_cons_self | simp [lw_cs, nanBits]
end
section
/-! ===== names of this claim, written by wip/tools/gen.py ===== -/
/-- a word that a step keeps -/
def mw (w : Cond) : Bool := match w with | .methodLinkNest _ _ _ _ => true | .arrayOver (.object _) => true | .arrayOver (.array _) => true | w => goodWord w
def okw (w : Cond) : Prop := w ∈ lw_tbl ∧ mw w = true
def okk (k : Nat) (w : Cond) : Bool := decide (lw_tbl[k]? = some w) && mw w
theorem okr {k : Nat} {w : Cond} (h : lw_tbl[k]? = some w) (h2 : mw w = true) : okw w := ⟨List.mem_of_getElem? h, h2⟩
theorem okk_w {k : Nat} {w : Cond} (h : okk k w = true) : okw w := by
  simp only [okk, Bool.and_eq_true, decide_eq_true_eq] at h
  exact ⟨List.mem_of_getElem? h.1, h.2⟩
def FT0 : u_T := fun k => match k with
  | 0 => ("WhistleStop", "net", "LWhistleStop$Network;", true)
  | 1 => ("WhistleStop", "runs", "LWhistleStop$Runs;", true)
  | 2 => ("WhistleStop", "board", "LWhistleStop$Board;", true)
  | 3 => ("WhistleStop", "onward", "LWhistleStop$Onward;", true)
  | 4 => ("WhistleStop", "backward", "LWhistleStop$Backward;", true)
  | 5 => ("WhistleStop", "fares", "LWhistleStop$Fares;", true)
  | _ => ("WhistleStop", "journey", "LWhistleStop$Journey;", true)
def fT0 : Nat → FieldType := fun k => match k with
  | 0 => (.object "WhistleStop$Network")
  | 1 => (.object "WhistleStop$Runs")
  | 2 => (.object "WhistleStop$Board")
  | 3 => (.object "WhistleStop$Onward")
  | 4 => (.object "WhistleStop$Backward")
  | 5 => (.object "WhistleStop$Fares")
  | _ => (.object "WhistleStop$Journey")
def FT1 : u_T := fun k => match k with
  | 0 => ("WhistleStopModel", "thrown", "I", false)
  | 1 => ("WhistleStopModel", "stops", "I", false)
  | 2 => ("WhistleStopModel", "change", "[I", true)
  | 3 => ("WhistleStopModel", "ways", "I", false)
  | 4 => ("WhistleStopModel", "wayOne", "[I", true)
  | 5 => ("WhistleStopModel", "wayOther", "[I", true)
  | 6 => ("WhistleStopModel", "wayTakes", "[I", true)
  | 7 => ("WhistleStopModel", "calendars", "I", false)
  | 8 => ("WhistleStopModel", "weekdays", "[I", true)
  | 9 => ("WhistleStopModel", "firstDay", "[I", true)
  | 10 => ("WhistleStopModel", "lastDay", "[I", true)
  | 11 => ("WhistleStopModel", "except", "[[I", true)
  | 12 => ("WhistleStopModel", "trips", "I", false)
  | 13 => ("WhistleStopModel", "calendar", "[I", true)
  | 14 => ("WhistleStopModel", "price", "[I", true)
  | 15 => ("WhistleStopModel", "calls", "[I", true)
  | 16 => ("WhistleStopModel", "stop", "[[I", true)
  | 17 => ("WhistleStopModel", "arrives", "[[I", true)
  | 18 => ("WhistleStopModel", "departs", "[[I", true)
  | 19 => ("WhistleStopModel", "told", "[[I", true)
  | 20 => ("WhistleStopModel", "ifTrip", "I", false)
  | 21 => ("WhistleStopModel", "ifDay", "I", false)
  | 22 => ("WhistleStopModel", "ifLate", "I", false)
  | 23 => ("WhistleStopModel", "legs", "I", false)
  | 24 => ("WhistleStopModel", "keptFrom", "I", false)
  | 25 => ("WhistleStopModel", "keptTo", "I", false)
  | 26 => ("WhistleStopModel", "keptAt", "I", false)
  | 27 => ("WhistleStopModel", "legTrip", "[I", true)
  | 28 => ("WhistleStopModel", "legDay", "[I", true)
  | 29 => ("WhistleStopModel", "legFrom", "[I", true)
  | 30 => ("WhistleStopModel", "legCall", "[I", true)
  | 31 => ("WhistleStopModel", "legWay", "[I", true)
  | 32 => ("WhistleStopModel", "legTo", "[I", true)
  | 33 => ("WhistleStopModel", "legBegin", "[I", true)
  | 34 => ("WhistleStopModel", "legEnd", "[I", true)
  | 35 => ("WhistleStopModel", "slack", "I", false)
  | 36 => ("WhistleStopModel", "times", "[[I", false)
  | 37 => ("WhistleStopModel", "prices", "[[I", false)
  | _ => ("WhistleStopModel", "many", "[I", false)
def fT1 : Nat → FieldType := fun k => match k with
  | 0 => .int
  | 1 => .int
  | 2 => (.array .int)
  | 3 => .int
  | 4 => (.array .int)
  | 5 => (.array .int)
  | 6 => (.array .int)
  | 7 => .int
  | 8 => (.array .int)
  | 9 => (.array .int)
  | 10 => (.array .int)
  | 11 => (.array (.array .int))
  | 12 => .int
  | 13 => (.array .int)
  | 14 => (.array .int)
  | 15 => (.array .int)
  | 16 => (.array (.array .int))
  | 17 => (.array (.array .int))
  | 18 => (.array (.array .int))
  | 19 => (.array (.array .int))
  | 20 => .int
  | 21 => .int
  | 22 => .int
  | 23 => .int
  | 24 => .int
  | 25 => .int
  | 26 => .int
  | 27 => (.array .int)
  | 28 => (.array .int)
  | 29 => (.array .int)
  | 30 => (.array .int)
  | 31 => (.array .int)
  | 32 => (.array .int)
  | 33 => (.array .int)
  | 34 => (.array .int)
  | 35 => .int
  | 36 => (.array (.array .int))
  | 37 => (.array (.array .int))
  | _ => (.array .int)
def FT2 : u_T := fun k => match k with
  | 0 => ("WhistleStop$Backward", "boards", "[[I", true)
  | 1 => ("WhistleStop$Backward", "alights", "[[I", true)
  | 2 => ("WhistleStop$Backward", "target", "I", false)
  | _ => ("WhistleStop$Backward", "deadline", "I", false)
def fT2 : Nat → FieldType := fun k => match k with
  | 0 => (.array (.array .int))
  | 1 => (.array (.array .int))
  | 2 => .int
  | _ => .int
def FT3 : u_T := fun k => match k with
  | 0 => ("WhistleStop$Board", "keys", "[J", true)
  | _ => ("WhistleStop$Board", "size", "I", false)
def fT3 : Nat → FieldType := fun k => match k with
  | 0 => (.array .long)
  | _ => .int
def FT4 : u_T := fun k => match k with
  | 0 => ("WhistleStop$Calendar", "weekdays", "I", true)
  | 1 => ("WhistleStop$Calendar", "first", "I", true)
  | 2 => ("WhistleStop$Calendar", "last", "I", true)
  | _ => ("WhistleStop$Calendar", "exceptions", "[I", true)
def fT4 : Nat → FieldType := fun k => match k with
  | 0 => .int
  | 1 => .int
  | 2 => .int
  | _ => (.array .int)
def FT5 : u_T := fun k => match k with
  | 0 => ("WhistleStop$Fares", "before", "[LWhistleStop$Offers;", false)
  | 1 => ("WhistleStop$Fares", "after", "[LWhistleStop$Offers;", false)
  | 2 => ("WhistleStop$Fares", "target", "I", false)
  | 3 => ("WhistleStop$Fares", "limit", "I", false)
  | _ => ("WhistleStop$Fares", "least", "I", false)
def fT5 : Nat → FieldType := fun k => match k with
  | 0 => (.array (.object "WhistleStop$Offers"))
  | 1 => (.array (.object "WhistleStop$Offers"))
  | 2 => .int
  | 3 => .int
  | _ => .int
def FT6 : u_T := fun k => match k with
  | 0 => ("WhistleStop$Footway", "end", "I", true)
  | 1 => ("WhistleStop$Footway", "otherEnd", "I", true)
  | _ => ("WhistleStop$Footway", "minutes", "I", true)
def fT6 : Nat → FieldType := fun k => match k with
  | 0 => .int
  | 1 => .int
  | _ => .int
def FT7 : u_T := fun k => match k with
  | 0 => ("WhistleStop$Journey", "isKept", "Z", false)
  | 1 => ("WhistleStop$Journey", "from", "I", false)
  | 2 => ("WhistleStop$Journey", "to", "I", false)
  | 3 => ("WhistleStop$Journey", "at", "I", false)
  | 4 => ("WhistleStop$Journey", "size", "I", false)
  | 5 => ("WhistleStop$Journey", "trips", "[LWhistleStop$Trip;", true)
  | 6 => ("WhistleStop$Journey", "days", "[I", true)
  | 7 => ("WhistleStop$Journey", "boardings", "[I", true)
  | 8 => ("WhistleStop$Journey", "alightings", "[I", true)
  | 9 => ("WhistleStop$Journey", "targets", "[I", true)
  | 10 => ("WhistleStop$Journey", "begins", "[I", true)
  | 11 => ("WhistleStop$Journey", "ends", "[I", true)
  | 12 => ("WhistleStop$Journey", "tightest", "I", false)
  | _ => ("WhistleStop$Journey", "fare", "I", false)
def fT7 : Nat → FieldType := fun k => match k with
  | 0 => .boolean
  | 1 => .int
  | 2 => .int
  | 3 => .int
  | 4 => .int
  | 5 => (.array (.object "WhistleStop$Trip"))
  | 6 => (.array .int)
  | 7 => (.array .int)
  | 8 => (.array .int)
  | 9 => (.array .int)
  | 10 => (.array .int)
  | 11 => (.array .int)
  | 12 => .int
  | _ => .int
def FT8 : u_T := fun k => match k with
  | 0 => ("WhistleStop$Network", "changes", "[I", true)
  | 1 => ("WhistleStop$Network", "footways", "[LWhistleStop$Footway;", true)
  | 2 => ("WhistleStop$Network", "calendars", "[LWhistleStop$Calendar;", true)
  | 3 => ("WhistleStop$Network", "trips", "[LWhistleStop$Trip;", true)
  | 4 => ("WhistleStop$Network", "stopCount", "I", false)
  | 5 => ("WhistleStop$Network", "footwayCount", "I", false)
  | 6 => ("WhistleStop$Network", "calendarCount", "I", false)
  | _ => ("WhistleStop$Network", "tripCount", "I", false)
def fT8 : Nat → FieldType := fun k => match k with
  | 0 => (.array .int)
  | 1 => (.array (.object "WhistleStop$Footway"))
  | 2 => (.array (.object "WhistleStop$Calendar"))
  | 3 => (.array (.object "WhistleStop$Trip"))
  | 4 => .int
  | 5 => .int
  | 6 => .int
  | _ => .int
def FT9 : u_T := fun k => match k with
  | 0 => ("WhistleStop$Offers", "times", "[I", false)
  | 1 => ("WhistleStop$Offers", "prices", "[I", false)
  | _ => ("WhistleStop$Offers", "size", "I", false)
def fT9 : Nat → FieldType := fun k => match k with
  | 0 => (.array .int)
  | 1 => (.array .int)
  | _ => .int
def FT10 : u_T := fun k => match k with
  | 0 => ("WhistleStop$Onward", "ended", "[[I", true)
  | 1 => ("WhistleStop$Onward", "ready", "[[I", true)
  | 2 => ("WhistleStop$Onward", "afoot", "[I", true)
  | _ => ("WhistleStop$Onward", "limit", "I", false)
def fT10 : Nat → FieldType := fun k => match k with
  | 0 => (.array (.array .int))
  | 1 => (.array (.array .int))
  | 2 => (.array .int)
  | _ => .int
def FT11 : u_T := fun k => match k with
  | 0 => ("WhistleStop$Runs", "trips", "[LWhistleStop$Trip;", true)
  | 1 => ("WhistleStop$Runs", "days", "[I", true)
  | 2 => ("WhistleStop$Runs", "bases", "[I", true)
  | _ => ("WhistleStop$Runs", "size", "I", false)
def fT11 : Nat → FieldType := fun k => match k with
  | 0 => (.array (.object "WhistleStop$Trip"))
  | 1 => (.array .int)
  | 2 => (.array .int)
  | _ => .int
def FT12 : u_T := fun k => match k with
  | 0 => ("WhistleStop$Trip", "number", "I", true)
  | 1 => ("WhistleStop$Trip", "calendar", "LWhistleStop$Calendar;", true)
  | 2 => ("WhistleStop$Trip", "fare", "I", true)
  | 3 => ("WhistleStop$Trip", "stops", "[I", true)
  | 4 => ("WhistleStop$Trip", "arrives", "[I", true)
  | 5 => ("WhistleStop$Trip", "departs", "[I", true)
  | 6 => ("WhistleStop$Trip", "told", "[I", true)
  | _ => ("WhistleStop$Trip", "size", "I", false)
def fT12 : Nat → FieldType := fun k => match k with
  | 0 => .int
  | 1 => (.object "WhistleStop$Calendar")
  | 2 => .int
  | 3 => (.array .int)
  | 4 => (.array .int)
  | 5 => (.array .int)
  | 6 => (.array .int)
  | _ => .int
abbrev CL : List vw_C := [("WhistleStop", FT0, 7), ("WhistleStopModel", FT1, 39), ("WhistleStop$Backward", FT2, 4), ("WhistleStop$Board", FT3, 2), ("WhistleStop$Calendar", FT4, 4), ("WhistleStop$Fares", FT5, 5), ("WhistleStop$Footway", FT6, 3), ("WhistleStop$Journey", FT7, 14), ("WhistleStop$Network", FT8, 8), ("WhistleStop$Offers", FT9, 3), ("WhistleStop$Onward", FT10, 4), ("WhistleStop$Runs", FT11, 4), ("WhistleStop$Trip", FT12, 8)]
def cT : Nat → Nat → FieldType := fun K => match K with
  | 1 => fT0
  | 2 => fT1
  | 3 => fT2
  | 4 => fT3
  | 5 => fT4
  | 6 => fT5
  | 7 => fT6
  | 8 => fT7
  | 9 => fT8
  | 10 => fT9
  | 11 => fT10
  | 12 => fT11
  | _ => fT12
/-- array kinds: what their places are -/
def AT : Nat → FieldType := fun K => match K with
  | 100 => .int
  | 101 => .long
  | 102 => .boolean
  | 103 => (.array .int)
  | 104 => (.object "WhistleStop$Footway")
  | 105 => (.object "WhistleStop$Calendar")
  | 106 => (.object "WhistleStop$Trip")
  | _ => (.object "WhistleStop$Offers")
def KA : List Nat := [100, 101, 102, 103, 104, 105, 106, 107]
set_option maxRecDepth 100000 in
theorem cw0 : (List.range 7).all (fun k => okk ([347, 349, 351, 353, 355, 357, 359].getD k 0) (u_lay "WhistleStop" FT0 k)) = true := by decide +kernel
theorem cn0 : ∀ a, a < 7 → ∀ b, b < 7 → a ≠ b → (FT0 a).2.1 ≠ (FT0 b).2.1 := by decide +kernel
theorem ct0 : ∀ k, k < 7 → parseFieldDescriptor (FT0 k).2.2.1 = some (cT 1 k) := by decide +kernel
set_option maxRecDepth 100000 in
theorem cw1 : (List.range 39).all (fun k => okk ([1170, 1172, 1174, 1176, 1178, 1180, 1182, 1184, 1186, 1188, 1190, 1192, 1194, 1196, 1198, 1200, 1202, 1204, 1206, 1208, 1210, 1212, 1214, 1216, 1218, 1220, 1222, 1224, 1226, 1228, 1230, 1232, 1234, 1236, 1238, 1240, 1242, 1244, 1246].getD k 0) (u_lay "WhistleStopModel" FT1 k)) = true := by decide +kernel
theorem cn1 : ∀ a, a < 39 → ∀ b, b < 39 → a ≠ b → (FT1 a).2.1 ≠ (FT1 b).2.1 := by decide +kernel
theorem ct1 : ∀ k, k < 39 → parseFieldDescriptor (FT1 k).2.2.1 = some (cT 2 k) := by decide +kernel
set_option maxRecDepth 100000 in
theorem cw2 : (List.range 4).all (fun k => okk ([231, 233, 235, 237].getD k 0) (u_lay "WhistleStop$Backward" FT2 k)) = true := by decide +kernel
theorem cn2 : ∀ a, a < 4 → ∀ b, b < 4 → a ≠ b → (FT2 a).2.1 ≠ (FT2 b).2.1 := by decide +kernel
theorem ct2 : ∀ k, k < 4 → parseFieldDescriptor (FT2 k).2.2.1 = some (cT 3 k) := by decide +kernel
set_option maxRecDepth 100000 in
theorem cw3 : (List.range 2).all (fun k => okk ([192, 194].getD k 0) (u_lay "WhistleStop$Board" FT3 k)) = true := by decide +kernel
theorem cn3 : ∀ a, a < 2 → ∀ b, b < 2 → a ≠ b → (FT3 a).2.1 ≠ (FT3 b).2.1 := by decide +kernel
theorem ct3 : ∀ k, k < 2 → parseFieldDescriptor (FT3 k).2.2.1 = some (cT 4 k) := by decide +kernel
set_option maxRecDepth 100000 in
theorem cw4 : (List.range 4).all (fun k => okk ([622, 624, 626, 628].getD k 0) (u_lay "WhistleStop$Calendar" FT4 k)) = true := by decide +kernel
theorem cn4 : ∀ a, a < 4 → ∀ b, b < 4 → a ≠ b → (FT4 a).2.1 ≠ (FT4 b).2.1 := by decide +kernel
theorem ct4 : ∀ k, k < 4 → parseFieldDescriptor (FT4 k).2.2.1 = some (cT 5 k) := by decide +kernel
set_option maxRecDepth 100000 in
theorem cw5 : (List.range 5).all (fun k => okk ([269, 271, 273, 275, 277].getD k 0) (u_lay "WhistleStop$Fares" FT5 k)) = true := by decide +kernel
theorem cn5 : ∀ a, a < 5 → ∀ b, b < 5 → a ≠ b → (FT5 a).2.1 ≠ (FT5 b).2.1 := by decide +kernel
theorem ct5 : ∀ k, k < 5 → parseFieldDescriptor (FT5 k).2.2.1 = some (cT 6 k) := by decide +kernel
set_option maxRecDepth 100000 in
theorem cw6 : (List.range 3).all (fun k => okk ([596, 598, 600].getD k 0) (u_lay "WhistleStop$Footway" FT6 k)) = true := by decide +kernel
theorem cn6 : ∀ a, a < 3 → ∀ b, b < 3 → a ≠ b → (FT6 a).2.1 ≠ (FT6 b).2.1 := by decide +kernel
theorem ct6 : ∀ k, k < 3 → parseFieldDescriptor (FT6 k).2.2.1 = some (cT 7 k) := by decide +kernel
set_option maxRecDepth 100000 in
theorem cw7 : (List.range 14).all (fun k => okk ([311, 313, 315, 317, 319, 321, 323, 325, 327, 329, 331, 333, 335, 337].getD k 0) (u_lay "WhistleStop$Journey" FT7 k)) = true := by decide +kernel
theorem cn7 : ∀ a, a < 14 → ∀ b, b < 14 → a ≠ b → (FT7 a).2.1 ≠ (FT7 b).2.1 := by decide +kernel
theorem ct7 : ∀ k, k < 14 → parseFieldDescriptor (FT7 k).2.2.1 = some (cT 8 k) := by decide +kernel
set_option maxRecDepth 100000 in
theorem cw8 : (List.range 8).all (fun k => okk ([128, 130, 132, 134, 136, 138, 140, 142].getD k 0) (u_lay "WhistleStop$Network" FT8 k)) = true := by decide +kernel
theorem cn8 : ∀ a, a < 8 → ∀ b, b < 8 → a ≠ b → (FT8 a).2.1 ≠ (FT8 b).2.1 := by decide +kernel
theorem ct8 : ∀ k, k < 8 → parseFieldDescriptor (FT8 k).2.2.1 = some (cT 9 k) := by decide +kernel
set_option maxRecDepth 100000 in
theorem cw9 : (List.range 3).all (fun k => okk ([257, 259, 261].getD k 0) (u_lay "WhistleStop$Offers" FT9 k)) = true := by decide +kernel
theorem cn9 : ∀ a, a < 3 → ∀ b, b < 3 → a ≠ b → (FT9 a).2.1 ≠ (FT9 b).2.1 := by decide +kernel
theorem ct9 : ∀ k, k < 3 → parseFieldDescriptor (FT9 k).2.2.1 = some (cT 10 k) := by decide +kernel
set_option maxRecDepth 100000 in
theorem cw10 : (List.range 4).all (fun k => okk ([210, 212, 214, 216].getD k 0) (u_lay "WhistleStop$Onward" FT10 k)) = true := by decide +kernel
theorem cn10 : ∀ a, a < 4 → ∀ b, b < 4 → a ≠ b → (FT10 a).2.1 ≠ (FT10 b).2.1 := by decide +kernel
theorem ct10 : ∀ k, k < 4 → parseFieldDescriptor (FT10 k).2.2.1 = some (cT 11 k) := by decide +kernel
set_option maxRecDepth 100000 in
theorem cw11 : (List.range 4).all (fun k => okk ([174, 176, 178, 180].getD k 0) (u_lay "WhistleStop$Runs" FT11 k)) = true := by decide +kernel
theorem cn11 : ∀ a, a < 4 → ∀ b, b < 4 → a ≠ b → (FT11 a).2.1 ≠ (FT11 b).2.1 := by decide +kernel
theorem ct11 : ∀ k, k < 4 → parseFieldDescriptor (FT11 k).2.2.1 = some (cT 12 k) := by decide +kernel
set_option maxRecDepth 100000 in
theorem cw12 : (List.range 8).all (fun k => okk ([696, 698, 700, 702, 704, 706, 708, 710].getD k 0) (u_lay "WhistleStop$Trip" FT12 k)) = true := by decide +kernel
theorem cn12 : ∀ a, a < 8 → ∀ b, b < 8 → a ≠ b → (FT12 a).2.1 ≠ (FT12 b).2.1 := by decide +kernel
theorem ct12 : ∀ k, k < 8 → parseFieldDescriptor (FT12 k).2.2.1 = some (cT 13 k) := by decide +kernel
theorem cq0 : ∀ k, (FT0 k).1 = "WhistleStop" := by
  intro k
  unfold FT0
  split <;> rfl
theorem cq1 : ∀ k, (FT1 k).1 = "WhistleStopModel" := by
  intro k
  unfold FT1
  split <;> rfl
theorem cq2 : ∀ k, (FT2 k).1 = "WhistleStop$Backward" := by
  intro k
  unfold FT2
  split <;> rfl
theorem cq3 : ∀ k, (FT3 k).1 = "WhistleStop$Board" := by
  intro k
  unfold FT3
  split <;> rfl
theorem cq4 : ∀ k, (FT4 k).1 = "WhistleStop$Calendar" := by
  intro k
  unfold FT4
  split <;> rfl
theorem cq5 : ∀ k, (FT5 k).1 = "WhistleStop$Fares" := by
  intro k
  unfold FT5
  split <;> rfl
theorem cq6 : ∀ k, (FT6 k).1 = "WhistleStop$Footway" := by
  intro k
  unfold FT6
  split <;> rfl
theorem cq7 : ∀ k, (FT7 k).1 = "WhistleStop$Journey" := by
  intro k
  unfold FT7
  split <;> rfl
theorem cq8 : ∀ k, (FT8 k).1 = "WhistleStop$Network" := by
  intro k
  unfold FT8
  split <;> rfl
theorem cq9 : ∀ k, (FT9 k).1 = "WhistleStop$Offers" := by
  intro k
  unfold FT9
  split <;> rfl
theorem cq10 : ∀ k, (FT10 k).1 = "WhistleStop$Onward" := by
  intro k
  unfold FT10
  split <;> rfl
theorem cq11 : ∀ k, (FT11 k).1 = "WhistleStop$Runs" := by
  intro k
  unfold FT11
  split <;> rfl
theorem cq12 : ∀ k, (FT12 k).1 = "WhistleStop$Trip" := by
  intro k
  unfold FT12
  split <;> rfl
theorem cw_ok {C : String} {F : u_T} {n : Nat} {ks : List Nat} (h : (List.range n).all (fun k => okk (ks.getD k 0) (u_lay C F k)) = true) : ∀ w ∈ u_ws C F n, okw w := by
  intro w hw
  obtain ⟨k, hk, rfl⟩ := List.mem_map.mp hw
  exact okk_w (List.all_eq_true.mp h k hk)
/-- what is known of each class -/
def clOk (c : Nat) (q : vw_C) : Prop := (∀ w ∈ u_ws q.1 q.2.1 q.2.2, okw w) ∧ (∀ a, a < q.2.2 → ∀ b, b < q.2.2 → a ≠ b → (q.2.1 a).2.1 ≠ (q.2.1 b).2.1) ∧ (∀ k, k < q.2.2 → parseFieldDescriptor (q.2.1 k).2.2.1 = some (cT (c + 1) k)) ∧ (∀ k, (q.2.1 k).1 = q.1)
theorem CL_ok : ∀ (c : Nat) (q : vw_C), CL[c]? = some q → clOk c q := by
  intro c q h
  match c with
  | 0 => cases h; exact ⟨cw_ok cw0, cn0, ct0, cq0⟩
  | 1 => cases h; exact ⟨cw_ok cw1, cn1, ct1, cq1⟩
  | 2 => cases h; exact ⟨cw_ok cw2, cn2, ct2, cq2⟩
  | 3 => cases h; exact ⟨cw_ok cw3, cn3, ct3, cq3⟩
  | 4 => cases h; exact ⟨cw_ok cw4, cn4, ct4, cq4⟩
  | 5 => cases h; exact ⟨cw_ok cw5, cn5, ct5, cq5⟩
  | 6 => cases h; exact ⟨cw_ok cw6, cn6, ct6, cq6⟩
  | 7 => cases h; exact ⟨cw_ok cw7, cn7, ct7, cq7⟩
  | 8 => cases h; exact ⟨cw_ok cw8, cn8, ct8, cq8⟩
  | 9 => cases h; exact ⟨cw_ok cw9, cn9, ct9, cq9⟩
  | 10 => cases h; exact ⟨cw_ok cw10, cn10, ct10, cq10⟩
  | 11 => cases h; exact ⟨cw_ok cw11, cn11, ct11, cq11⟩
  | 12 => cases h; exact ⟨cw_ok cw12, cn12, ct12, cq12⟩
  | _ + 13 => cases h
set_option maxRecDepth 100000 in
theorem ci0 : okw (.instantiable "WhistleStop" 7) ∧ okw (.initialized "WhistleStop") := ⟨okk_w (k := 81) (by decide +kernel), okk_w (k := 58) (by decide +kernel)⟩
set_option maxRecDepth 100000 in
theorem ci1 : okw (.instantiable "WhistleStopModel" 39) ∧ okw (.initialized "WhistleStopModel") := ⟨okk_w (k := 1125) (by decide +kernel), okk_w (k := 67) (by decide +kernel)⟩
set_option maxRecDepth 100000 in
theorem ci2 : okw (.instantiable "WhistleStop$Backward" 4) ∧ okw (.initialized "WhistleStop$Backward") := ⟨okk_w (k := 220) (by decide +kernel), okk_w (k := 63) (by decide +kernel)⟩
set_option maxRecDepth 100000 in
theorem ci3 : okw (.instantiable "WhistleStop$Board" 2) ∧ okw (.initialized "WhistleStop$Board") := ⟨okk_w (k := 184) (by decide +kernel), okk_w (k := 61) (by decide +kernel)⟩
set_option maxRecDepth 100000 in
theorem ci4 : okw (.instantiable "WhistleStop$Calendar" 4) ∧ okw (.initialized "WhistleStop$Calendar") := ⟨okk_w (k := 612) (by decide +kernel), okk_w (k := 75) (by decide +kernel)⟩
set_option maxRecDepth 100000 in
theorem ci5 : okw (.instantiable "WhistleStop$Fares" 5) ∧ okw (.initialized "WhistleStop$Fares") := ⟨okk_w (k := 241) (by decide +kernel), okk_w (k := 64) (by decide +kernel)⟩
set_option maxRecDepth 100000 in
theorem ci6 : okw (.instantiable "WhistleStop$Footway" 3) ∧ okw (.initialized "WhistleStop$Footway") := ⟨okk_w (k := 580) (by decide +kernel), okk_w (k := 74) (by decide +kernel)⟩
set_option maxRecDepth 100000 in
theorem ci7 : okw (.instantiable "WhistleStop$Journey" 14) ∧ okw (.initialized "WhistleStop$Journey") := ⟨okk_w (k := 281) (by decide +kernel), okk_w (k := 66) (by decide +kernel)⟩
set_option maxRecDepth 100000 in
theorem ci8 : okw (.instantiable "WhistleStop$Network" 8) ∧ okw (.initialized "WhistleStop$Network") := ⟨okk_w (k := 89) (by decide +kernel), okk_w (k := 59) (by decide +kernel)⟩
set_option maxRecDepth 100000 in
theorem ci9 : okw (.instantiable "WhistleStop$Offers" 3) ∧ okw (.initialized "WhistleStop$Offers") := ⟨okk_w (k := 248) (by decide +kernel), okk_w (k := 65) (by decide +kernel)⟩
set_option maxRecDepth 100000 in
theorem ci10 : okw (.instantiable "WhistleStop$Onward" 4) ∧ okw (.initialized "WhistleStop$Onward") := ⟨okk_w (k := 199) (by decide +kernel), okk_w (k := 62) (by decide +kernel)⟩
set_option maxRecDepth 100000 in
theorem ci11 : okw (.instantiable "WhistleStop$Runs" 4) ∧ okw (.initialized "WhistleStop$Runs") := ⟨okk_w (k := 147) (by decide +kernel), okk_w (k := 60) (by decide +kernel)⟩
set_option maxRecDepth 100000 in
theorem ci12 : okw (.instantiable "WhistleStop$Trip" 8) ∧ okw (.initialized "WhistleStop$Trip") := ⟨okk_w (k := 654) (by decide +kernel), okk_w (k := 76) (by decide +kernel)⟩
def mY : Nat → MethodName := fun i => match i with
  | 0 => ⟨"WhistleStop", "<init>", "()V"⟩
  | 1 => ⟨"WhistleStop", "stops", "()I"⟩
  | 2 => ⟨"WhistleStop", "trips", "()I"⟩
  | 3 => ⟨"WhistleStop", "legs", "()I"⟩
  | 4 => ⟨"WhistleStop", "moving", "()D"⟩
  | 5 => ⟨"WhistleStop", "digest", "()J"⟩
  | 6 => ⟨"WhistleStop", "mix", "(JI)J"⟩
  | 7 => ⟨"WhistleStop", "lateOf", "(II)I"⟩
  | 8 => ⟨"WhistleStop", "needTrip", "(I)V"⟩
  | 9 => ⟨"WhistleStop", "needIndex", "(II)V"⟩
  | 10 => ⟨"WhistleStop", "isDay", "(I)Z"⟩
  | 11 => ⟨"WhistleStop", "isWithin", "(III)Z"⟩
  | 12 => ⟨"WhistleStop", "mixJourney", "(J)J"⟩
  | 13 => ⟨"WhistleStop", "addStop", "(I)I"⟩
  | 14 => ⟨"WhistleStop", "needArgument", "(Z)V"⟩
  | 15 => ⟨"WhistleStop", "needState", "(Z)V"⟩
  | 16 => ⟨"WhistleStop", "setChange", "(II)I"⟩
  | 17 => ⟨"WhistleStop", "needStop", "(I)V"⟩
  | 18 => ⟨"WhistleStop", "addFootway", "(III)I"⟩
  | 19 => ⟨"WhistleStop", "addCalendar", "(III)I"⟩
  | 20 => ⟨"WhistleStop", "except", "(IIZ)Z"⟩
  | 21 => ⟨"WhistleStop", "runsOn", "(II)Z"⟩
  | 22 => ⟨"WhistleStop", "addTrip", "(IIII)I"⟩
  | 23 => ⟨"WhistleStop", "addCall", "(IIII)I"⟩
  | 24 => ⟨"WhistleStop", "calls", "(I)I"⟩
  | 25 => ⟨"WhistleStop", "stopOf", "(II)I"⟩
  | 26 => ⟨"WhistleStop", "late", "(III)I"⟩
  | 27 => ⟨"WhistleStop", "cancel", "(II)Z"⟩
  | 28 => ⟨"WhistleStop", "departures", "(II)I"⟩
  | 29 => ⟨"WhistleStop", "needTime", "(I)V"⟩
  | 30 => ⟨"WhistleStop", "departsAt", "(III)I"⟩
  | 31 => ⟨"WhistleStop", "tripAt", "(III)I"⟩
  | 32 => ⟨"WhistleStop", "earliest", "(III)I"⟩
  | 33 => ⟨"WhistleStop", "leastEnd", "(IIII)I"⟩
  | 34 => ⟨"WhistleStop", "withRides", "(IIII)I"⟩
  | 35 => ⟨"WhistleStop", "rides", "(III)I"⟩
  | 36 => ⟨"WhistleStop", "cheapest", "(IIII)I"⟩
  | 37 => ⟨"WhistleStop", "latest", "(III)I"⟩
  | 38 => ⟨"WhistleStop", "reached", "(III)I"⟩
  | 39 => ⟨"WhistleStop", "find", "(III)I"⟩
  | 40 => ⟨"WhistleStop", "legTrip", "(I)I"⟩
  | 41 => ⟨"WhistleStop", "needLeg", "(I)V"⟩
  | 42 => ⟨"WhistleStop", "legTo", "(I)I"⟩
  | 43 => ⟨"WhistleStop", "legBegin", "(I)I"⟩
  | 44 => ⟨"WhistleStop", "legEnd", "(I)I"⟩
  | 45 => ⟨"WhistleStop", "slack", "()I"⟩
  | 46 => ⟨"WhistleStop", "price", "()I"⟩
  | 47 => ⟨"WhistleStop", "holds", "()Z"⟩
  | 48 => ⟨"WhistleStop", "earliestIf", "(III)I"⟩
  | 49 => ⟨"WhistleStopModel", "<init>", "()V"⟩
  | 50 => ⟨"WhistleStopModel", "thrown", "()I"⟩
  | 51 => ⟨"WhistleStopModel", "addStop", "(I)I"⟩
  | 52 => ⟨"WhistleStopModel", "isIn", "(III)Z"⟩
  | 53 => ⟨"WhistleStopModel", "no", "(I)I"⟩
  | 54 => ⟨"WhistleStopModel", "setChange", "(II)I"⟩
  | 55 => ⟨"WhistleStopModel", "isStop", "(I)Z"⟩
  | 56 => ⟨"WhistleStopModel", "addFootway", "(III)I"⟩
  | 57 => ⟨"WhistleStopModel", "addCalendar", "(III)I"⟩
  | 58 => ⟨"WhistleStopModel", "except", "(IIZ)Z"⟩
  | 59 => ⟨"WhistleStopModel", "isNot", "(I)Z"⟩
  | 60 => ⟨"WhistleStopModel", "runs", "(II)Z"⟩
  | 61 => ⟨"WhistleStopModel", "runsOn", "(II)Z"⟩
  | 62 => ⟨"WhistleStopModel", "addTrip", "(IIII)I"⟩
  | 63 => ⟨"WhistleStopModel", "addCall", "(IIII)I"⟩
  | 64 => ⟨"WhistleStopModel", "isTrip", "(I)Z"⟩
  | 65 => ⟨"WhistleStopModel", "stops", "()I"⟩
  | 66 => ⟨"WhistleStopModel", "ok", "(I)I"⟩
  | 67 => ⟨"WhistleStopModel", "trips", "()I"⟩
  | 68 => ⟨"WhistleStopModel", "calls", "(I)I"⟩
  | 69 => ⟨"WhistleStopModel", "stopOf", "(II)I"⟩
  | 70 => ⟨"WhistleStopModel", "late", "(III)I"⟩
  | 71 => ⟨"WhistleStopModel", "cancel", "(II)Z"⟩
  | 72 => ⟨"WhistleStopModel", "lateNow", "(II)I"⟩
  | 73 => ⟨"WhistleStopModel", "lateOf", "(II)I"⟩
  | 74 => ⟨"WhistleStopModel", "departures", "(II)I"⟩
  | 75 => ⟨"WhistleStopModel", "board", "(IIIZ)I"⟩
  | 76 => ⟨"WhistleStopModel", "dayFrom", "(I)I"⟩
  | 77 => ⟨"WhistleStopModel", "dayTo", "(I)I"⟩
  | 78 => ⟨"WhistleStopModel", "departsAt", "(III)I"⟩
  | 79 => ⟨"WhistleStopModel", "tripAt", "(III)I"⟩
  | 80 => ⟨"WhistleStopModel", "earliest", "(III)I"⟩
  | 81 => ⟨"WhistleStopModel", "question", "(III)I"⟩
  | 82 => ⟨"WhistleStopModel", "earliestNow", "(III)I"⟩
  | 83 => ⟨"WhistleStopModel", "rounds", "(II)[[I"⟩
  | 84 => ⟨"WhistleStopModel", "row", "(I)[I"⟩
  | 85 => ⟨"WhistleStopModel", "walk", "([I[I)V"⟩
  | 86 => ⟨"WhistleStopModel", "ride", "([I[II)V"⟩
  | 87 => ⟨"WhistleStopModel", "orNone", "(I)I"⟩
  | 88 => ⟨"WhistleStopModel", "withRides", "(IIII)I"⟩
  | 89 => ⟨"WhistleStopModel", "rides", "(III)I"⟩
  | 90 => ⟨"WhistleStopModel", "fewest", "(III)I"⟩
  | 91 => ⟨"WhistleStopModel", "reached", "(III)I"⟩
  | 92 => ⟨"WhistleStopModel", "cheapest", "(IIII)I"⟩
  | 93 => ⟨"WhistleStopModel", "cheapestNow", "(IIII)I"⟩
  | 94 => ⟨"WhistleStopModel", "addLabel", "(III)V"⟩
  | 95 => ⟨"WhistleStopModel", "arrive", "(IIIII)I"⟩
  | 96 => ⟨"WhistleStopModel", "latest", "(III)I"⟩
  | 97 => ⟨"WhistleStopModel", "latestNow", "(III)I"⟩
  | 98 => ⟨"WhistleStopModel", "backwards", "(III)[[I"⟩
  | 99 => ⟨"WhistleStopModel", "goesOn", "(IIII[I)Z"⟩
  | 100 => ⟨"WhistleStopModel", "find", "(III)I"⟩
  | 101 => ⟨"WhistleStopModel", "addRide", "(IIII[I)Z"⟩
  | 102 => ⟨"WhistleStopModel", "addWalk", "(IIII[II)V"⟩
  | 103 => ⟨"WhistleStopModel", "leastSlack", "()I"⟩
  | 104 => ⟨"WhistleStopModel", "legs", "()I"⟩
  | 105 => ⟨"WhistleStopModel", "legTrip", "(I)I"⟩
  | 106 => ⟨"WhistleStopModel", "ofLeg", "(I[I)I"⟩
  | 107 => ⟨"WhistleStopModel", "legTo", "(I)I"⟩
  | 108 => ⟨"WhistleStopModel", "legBegin", "(I)I"⟩
  | 109 => ⟨"WhistleStopModel", "legEnd", "(I)I"⟩
  | 110 => ⟨"WhistleStopModel", "slack", "()I"⟩
  | 111 => ⟨"WhistleStopModel", "price", "()I"⟩
  | 112 => ⟨"WhistleStopModel", "priceNow", "()I"⟩
  | 113 => ⟨"WhistleStopModel", "holds", "()Z"⟩
  | 114 => ⟨"WhistleStopModel", "holdsNow", "()Z"⟩
  | 115 => ⟨"WhistleStopModel", "earliestIf", "(III)I"⟩
  | 116 => ⟨"WhistleStopModel", "moving", "()D"⟩
  | 117 => ⟨"WhistleStopModel", "digest", "()J"⟩
  | 118 => ⟨"WhistleStop$Backward", "<init>", "()V"⟩
  | 119 => ⟨"WhistleStop$Backward", "seek", "(LWhistleStop$Network;LWhistleStop$Runs;III)V"⟩
  | 120 => ⟨"WhistleStop$Backward", "alight", "(LWhistleStop$Network;I)V"⟩
  | 121 => ⟨"WhistleStop$Backward", "cross", "(IIII)V"⟩
  | 122 => ⟨"WhistleStop$Backward", "latestAt", "(II)I"⟩
  | 123 => ⟨"WhistleStop$Backward", "ride", "(LWhistleStop$Runs;[I[I)Z"⟩
  | 124 => ⟨"WhistleStop$Backward", "rideRun", "(LWhistleStop$Trip;I[I[I)Z"⟩
  | 125 => ⟨"WhistleStop$Backward", "latestBegin", "(LWhistleStop$Network;II)I"⟩
  | 126 => ⟨"WhistleStop$Board", "<init>", "()V"⟩
  | 127 => ⟨"WhistleStop$Board", "list", "(LWhistleStop$Network;LWhistleStop$Runs;II)V"⟩
  | 128 => ⟨"WhistleStop$Board", "insert", "(J)V"⟩
  | 129 => ⟨"WhistleStop$Board", "timeOf", "(I)I"⟩
  | 130 => ⟨"WhistleStop$Board", "tripOf", "(I)I"⟩
  | 131 => ⟨"WhistleStop$Calendar", "isRunning", "(I)Z"⟩
  | 132 => ⟨"WhistleStop$Calendar", "<init>", "(III)V"⟩
  | 133 => ⟨"WhistleStop$Fares", "<init>", "()V"⟩
  | 134 => ⟨"WhistleStop$Fares", "leastPrice", "(LWhistleStop$Network;LWhistleStop$Runs;IIII)I"⟩
  | 135 => ⟨"WhistleStop$Fares", "walk", "(LWhistleStop$Network;III)Z"⟩
  | 136 => ⟨"WhistleStop$Fares", "swap", "()V"⟩
  | 137 => ⟨"WhistleStop$Fares", "rideRun", "(LWhistleStop$Network;LWhistleStop$Trip;I)Z"⟩
  | 138 => ⟨"WhistleStop$Fares", "alight", "(LWhistleStop$Network;III)Z"⟩
  | 139 => ⟨"WhistleStop$Footway", "<init>", "(III)V"⟩
  | 140 => ⟨"WhistleStop$Footway", "across", "(I)I"⟩
  | 141 => ⟨"WhistleStop$Journey", "<init>", "()V"⟩
  | 142 => ⟨"WhistleStop$Journey", "minutesInAll", "()I"⟩
  | 143 => ⟨"WhistleStop$Journey", "timeNow", "()I"⟩
  | 144 => ⟨"WhistleStop$Journey", "minutesInRides", "()I"⟩
  | 145 => ⟨"WhistleStop$Journey", "tripOf", "(I)I"⟩
  | 146 => ⟨"WhistleStop$Journey", "isPossible", "(LWhistleStop$Network;)Z"⟩
  | 147 => ⟨"WhistleStop$Journey", "ask", "(III)V"⟩
  | 148 => ⟨"WhistleStop$Journey", "trace", "(LWhistleStop$Network;LWhistleStop$Runs;LWhistleStop$Backward;I)V"⟩
  | 149 => ⟨"WhistleStop$Journey", "stopNow", "()I"⟩
  | 150 => ⟨"WhistleStop$Journey", "takeRide", "(LWhistleStop$Network;LWhistleStop$Runs;LWhistleStop$Backward;I)Z"⟩
  | 151 => ⟨"WhistleStop$Journey", "isAfterRide", "()Z"⟩
  | 152 => ⟨"WhistleStop$Journey", "alightingOf", "(LWhistleStop$Trip;II[I)I"⟩
  | 153 => ⟨"WhistleStop$Journey", "addRide", "(LWhistleStop$Trip;IIII)V"⟩
  | 154 => ⟨"WhistleStop$Journey", "addLeg", "(III)V"⟩
  | 155 => ⟨"WhistleStop$Journey", "takeWalk", "(LWhistleStop$Network;LWhistleStop$Backward;I)Z"⟩
  | 156 => ⟨"WhistleStop$Network", "<init>", "()V"⟩
  | 157 => ⟨"WhistleStop$Offers", "<init>", "()V"⟩
  | 158 => ⟨"WhistleStop$Offers", "offer", "(II)Z"⟩
  | 159 => ⟨"WhistleStop$Offers", "priceAt", "(I)I"⟩
  | 160 => ⟨"WhistleStop$Offers", "makeRoom", "(I)V"⟩
  | 161 => ⟨"WhistleStop$Offers", "copy", "(LWhistleStop$Offers;)V"⟩
  | 162 => ⟨"WhistleStop$Onward", "<init>", "()V"⟩
  | 163 => ⟨"WhistleStop$Onward", "seek", "(LWhistleStop$Network;LWhistleStop$Runs;III)V"⟩
  | 164 => ⟨"WhistleStop$Onward", "begin", "(II)V"⟩
  | 165 => ⟨"WhistleStop$Onward", "walk", "(LWhistleStop$Network;I)V"⟩
  | 166 => ⟨"WhistleStop$Onward", "cross", "(IIII)V"⟩
  | 167 => ⟨"WhistleStop$Onward", "ride", "(LWhistleStop$Runs;[I)Z"⟩
  | 168 => ⟨"WhistleStop$Onward", "rideRun", "(LWhistleStop$Trip;I[I)Z"⟩
  | 169 => ⟨"WhistleStop$Onward", "alight", "(LWhistleStop$Network;I)V"⟩
  | 170 => ⟨"WhistleStop$Onward", "endOf", "(II)I"⟩
  | 171 => ⟨"WhistleStop$Onward", "isReached", "(I)Z"⟩
  | 172 => ⟨"WhistleStop$Onward", "fewestRides", "(I)I"⟩
  | 173 => ⟨"WhistleStop$Runs", "<init>", "()V"⟩
  | 174 => ⟨"WhistleStop$Runs", "collect", "(LWhistleStop$Network;II)V"⟩
  | 175 => ⟨"WhistleStop$Runs", "add", "(LWhistleStop$Trip;III)V"⟩
  | 176 => ⟨"WhistleStop$Trip", "hasRun", "(I)Z"⟩
  | 177 => ⟨"WhistleStop$Trip", "baseOf", "(I)I"⟩
  | 178 => ⟨"WhistleStop$Trip", "<init>", "(ILWhistleStop$Calendar;I)V"⟩
  | 179 => ⟨"WhistleStop$Trip", "append", "(III)V"⟩
  | 180 => ⟨"WhistleStop$Trip", "lastDeparts", "()I"⟩
  | 181 => ⟨"WhistleStopLaw", "addStop", "(LWhistleStop;I[J)I"⟩
  | 182 => ⟨"WhistleStopLaw", "setChange", "(LWhistleStop;II[J)I"⟩
  | 183 => ⟨"WhistleStopLaw", "addFootway", "(LWhistleStop;III[J)I"⟩
  | 184 => ⟨"WhistleStopLaw", "addCalendar", "(LWhistleStop;III[J)I"⟩
  | 185 => ⟨"WhistleStopLaw", "except", "(LWhistleStop;IIZ[J)I"⟩
  | 186 => ⟨"WhistleStopLaw", "runsOn", "(LWhistleStop;II[J)I"⟩
  | 187 => ⟨"WhistleStopLaw", "addTrip", "(LWhistleStop;IIII[J)I"⟩
  | 188 => ⟨"WhistleStopLaw", "addCall", "(LWhistleStop;IIII[J)I"⟩
  | 189 => ⟨"WhistleStopLaw", "calls", "(LWhistleStop;I[J)I"⟩
  | 190 => ⟨"WhistleStopLaw", "stopOf", "(LWhistleStop;II[J)I"⟩
  | 191 => ⟨"WhistleStopLaw", "late", "(LWhistleStop;III[J)I"⟩
  | 192 => ⟨"WhistleStopLaw", "cancel", "(LWhistleStop;II[J)I"⟩
  | 193 => ⟨"WhistleStopLaw", "lateOf", "(LWhistleStop;II[J)I"⟩
  | 194 => ⟨"WhistleStopLaw", "departures", "(LWhistleStop;II[J)I"⟩
  | 195 => ⟨"WhistleStopLaw", "departsAt", "(LWhistleStop;III[J)I"⟩
  | 196 => ⟨"WhistleStopLaw", "tripAt", "(LWhistleStop;III[J)I"⟩
  | 197 => ⟨"WhistleStopLaw", "earliest", "(LWhistleStop;III[J)I"⟩
  | 198 => ⟨"WhistleStopLaw", "withRides", "(LWhistleStop;IIII[J)I"⟩
  | 199 => ⟨"WhistleStopLaw", "rides", "(LWhistleStop;III[J)I"⟩
  | 200 => ⟨"WhistleStopLaw", "cheapest", "(LWhistleStop;IIII[J)I"⟩
  | 201 => ⟨"WhistleStopLaw", "latest", "(LWhistleStop;III[J)I"⟩
  | 202 => ⟨"WhistleStopLaw", "reached", "(LWhistleStop;III[J)I"⟩
  | 203 => ⟨"WhistleStopLaw", "find", "(LWhistleStop;III[J)I"⟩
  | 204 => ⟨"WhistleStopLaw", "legTrip", "(LWhistleStop;I[J)I"⟩
  | 205 => ⟨"WhistleStopLaw", "legTo", "(LWhistleStop;I[J)I"⟩
  | 206 => ⟨"WhistleStopLaw", "legBegin", "(LWhistleStop;I[J)I"⟩
  | 207 => ⟨"WhistleStopLaw", "legEnd", "(LWhistleStop;I[J)I"⟩
  | 208 => ⟨"WhistleStopLaw", "slack", "(LWhistleStop;[J)I"⟩
  | 209 => ⟨"WhistleStopLaw", "price", "(LWhistleStop;[J)I"⟩
  | 210 => ⟨"WhistleStopLaw", "holds", "(LWhistleStop;[J)I"⟩
  | 211 => ⟨"WhistleStopLaw", "earliestIf", "(LWhistleStop;III[J)I"⟩
  | 212 => ⟨"WhistleStopLaw", "law", "([I)Z"⟩
  | 213 => ⟨"java/lang/Math", "floorDiv", "(II)I"⟩
  | 214 => ⟨"java/lang/Math", "max", "(II)I"⟩
  | 215 => ⟨"java/lang/Math", "min", "(II)I"⟩
  | 216 => ⟨"java/util/Arrays", "fill", "([II)V"⟩
  | 217 => ⟨"java/util/Arrays", "copyOf", "([II)[I"⟩
  | _ => ⟨"", "", ""⟩
def mB : Nat → ByteArray := fun i => match i with
  | 0 => prog_1_method_1_code
  | 1 => prog_1_method_10_code
  | 2 => prog_1_method_11_code
  | 3 => prog_1_method_27_code
  | 4 => prog_1_method_36_code
  | 5 => prog_1_method_37_code
  | 6 => prog_1_method_39_code
  | 7 => prog_1_method_16_code
  | 8 => prog_1_method_47_code
  | 9 => prog_1_method_43_code
  | 10 => prog_1_method_42_code
  | 11 => prog_1_method_41_code
  | 12 => prog_1_method_38_code
  | 13 => prog_1_method_2_code
  | 14 => prog_1_method_44_code
  | 15 => prog_1_method_45_code
  | 16 => prog_1_method_3_code
  | 17 => prog_1_method_46_code
  | 18 => prog_1_method_4_code
  | 19 => prog_1_method_5_code
  | 20 => prog_1_method_6_code
  | 21 => prog_1_method_7_code
  | 22 => prog_1_method_8_code
  | 23 => prog_1_method_9_code
  | 24 => prog_1_method_12_code
  | 25 => prog_1_method_13_code
  | 26 => prog_1_method_14_code
  | 27 => prog_1_method_15_code
  | 28 => prog_1_method_17_code
  | 29 => prog_1_method_48_code
  | 30 => prog_1_method_18_code
  | 31 => prog_1_method_19_code
  | 32 => prog_1_method_20_code
  | 33 => prog_1_method_40_code
  | 34 => prog_1_method_21_code
  | 35 => prog_1_method_22_code
  | 36 => prog_1_method_23_code
  | 37 => prog_1_method_24_code
  | 38 => prog_1_method_25_code
  | 39 => prog_1_method_26_code
  | 40 => prog_1_method_28_code
  | 41 => prog_1_method_49_code
  | 42 => prog_1_method_29_code
  | 43 => prog_1_method_30_code
  | 44 => prog_1_method_31_code
  | 45 => prog_1_method_32_code
  | 46 => prog_1_method_33_code
  | 47 => prog_1_method_34_code
  | 48 => prog_1_method_35_code
  | 49 => prog_14_method_1_code
  | 50 => prog_14_method_2_code
  | 51 => prog_14_method_9_code
  | 52 => prog_14_method_6_code
  | 53 => prog_14_method_3_code
  | 54 => prog_14_method_10_code
  | 55 => prog_14_method_7_code
  | 56 => prog_14_method_11_code
  | 57 => prog_14_method_12_code
  | 58 => prog_14_method_14_code
  | 59 => prog_14_method_4_code
  | 60 => prog_14_method_13_code
  | 61 => prog_14_method_15_code
  | 62 => prog_14_method_16_code
  | 63 => prog_14_method_17_code
  | 64 => prog_14_method_8_code
  | 65 => prog_14_method_18_code
  | 66 => prog_14_method_5_code
  | 67 => prog_14_method_19_code
  | 68 => prog_14_method_20_code
  | 69 => prog_14_method_21_code
  | 70 => prog_14_method_22_code
  | 71 => prog_14_method_24_code
  | 72 => prog_14_method_23_code
  | 73 => prog_14_method_25_code
  | 74 => prog_14_method_29_code
  | 75 => prog_14_method_28_code
  | 76 => prog_14_method_26_code
  | 77 => prog_14_method_27_code
  | 78 => prog_14_method_30_code
  | 79 => prog_14_method_31_code
  | 80 => prog_14_method_39_code
  | 81 => prog_14_method_38_code
  | 82 => prog_14_method_37_code
  | 83 => prog_14_method_33_code
  | 84 => prog_14_method_32_code
  | 85 => prog_14_method_34_code
  | 86 => prog_14_method_35_code
  | 87 => prog_14_method_36_code
  | 88 => prog_14_method_40_code
  | 89 => prog_14_method_42_code
  | 90 => prog_14_method_41_code
  | 91 => prog_14_method_43_code
  | 92 => prog_14_method_47_code
  | 93 => prog_14_method_45_code
  | 94 => prog_14_method_44_code
  | 95 => prog_14_method_46_code
  | 96 => prog_14_method_51_code
  | 97 => prog_14_method_50_code
  | 98 => prog_14_method_48_code
  | 99 => prog_14_method_49_code
  | 100 => prog_14_method_52_code
  | 101 => prog_14_method_53_code
  | 102 => prog_14_method_54_code
  | 103 => prog_14_method_55_code
  | 104 => prog_14_method_56_code
  | 105 => prog_14_method_58_code
  | 106 => prog_14_method_57_code
  | 107 => prog_14_method_59_code
  | 108 => prog_14_method_60_code
  | 109 => prog_14_method_61_code
  | 110 => prog_14_method_62_code
  | 111 => prog_14_method_64_code
  | 112 => prog_14_method_63_code
  | 113 => prog_14_method_66_code
  | 114 => prog_14_method_65_code
  | 115 => prog_14_method_67_code
  | 116 => prog_14_method_68_code
  | 117 => prog_14_method_69_code
  | 118 => prog_2_method_1_code
  | 119 => prog_2_method_2_code
  | 120 => prog_2_method_7_code
  | 121 => prog_2_method_8_code
  | 122 => prog_2_method_3_code
  | 123 => prog_2_method_5_code
  | 124 => prog_2_method_6_code
  | 125 => prog_2_method_4_code
  | 126 => prog_3_method_1_code
  | 127 => prog_3_method_2_code
  | 128 => prog_3_method_3_code
  | 129 => prog_3_method_4_code
  | 130 => prog_3_method_5_code
  | 131 => prog_4_method_2_code
  | 132 => prog_4_method_1_code
  | 133 => prog_5_method_1_code
  | 134 => prog_5_method_2_code
  | 135 => prog_5_method_6_code
  | 136 => prog_5_method_3_code
  | 137 => prog_5_method_4_code
  | 138 => prog_5_method_5_code
  | 139 => prog_6_method_1_code
  | 140 => prog_6_method_2_code
  | 141 => prog_7_method_1_code
  | 142 => prog_7_method_14_code
  | 143 => prog_7_method_5_code
  | 144 => prog_7_method_15_code
  | 145 => prog_7_method_12_code
  | 146 => prog_7_method_13_code
  | 147 => prog_7_method_2_code
  | 148 => prog_7_method_3_code
  | 149 => prog_7_method_4_code
  | 150 => prog_7_method_7_code
  | 151 => prog_7_method_6_code
  | 152 => prog_7_method_8_code
  | 153 => prog_7_method_9_code
  | 154 => prog_7_method_11_code
  | 155 => prog_7_method_10_code
  | 156 => prog_8_method_1_code
  | 157 => prog_9_method_1_code
  | 158 => prog_9_method_3_code
  | 159 => prog_9_method_2_code
  | 160 => prog_9_method_5_code
  | 161 => prog_9_method_4_code
  | 162 => prog_10_method_1_code
  | 163 => prog_10_method_5_code
  | 164 => prog_10_method_6_code
  | 165 => prog_10_method_10_code
  | 166 => prog_10_method_11_code
  | 167 => prog_10_method_7_code
  | 168 => prog_10_method_8_code
  | 169 => prog_10_method_9_code
  | 170 => prog_10_method_3_code
  | 171 => prog_10_method_2_code
  | 172 => prog_10_method_4_code
  | 173 => prog_11_method_1_code
  | 174 => prog_11_method_2_code
  | 175 => prog_11_method_3_code
  | 176 => prog_12_method_4_code
  | 177 => prog_12_method_5_code
  | 178 => prog_12_method_1_code
  | 179 => prog_12_method_2_code
  | 180 => prog_12_method_3_code
  | 181 => method_3_code
  | 182 => method_4_code
  | 183 => method_5_code
  | 184 => method_6_code
  | 185 => method_7_code
  | 186 => method_8_code
  | 187 => method_9_code
  | 188 => method_10_code
  | 189 => method_11_code
  | 190 => method_12_code
  | 191 => method_13_code
  | 192 => method_14_code
  | 193 => method_15_code
  | 194 => method_16_code
  | 195 => method_17_code
  | 196 => method_18_code
  | 197 => method_19_code
  | 198 => method_20_code
  | 199 => method_21_code
  | 200 => method_22_code
  | 201 => method_23_code
  | 202 => method_24_code
  | 203 => method_25_code
  | 204 => method_26_code
  | 205 => method_27_code
  | 206 => method_28_code
  | 207 => method_29_code
  | 208 => method_30_code
  | 209 => method_31_code
  | 210 => method_32_code
  | 211 => method_33_code
  | 212 => code
  | 213 => prog_20_method_47_code
  | 214 => prog_20_method_65_code
  | 215 => prog_20_method_69_code
  | 216 => prog_25_method_103_code
  | 217 => prog_25_method_123_code
  | _ => ⟨#[]⟩
def mL : Nat → Nat := fun i => match i with
  | 0 => 1
  | 1 => 1
  | 2 => 1
  | 3 => 1
  | 4 => 2
  | 5 => 5
  | 6 => 3
  | 7 => 3
  | 8 => 2
  | 9 => 2
  | 10 => 1
  | 11 => 3
  | 12 => 6
  | 13 => 2
  | 14 => 1
  | 15 => 1
  | 16 => 4
  | 17 => 2
  | 18 => 4
  | 19 => 4
  | 20 => 6
  | 21 => 3
  | 22 => 6
  | 23 => 6
  | 24 => 2
  | 25 => 3
  | 26 => 5
  | 27 => 4
  | 28 => 3
  | 29 => 1
  | 30 => 4
  | 31 => 4
  | 32 => 4
  | 33 => 6
  | 34 => 5
  | 35 => 4
  | 36 => 6
  | 37 => 7
  | 38 => 6
  | 39 => 5
  | 40 => 2
  | 41 => 2
  | 42 => 2
  | 43 => 2
  | 44 => 2
  | 45 => 1
  | 46 => 1
  | 47 => 1
  | 48 => 7
  | 49 => 1
  | 50 => 1
  | 51 => 2
  | 52 => 3
  | 53 => 2
  | 54 => 4
  | 55 => 2
  | 56 => 4
  | 57 => 4
  | 58 => 5
  | 59 => 2
  | 60 => 3
  | 61 => 3
  | 62 => 5
  | 63 => 6
  | 64 => 2
  | 65 => 1
  | 66 => 2
  | 67 => 1
  | 68 => 2
  | 69 => 3
  | 70 => 5
  | 71 => 4
  | 72 => 3
  | 73 => 3
  | 74 => 3
  | 75 => 14
  | 76 => 1
  | 77 => 1
  | 78 => 4
  | 79 => 4
  | 80 => 4
  | 81 => 4
  | 82 => 4
  | 83 => 10
  | 84 => 3
  | 85 => 4
  | 86 => 12
  | 87 => 1
  | 88 => 5
  | 89 => 4
  | 90 => 6
  | 91 => 7
  | 92 => 5
  | 93 => 18
  | 94 => 8
  | 95 => 9
  | 96 => 4
  | 97 => 11
  | 98 => 13
  | 99 => 8
  | 100 => 11
  | 101 => 12
  | 102 => 10
  | 103 => 4
  | 104 => 1
  | 105 => 2
  | 106 => 3
  | 107 => 2
  | 108 => 2
  | 109 => 2
  | 110 => 1
  | 111 => 1
  | 112 => 3
  | 113 => 1
  | 114 => 7
  | 115 => 5
  | 116 => 3
  | 117 => 5
  | 118 => 1
  | 119 => 8
  | 120 => 5
  | 121 => 5
  | 122 => 3
  | 123 => 6
  | 124 => 10
  | 125 => 8
  | 126 => 1
  | 127 => 11
  | 128 => 4
  | 129 => 2
  | 130 => 2
  | 131 => 2
  | 132 => 4
  | 133 => 2
  | 134 => 10
  | 135 => 10
  | 136 => 3
  | 137 => 9
  | 138 => 6
  | 139 => 4
  | 140 => 2
  | 141 => 1
  | 142 => 1
  | 143 => 1
  | 144 => 3
  | 145 => 3
  | 146 => 7
  | 147 => 4
  | 148 => 6
  | 149 => 1
  | 150 => 12
  | 151 => 1
  | 152 => 6
  | 153 => 8
  | 154 => 4
  | 155 => 8
  | 156 => 1
  | 157 => 1
  | 158 => 5
  | 159 => 3
  | 160 => 2
  | 161 => 2
  | 162 => 1
  | 163 => 8
  | 164 => 3
  | 165 => 5
  | 166 => 6
  | 167 => 5
  | 168 => 9
  | 169 => 4
  | 170 => 3
  | 171 => 2
  | 172 => 3
  | 173 => 1
  | 174 => 9
  | 175 => 7
  | 176 => 2
  | 177 => 2
  | 178 => 4
  | 179 => 4
  | 180 => 1
  | 181 => 4
  | 182 => 5
  | 183 => 6
  | 184 => 6
  | 185 => 6
  | 186 => 5
  | 187 => 7
  | 188 => 7
  | 189 => 4
  | 190 => 5
  | 191 => 6
  | 192 => 5
  | 193 => 5
  | 194 => 5
  | 195 => 6
  | 196 => 6
  | 197 => 6
  | 198 => 7
  | 199 => 6
  | 200 => 7
  | 201 => 6
  | 202 => 6
  | 203 => 6
  | 204 => 4
  | 205 => 4
  | 206 => 4
  | 207 => 4
  | 208 => 3
  | 209 => 3
  | 210 => 3
  | 211 => 6
  | 212 => 9
  | 213 => 3
  | 214 => 2
  | 215 => 2
  | 216 => 4
  | 217 => 3
  | _ => 0
def mR : Nat → Option FieldType := fun i => match i with
  | 0 => none
  | 1 => (some Jvm.ClassFile.FieldType.int)
  | 2 => (some Jvm.ClassFile.FieldType.int)
  | 3 => (some Jvm.ClassFile.FieldType.int)
  | 4 => (some Jvm.ClassFile.FieldType.double)
  | 5 => (some Jvm.ClassFile.FieldType.long)
  | 6 => (some Jvm.ClassFile.FieldType.long)
  | 7 => (some Jvm.ClassFile.FieldType.int)
  | 8 => none
  | 9 => none
  | 10 => (some Jvm.ClassFile.FieldType.boolean)
  | 11 => (some Jvm.ClassFile.FieldType.boolean)
  | 12 => (some Jvm.ClassFile.FieldType.long)
  | 13 => (some Jvm.ClassFile.FieldType.int)
  | 14 => none
  | 15 => none
  | 16 => (some Jvm.ClassFile.FieldType.int)
  | 17 => none
  | 18 => (some Jvm.ClassFile.FieldType.int)
  | 19 => (some Jvm.ClassFile.FieldType.int)
  | 20 => (some Jvm.ClassFile.FieldType.boolean)
  | 21 => (some Jvm.ClassFile.FieldType.boolean)
  | 22 => (some Jvm.ClassFile.FieldType.int)
  | 23 => (some Jvm.ClassFile.FieldType.int)
  | 24 => (some Jvm.ClassFile.FieldType.int)
  | 25 => (some Jvm.ClassFile.FieldType.int)
  | 26 => (some Jvm.ClassFile.FieldType.int)
  | 27 => (some Jvm.ClassFile.FieldType.boolean)
  | 28 => (some Jvm.ClassFile.FieldType.int)
  | 29 => none
  | 30 => (some Jvm.ClassFile.FieldType.int)
  | 31 => (some Jvm.ClassFile.FieldType.int)
  | 32 => (some Jvm.ClassFile.FieldType.int)
  | 33 => (some Jvm.ClassFile.FieldType.int)
  | 34 => (some Jvm.ClassFile.FieldType.int)
  | 35 => (some Jvm.ClassFile.FieldType.int)
  | 36 => (some Jvm.ClassFile.FieldType.int)
  | 37 => (some Jvm.ClassFile.FieldType.int)
  | 38 => (some Jvm.ClassFile.FieldType.int)
  | 39 => (some Jvm.ClassFile.FieldType.int)
  | 40 => (some Jvm.ClassFile.FieldType.int)
  | 41 => none
  | 42 => (some Jvm.ClassFile.FieldType.int)
  | 43 => (some Jvm.ClassFile.FieldType.int)
  | 44 => (some Jvm.ClassFile.FieldType.int)
  | 45 => (some Jvm.ClassFile.FieldType.int)
  | 46 => (some Jvm.ClassFile.FieldType.int)
  | 47 => (some Jvm.ClassFile.FieldType.boolean)
  | 48 => (some Jvm.ClassFile.FieldType.int)
  | 49 => none
  | 50 => (some Jvm.ClassFile.FieldType.int)
  | 51 => (some Jvm.ClassFile.FieldType.int)
  | 52 => (some Jvm.ClassFile.FieldType.boolean)
  | 53 => (some Jvm.ClassFile.FieldType.int)
  | 54 => (some Jvm.ClassFile.FieldType.int)
  | 55 => (some Jvm.ClassFile.FieldType.boolean)
  | 56 => (some Jvm.ClassFile.FieldType.int)
  | 57 => (some Jvm.ClassFile.FieldType.int)
  | 58 => (some Jvm.ClassFile.FieldType.boolean)
  | 59 => (some Jvm.ClassFile.FieldType.boolean)
  | 60 => (some Jvm.ClassFile.FieldType.boolean)
  | 61 => (some Jvm.ClassFile.FieldType.boolean)
  | 62 => (some Jvm.ClassFile.FieldType.int)
  | 63 => (some Jvm.ClassFile.FieldType.int)
  | 64 => (some Jvm.ClassFile.FieldType.boolean)
  | 65 => (some Jvm.ClassFile.FieldType.int)
  | 66 => (some Jvm.ClassFile.FieldType.int)
  | 67 => (some Jvm.ClassFile.FieldType.int)
  | 68 => (some Jvm.ClassFile.FieldType.int)
  | 69 => (some Jvm.ClassFile.FieldType.int)
  | 70 => (some Jvm.ClassFile.FieldType.int)
  | 71 => (some Jvm.ClassFile.FieldType.boolean)
  | 72 => (some Jvm.ClassFile.FieldType.int)
  | 73 => (some Jvm.ClassFile.FieldType.int)
  | 74 => (some Jvm.ClassFile.FieldType.int)
  | 75 => (some Jvm.ClassFile.FieldType.int)
  | 76 => (some Jvm.ClassFile.FieldType.int)
  | 77 => (some Jvm.ClassFile.FieldType.int)
  | 78 => (some Jvm.ClassFile.FieldType.int)
  | 79 => (some Jvm.ClassFile.FieldType.int)
  | 80 => (some Jvm.ClassFile.FieldType.int)
  | 81 => (some Jvm.ClassFile.FieldType.int)
  | 82 => (some Jvm.ClassFile.FieldType.int)
  | 83 => (some (Jvm.ClassFile.FieldType.array (Jvm.ClassFile.FieldType.array Jvm.ClassFile.FieldType.int)))
  | 84 => (some (Jvm.ClassFile.FieldType.array Jvm.ClassFile.FieldType.int))
  | 85 => none
  | 86 => none
  | 87 => (some Jvm.ClassFile.FieldType.int)
  | 88 => (some Jvm.ClassFile.FieldType.int)
  | 89 => (some Jvm.ClassFile.FieldType.int)
  | 90 => (some Jvm.ClassFile.FieldType.int)
  | 91 => (some Jvm.ClassFile.FieldType.int)
  | 92 => (some Jvm.ClassFile.FieldType.int)
  | 93 => (some Jvm.ClassFile.FieldType.int)
  | 94 => none
  | 95 => (some Jvm.ClassFile.FieldType.int)
  | 96 => (some Jvm.ClassFile.FieldType.int)
  | 97 => (some Jvm.ClassFile.FieldType.int)
  | 98 => (some (Jvm.ClassFile.FieldType.array (Jvm.ClassFile.FieldType.array Jvm.ClassFile.FieldType.int)))
  | 99 => (some Jvm.ClassFile.FieldType.boolean)
  | 100 => (some Jvm.ClassFile.FieldType.int)
  | 101 => (some Jvm.ClassFile.FieldType.boolean)
  | 102 => none
  | 103 => (some Jvm.ClassFile.FieldType.int)
  | 104 => (some Jvm.ClassFile.FieldType.int)
  | 105 => (some Jvm.ClassFile.FieldType.int)
  | 106 => (some Jvm.ClassFile.FieldType.int)
  | 107 => (some Jvm.ClassFile.FieldType.int)
  | 108 => (some Jvm.ClassFile.FieldType.int)
  | 109 => (some Jvm.ClassFile.FieldType.int)
  | 110 => (some Jvm.ClassFile.FieldType.int)
  | 111 => (some Jvm.ClassFile.FieldType.int)
  | 112 => (some Jvm.ClassFile.FieldType.int)
  | 113 => (some Jvm.ClassFile.FieldType.boolean)
  | 114 => (some Jvm.ClassFile.FieldType.boolean)
  | 115 => (some Jvm.ClassFile.FieldType.int)
  | 116 => (some Jvm.ClassFile.FieldType.double)
  | 117 => (some Jvm.ClassFile.FieldType.long)
  | 118 => none
  | 119 => none
  | 120 => none
  | 121 => none
  | 122 => (some Jvm.ClassFile.FieldType.int)
  | 123 => (some Jvm.ClassFile.FieldType.boolean)
  | 124 => (some Jvm.ClassFile.FieldType.boolean)
  | 125 => (some Jvm.ClassFile.FieldType.int)
  | 126 => none
  | 127 => none
  | 128 => none
  | 129 => (some Jvm.ClassFile.FieldType.int)
  | 130 => (some Jvm.ClassFile.FieldType.int)
  | 131 => (some Jvm.ClassFile.FieldType.boolean)
  | 132 => none
  | 133 => none
  | 134 => (some Jvm.ClassFile.FieldType.int)
  | 135 => (some Jvm.ClassFile.FieldType.boolean)
  | 136 => none
  | 137 => (some Jvm.ClassFile.FieldType.boolean)
  | 138 => (some Jvm.ClassFile.FieldType.boolean)
  | 139 => none
  | 140 => (some Jvm.ClassFile.FieldType.int)
  | 141 => none
  | 142 => (some Jvm.ClassFile.FieldType.int)
  | 143 => (some Jvm.ClassFile.FieldType.int)
  | 144 => (some Jvm.ClassFile.FieldType.int)
  | 145 => (some Jvm.ClassFile.FieldType.int)
  | 146 => (some Jvm.ClassFile.FieldType.boolean)
  | 147 => none
  | 148 => none
  | 149 => (some Jvm.ClassFile.FieldType.int)
  | 150 => (some Jvm.ClassFile.FieldType.boolean)
  | 151 => (some Jvm.ClassFile.FieldType.boolean)
  | 152 => (some Jvm.ClassFile.FieldType.int)
  | 153 => none
  | 154 => none
  | 155 => (some Jvm.ClassFile.FieldType.boolean)
  | 156 => none
  | 157 => none
  | 158 => (some Jvm.ClassFile.FieldType.boolean)
  | 159 => (some Jvm.ClassFile.FieldType.int)
  | 160 => none
  | 161 => none
  | 162 => none
  | 163 => none
  | 164 => none
  | 165 => none
  | 166 => none
  | 167 => (some Jvm.ClassFile.FieldType.boolean)
  | 168 => (some Jvm.ClassFile.FieldType.boolean)
  | 169 => none
  | 170 => (some Jvm.ClassFile.FieldType.int)
  | 171 => (some Jvm.ClassFile.FieldType.boolean)
  | 172 => (some Jvm.ClassFile.FieldType.int)
  | 173 => none
  | 174 => none
  | 175 => none
  | 176 => (some Jvm.ClassFile.FieldType.boolean)
  | 177 => (some Jvm.ClassFile.FieldType.int)
  | 178 => none
  | 179 => none
  | 180 => (some Jvm.ClassFile.FieldType.int)
  | 181 => (some Jvm.ClassFile.FieldType.int)
  | 182 => (some Jvm.ClassFile.FieldType.int)
  | 183 => (some Jvm.ClassFile.FieldType.int)
  | 184 => (some Jvm.ClassFile.FieldType.int)
  | 185 => (some Jvm.ClassFile.FieldType.int)
  | 186 => (some Jvm.ClassFile.FieldType.int)
  | 187 => (some Jvm.ClassFile.FieldType.int)
  | 188 => (some Jvm.ClassFile.FieldType.int)
  | 189 => (some Jvm.ClassFile.FieldType.int)
  | 190 => (some Jvm.ClassFile.FieldType.int)
  | 191 => (some Jvm.ClassFile.FieldType.int)
  | 192 => (some Jvm.ClassFile.FieldType.int)
  | 193 => (some Jvm.ClassFile.FieldType.int)
  | 194 => (some Jvm.ClassFile.FieldType.int)
  | 195 => (some Jvm.ClassFile.FieldType.int)
  | 196 => (some Jvm.ClassFile.FieldType.int)
  | 197 => (some Jvm.ClassFile.FieldType.int)
  | 198 => (some Jvm.ClassFile.FieldType.int)
  | 199 => (some Jvm.ClassFile.FieldType.int)
  | 200 => (some Jvm.ClassFile.FieldType.int)
  | 201 => (some Jvm.ClassFile.FieldType.int)
  | 202 => (some Jvm.ClassFile.FieldType.int)
  | 203 => (some Jvm.ClassFile.FieldType.int)
  | 204 => (some Jvm.ClassFile.FieldType.int)
  | 205 => (some Jvm.ClassFile.FieldType.int)
  | 206 => (some Jvm.ClassFile.FieldType.int)
  | 207 => (some Jvm.ClassFile.FieldType.int)
  | 208 => (some Jvm.ClassFile.FieldType.int)
  | 209 => (some Jvm.ClassFile.FieldType.int)
  | 210 => (some Jvm.ClassFile.FieldType.int)
  | 211 => (some Jvm.ClassFile.FieldType.int)
  | 212 => (some .boolean)
  | 213 => (some Jvm.ClassFile.FieldType.int)
  | 214 => (some Jvm.ClassFile.FieldType.int)
  | 215 => (some Jvm.ClassFile.FieldType.int)
  | 216 => none
  | 217 => (some (Jvm.ClassFile.FieldType.array Jvm.ClassFile.FieldType.int))
  | _ => none
def mC : Nat → Nat := fun i => match i with
  | 0 => 1
  | 1 => 1
  | 2 => 1
  | 3 => 1
  | 4 => 1
  | 5 => 1
  | 6 => 1
  | 7 => 1
  | 8 => 1
  | 9 => 1
  | 10 => 1
  | 11 => 1
  | 12 => 1
  | 13 => 1
  | 14 => 1
  | 15 => 1
  | 16 => 1
  | 17 => 1
  | 18 => 1
  | 19 => 1
  | 20 => 1
  | 21 => 1
  | 22 => 1
  | 23 => 1
  | 24 => 1
  | 25 => 1
  | 26 => 1
  | 27 => 1
  | 28 => 1
  | 29 => 1
  | 30 => 1
  | 31 => 1
  | 32 => 1
  | 33 => 1
  | 34 => 1
  | 35 => 1
  | 36 => 1
  | 37 => 1
  | 38 => 1
  | 39 => 1
  | 40 => 1
  | 41 => 1
  | 42 => 1
  | 43 => 1
  | 44 => 1
  | 45 => 1
  | 46 => 1
  | 47 => 1
  | 48 => 1
  | 49 => 2
  | 50 => 2
  | 51 => 2
  | 52 => 2
  | 53 => 2
  | 54 => 2
  | 55 => 2
  | 56 => 2
  | 57 => 2
  | 58 => 2
  | 59 => 2
  | 60 => 2
  | 61 => 2
  | 62 => 2
  | 63 => 2
  | 64 => 2
  | 65 => 2
  | 66 => 2
  | 67 => 2
  | 68 => 2
  | 69 => 2
  | 70 => 2
  | 71 => 2
  | 72 => 2
  | 73 => 2
  | 74 => 2
  | 75 => 2
  | 76 => 2
  | 77 => 2
  | 78 => 2
  | 79 => 2
  | 80 => 2
  | 81 => 2
  | 82 => 2
  | 83 => 2
  | 84 => 2
  | 85 => 2
  | 86 => 2
  | 87 => 2
  | 88 => 2
  | 89 => 2
  | 90 => 2
  | 91 => 2
  | 92 => 2
  | 93 => 2
  | 94 => 2
  | 95 => 2
  | 96 => 2
  | 97 => 2
  | 98 => 2
  | 99 => 2
  | 100 => 2
  | 101 => 2
  | 102 => 2
  | 103 => 2
  | 104 => 2
  | 105 => 2
  | 106 => 2
  | 107 => 2
  | 108 => 2
  | 109 => 2
  | 110 => 2
  | 111 => 2
  | 112 => 2
  | 113 => 2
  | 114 => 2
  | 115 => 2
  | 116 => 2
  | 117 => 2
  | 118 => 3
  | 119 => 3
  | 120 => 3
  | 121 => 3
  | 122 => 3
  | 123 => 3
  | 124 => 3
  | 125 => 3
  | 126 => 4
  | 127 => 4
  | 128 => 4
  | 129 => 4
  | 130 => 4
  | 131 => 5
  | 132 => 5
  | 133 => 6
  | 134 => 6
  | 135 => 6
  | 136 => 6
  | 137 => 6
  | 138 => 6
  | 139 => 7
  | 140 => 7
  | 141 => 8
  | 142 => 8
  | 143 => 8
  | 144 => 8
  | 145 => 8
  | 146 => 8
  | 147 => 8
  | 148 => 8
  | 149 => 8
  | 150 => 8
  | 151 => 8
  | 152 => 8
  | 153 => 8
  | 154 => 8
  | 155 => 8
  | 156 => 9
  | 157 => 10
  | 158 => 10
  | 159 => 10
  | 160 => 10
  | 161 => 10
  | 162 => 11
  | 163 => 11
  | 164 => 11
  | 165 => 11
  | 166 => 11
  | 167 => 11
  | 168 => 11
  | 169 => 11
  | 170 => 11
  | 171 => 11
  | 172 => 11
  | 173 => 12
  | 174 => 12
  | 175 => 12
  | 176 => 13
  | 177 => 13
  | 178 => 13
  | 179 => 13
  | 180 => 13
  | 181 => 0
  | 182 => 0
  | 183 => 0
  | 184 => 0
  | 185 => 0
  | 186 => 0
  | 187 => 0
  | 188 => 0
  | 189 => 0
  | 190 => 0
  | 191 => 0
  | 192 => 0
  | 193 => 0
  | 194 => 0
  | 195 => 0
  | 196 => 0
  | 197 => 0
  | 198 => 0
  | 199 => 0
  | 200 => 0
  | 201 => 0
  | 202 => 0
  | 203 => 0
  | 204 => 0
  | 205 => 0
  | 206 => 0
  | 207 => 0
  | 208 => 0
  | 209 => 0
  | 210 => 0
  | 211 => 0
  | 212 => 0
  | 213 => 0
  | 214 => 0
  | 215 => 0
  | 216 => 0
  | 217 => 0
  | _ => 0
def mF : Nat → Nat := fun i => match i with
  | 0 => 3
  | 1 => 0
  | 2 => 0
  | 3 => 0
  | 4 => 2
  | 5 => 9
  | 6 => 0
  | 7 => 8
  | 8 => 7
  | 9 => 6
  | 10 => 1
  | 11 => 0
  | 12 => 5
  | 13 => 7
  | 14 => 6
  | 15 => 6
  | 16 => 8
  | 17 => 7
  | 18 => 8
  | 19 => 7
  | 20 => 7
  | 21 => 7
  | 22 => 8
  | 23 => 8
  | 24 => 8
  | 25 => 8
  | 26 => 8
  | 27 => 8
  | 28 => 8
  | 29 => 7
  | 30 => 8
  | 31 => 8
  | 32 => 8
  | 33 => 6
  | 34 => 8
  | 35 => 8
  | 36 => 8
  | 37 => 8
  | 38 => 8
  | 39 => 8
  | 40 => 8
  | 41 => 7
  | 42 => 8
  | 43 => 8
  | 44 => 8
  | 45 => 7
  | 46 => 7
  | 47 => 7
  | 48 => 8
  | 49 => 1
  | 50 => 0
  | 51 => 1
  | 52 => 0
  | 53 => 0
  | 54 => 2
  | 55 => 1
  | 56 => 2
  | 57 => 1
  | 58 => 2
  | 59 => 0
  | 60 => 1
  | 61 => 2
  | 62 => 2
  | 63 => 2
  | 64 => 1
  | 65 => 1
  | 66 => 0
  | 67 => 1
  | 68 => 2
  | 69 => 2
  | 70 => 2
  | 71 => 3
  | 72 => 2
  | 73 => 3
  | 74 => 4
  | 75 => 3
  | 76 => 1
  | 77 => 1
  | 78 => 4
  | 79 => 4
  | 80 => 6
  | 81 => 2
  | 82 => 5
  | 83 => 4
  | 84 => 0
  | 85 => 1
  | 86 => 3
  | 87 => 0
  | 88 => 5
  | 89 => 6
  | 90 => 5
  | 91 => 5
  | 92 => 4
  | 93 => 3
  | 94 => 1
  | 95 => 2
  | 96 => 5
  | 97 => 4
  | 98 => 3
  | 99 => 0
  | 100 => 6
  | 101 => 3
  | 102 => 0
  | 103 => 1
  | 104 => 1
  | 105 => 2
  | 106 => 1
  | 107 => 2
  | 108 => 2
  | 109 => 2
  | 110 => 1
  | 111 => 1
  | 112 => 0
  | 113 => 4
  | 114 => 3
  | 115 => 6
  | 116 => 0
  | 117 => 4
  | 118 => 1
  | 119 => 3
  | 120 => 2
  | 121 => 1
  | 122 => 0
  | 123 => 1
  | 124 => 0
  | 125 => 1
  | 126 => 1
  | 127 => 5
  | 128 => 0
  | 129 => 0
  | 130 => 0
  | 131 => 2
  | 132 => 1
  | 133 => 2
  | 134 => 7
  | 135 => 4
  | 136 => 4
  | 137 => 6
  | 138 => 5
  | 139 => 1
  | 140 => 0
  | 141 => 1
  | 142 => 1
  | 143 => 0
  | 144 => 0
  | 145 => 0
  | 146 => 4
  | 147 => 0
  | 148 => 5
  | 149 => 0
  | 150 => 4
  | 151 => 0
  | 152 => 0
  | 153 => 3
  | 154 => 0
  | 155 => 1
  | 156 => 1
  | 157 => 1
  | 158 => 3
  | 159 => 0
  | 160 => 2
  | 161 => 3
  | 162 => 1
  | 163 => 5
  | 164 => 1
  | 165 => 2
  | 166 => 1
  | 167 => 1
  | 168 => 0
  | 169 => 1
  | 170 => 1
  | 171 => 0
  | 172 => 0
  | 173 => 1
  | 174 => 4
  | 175 => 3
  | 176 => 3
  | 177 => 2
  | 178 => 1
  | 179 => 0
  | 180 => 0
  | 181 => 8
  | 182 => 9
  | 183 => 9
  | 184 => 8
  | 185 => 8
  | 186 => 8
  | 187 => 9
  | 188 => 9
  | 189 => 9
  | 190 => 9
  | 191 => 9
  | 192 => 9
  | 193 => 9
  | 194 => 9
  | 195 => 9
  | 196 => 9
  | 197 => 9
  | 198 => 9
  | 199 => 9
  | 200 => 9
  | 201 => 9
  | 202 => 9
  | 203 => 9
  | 204 => 9
  | 205 => 9
  | 206 => 9
  | 207 => 9
  | 208 => 8
  | 209 => 8
  | 210 => 8
  | 211 => 9
  | 212 => 10
  | 213 => 0
  | 214 => 0
  | 215 => 0
  | 216 => 0
  | 217 => 1
  | _ => 0
def mK : Nat → Nat := fun i => match i with
  | 0 => 53
  | 1 => 0
  | 2 => 0
  | 3 => 0
  | 4 => 40
  | 5 => 204
  | 6 => 0
  | 7 => 182
  | 8 => 161
  | 9 => 140
  | 10 => 22
  | 11 => 0
  | 12 => 110
  | 13 => 160
  | 14 => 140
  | 15 => 140
  | 16 => 182
  | 17 => 161
  | 18 => 182
  | 19 => 160
  | 20 => 161
  | 21 => 161
  | 22 => 182
  | 23 => 182
  | 24 => 182
  | 25 => 182
  | 26 => 182
  | 27 => 182
  | 28 => 182
  | 29 => 160
  | 30 => 182
  | 31 => 182
  | 32 => 182
  | 33 => 144
  | 34 => 182
  | 35 => 182
  | 36 => 237
  | 37 => 182
  | 38 => 182
  | 39 => 182
  | 40 => 182
  | 41 => 161
  | 42 => 182
  | 43 => 182
  | 44 => 182
  | 45 => 160
  | 46 => 160
  | 47 => 160
  | 48 => 182
  | 49 => 12
  | 50 => 0
  | 51 => 22
  | 52 => 0
  | 53 => 0
  | 54 => 43
  | 55 => 22
  | 56 => 43
  | 57 => 22
  | 58 => 44
  | 59 => 0
  | 60 => 22
  | 61 => 44
  | 62 => 43
  | 63 => 43
  | 64 => 22
  | 65 => 21
  | 66 => 0
  | 67 => 21
  | 68 => 43
  | 69 => 43
  | 70 => 43
  | 71 => 66
  | 72 => 44
  | 73 => 66
  | 74 => 99
  | 75 => 66
  | 76 => 21
  | 77 => 21
  | 78 => 99
  | 79 => 99
  | 80 => 149
  | 81 => 43
  | 82 => 126
  | 83 => 97
  | 84 => 0
  | 85 => 21
  | 86 => 66
  | 87 => 0
  | 88 => 126
  | 89 => 151
  | 90 => 126
  | 91 => 126
  | 92 => 151
  | 93 => 114
  | 94 => 59
  | 95 => 86
  | 96 => 128
  | 97 => 98
  | 98 => 66
  | 99 => 0
  | 100 => 151
  | 101 => 66
  | 102 => 0
  | 103 => 21
  | 104 => 21
  | 105 => 44
  | 106 => 22
  | 107 => 44
  | 108 => 44
  | 109 => 44
  | 110 => 21
  | 111 => 22
  | 112 => 0
  | 113 => 92
  | 114 => 66
  | 115 => 149
  | 116 => 0
  | 117 => 92
  | 118 => 12
  | 119 => 70
  | 120 => 46
  | 121 => 22
  | 122 => 0
  | 123 => 29
  | 124 => 0
  | 125 => 22
  | 126 => 12
  | 127 => 117
  | 128 => 0
  | 129 => 0
  | 130 => 0
  | 131 => 42
  | 132 => 12
  | 133 => 32
  | 134 => 208
  | 135 => 126
  | 136 => 123
  | 137 => 180
  | 138 => 155
  | 139 => 12
  | 140 => 0
  | 141 => 12
  | 142 => 20
  | 143 => 0
  | 144 => 0
  | 145 => 0
  | 146 => 84
  | 147 => 0
  | 148 => 121
  | 149 => 0
  | 150 => 90
  | 151 => 0
  | 152 => 0
  | 153 => 63
  | 154 => 0
  | 155 => 23
  | 156 => 12
  | 157 => 12
  | 158 => 102
  | 159 => 0
  | 160 => 81
  | 161 => 102
  | 162 => 12
  | 163 => 117
  | 164 => 23
  | 165 => 46
  | 166 => 21
  | 167 => 28
  | 168 => 0
  | 169 => 21
  | 170 => 22
  | 171 => 0
  | 172 => 0
  | 173 => 12
  | 174 => 89
  | 175 => 63
  | 176 => 63
  | 177 => 42
  | 178 => 12
  | 179 => 0
  | 180 => 0
  | 181 => 181
  | 182 => 205
  | 183 => 205
  | 184 => 183
  | 185 => 186
  | 186 => 183
  | 187 => 207
  | 188 => 207
  | 189 => 203
  | 190 => 204
  | 191 => 206
  | 192 => 205
  | 193 => 204
  | 194 => 204
  | 195 => 205
  | 196 => 205
  | 197 => 205
  | 198 => 206
  | 199 => 205
  | 200 => 262
  | 201 => 208
  | 202 => 207
  | 203 => 206
  | 204 => 203
  | 205 => 203
  | 206 => 203
  | 207 => 203
  | 208 => 180
  | 209 => 180
  | 210 => 180
  | 211 => 208
  | 212 => 288
  | 213 => 0
  | 214 => 0
  | 215 => 0
  | 216 => 0
  | 217 => 59
  | _ => 0
def mX : Nat → List ExceptionTableEntry := fun i => match i with
  | 181 => tableOf [((0 : Nat), (9 : Nat), (12 : Nat), (13 : Nat)), ((0 : Nat), (9 : Nat), (15 : Nat), (15 : Nat))]
  | 182 => tableOf [((0 : Nat), (10 : Nat), (13 : Nat), (21 : Nat)), ((0 : Nat), (10 : Nat), (17 : Nat), (13 : Nat))]
  | 183 => tableOf [((0 : Nat), (12 : Nat), (15 : Nat), (21 : Nat)), ((0 : Nat), (12 : Nat), (19 : Nat), (13 : Nat)), ((0 : Nat), (12 : Nat), (23 : Nat), (15 : Nat))]
  | 184 => tableOf [((0 : Nat), (12 : Nat), (15 : Nat), (13 : Nat)), ((0 : Nat), (12 : Nat), (19 : Nat), (15 : Nat))]
  | 185 => tableOf [((0 : Nat), (19 : Nat), (22 : Nat), (21 : Nat)), ((0 : Nat), (19 : Nat), (26 : Nat), (13 : Nat))]
  | 186 => tableOf [((0 : Nat), (17 : Nat), (20 : Nat), (21 : Nat))]
  | 187 => tableOf [((0 : Nat), (14 : Nat), (17 : Nat), (21 : Nat)), ((0 : Nat), (14 : Nat), (21 : Nat), (13 : Nat)), ((0 : Nat), (14 : Nat), (25 : Nat), (15 : Nat))]
  | 188 => tableOf [((0 : Nat), (14 : Nat), (17 : Nat), (21 : Nat)), ((0 : Nat), (14 : Nat), (21 : Nat), (13 : Nat)), ((0 : Nat), (14 : Nat), (25 : Nat), (15 : Nat))]
  | 189 => tableOf [((0 : Nat), (9 : Nat), (12 : Nat), (21 : Nat))]
  | 190 => tableOf [((0 : Nat), (10 : Nat), (13 : Nat), (21 : Nat))]
  | 191 => tableOf [((0 : Nat), (12 : Nat), (15 : Nat), (21 : Nat)), ((0 : Nat), (12 : Nat), (19 : Nat), (13 : Nat))]
  | 192 => tableOf [((0 : Nat), (17 : Nat), (20 : Nat), (21 : Nat)), ((0 : Nat), (17 : Nat), (24 : Nat), (13 : Nat))]
  | 193 => tableOf [((0 : Nat), (10 : Nat), (13 : Nat), (21 : Nat))]
  | 194 => tableOf [((0 : Nat), (10 : Nat), (13 : Nat), (21 : Nat)), ((0 : Nat), (10 : Nat), (17 : Nat), (13 : Nat))]
  | 195 => tableOf [((0 : Nat), (12 : Nat), (15 : Nat), (21 : Nat)), ((0 : Nat), (12 : Nat), (19 : Nat), (13 : Nat))]
  | 196 => tableOf [((0 : Nat), (12 : Nat), (15 : Nat), (21 : Nat)), ((0 : Nat), (12 : Nat), (19 : Nat), (13 : Nat))]
  | 197 => tableOf [((0 : Nat), (12 : Nat), (15 : Nat), (21 : Nat)), ((0 : Nat), (12 : Nat), (19 : Nat), (13 : Nat))]
  | 198 => tableOf [((0 : Nat), (14 : Nat), (17 : Nat), (21 : Nat)), ((0 : Nat), (14 : Nat), (21 : Nat), (13 : Nat))]
  | 199 => tableOf [((0 : Nat), (12 : Nat), (15 : Nat), (21 : Nat)), ((0 : Nat), (12 : Nat), (19 : Nat), (13 : Nat))]
  | 200 => tableOf [((0 : Nat), (14 : Nat), (17 : Nat), (21 : Nat)), ((0 : Nat), (14 : Nat), (21 : Nat), (13 : Nat))]
  | 201 => tableOf [((0 : Nat), (12 : Nat), (15 : Nat), (21 : Nat)), ((0 : Nat), (12 : Nat), (19 : Nat), (13 : Nat))]
  | 202 => tableOf [((0 : Nat), (12 : Nat), (15 : Nat), (21 : Nat)), ((0 : Nat), (12 : Nat), (19 : Nat), (13 : Nat))]
  | 203 => tableOf [((0 : Nat), (12 : Nat), (15 : Nat), (21 : Nat)), ((0 : Nat), (12 : Nat), (19 : Nat), (13 : Nat))]
  | 204 => tableOf [((0 : Nat), (9 : Nat), (12 : Nat), (15 : Nat)), ((0 : Nat), (9 : Nat), (15 : Nat), (21 : Nat))]
  | 205 => tableOf [((0 : Nat), (9 : Nat), (12 : Nat), (15 : Nat)), ((0 : Nat), (9 : Nat), (15 : Nat), (21 : Nat))]
  | 206 => tableOf [((0 : Nat), (9 : Nat), (12 : Nat), (15 : Nat)), ((0 : Nat), (9 : Nat), (15 : Nat), (21 : Nat))]
  | 207 => tableOf [((0 : Nat), (9 : Nat), (12 : Nat), (15 : Nat)), ((0 : Nat), (9 : Nat), (15 : Nat), (21 : Nat))]
  | 208 => tableOf [((0 : Nat), (8 : Nat), (11 : Nat), (15 : Nat))]
  | 209 => tableOf [((0 : Nat), (8 : Nat), (11 : Nat), (15 : Nat))]
  | 210 => tableOf [((0 : Nat), (15 : Nat), (18 : Nat), (15 : Nat))]
  | 211 => tableOf [((0 : Nat), (12 : Nat), (15 : Nat), (15 : Nat)), ((0 : Nat), (12 : Nat), (19 : Nat), (21 : Nat)), ((0 : Nat), (12 : Nat), (23 : Nat), (13 : Nat))]
  | _ => []
/-- a method's own word -/
def cdP (i : Nat) : Prop := okw (.code (mY i) (mB i) (mL i) (mR i)) ∧ plainFor (mY i) = true ∧ ((mY i).cls ≠ "java/lang/invoke/MethodHandle" ∧ (mY i).cls ≠ "java/lang/invoke/VarHandle") ∧ okw (.initialized (mY i).cls)
/-- a call of method j at the pool's place idx out of method i, n arguments -/
def cvP (i idx j n : Nat) : Prop := cdP j ∧ okw (.methodLink (mY i).cls idx (mY j)) ∧ okw (.instanceMethod (mY j)) ∧ okw (.selects (mY j).cls (mY j) (mY j)) ∧ (parseMethodDescriptor (mY j).desc).map (fun d => d.parameters.length) = some n ∧ (mF j + 1 ≤ mF i ∧ 8 + (mL j + 11) + mK j ≤ mK i)
def csP (i idx j n : Nat) : Prop := cdP j ∧ okw (.methodLink (mY i).cls idx (mY j)) ∧ okw (.static (mY j)) ∧ (parseMethodDescriptor (mY j).desc).map (fun d => d.parameters.length) = some n ∧ (mF j + 1 ≤ mF i ∧ 8 + (mL j + 11) + mK j ≤ mK i)
def csnP (i idx j n : Nat) : Prop := cdP j ∧ (∃ h, okw (.methodLinkNest (mY i).cls idx (mY j) h)) ∧ okw (.static (mY j)) ∧ (parseMethodDescriptor (mY j).desc).map (fun d => d.parameters.length) = some n ∧ (mF j + 1 ≤ mF i ∧ 8 + (mL j + 11) + mK j ≤ mK i)
def ciP (i idx j n : Nat) : Prop := cdP j ∧ okw (.methodLink (mY i).cls idx (mY j)) ∧ okw (.instanceMethod (mY j)) ∧ (mY j).name = "<init>" ∧ (parseMethodDescriptor (mY j).desc).map (fun d => d.parameters.length) = some n ∧ (mF j + 1 ≤ mF i ∧ 8 + (mL j + 11) + mK j ≤ mK i)
def cinP (i idx j n : Nat) : Prop := cdP j ∧ (∃ h, okw (.methodLinkNest (mY i).cls idx (mY j) h)) ∧ okw (.instanceMethod (mY j)) ∧ (mY j).name = "<init>" ∧ (parseMethodDescriptor (mY j).desc).map (fun d => d.parameters.length) = some n ∧ (mF j + 1 ≤ mF i ∧ 8 + (mL j + 11) + mK j ≤ mK i)
/-- the field k of class ci at the pool's place idx of the class own -/
def flP (own : String) (idx ci k : Nat) : Prop := ∃ q : vw_C, CL[ci]? = some q ∧ k < q.2.2 ∧ okw (.fieldLink own idx q.1 (q.2.1 k).2.1 (q.2.1 k).2.2.1)
end
section
set_option maxRecDepth 100000 in
theorem cd_0 : cdP 0 := ⟨okr (k := 84) rfl (by decide +kernel), by decide +kernel, by decide +kernel, okk_w (k := 58) (by decide +kernel)⟩
set_option maxRecDepth 100000 in
theorem cd_9 : cdP 9 := ⟨okr (k := 409) rfl (by decide +kernel), by decide +kernel, by decide +kernel, okk_w (k := 58) (by decide +kernel)⟩
set_option maxRecDepth 100000 in
theorem cd_10 : cdP 10 := ⟨okr (k := 484) rfl (by decide +kernel), by decide +kernel, by decide +kernel, okk_w (k := 58) (by decide +kernel)⟩
set_option maxRecDepth 100000 in
theorem cd_11 : cdP 11 := ⟨okr (k := 487) rfl (by decide +kernel), by decide +kernel, by decide +kernel, okk_w (k := 58) (by decide +kernel)⟩
set_option maxRecDepth 100000 in
theorem cd_13 : cdP 13 := ⟨okr (k := 521) rfl (by decide +kernel), by decide +kernel, by decide +kernel, okk_w (k := 58) (by decide +kernel)⟩
set_option maxRecDepth 100000 in
theorem cd_14 : cdP 14 := ⟨okr (k := 524) rfl (by decide +kernel), by decide +kernel, by decide +kernel, okk_w (k := 58) (by decide +kernel)⟩
set_option maxRecDepth 100000 in
theorem cd_15 : cdP 15 := ⟨okr (k := 543) rfl (by decide +kernel), by decide +kernel, by decide +kernel, okk_w (k := 58) (by decide +kernel)⟩
set_option maxRecDepth 100000 in
theorem cd_17 : cdP 17 := ⟨okr (k := 571) rfl (by decide +kernel), by decide +kernel, by decide +kernel, okk_w (k := 58) (by decide +kernel)⟩
set_option maxRecDepth 100000 in
theorem cd_29 : cdP 29 := ⟨okr (k := 769) rfl (by decide +kernel), by decide +kernel, by decide +kernel, okk_w (k := 58) (by decide +kernel)⟩
set_option maxRecDepth 100000 in
theorem cd_37 : cdP 37 := ⟨okr (k := 975) rfl (by decide +kernel), by decide +kernel, by decide +kernel, okk_w (k := 58) (by decide +kernel)⟩
set_option maxRecDepth 100000 in
theorem cd_49 : cdP 49 := ⟨okr (k := 1128) rfl (by decide +kernel), by decide +kernel, by decide +kernel, okk_w (k := 67) (by decide +kernel)⟩
set_option maxRecDepth 100000 in
theorem cd_50 : cdP 50 := ⟨okr (k := 1252) rfl (by decide +kernel), by decide +kernel, by decide +kernel, okk_w (k := 67) (by decide +kernel)⟩
set_option maxRecDepth 100000 in
theorem cd_51 : cdP 51 := ⟨okr (k := 1256) rfl (by decide +kernel), by decide +kernel, by decide +kernel, okk_w (k := 67) (by decide +kernel)⟩
set_option maxRecDepth 100000 in
theorem cd_52 : cdP 52 := ⟨okr (k := 1259) rfl (by decide +kernel), by decide +kernel, by decide +kernel, okk_w (k := 67) (by decide +kernel)⟩
set_option maxRecDepth 100000 in
theorem cd_53 : cdP 53 := ⟨okr (k := 1263) rfl (by decide +kernel), by decide +kernel, by decide +kernel, okk_w (k := 67) (by decide +kernel)⟩
set_option maxRecDepth 100000 in
theorem cd_55 : cdP 55 := ⟨okr (k := 1271) rfl (by decide +kernel), by decide +kernel, by decide +kernel, okk_w (k := 67) (by decide +kernel)⟩
set_option maxRecDepth 100000 in
theorem cd_60 : cdP 60 := ⟨okr (k := 1291) rfl (by decide +kernel), by decide +kernel, by decide +kernel, okk_w (k := 67) (by decide +kernel)⟩
set_option maxRecDepth 100000 in
theorem cd_72 : cdP 72 := ⟨okr (k := 1339) rfl (by decide +kernel), by decide +kernel, by decide +kernel, okk_w (k := 67) (by decide +kernel)⟩
set_option maxRecDepth 100000 in
theorem cd_76 : cdP 76 := ⟨okr (k := 1355) rfl (by decide +kernel), by decide +kernel, by decide +kernel, okk_w (k := 67) (by decide +kernel)⟩
set_option maxRecDepth 100000 in
theorem cd_77 : cdP 77 := ⟨okr (k := 1359) rfl (by decide +kernel), by decide +kernel, by decide +kernel, okk_w (k := 67) (by decide +kernel)⟩
set_option maxRecDepth 100000 in
theorem cd_81 : cdP 81 := ⟨okr (k := 1376) rfl (by decide +kernel), by decide +kernel, by decide +kernel, okk_w (k := 67) (by decide +kernel)⟩
set_option maxRecDepth 100000 in
theorem cd_84 : cdP 84 := ⟨okr (k := 1389) rfl (by decide +kernel), by decide +kernel, by decide +kernel, okk_w (k := 67) (by decide +kernel)⟩
set_option maxRecDepth 100000 in
theorem cd_96 : cdP 96 := ⟨okr (k := 1437) rfl (by decide +kernel), by decide +kernel, by decide +kernel, okk_w (k := 67) (by decide +kernel)⟩
set_option maxRecDepth 100000 in
theorem cd_97 : cdP 97 := ⟨okr (k := 1441) rfl (by decide +kernel), by decide +kernel, by decide +kernel, okk_w (k := 67) (by decide +kernel)⟩
set_option maxRecDepth 100000 in
theorem cd_98 : cdP 98 := ⟨okr (k := 1445) rfl (by decide +kernel), by decide +kernel, by decide +kernel, okk_w (k := 67) (by decide +kernel)⟩
set_option maxRecDepth 100000 in
theorem cd_99 : cdP 99 := ⟨okr (k := 1450) rfl (by decide +kernel), by decide +kernel, by decide +kernel, okk_w (k := 67) (by decide +kernel)⟩
set_option maxRecDepth 100000 in
theorem cd_118 : cdP 118 := ⟨okr (k := 223) rfl (by decide +kernel), by decide +kernel, by decide +kernel, okk_w (k := 63) (by decide +kernel)⟩
set_option maxRecDepth 100000 in
theorem cd_119 : cdP 119 := ⟨okr (k := 979) rfl (by decide +kernel), by decide +kernel, by decide +kernel, okk_w (k := 63) (by decide +kernel)⟩
set_option maxRecDepth 100000 in
theorem cd_120 : cdP 120 := ⟨okr (k := 985) rfl (by decide +kernel), by decide +kernel, by decide +kernel, okk_w (k := 63) (by decide +kernel)⟩
set_option maxRecDepth 100000 in
theorem cd_121 : cdP 121 := ⟨okr (k := 989) rfl (by decide +kernel), by decide +kernel, by decide +kernel, okk_w (k := 63) (by decide +kernel)⟩
set_option maxRecDepth 100000 in
theorem cd_122 : cdP 122 := ⟨okr (k := 993) rfl (by decide +kernel), by decide +kernel, by decide +kernel, okk_w (k := 63) (by decide +kernel)⟩
set_option maxRecDepth 100000 in
theorem cd_123 : cdP 123 := ⟨okr (k := 1000) rfl (by decide +kernel), by decide +kernel, by decide +kernel, okk_w (k := 63) (by decide +kernel)⟩
set_option maxRecDepth 100000 in
theorem cd_124 : cdP 124 := ⟨okr (k := 1004) rfl (by decide +kernel), by decide +kernel, by decide +kernel, okk_w (k := 63) (by decide +kernel)⟩
set_option maxRecDepth 100000 in
theorem cd_125 : cdP 125 := ⟨okr (k := 1008) rfl (by decide +kernel), by decide +kernel, by decide +kernel, okk_w (k := 63) (by decide +kernel)⟩
set_option maxRecDepth 100000 in
theorem cd_126 : cdP 126 := ⟨okr (k := 187) rfl (by decide +kernel), by decide +kernel, by decide +kernel, okk_w (k := 61) (by decide +kernel)⟩
set_option maxRecDepth 100000 in
theorem cd_131 : cdP 131 := ⟨okr (k := 491) rfl (by decide +kernel), by decide +kernel, by decide +kernel, okk_w (k := 75) (by decide +kernel)⟩
set_option maxRecDepth 100000 in
theorem cd_133 : cdP 133 := ⟨okr (k := 244) rfl (by decide +kernel), by decide +kernel, by decide +kernel, okk_w (k := 64) (by decide +kernel)⟩
set_option maxRecDepth 100000 in
theorem cd_140 : cdP 140 := ⟨okr (k := 950) rfl (by decide +kernel), by decide +kernel, by decide +kernel, okk_w (k := 74) (by decide +kernel)⟩
set_option maxRecDepth 100000 in
theorem cd_141 : cdP 141 := ⟨okr (k := 284) rfl (by decide +kernel), by decide +kernel, by decide +kernel, okk_w (k := 66) (by decide +kernel)⟩
set_option maxRecDepth 100000 in
theorem cd_156 : cdP 156 := ⟨okr (k := 92) rfl (by decide +kernel), by decide +kernel, by decide +kernel, okk_w (k := 59) (by decide +kernel)⟩
set_option maxRecDepth 100000 in
theorem cd_157 : cdP 157 := ⟨okr (k := 251) rfl (by decide +kernel), by decide +kernel, by decide +kernel, okk_w (k := 65) (by decide +kernel)⟩
set_option maxRecDepth 100000 in
theorem cd_162 : cdP 162 := ⟨okr (k := 202) rfl (by decide +kernel), by decide +kernel, by decide +kernel, okk_w (k := 62) (by decide +kernel)⟩
set_option maxRecDepth 100000 in
theorem cd_173 : cdP 173 := ⟨okr (k := 150) rfl (by decide +kernel), by decide +kernel, by decide +kernel, okk_w (k := 60) (by decide +kernel)⟩
set_option maxRecDepth 100000 in
theorem cd_174 : cdP 174 := ⟨okr (k := 778) rfl (by decide +kernel), by decide +kernel, by decide +kernel, okk_w (k := 60) (by decide +kernel)⟩
set_option maxRecDepth 100000 in
theorem cd_175 : cdP 175 := ⟨okr (k := 792) rfl (by decide +kernel), by decide +kernel, by decide +kernel, okk_w (k := 60) (by decide +kernel)⟩
set_option maxRecDepth 100000 in
theorem cd_176 : cdP 176 := ⟨okr (k := 481) rfl (by decide +kernel), by decide +kernel, by decide +kernel, okk_w (k := 76) (by decide +kernel)⟩
set_option maxRecDepth 100000 in
theorem cd_177 : cdP 177 := ⟨okr (k := 510) rfl (by decide +kernel), by decide +kernel, by decide +kernel, okk_w (k := 76) (by decide +kernel)⟩
set_option maxRecDepth 100000 in
theorem cd_180 : cdP 180 := ⟨okr (k := 727) rfl (by decide +kernel), by decide +kernel, by decide +kernel, okk_w (k := 76) (by decide +kernel)⟩
set_option maxRecDepth 100000 in
theorem cd_213 : cdP 213 := ⟨okr (k := 781) rfl (by decide +kernel), by decide +kernel, by decide +kernel, okk_w (k := 77) (by decide +kernel)⟩
set_option maxRecDepth 100000 in
theorem cd_214 : cdP 214 := ⟨okr (k := 784) rfl (by decide +kernel), by decide +kernel, by decide +kernel, okk_w (k := 77) (by decide +kernel)⟩
set_option maxRecDepth 100000 in
theorem cd_215 : cdP 215 := ⟨okr (k := 787) rfl (by decide +kernel), by decide +kernel, by decide +kernel, okk_w (k := 77) (by decide +kernel)⟩
set_option maxRecDepth 100000 in
theorem cd_216 : cdP 216 := ⟨okr (k := 850) rfl (by decide +kernel), by decide +kernel, by decide +kernel, okk_w (k := 78) (by decide +kernel)⟩
set_option maxRecDepth 100000 in
theorem oi_0 : okw (.methodLink "WhistleStop" 3 Lib.objectInit) := okk_w (k := 85) (by decide +kernel)
set_option maxRecDepth 100000 in
theorem cl_0_9 : okw (.classLink "WhistleStop" 9 "WhistleStop$Network") := okk_w (k := 88) (by decide +kernel)
set_option maxRecDepth 100000 in
theorem c_0_11 : cinP 0 11 156 0 := ⟨cd_156, ⟨"WhistleStop", okk_w (k := 90) (by decide +kernel)⟩, okk_w (k := 91) (by decide +kernel), by decide +kernel, by decide +kernel, by decide +kernel⟩
set_option maxRecDepth 100000 in
theorem fl_0_12 : flP "WhistleStop" 12 0 0 := ⟨_, rfl, by decide, okk_w (k := 340) (by decide +kernel)⟩
set_option maxRecDepth 100000 in
theorem cl_0_16 : okw (.classLink "WhistleStop" 16 "WhistleStop$Runs") := okk_w (k := 146) (by decide +kernel)
set_option maxRecDepth 100000 in
theorem c_0_18 : cinP 0 18 173 0 := ⟨cd_173, ⟨"WhistleStop", okk_w (k := 148) (by decide +kernel)⟩, okk_w (k := 149) (by decide +kernel), by decide +kernel, by decide +kernel, by decide +kernel⟩
set_option maxRecDepth 100000 in
theorem fl_0_19 : flP "WhistleStop" 19 0 1 := ⟨_, rfl, by decide, okk_w (k := 341) (by decide +kernel)⟩
set_option maxRecDepth 100000 in
theorem cl_0_23 : okw (.classLink "WhistleStop" 23 "WhistleStop$Board") := okk_w (k := 183) (by decide +kernel)
set_option maxRecDepth 100000 in
theorem c_0_25 : cinP 0 25 126 0 := ⟨cd_126, ⟨"WhistleStop", okk_w (k := 185) (by decide +kernel)⟩, okk_w (k := 186) (by decide +kernel), by decide +kernel, by decide +kernel, by decide +kernel⟩
set_option maxRecDepth 100000 in
theorem fl_0_26 : flP "WhistleStop" 26 0 2 := ⟨_, rfl, by decide, okk_w (k := 342) (by decide +kernel)⟩
set_option maxRecDepth 100000 in
theorem cl_0_30 : okw (.classLink "WhistleStop" 30 "WhistleStop$Onward") := okk_w (k := 198) (by decide +kernel)
set_option maxRecDepth 100000 in
theorem c_0_32 : cinP 0 32 162 0 := ⟨cd_162, ⟨"WhistleStop", okk_w (k := 200) (by decide +kernel)⟩, okk_w (k := 201) (by decide +kernel), by decide +kernel, by decide +kernel, by decide +kernel⟩
set_option maxRecDepth 100000 in
theorem fl_0_33 : flP "WhistleStop" 33 0 3 := ⟨_, rfl, by decide, okk_w (k := 343) (by decide +kernel)⟩
set_option maxRecDepth 100000 in
theorem cl_0_37 : okw (.classLink "WhistleStop" 37 "WhistleStop$Backward") := okk_w (k := 219) (by decide +kernel)
set_option maxRecDepth 100000 in
theorem c_0_39 : cinP 0 39 118 0 := ⟨cd_118, ⟨"WhistleStop", okk_w (k := 221) (by decide +kernel)⟩, okk_w (k := 222) (by decide +kernel), by decide +kernel, by decide +kernel, by decide +kernel⟩
set_option maxRecDepth 100000 in
theorem fl_0_40 : flP "WhistleStop" 40 0 4 := ⟨_, rfl, by decide, okk_w (k := 344) (by decide +kernel)⟩
set_option maxRecDepth 100000 in
theorem cl_0_44 : okw (.classLink "WhistleStop" 44 "WhistleStop$Fares") := okk_w (k := 240) (by decide +kernel)
set_option maxRecDepth 100000 in
theorem c_0_46 : ciP 0 46 133 0 := ⟨cd_133, okk_w (k := 242) (by decide +kernel), okk_w (k := 243) (by decide +kernel), by decide +kernel, by decide +kernel, by decide +kernel⟩
set_option maxRecDepth 100000 in
theorem fl_0_47 : flP "WhistleStop" 47 0 5 := ⟨_, rfl, by decide, okk_w (k := 345) (by decide +kernel)⟩
set_option maxRecDepth 100000 in
theorem cl_0_51 : okw (.classLink "WhistleStop" 51 "WhistleStop$Journey") := okk_w (k := 280) (by decide +kernel)
set_option maxRecDepth 100000 in
theorem c_0_53 : cinP 0 53 141 0 := ⟨cd_141, ⟨"WhistleStop", okk_w (k := 282) (by decide +kernel)⟩, okk_w (k := 283) (by decide +kernel), by decide +kernel, by decide +kernel, by decide +kernel⟩
set_option maxRecDepth 100000 in
theorem fl_0_54 : flP "WhistleStop" 54 0 6 := ⟨_, rfl, by decide, okk_w (k := 346) (by decide +kernel)⟩
set_option maxRecDepth 100000 in
theorem d_0_0 : decode (mB 0) 0 = .ok (.aload_n 0, 1) := by decide +kernel
set_option maxRecDepth 100000 in
theorem d_0_1 : decode (mB 0) 1 = .ok (.invokespecial 3, 3) := by decide +kernel
set_option maxRecDepth 100000 in
theorem d_0_4 : decode (mB 0) 4 = .ok (.aload_n 0, 1) := by decide +kernel
set_option maxRecDepth 100000 in
theorem d_0_5 : decode (mB 0) 5 = .ok (.new 9, 3) := by decide +kernel
set_option maxRecDepth 100000 in
theorem d_0_8 : decode (mB 0) 8 = .ok (.dup, 1) := by decide +kernel
set_option maxRecDepth 100000 in
theorem d_0_9 : decode (mB 0) 9 = .ok (.invokespecial 11, 3) := by decide +kernel
set_option maxRecDepth 100000 in
theorem d_0_12 : decode (mB 0) 12 = .ok (.putfield 12, 3) := by decide +kernel
set_option maxRecDepth 100000 in
theorem d_0_15 : decode (mB 0) 15 = .ok (.aload_n 0, 1) := by decide +kernel
set_option maxRecDepth 100000 in
theorem d_0_16 : decode (mB 0) 16 = .ok (.new 16, 3) := by decide +kernel
set_option maxRecDepth 100000 in
theorem d_0_19 : decode (mB 0) 19 = .ok (.dup, 1) := by decide +kernel
set_option maxRecDepth 100000 in
theorem d_0_20 : decode (mB 0) 20 = .ok (.invokespecial 18, 3) := by decide +kernel
set_option maxRecDepth 100000 in
theorem d_0_23 : decode (mB 0) 23 = .ok (.putfield 19, 3) := by decide +kernel
set_option maxRecDepth 100000 in
theorem d_0_26 : decode (mB 0) 26 = .ok (.aload_n 0, 1) := by decide +kernel
set_option maxRecDepth 100000 in
theorem d_0_27 : decode (mB 0) 27 = .ok (.new 23, 3) := by decide +kernel
set_option maxRecDepth 100000 in
theorem d_0_30 : decode (mB 0) 30 = .ok (.dup, 1) := by decide +kernel
set_option maxRecDepth 100000 in
theorem d_0_31 : decode (mB 0) 31 = .ok (.invokespecial 25, 3) := by decide +kernel
set_option maxRecDepth 100000 in
theorem d_0_34 : decode (mB 0) 34 = .ok (.putfield 26, 3) := by decide +kernel
set_option maxRecDepth 100000 in
theorem d_0_37 : decode (mB 0) 37 = .ok (.aload_n 0, 1) := by decide +kernel
set_option maxRecDepth 100000 in
theorem d_0_38 : decode (mB 0) 38 = .ok (.new 30, 3) := by decide +kernel
set_option maxRecDepth 100000 in
theorem d_0_41 : decode (mB 0) 41 = .ok (.dup, 1) := by decide +kernel
set_option maxRecDepth 100000 in
theorem d_0_42 : decode (mB 0) 42 = .ok (.invokespecial 32, 3) := by decide +kernel
set_option maxRecDepth 100000 in
theorem d_0_45 : decode (mB 0) 45 = .ok (.putfield 33, 3) := by decide +kernel
set_option maxRecDepth 100000 in
theorem d_0_48 : decode (mB 0) 48 = .ok (.aload_n 0, 1) := by decide +kernel
set_option maxRecDepth 100000 in
theorem d_0_49 : decode (mB 0) 49 = .ok (.new 37, 3) := by decide +kernel
set_option maxRecDepth 100000 in
theorem d_0_52 : decode (mB 0) 52 = .ok (.dup, 1) := by decide +kernel
set_option maxRecDepth 100000 in
theorem d_0_53 : decode (mB 0) 53 = .ok (.invokespecial 39, 3) := by decide +kernel
set_option maxRecDepth 100000 in
theorem d_0_56 : decode (mB 0) 56 = .ok (.putfield 40, 3) := by decide +kernel
set_option maxRecDepth 100000 in
theorem d_0_59 : decode (mB 0) 59 = .ok (.aload_n 0, 1) := by decide +kernel
set_option maxRecDepth 100000 in
theorem d_0_60 : decode (mB 0) 60 = .ok (.new 44, 3) := by decide +kernel
set_option maxRecDepth 100000 in
theorem d_0_63 : decode (mB 0) 63 = .ok (.dup, 1) := by decide +kernel
set_option maxRecDepth 100000 in
theorem d_0_64 : decode (mB 0) 64 = .ok (.invokespecial 46, 3) := by decide +kernel
set_option maxRecDepth 100000 in
theorem d_0_67 : decode (mB 0) 67 = .ok (.putfield 47, 3) := by decide +kernel
set_option maxRecDepth 100000 in
theorem d_0_70 : decode (mB 0) 70 = .ok (.aload_n 0, 1) := by decide +kernel
set_option maxRecDepth 100000 in
theorem d_0_71 : decode (mB 0) 71 = .ok (.new 51, 3) := by decide +kernel
set_option maxRecDepth 100000 in
theorem d_0_74 : decode (mB 0) 74 = .ok (.dup, 1) := by decide +kernel
set_option maxRecDepth 100000 in
theorem d_0_75 : decode (mB 0) 75 = .ok (.invokespecial 53, 3) := by decide +kernel
set_option maxRecDepth 100000 in
theorem d_0_78 : decode (mB 0) 78 = .ok (.putfield 54, 3) := by decide +kernel
set_option maxRecDepth 100000 in
theorem d_0_81 : decode (mB 0) 81 = .ok (.return_, 1) := by decide +kernel
set_option maxRecDepth 100000 in
theorem cl_0_277 : okw (.classLink "WhistleStop" 277 "java/lang/IndexOutOfBoundsException") := okk_w (k := 410) (by decide +kernel)
set_option maxRecDepth 100000 in
theorem d_9_0 : decode (mB 9) 0 = .ok (.iload_n 0, 1) := by decide +kernel
set_option maxRecDepth 100000 in
theorem d_9_1 : decode (mB 9) 1 = .ok (.ifCond .lt 8, 3) := by decide +kernel
set_option maxRecDepth 100000 in
theorem d_9_4 : decode (mB 9) 4 = .ok (.iload_n 0, 1) := by decide +kernel
set_option maxRecDepth 100000 in
theorem d_9_5 : decode (mB 9) 5 = .ok (.iload_n 1, 1) := by decide +kernel
set_option maxRecDepth 100000 in
theorem d_9_6 : decode (mB 9) 6 = .ok (.if_icmp .lt 14, 3) := by decide +kernel
set_option maxRecDepth 100000 in
theorem d_9_9 : decode (mB 9) 9 = .ok (.new 277, 3) := by decide +kernel
set_option maxRecDepth 100000 in
theorem d_9_12 : decode (mB 9) 12 = .ok (.dup, 1) := by decide +kernel
set_option maxRecDepth 100000 in
theorem d_9_13 : decode (mB 9) 13 = .ok (.ldc_w 279, 3) := by decide +kernel
set_option maxRecDepth 100000 in
theorem d_9_16 : decode (mB 9) 16 = .ok (.invokespecial 281, 3) := by decide +kernel
set_option maxRecDepth 100000 in
theorem d_9_19 : decode (mB 9) 19 = .ok (.athrow, 1) := by decide +kernel
set_option maxRecDepth 100000 in
theorem d_9_20 : decode (mB 9) 20 = .ok (.return_, 1) := by decide +kernel
set_option maxRecDepth 100000 in
theorem c_10_58 : csP 10 58 11 3 := ⟨cd_11, okk_w (k := 485) (by decide +kernel), okk_w (k := 486) (by decide +kernel), by decide +kernel, by decide +kernel⟩
set_option maxRecDepth 100000 in
theorem d_10_0 : decode (mB 10) 0 = .ok (.iload_n 0, 1) := by decide +kernel
set_option maxRecDepth 100000 in
theorem d_10_1 : decode (mB 10) 1 = .ok (.iconst 0, 1) := by decide +kernel
set_option maxRecDepth 100000 in
theorem d_10_2 : decode (mB 10) 2 = .ok (.sipush 365, 3) := by decide +kernel
set_option maxRecDepth 100000 in
theorem d_10_5 : decode (mB 10) 5 = .ok (.invokestatic 58, 3) := by decide +kernel
set_option maxRecDepth 100000 in
theorem d_10_8 : decode (mB 10) 8 = .ok (.ireturn, 1) := by decide +kernel
set_option maxRecDepth 100000 in
theorem d_11_0 : decode (mB 11) 0 = .ok (.iload_n 0, 1) := by decide +kernel
set_option maxRecDepth 100000 in
theorem d_11_1 : decode (mB 11) 1 = .ok (.iload_n 1, 1) := by decide +kernel
set_option maxRecDepth 100000 in
theorem d_11_2 : decode (mB 11) 2 = .ok (.if_icmp .lt 12, 3) := by decide +kernel
set_option maxRecDepth 100000 in
theorem d_11_5 : decode (mB 11) 5 = .ok (.iload_n 0, 1) := by decide +kernel
set_option maxRecDepth 100000 in
theorem d_11_6 : decode (mB 11) 6 = .ok (.iload_n 2, 1) := by decide +kernel
set_option maxRecDepth 100000 in
theorem d_11_7 : decode (mB 11) 7 = .ok (.if_icmp .gt 7, 3) := by decide +kernel
set_option maxRecDepth 100000 in
theorem d_11_10 : decode (mB 11) 10 = .ok (.iconst 1, 1) := by decide +kernel
set_option maxRecDepth 100000 in
theorem d_11_11 : decode (mB 11) 11 = .ok (.goto 4, 3) := by decide +kernel
set_option maxRecDepth 100000 in
theorem d_11_14 : decode (mB 11) 14 = .ok (.iconst 0, 1) := by decide +kernel
set_option maxRecDepth 100000 in
theorem d_11_15 : decode (mB 11) 15 = .ok (.ireturn, 1) := by decide +kernel
set_option maxRecDepth 100000 in
theorem c_13_58 : csP 13 58 11 3 := ⟨cd_11, okk_w (k := 485) (by decide +kernel), okk_w (k := 486) (by decide +kernel), by decide +kernel, by decide +kernel⟩
set_option maxRecDepth 100000 in
theorem c_13_62 : csP 13 62 14 1 := ⟨cd_14, okk_w (k := 522) (by decide +kernel), okk_w (k := 523) (by decide +kernel), by decide +kernel, by decide +kernel⟩
set_option maxRecDepth 100000 in
theorem fl_0_66 : flP "WhistleStop" 66 8 4 := ⟨_, rfl, by decide, okk_w (k := 117) (by decide +kernel)⟩
set_option maxRecDepth 100000 in
theorem c_13_70 : csP 13 70 15 1 := ⟨cd_15, okk_w (k := 541) (by decide +kernel), okk_w (k := 542) (by decide +kernel), by decide +kernel, by decide +kernel⟩
set_option maxRecDepth 100000 in
theorem fl_0_73 : flP "WhistleStop" 73 8 0 := ⟨_, rfl, by decide, okk_w (k := 101) (by decide +kernel)⟩
set_option maxRecDepth 100000 in
theorem d_13_0 : decode (mB 13) 0 = .ok (.iload_n 1, 1) := by decide +kernel
set_option maxRecDepth 100000 in
theorem d_13_1 : decode (mB 13) 1 = .ok (.iconst 0, 1) := by decide +kernel
set_option maxRecDepth 100000 in
theorem d_13_2 : decode (mB 13) 2 = .ok (.bipush 30, 2) := by decide +kernel
set_option maxRecDepth 100000 in
theorem d_13_4 : decode (mB 13) 4 = .ok (.invokestatic 58, 3) := by decide +kernel
set_option maxRecDepth 100000 in
theorem d_13_7 : decode (mB 13) 7 = .ok (.invokestatic 62, 3) := by decide +kernel
set_option maxRecDepth 100000 in
theorem d_13_10 : decode (mB 13) 10 = .ok (.aload_n 0, 1) := by decide +kernel
set_option maxRecDepth 100000 in
theorem d_13_11 : decode (mB 13) 11 = .ok (.getfield 12, 3) := by decide +kernel
set_option maxRecDepth 100000 in
theorem d_13_14 : decode (mB 13) 14 = .ok (.getfield 66, 3) := by decide +kernel
set_option maxRecDepth 100000 in
theorem d_13_17 : decode (mB 13) 17 = .ok (.bipush 16, 2) := by decide +kernel
set_option maxRecDepth 100000 in
theorem d_13_19 : decode (mB 13) 19 = .ok (.if_icmp .ge 7, 3) := by decide +kernel
set_option maxRecDepth 100000 in
theorem d_13_22 : decode (mB 13) 22 = .ok (.iconst 1, 1) := by decide +kernel
set_option maxRecDepth 100000 in
theorem d_13_23 : decode (mB 13) 23 = .ok (.goto 4, 3) := by decide +kernel
set_option maxRecDepth 100000 in
theorem d_13_26 : decode (mB 13) 26 = .ok (.iconst 0, 1) := by decide +kernel
set_option maxRecDepth 100000 in
theorem d_13_27 : decode (mB 13) 27 = .ok (.invokestatic 70, 3) := by decide +kernel
set_option maxRecDepth 100000 in
theorem d_13_30 : decode (mB 13) 30 = .ok (.aload_n 0, 1) := by decide +kernel
set_option maxRecDepth 100000 in
theorem d_13_31 : decode (mB 13) 31 = .ok (.getfield 12, 3) := by decide +kernel
set_option maxRecDepth 100000 in
theorem d_13_34 : decode (mB 13) 34 = .ok (.getfield 73, 3) := by decide +kernel
set_option maxRecDepth 100000 in
theorem d_13_37 : decode (mB 13) 37 = .ok (.aload_n 0, 1) := by decide +kernel
set_option maxRecDepth 100000 in
theorem d_13_38 : decode (mB 13) 38 = .ok (.getfield 12, 3) := by decide +kernel
set_option maxRecDepth 100000 in
theorem d_13_41 : decode (mB 13) 41 = .ok (.getfield 66, 3) := by decide +kernel
set_option maxRecDepth 100000 in
theorem d_13_44 : decode (mB 13) 44 = .ok (.iload_n 1, 1) := by decide +kernel
set_option maxRecDepth 100000 in
theorem d_13_45 : decode (mB 13) 45 = .ok (.iastore, 1) := by decide +kernel
set_option maxRecDepth 100000 in
theorem d_13_46 : decode (mB 13) 46 = .ok (.aload_n 0, 1) := by decide +kernel
set_option maxRecDepth 100000 in
theorem d_13_47 : decode (mB 13) 47 = .ok (.getfield 12, 3) := by decide +kernel
set_option maxRecDepth 100000 in
theorem d_13_50 : decode (mB 13) 50 = .ok (.dup, 1) := by decide +kernel
set_option maxRecDepth 100000 in
theorem d_13_51 : decode (mB 13) 51 = .ok (.getfield 66, 3) := by decide +kernel
set_option maxRecDepth 100000 in
theorem d_13_54 : decode (mB 13) 54 = .ok (.iconst 1, 1) := by decide +kernel
set_option maxRecDepth 100000 in
theorem d_13_55 : decode (mB 13) 55 = .ok (.iadd, 1) := by decide +kernel
set_option maxRecDepth 100000 in
theorem d_13_56 : decode (mB 13) 56 = .ok (.putfield 66, 3) := by decide +kernel
set_option maxRecDepth 100000 in
theorem d_13_59 : decode (mB 13) 59 = .ok (.aload_n 0, 1) := by decide +kernel
set_option maxRecDepth 100000 in
theorem d_13_60 : decode (mB 13) 60 = .ok (.getfield 12, 3) := by decide +kernel
set_option maxRecDepth 100000 in
theorem d_13_63 : decode (mB 13) 63 = .ok (.getfield 66, 3) := by decide +kernel
set_option maxRecDepth 100000 in
theorem d_13_66 : decode (mB 13) 66 = .ok (.iconst 1, 1) := by decide +kernel
set_option maxRecDepth 100000 in
theorem d_13_67 : decode (mB 13) 67 = .ok (.isub, 1) := by decide +kernel
set_option maxRecDepth 100000 in
theorem d_13_68 : decode (mB 13) 68 = .ok (.ireturn, 1) := by decide +kernel
set_option maxRecDepth 100000 in
theorem cl_0_284 : okw (.classLink "WhistleStop" 284 "java/lang/IllegalArgumentException") := okk_w (k := 525) (by decide +kernel)
set_option maxRecDepth 100000 in
theorem d_14_0 : decode (mB 14) 0 = .ok (.iload_n 0, 1) := by decide +kernel
set_option maxRecDepth 100000 in
theorem d_14_1 : decode (mB 14) 1 = .ok (.ifCond .ne 14, 3) := by decide +kernel
set_option maxRecDepth 100000 in
theorem d_14_4 : decode (mB 14) 4 = .ok (.new 284, 3) := by decide +kernel
set_option maxRecDepth 100000 in
theorem d_14_7 : decode (mB 14) 7 = .ok (.dup, 1) := by decide +kernel
set_option maxRecDepth 100000 in
theorem d_14_8 : decode (mB 14) 8 = .ok (.ldc_w 286, 3) := by decide +kernel
set_option maxRecDepth 100000 in
theorem d_14_11 : decode (mB 14) 11 = .ok (.invokespecial 288, 3) := by decide +kernel
set_option maxRecDepth 100000 in
theorem d_14_14 : decode (mB 14) 14 = .ok (.athrow, 1) := by decide +kernel
set_option maxRecDepth 100000 in
theorem d_14_15 : decode (mB 14) 15 = .ok (.return_, 1) := by decide +kernel
set_option maxRecDepth 100000 in
theorem cl_0_289 : okw (.classLink "WhistleStop" 289 "java/lang/IllegalStateException") := okk_w (k := 544) (by decide +kernel)
set_option maxRecDepth 100000 in
theorem d_15_0 : decode (mB 15) 0 = .ok (.iload_n 0, 1) := by decide +kernel
set_option maxRecDepth 100000 in
theorem d_15_1 : decode (mB 15) 1 = .ok (.ifCond .ne 14, 3) := by decide +kernel
set_option maxRecDepth 100000 in
theorem d_15_4 : decode (mB 15) 4 = .ok (.new 289, 3) := by decide +kernel
set_option maxRecDepth 100000 in
theorem d_15_7 : decode (mB 15) 7 = .ok (.dup, 1) := by decide +kernel
set_option maxRecDepth 100000 in
theorem d_15_8 : decode (mB 15) 8 = .ok (.ldc_w 291, 3) := by decide +kernel
set_option maxRecDepth 100000 in
theorem d_15_11 : decode (mB 15) 11 = .ok (.invokespecial 293, 3) := by decide +kernel
set_option maxRecDepth 100000 in
theorem d_15_14 : decode (mB 15) 14 = .ok (.athrow, 1) := by decide +kernel
set_option maxRecDepth 100000 in
theorem d_15_15 : decode (mB 15) 15 = .ok (.return_, 1) := by decide +kernel
set_option maxRecDepth 100000 in
theorem c_17_107 : csP 17 107 9 2 := ⟨cd_9, okk_w (k := 407) (by decide +kernel), okk_w (k := 408) (by decide +kernel), by decide +kernel, by decide +kernel⟩
set_option maxRecDepth 100000 in
theorem d_17_0 : decode (mB 17) 0 = .ok (.iload_n 1, 1) := by decide +kernel
set_option maxRecDepth 100000 in
theorem d_17_1 : decode (mB 17) 1 = .ok (.aload_n 0, 1) := by decide +kernel
set_option maxRecDepth 100000 in
theorem d_17_2 : decode (mB 17) 2 = .ok (.getfield 12, 3) := by decide +kernel
set_option maxRecDepth 100000 in
theorem d_17_5 : decode (mB 17) 5 = .ok (.getfield 66, 3) := by decide +kernel
set_option maxRecDepth 100000 in
theorem d_17_8 : decode (mB 17) 8 = .ok (.invokestatic 107, 3) := by decide +kernel
set_option maxRecDepth 100000 in
theorem d_17_11 : decode (mB 17) 11 = .ok (.return_, 1) := by decide +kernel
set_option maxRecDepth 100000 in
theorem ck_0_294 : okw (.constant "WhistleStop" 294 (500000)) := okk_w (k := 770) (by decide +kernel)
set_option maxRecDepth 100000 in
theorem c_29_58 : csP 29 58 11 3 := ⟨cd_11, okk_w (k := 485) (by decide +kernel), okk_w (k := 486) (by decide +kernel), by decide +kernel, by decide +kernel⟩
set_option maxRecDepth 100000 in
theorem c_29_62 : csP 29 62 14 1 := ⟨cd_14, okk_w (k := 522) (by decide +kernel), okk_w (k := 523) (by decide +kernel), by decide +kernel, by decide +kernel⟩
set_option maxRecDepth 100000 in
theorem d_29_0 : decode (mB 29) 0 = .ok (.iload_n 0, 1) := by decide +kernel
set_option maxRecDepth 100000 in
theorem d_29_1 : decode (mB 29) 1 = .ok (.iconst 0, 1) := by decide +kernel
set_option maxRecDepth 100000 in
theorem d_29_2 : decode (mB 29) 2 = .ok (.ldc_w 294, 3) := by decide +kernel
set_option maxRecDepth 100000 in
theorem d_29_5 : decode (mB 29) 5 = .ok (.invokestatic 58, 3) := by decide +kernel
set_option maxRecDepth 100000 in
theorem d_29_8 : decode (mB 29) 8 = .ok (.invokestatic 62, 3) := by decide +kernel
set_option maxRecDepth 100000 in
theorem d_29_11 : decode (mB 29) 11 = .ok (.return_, 1) := by decide +kernel
set_option maxRecDepth 100000 in
theorem c_37_77 : cvP 37 77 17 1 := ⟨cd_17, okk_w (k := 568) (by decide +kernel), okk_w (k := 570) (by decide +kernel), okk_w (k := 4) (by decide +kernel), by decide +kernel, by decide +kernel⟩
set_option maxRecDepth 100000 in
theorem c_37_154 : csP 37 154 29 1 := ⟨cd_29, okk_w (k := 767) (by decide +kernel), okk_w (k := 768) (by decide +kernel), by decide +kernel, by decide +kernel⟩
set_option maxRecDepth 100000 in
theorem c_37_183 : cvP 37 183 174 3 := ⟨cd_174, okk_w (k := 910) (by decide +kernel), okk_w (k := 776) (by decide +kernel), okk_w (k := 777) (by decide +kernel), by decide +kernel, by decide +kernel⟩
set_option maxRecDepth 100000 in
theorem c_37_198 : cvP 37 198 119 5 := ⟨cd_119, okk_w (k := 976) (by decide +kernel), okk_w (k := 977) (by decide +kernel), okk_w (k := 978) (by decide +kernel), by decide +kernel, by decide +kernel⟩
set_option maxRecDepth 100000 in
theorem c_37_199 : cvP 37 199 125 3 := ⟨cd_125, okk_w (k := 1005) (by decide +kernel), okk_w (k := 1006) (by decide +kernel), okk_w (k := 1007) (by decide +kernel), by decide +kernel, by decide +kernel⟩
set_option maxRecDepth 100000 in
theorem c_37_203 : csP 37 203 214 2 := ⟨cd_214, okk_w (k := 1010) (by decide +kernel), okk_w (k := 783) (by decide +kernel), by decide +kernel, by decide +kernel⟩
set_option maxRecDepth 100000 in
theorem c_37_187 : csP 37 187 215 2 := ⟨cd_215, okk_w (k := 911) (by decide +kernel), okk_w (k := 786) (by decide +kernel), by decide +kernel, by decide +kernel⟩
set_option maxRecDepth 100000 in
theorem d_37_0 : decode (mB 37) 0 = .ok (.aload_n 0, 1) := by decide +kernel
set_option maxRecDepth 100000 in
theorem d_37_1 : decode (mB 37) 1 = .ok (.iload_n 1, 1) := by decide +kernel
set_option maxRecDepth 100000 in
theorem d_37_2 : decode (mB 37) 2 = .ok (.invokevirtual 77, 3) := by decide +kernel
set_option maxRecDepth 100000 in
theorem d_37_5 : decode (mB 37) 5 = .ok (.aload_n 0, 1) := by decide +kernel
set_option maxRecDepth 100000 in
theorem d_37_6 : decode (mB 37) 6 = .ok (.iload_n 2, 1) := by decide +kernel
set_option maxRecDepth 100000 in
theorem d_37_7 : decode (mB 37) 7 = .ok (.invokevirtual 77, 3) := by decide +kernel
set_option maxRecDepth 100000 in
theorem d_37_10 : decode (mB 37) 10 = .ok (.iload_n 3, 1) := by decide +kernel
set_option maxRecDepth 100000 in
theorem d_37_11 : decode (mB 37) 11 = .ok (.invokestatic 154, 3) := by decide +kernel
set_option maxRecDepth 100000 in
theorem d_37_14 : decode (mB 37) 14 = .ok (.iload_n 3, 1) := by decide +kernel
set_option maxRecDepth 100000 in
theorem d_37_15 : decode (mB 37) 15 = .ok (.istore 4, 2) := by decide +kernel
set_option maxRecDepth 100000 in
theorem d_37_17 : decode (mB 37) 17 = .ok (.iload 4, 2) := by decide +kernel
set_option maxRecDepth 100000 in
theorem d_37_19 : decode (mB 37) 19 = .ok (.ifCond .lt 121, 3) := by decide +kernel
set_option maxRecDepth 100000 in
theorem d_37_22 : decode (mB 37) 22 = .ok (.aload_n 0, 1) := by decide +kernel
set_option maxRecDepth 100000 in
theorem d_37_23 : decode (mB 37) 23 = .ok (.getfield 19, 3) := by decide +kernel
set_option maxRecDepth 100000 in
theorem d_37_26 : decode (mB 37) 26 = .ok (.aload_n 0, 1) := by decide +kernel
set_option maxRecDepth 100000 in
theorem d_37_27 : decode (mB 37) 27 = .ok (.getfield 12, 3) := by decide +kernel
set_option maxRecDepth 100000 in
theorem d_37_30 : decode (mB 37) 30 = .ok (.iload 4, 2) := by decide +kernel
set_option maxRecDepth 100000 in
theorem d_37_32 : decode (mB 37) 32 = .ok (.sipush 5760, 3) := by decide +kernel
set_option maxRecDepth 100000 in
theorem d_37_35 : decode (mB 37) 35 = .ok (.isub, 1) := by decide +kernel
set_option maxRecDepth 100000 in
theorem d_37_36 : decode (mB 37) 36 = .ok (.iload 4, 2) := by decide +kernel
set_option maxRecDepth 100000 in
theorem d_37_38 : decode (mB 37) 38 = .ok (.invokevirtual 183, 3) := by decide +kernel
set_option maxRecDepth 100000 in
theorem d_37_41 : decode (mB 37) 41 = .ok (.aload_n 0, 1) := by decide +kernel
set_option maxRecDepth 100000 in
theorem d_37_42 : decode (mB 37) 42 = .ok (.getfield 40, 3) := by decide +kernel
set_option maxRecDepth 100000 in
theorem d_37_45 : decode (mB 37) 45 = .ok (.aload_n 0, 1) := by decide +kernel
set_option maxRecDepth 100000 in
theorem d_37_46 : decode (mB 37) 46 = .ok (.getfield 12, 3) := by decide +kernel
set_option maxRecDepth 100000 in
theorem d_37_49 : decode (mB 37) 49 = .ok (.aload_n 0, 1) := by decide +kernel
set_option maxRecDepth 100000 in
theorem d_37_50 : decode (mB 37) 50 = .ok (.getfield 19, 3) := by decide +kernel
set_option maxRecDepth 100000 in
theorem d_37_53 : decode (mB 37) 53 = .ok (.iload_n 2, 1) := by decide +kernel
set_option maxRecDepth 100000 in
theorem d_37_54 : decode (mB 37) 54 = .ok (.iload 4, 2) := by decide +kernel
set_option maxRecDepth 100000 in
theorem d_37_56 : decode (mB 37) 56 = .ok (.bipush 6, 2) := by decide +kernel
set_option maxRecDepth 100000 in
theorem d_37_58 : decode (mB 37) 58 = .ok (.invokevirtual 198, 3) := by decide +kernel
set_option maxRecDepth 100000 in
theorem d_37_61 : decode (mB 37) 61 = .ok (.aload_n 0, 1) := by decide +kernel
set_option maxRecDepth 100000 in
theorem d_37_62 : decode (mB 37) 62 = .ok (.getfield 40, 3) := by decide +kernel
set_option maxRecDepth 100000 in
theorem d_37_65 : decode (mB 37) 65 = .ok (.aload_n 0, 1) := by decide +kernel
set_option maxRecDepth 100000 in
theorem d_37_66 : decode (mB 37) 66 = .ok (.getfield 12, 3) := by decide +kernel
set_option maxRecDepth 100000 in
theorem d_37_69 : decode (mB 37) 69 = .ok (.iload_n 1, 1) := by decide +kernel
set_option maxRecDepth 100000 in
theorem d_37_70 : decode (mB 37) 70 = .ok (.bipush 6, 2) := by decide +kernel
set_option maxRecDepth 100000 in
theorem d_37_72 : decode (mB 37) 72 = .ok (.invokevirtual 199, 3) := by decide +kernel
set_option maxRecDepth 100000 in
theorem d_37_75 : decode (mB 37) 75 = .ok (.istore 5, 2) := by decide +kernel
set_option maxRecDepth 100000 in
theorem d_37_77 : decode (mB 37) 77 = .ok (.iload 5, 2) := by decide +kernel
set_option maxRecDepth 100000 in
theorem d_37_79 : decode (mB 37) 79 = .ok (.iload 4, 2) := by decide +kernel
set_option maxRecDepth 100000 in
theorem d_37_81 : decode (mB 37) 81 = .ok (.sipush 2880, 3) := by decide +kernel
set_option maxRecDepth 100000 in
theorem d_37_84 : decode (mB 37) 84 = .ok (.isub, 1) := by decide +kernel
set_option maxRecDepth 100000 in
theorem d_37_85 : decode (mB 37) 85 = .ok (.if_icmp .lt 15, 3) := by decide +kernel
set_option maxRecDepth 100000 in
theorem d_37_88 : decode (mB 37) 88 = .ok (.iload 5, 2) := by decide +kernel
set_option maxRecDepth 100000 in
theorem d_37_90 : decode (mB 37) 90 = .ok (.ifCond .lt 8, 3) := by decide +kernel
set_option maxRecDepth 100000 in
theorem d_37_93 : decode (mB 37) 93 = .ok (.iload 5, 2) := by decide +kernel
set_option maxRecDepth 100000 in
theorem d_37_95 : decode (mB 37) 95 = .ok (.goto 4, 3) := by decide +kernel
set_option maxRecDepth 100000 in
theorem d_37_98 : decode (mB 37) 98 = .ok (.iconst (-1), 1) := by decide +kernel
set_option maxRecDepth 100000 in
theorem d_37_99 : decode (mB 37) 99 = .ok (.ireturn, 1) := by decide +kernel
set_option maxRecDepth 100000 in
theorem d_37_100 : decode (mB 37) 100 = .ok (.iload 5, 2) := by decide +kernel
set_option maxRecDepth 100000 in
theorem d_37_102 : decode (mB 37) 102 = .ok (.iload 4, 2) := by decide +kernel
set_option maxRecDepth 100000 in
theorem d_37_104 : decode (mB 37) 104 = .ok (.sipush 5760, 3) := by decide +kernel
set_option maxRecDepth 100000 in
theorem d_37_107 : decode (mB 37) 107 = .ok (.isub, 1) := by decide +kernel
set_option maxRecDepth 100000 in
theorem d_37_108 : decode (mB 37) 108 = .ok (.iconst 1, 1) := by decide +kernel
set_option maxRecDepth 100000 in
theorem d_37_109 : decode (mB 37) 109 = .ok (.isub, 1) := by decide +kernel
set_option maxRecDepth 100000 in
theorem d_37_110 : decode (mB 37) 110 = .ok (.invokestatic 203, 3) := by decide +kernel
set_option maxRecDepth 100000 in
theorem d_37_113 : decode (mB 37) 113 = .ok (.istore 6, 2) := by decide +kernel
set_option maxRecDepth 100000 in
theorem d_37_115 : decode (mB 37) 115 = .ok (.iload 6, 2) := by decide +kernel
set_option maxRecDepth 100000 in
theorem d_37_117 : decode (mB 37) 117 = .ok (.ifCond .ge 5, 3) := by decide +kernel
set_option maxRecDepth 100000 in
theorem d_37_120 : decode (mB 37) 120 = .ok (.iconst (-1), 1) := by decide +kernel
set_option maxRecDepth 100000 in
theorem d_37_121 : decode (mB 37) 121 = .ok (.ireturn, 1) := by decide +kernel
set_option maxRecDepth 100000 in
theorem d_37_122 : decode (mB 37) 122 = .ok (.iload 4, 2) := by decide +kernel
set_option maxRecDepth 100000 in
theorem d_37_124 : decode (mB 37) 124 = .ok (.iconst 1, 1) := by decide +kernel
set_option maxRecDepth 100000 in
theorem d_37_125 : decode (mB 37) 125 = .ok (.isub, 1) := by decide +kernel
set_option maxRecDepth 100000 in
theorem d_37_126 : decode (mB 37) 126 = .ok (.iload 6, 2) := by decide +kernel
set_option maxRecDepth 100000 in
theorem d_37_128 : decode (mB 37) 128 = .ok (.sipush 2880, 3) := by decide +kernel
set_option maxRecDepth 100000 in
theorem d_37_131 : decode (mB 37) 131 = .ok (.iadd, 1) := by decide +kernel
set_option maxRecDepth 100000 in
theorem d_37_132 : decode (mB 37) 132 = .ok (.invokestatic 187, 3) := by decide +kernel
set_option maxRecDepth 100000 in
theorem d_37_135 : decode (mB 37) 135 = .ok (.istore 4, 2) := by decide +kernel
set_option maxRecDepth 100000 in
theorem d_37_137 : decode (mB 37) 137 = .ok (.goto (-120), 3) := by decide +kernel
set_option maxRecDepth 100000 in
theorem d_37_140 : decode (mB 37) 140 = .ok (.iconst (-1), 1) := by decide +kernel
set_option maxRecDepth 100000 in
theorem d_37_141 : decode (mB 37) 141 = .ok (.ireturn, 1) := by decide +kernel
set_option maxRecDepth 100000 in
theorem oi_1 : okw (.methodLink "WhistleStopModel" 1 Lib.objectInit) := okk_w (k := 1129) (by decide +kernel)
set_option maxRecDepth 100000 in
theorem fl_1_9 : flP "WhistleStopModel" 9 1 2 := ⟨_, rfl, by decide, okk_w (k := 1133) (by decide +kernel)⟩
set_option maxRecDepth 100000 in
theorem fl_1_13 : flP "WhistleStopModel" 13 1 4 := ⟨_, rfl, by decide, okk_w (k := 1135) (by decide +kernel)⟩
set_option maxRecDepth 100000 in
theorem fl_1_16 : flP "WhistleStopModel" 16 1 5 := ⟨_, rfl, by decide, okk_w (k := 1136) (by decide +kernel)⟩
set_option maxRecDepth 100000 in
theorem fl_1_19 : flP "WhistleStopModel" 19 1 6 := ⟨_, rfl, by decide, okk_w (k := 1137) (by decide +kernel)⟩
set_option maxRecDepth 100000 in
theorem fl_1_22 : flP "WhistleStopModel" 22 1 8 := ⟨_, rfl, by decide, okk_w (k := 1139) (by decide +kernel)⟩
set_option maxRecDepth 100000 in
theorem fl_1_25 : flP "WhistleStopModel" 25 1 9 := ⟨_, rfl, by decide, okk_w (k := 1140) (by decide +kernel)⟩
set_option maxRecDepth 100000 in
theorem fl_1_28 : flP "WhistleStopModel" 28 1 10 := ⟨_, rfl, by decide, okk_w (k := 1141) (by decide +kernel)⟩
set_option maxRecDepth 100000 in
theorem cl_1_31 : okw (.classLink "WhistleStopModel" 31 "[[I") := okk_w (k := 1130) (by decide +kernel)
set_option maxRecDepth 100000 in
theorem fl_1_33 : flP "WhistleStopModel" 33 1 11 := ⟨_, rfl, by decide, okk_w (k := 1142) (by decide +kernel)⟩
set_option maxRecDepth 100000 in
theorem fl_1_36 : flP "WhistleStopModel" 36 1 13 := ⟨_, rfl, by decide, okk_w (k := 1144) (by decide +kernel)⟩
set_option maxRecDepth 100000 in
theorem fl_1_39 : flP "WhistleStopModel" 39 1 14 := ⟨_, rfl, by decide, okk_w (k := 1145) (by decide +kernel)⟩
set_option maxRecDepth 100000 in
theorem fl_1_42 : flP "WhistleStopModel" 42 1 15 := ⟨_, rfl, by decide, okk_w (k := 1146) (by decide +kernel)⟩
set_option maxRecDepth 100000 in
theorem fl_1_45 : flP "WhistleStopModel" 45 1 16 := ⟨_, rfl, by decide, okk_w (k := 1147) (by decide +kernel)⟩
set_option maxRecDepth 100000 in
theorem fl_1_48 : flP "WhistleStopModel" 48 1 17 := ⟨_, rfl, by decide, okk_w (k := 1148) (by decide +kernel)⟩
set_option maxRecDepth 100000 in
theorem fl_1_51 : flP "WhistleStopModel" 51 1 18 := ⟨_, rfl, by decide, okk_w (k := 1149) (by decide +kernel)⟩
set_option maxRecDepth 100000 in
theorem fl_1_54 : flP "WhistleStopModel" 54 1 19 := ⟨_, rfl, by decide, okk_w (k := 1150) (by decide +kernel)⟩
set_option maxRecDepth 100000 in
theorem fl_1_57 : flP "WhistleStopModel" 57 1 20 := ⟨_, rfl, by decide, okk_w (k := 1151) (by decide +kernel)⟩
set_option maxRecDepth 100000 in
theorem fl_1_61 : flP "WhistleStopModel" 61 1 23 := ⟨_, rfl, by decide, okk_w (k := 1154) (by decide +kernel)⟩
set_option maxRecDepth 100000 in
theorem fl_1_64 : flP "WhistleStopModel" 64 1 27 := ⟨_, rfl, by decide, okk_w (k := 1158) (by decide +kernel)⟩
set_option maxRecDepth 100000 in
theorem fl_1_67 : flP "WhistleStopModel" 67 1 28 := ⟨_, rfl, by decide, okk_w (k := 1159) (by decide +kernel)⟩
set_option maxRecDepth 100000 in
theorem fl_1_70 : flP "WhistleStopModel" 70 1 29 := ⟨_, rfl, by decide, okk_w (k := 1160) (by decide +kernel)⟩
set_option maxRecDepth 100000 in
theorem fl_1_73 : flP "WhistleStopModel" 73 1 30 := ⟨_, rfl, by decide, okk_w (k := 1161) (by decide +kernel)⟩
set_option maxRecDepth 100000 in
theorem fl_1_76 : flP "WhistleStopModel" 76 1 31 := ⟨_, rfl, by decide, okk_w (k := 1162) (by decide +kernel)⟩
set_option maxRecDepth 100000 in
theorem fl_1_79 : flP "WhistleStopModel" 79 1 32 := ⟨_, rfl, by decide, okk_w (k := 1163) (by decide +kernel)⟩
set_option maxRecDepth 100000 in
theorem fl_1_82 : flP "WhistleStopModel" 82 1 33 := ⟨_, rfl, by decide, okk_w (k := 1164) (by decide +kernel)⟩
set_option maxRecDepth 100000 in
theorem fl_1_85 : flP "WhistleStopModel" 85 1 34 := ⟨_, rfl, by decide, okk_w (k := 1165) (by decide +kernel)⟩
set_option maxRecDepth 100000 in
theorem d_49_0 : decode (mB 49) 0 = .ok (.aload_n 0, 1) := by decide +kernel
set_option maxRecDepth 100000 in
theorem d_49_1 : decode (mB 49) 1 = .ok (.invokespecial 1, 3) := by decide +kernel
set_option maxRecDepth 100000 in
theorem d_49_4 : decode (mB 49) 4 = .ok (.aload_n 0, 1) := by decide +kernel
set_option maxRecDepth 100000 in
theorem d_49_5 : decode (mB 49) 5 = .ok (.bipush 16, 2) := by decide +kernel
set_option maxRecDepth 100000 in
theorem d_49_7 : decode (mB 49) 7 = .ok (.newarray .int, 2) := by decide +kernel
set_option maxRecDepth 100000 in
theorem d_49_9 : decode (mB 49) 9 = .ok (.putfield 9, 3) := by decide +kernel
set_option maxRecDepth 100000 in
theorem d_49_12 : decode (mB 49) 12 = .ok (.aload_n 0, 1) := by decide +kernel
set_option maxRecDepth 100000 in
theorem d_49_13 : decode (mB 49) 13 = .ok (.bipush 20, 2) := by decide +kernel
set_option maxRecDepth 100000 in
theorem d_49_15 : decode (mB 49) 15 = .ok (.newarray .int, 2) := by decide +kernel
set_option maxRecDepth 100000 in
theorem d_49_17 : decode (mB 49) 17 = .ok (.putfield 13, 3) := by decide +kernel
set_option maxRecDepth 100000 in
theorem d_49_20 : decode (mB 49) 20 = .ok (.aload_n 0, 1) := by decide +kernel
set_option maxRecDepth 100000 in
theorem d_49_21 : decode (mB 49) 21 = .ok (.bipush 20, 2) := by decide +kernel
set_option maxRecDepth 100000 in
theorem d_49_23 : decode (mB 49) 23 = .ok (.newarray .int, 2) := by decide +kernel
set_option maxRecDepth 100000 in
theorem d_49_25 : decode (mB 49) 25 = .ok (.putfield 16, 3) := by decide +kernel
set_option maxRecDepth 100000 in
theorem d_49_28 : decode (mB 49) 28 = .ok (.aload_n 0, 1) := by decide +kernel
set_option maxRecDepth 100000 in
theorem d_49_29 : decode (mB 49) 29 = .ok (.bipush 20, 2) := by decide +kernel
set_option maxRecDepth 100000 in
theorem d_49_31 : decode (mB 49) 31 = .ok (.newarray .int, 2) := by decide +kernel
set_option maxRecDepth 100000 in
theorem d_49_33 : decode (mB 49) 33 = .ok (.putfield 19, 3) := by decide +kernel
set_option maxRecDepth 100000 in
theorem d_49_36 : decode (mB 49) 36 = .ok (.aload_n 0, 1) := by decide +kernel
set_option maxRecDepth 100000 in
theorem d_49_37 : decode (mB 49) 37 = .ok (.bipush 6, 2) := by decide +kernel
set_option maxRecDepth 100000 in
theorem d_49_39 : decode (mB 49) 39 = .ok (.newarray .int, 2) := by decide +kernel
set_option maxRecDepth 100000 in
theorem d_49_41 : decode (mB 49) 41 = .ok (.putfield 22, 3) := by decide +kernel
set_option maxRecDepth 100000 in
theorem d_49_44 : decode (mB 49) 44 = .ok (.aload_n 0, 1) := by decide +kernel
set_option maxRecDepth 100000 in
theorem d_49_45 : decode (mB 49) 45 = .ok (.bipush 6, 2) := by decide +kernel
set_option maxRecDepth 100000 in
theorem d_49_47 : decode (mB 49) 47 = .ok (.newarray .int, 2) := by decide +kernel
set_option maxRecDepth 100000 in
theorem d_49_49 : decode (mB 49) 49 = .ok (.putfield 25, 3) := by decide +kernel
set_option maxRecDepth 100000 in
theorem d_49_52 : decode (mB 49) 52 = .ok (.aload_n 0, 1) := by decide +kernel
set_option maxRecDepth 100000 in
theorem d_49_53 : decode (mB 49) 53 = .ok (.bipush 6, 2) := by decide +kernel
set_option maxRecDepth 100000 in
theorem d_49_55 : decode (mB 49) 55 = .ok (.newarray .int, 2) := by decide +kernel
set_option maxRecDepth 100000 in
theorem d_49_57 : decode (mB 49) 57 = .ok (.putfield 28, 3) := by decide +kernel
set_option maxRecDepth 100000 in
theorem d_49_60 : decode (mB 49) 60 = .ok (.aload_n 0, 1) := by decide +kernel
set_option maxRecDepth 100000 in
theorem d_49_61 : decode (mB 49) 61 = .ok (.bipush 6, 2) := by decide +kernel
set_option maxRecDepth 100000 in
theorem d_49_63 : decode (mB 49) 63 = .ok (.sipush 366, 3) := by decide +kernel
set_option maxRecDepth 100000 in
theorem d_49_66 : decode (mB 49) 66 = .ok (.multianewarray 31 2, 4) := by decide +kernel
set_option maxRecDepth 100000 in
theorem d_49_70 : decode (mB 49) 70 = .ok (.putfield 33, 3) := by decide +kernel
set_option maxRecDepth 100000 in
theorem d_49_73 : decode (mB 49) 73 = .ok (.aload_n 0, 1) := by decide +kernel
set_option maxRecDepth 100000 in
theorem d_49_74 : decode (mB 49) 74 = .ok (.bipush 24, 2) := by decide +kernel
set_option maxRecDepth 100000 in
theorem d_49_76 : decode (mB 49) 76 = .ok (.newarray .int, 2) := by decide +kernel
set_option maxRecDepth 100000 in
theorem d_49_78 : decode (mB 49) 78 = .ok (.putfield 36, 3) := by decide +kernel
set_option maxRecDepth 100000 in
theorem d_49_81 : decode (mB 49) 81 = .ok (.aload_n 0, 1) := by decide +kernel
set_option maxRecDepth 100000 in
theorem d_49_82 : decode (mB 49) 82 = .ok (.bipush 24, 2) := by decide +kernel
set_option maxRecDepth 100000 in
theorem d_49_84 : decode (mB 49) 84 = .ok (.newarray .int, 2) := by decide +kernel
set_option maxRecDepth 100000 in
theorem d_49_86 : decode (mB 49) 86 = .ok (.putfield 39, 3) := by decide +kernel
set_option maxRecDepth 100000 in
theorem d_49_89 : decode (mB 49) 89 = .ok (.aload_n 0, 1) := by decide +kernel
set_option maxRecDepth 100000 in
theorem d_49_90 : decode (mB 49) 90 = .ok (.bipush 24, 2) := by decide +kernel
set_option maxRecDepth 100000 in
theorem d_49_92 : decode (mB 49) 92 = .ok (.newarray .int, 2) := by decide +kernel
set_option maxRecDepth 100000 in
theorem d_49_94 : decode (mB 49) 94 = .ok (.putfield 42, 3) := by decide +kernel
set_option maxRecDepth 100000 in
theorem d_49_97 : decode (mB 49) 97 = .ok (.aload_n 0, 1) := by decide +kernel
set_option maxRecDepth 100000 in
theorem d_49_98 : decode (mB 49) 98 = .ok (.bipush 24, 2) := by decide +kernel
set_option maxRecDepth 100000 in
theorem d_49_100 : decode (mB 49) 100 = .ok (.bipush 8, 2) := by decide +kernel
set_option maxRecDepth 100000 in
theorem d_49_102 : decode (mB 49) 102 = .ok (.multianewarray 31 2, 4) := by decide +kernel
set_option maxRecDepth 100000 in
theorem d_49_106 : decode (mB 49) 106 = .ok (.putfield 45, 3) := by decide +kernel
set_option maxRecDepth 100000 in
theorem d_49_109 : decode (mB 49) 109 = .ok (.aload_n 0, 1) := by decide +kernel
set_option maxRecDepth 100000 in
theorem d_49_110 : decode (mB 49) 110 = .ok (.bipush 24, 2) := by decide +kernel
set_option maxRecDepth 100000 in
theorem d_49_112 : decode (mB 49) 112 = .ok (.bipush 8, 2) := by decide +kernel
set_option maxRecDepth 100000 in
theorem d_49_114 : decode (mB 49) 114 = .ok (.multianewarray 31 2, 4) := by decide +kernel
set_option maxRecDepth 100000 in
theorem d_49_118 : decode (mB 49) 118 = .ok (.putfield 48, 3) := by decide +kernel
set_option maxRecDepth 100000 in
theorem d_49_121 : decode (mB 49) 121 = .ok (.aload_n 0, 1) := by decide +kernel
set_option maxRecDepth 100000 in
theorem d_49_122 : decode (mB 49) 122 = .ok (.bipush 24, 2) := by decide +kernel
set_option maxRecDepth 100000 in
theorem d_49_124 : decode (mB 49) 124 = .ok (.bipush 8, 2) := by decide +kernel
set_option maxRecDepth 100000 in
theorem d_49_126 : decode (mB 49) 126 = .ok (.multianewarray 31 2, 4) := by decide +kernel
set_option maxRecDepth 100000 in
theorem d_49_130 : decode (mB 49) 130 = .ok (.putfield 51, 3) := by decide +kernel
set_option maxRecDepth 100000 in
theorem d_49_133 : decode (mB 49) 133 = .ok (.aload_n 0, 1) := by decide +kernel
set_option maxRecDepth 100000 in
theorem d_49_134 : decode (mB 49) 134 = .ok (.bipush 24, 2) := by decide +kernel
set_option maxRecDepth 100000 in
theorem d_49_136 : decode (mB 49) 136 = .ok (.sipush 366, 3) := by decide +kernel
set_option maxRecDepth 100000 in
theorem d_49_139 : decode (mB 49) 139 = .ok (.multianewarray 31 2, 4) := by decide +kernel
set_option maxRecDepth 100000 in
theorem d_49_143 : decode (mB 49) 143 = .ok (.putfield 54, 3) := by decide +kernel
set_option maxRecDepth 100000 in
theorem d_49_146 : decode (mB 49) 146 = .ok (.aload_n 0, 1) := by decide +kernel
set_option maxRecDepth 100000 in
theorem d_49_147 : decode (mB 49) 147 = .ok (.iconst (-1), 1) := by decide +kernel
set_option maxRecDepth 100000 in
theorem d_49_148 : decode (mB 49) 148 = .ok (.putfield 57, 3) := by decide +kernel
set_option maxRecDepth 100000 in
theorem d_49_151 : decode (mB 49) 151 = .ok (.aload_n 0, 1) := by decide +kernel
set_option maxRecDepth 100000 in
theorem d_49_152 : decode (mB 49) 152 = .ok (.iconst (-1), 1) := by decide +kernel
set_option maxRecDepth 100000 in
theorem d_49_153 : decode (mB 49) 153 = .ok (.putfield 61, 3) := by decide +kernel
set_option maxRecDepth 100000 in
theorem d_49_156 : decode (mB 49) 156 = .ok (.aload_n 0, 1) := by decide +kernel
set_option maxRecDepth 100000 in
theorem d_49_157 : decode (mB 49) 157 = .ok (.bipush 14, 2) := by decide +kernel
set_option maxRecDepth 100000 in
theorem d_49_159 : decode (mB 49) 159 = .ok (.newarray .int, 2) := by decide +kernel
set_option maxRecDepth 100000 in
theorem d_49_161 : decode (mB 49) 161 = .ok (.putfield 64, 3) := by decide +kernel
set_option maxRecDepth 100000 in
theorem d_49_164 : decode (mB 49) 164 = .ok (.aload_n 0, 1) := by decide +kernel
set_option maxRecDepth 100000 in
theorem d_49_165 : decode (mB 49) 165 = .ok (.bipush 14, 2) := by decide +kernel
set_option maxRecDepth 100000 in
theorem d_49_167 : decode (mB 49) 167 = .ok (.newarray .int, 2) := by decide +kernel
set_option maxRecDepth 100000 in
theorem d_49_169 : decode (mB 49) 169 = .ok (.putfield 67, 3) := by decide +kernel
set_option maxRecDepth 100000 in
theorem d_49_172 : decode (mB 49) 172 = .ok (.aload_n 0, 1) := by decide +kernel
set_option maxRecDepth 100000 in
theorem d_49_173 : decode (mB 49) 173 = .ok (.bipush 14, 2) := by decide +kernel
set_option maxRecDepth 100000 in
theorem d_49_175 : decode (mB 49) 175 = .ok (.newarray .int, 2) := by decide +kernel
set_option maxRecDepth 100000 in
theorem d_49_177 : decode (mB 49) 177 = .ok (.putfield 70, 3) := by decide +kernel
set_option maxRecDepth 100000 in
theorem d_49_180 : decode (mB 49) 180 = .ok (.aload_n 0, 1) := by decide +kernel
set_option maxRecDepth 100000 in
theorem d_49_181 : decode (mB 49) 181 = .ok (.bipush 14, 2) := by decide +kernel
set_option maxRecDepth 100000 in
theorem d_49_183 : decode (mB 49) 183 = .ok (.newarray .int, 2) := by decide +kernel
set_option maxRecDepth 100000 in
theorem d_49_185 : decode (mB 49) 185 = .ok (.putfield 73, 3) := by decide +kernel
set_option maxRecDepth 100000 in
theorem d_49_188 : decode (mB 49) 188 = .ok (.aload_n 0, 1) := by decide +kernel
set_option maxRecDepth 100000 in
theorem d_49_189 : decode (mB 49) 189 = .ok (.bipush 14, 2) := by decide +kernel
set_option maxRecDepth 100000 in
theorem d_49_191 : decode (mB 49) 191 = .ok (.newarray .int, 2) := by decide +kernel
set_option maxRecDepth 100000 in
theorem d_49_193 : decode (mB 49) 193 = .ok (.putfield 76, 3) := by decide +kernel
set_option maxRecDepth 100000 in
theorem d_49_196 : decode (mB 49) 196 = .ok (.aload_n 0, 1) := by decide +kernel
set_option maxRecDepth 100000 in
theorem d_49_197 : decode (mB 49) 197 = .ok (.bipush 14, 2) := by decide +kernel
set_option maxRecDepth 100000 in
theorem d_49_199 : decode (mB 49) 199 = .ok (.newarray .int, 2) := by decide +kernel
set_option maxRecDepth 100000 in
theorem d_49_201 : decode (mB 49) 201 = .ok (.putfield 79, 3) := by decide +kernel
set_option maxRecDepth 100000 in
theorem d_49_204 : decode (mB 49) 204 = .ok (.aload_n 0, 1) := by decide +kernel
set_option maxRecDepth 100000 in
theorem d_49_205 : decode (mB 49) 205 = .ok (.bipush 14, 2) := by decide +kernel
set_option maxRecDepth 100000 in
theorem d_49_207 : decode (mB 49) 207 = .ok (.newarray .int, 2) := by decide +kernel
set_option maxRecDepth 100000 in
theorem d_49_209 : decode (mB 49) 209 = .ok (.putfield 82, 3) := by decide +kernel
set_option maxRecDepth 100000 in
theorem d_49_212 : decode (mB 49) 212 = .ok (.aload_n 0, 1) := by decide +kernel
set_option maxRecDepth 100000 in
theorem d_49_213 : decode (mB 49) 213 = .ok (.bipush 14, 2) := by decide +kernel
set_option maxRecDepth 100000 in
theorem d_49_215 : decode (mB 49) 215 = .ok (.newarray .int, 2) := by decide +kernel
set_option maxRecDepth 100000 in
theorem d_49_217 : decode (mB 49) 217 = .ok (.putfield 85, 3) := by decide +kernel
set_option maxRecDepth 100000 in
theorem d_49_220 : decode (mB 49) 220 = .ok (.return_, 1) := by decide +kernel
set_option maxRecDepth 100000 in
theorem fl_1_88 : flP "WhistleStopModel" 88 1 0 := ⟨_, rfl, by decide, okk_w (k := 1131) (by decide +kernel)⟩
set_option maxRecDepth 100000 in
theorem d_50_0 : decode (mB 50) 0 = .ok (.aload_n 0, 1) := by decide +kernel
set_option maxRecDepth 100000 in
theorem d_50_1 : decode (mB 50) 1 = .ok (.getfield 88, 3) := by decide +kernel
set_option maxRecDepth 100000 in
theorem d_50_4 : decode (mB 50) 4 = .ok (.ireturn, 1) := by decide +kernel
set_option maxRecDepth 100000 in
theorem c_51_94 : csP 51 94 52 3 := ⟨cd_52, okk_w (k := 1257) (by decide +kernel), okk_w (k := 1258) (by decide +kernel), by decide +kernel, by decide +kernel⟩
set_option maxRecDepth 100000 in
theorem c_51_101 : cvP 51 101 53 1 := ⟨cd_53, okk_w (k := 1260) (by decide +kernel), okk_w (k := 1262) (by decide +kernel), okk_w (k := 31) (by decide +kernel), by decide +kernel, by decide +kernel⟩
set_option maxRecDepth 100000 in
theorem fl_1_91 : flP "WhistleStopModel" 91 1 1 := ⟨_, rfl, by decide, okk_w (k := 1132) (by decide +kernel)⟩
set_option maxRecDepth 100000 in
theorem d_51_0 : decode (mB 51) 0 = .ok (.aload_n 0, 1) := by decide +kernel
set_option maxRecDepth 100000 in
theorem d_51_1 : decode (mB 51) 1 = .ok (.iconst 0, 1) := by decide +kernel
set_option maxRecDepth 100000 in
theorem d_51_2 : decode (mB 51) 2 = .ok (.putfield 88, 3) := by decide +kernel
set_option maxRecDepth 100000 in
theorem d_51_5 : decode (mB 51) 5 = .ok (.iload_n 1, 1) := by decide +kernel
set_option maxRecDepth 100000 in
theorem d_51_6 : decode (mB 51) 6 = .ok (.iconst 0, 1) := by decide +kernel
set_option maxRecDepth 100000 in
theorem d_51_7 : decode (mB 51) 7 = .ok (.bipush 30, 2) := by decide +kernel
set_option maxRecDepth 100000 in
theorem d_51_9 : decode (mB 51) 9 = .ok (.invokestatic 94, 3) := by decide +kernel
set_option maxRecDepth 100000 in
theorem d_51_12 : decode (mB 51) 12 = .ok (.ifCond .ne 9, 3) := by decide +kernel
set_option maxRecDepth 100000 in
theorem d_51_15 : decode (mB 51) 15 = .ok (.aload_n 0, 1) := by decide +kernel
set_option maxRecDepth 100000 in
theorem d_51_16 : decode (mB 51) 16 = .ok (.iconst 1, 1) := by decide +kernel
set_option maxRecDepth 100000 in
theorem d_51_17 : decode (mB 51) 17 = .ok (.invokevirtual 101, 3) := by decide +kernel
set_option maxRecDepth 100000 in
theorem d_51_20 : decode (mB 51) 20 = .ok (.ireturn, 1) := by decide +kernel
set_option maxRecDepth 100000 in
theorem d_51_21 : decode (mB 51) 21 = .ok (.aload_n 0, 1) := by decide +kernel
set_option maxRecDepth 100000 in
theorem d_51_22 : decode (mB 51) 22 = .ok (.getfield 91, 3) := by decide +kernel
set_option maxRecDepth 100000 in
theorem d_51_25 : decode (mB 51) 25 = .ok (.bipush 16, 2) := by decide +kernel
set_option maxRecDepth 100000 in
theorem d_51_27 : decode (mB 51) 27 = .ok (.if_icmp .ne 9, 3) := by decide +kernel
set_option maxRecDepth 100000 in
theorem d_51_30 : decode (mB 51) 30 = .ok (.aload_n 0, 1) := by decide +kernel
set_option maxRecDepth 100000 in
theorem d_51_31 : decode (mB 51) 31 = .ok (.iconst 2, 1) := by decide +kernel
set_option maxRecDepth 100000 in
theorem d_51_32 : decode (mB 51) 32 = .ok (.invokevirtual 101, 3) := by decide +kernel
set_option maxRecDepth 100000 in
theorem d_51_35 : decode (mB 51) 35 = .ok (.ireturn, 1) := by decide +kernel
set_option maxRecDepth 100000 in
theorem d_51_36 : decode (mB 51) 36 = .ok (.aload_n 0, 1) := by decide +kernel
set_option maxRecDepth 100000 in
theorem d_51_37 : decode (mB 51) 37 = .ok (.getfield 9, 3) := by decide +kernel
set_option maxRecDepth 100000 in
theorem d_51_40 : decode (mB 51) 40 = .ok (.aload_n 0, 1) := by decide +kernel
set_option maxRecDepth 100000 in
theorem d_51_41 : decode (mB 51) 41 = .ok (.getfield 91, 3) := by decide +kernel
set_option maxRecDepth 100000 in
theorem d_51_44 : decode (mB 51) 44 = .ok (.iload_n 1, 1) := by decide +kernel
set_option maxRecDepth 100000 in
theorem d_51_45 : decode (mB 51) 45 = .ok (.iastore, 1) := by decide +kernel
set_option maxRecDepth 100000 in
theorem d_51_46 : decode (mB 51) 46 = .ok (.aload_n 0, 1) := by decide +kernel
set_option maxRecDepth 100000 in
theorem d_51_47 : decode (mB 51) 47 = .ok (.dup, 1) := by decide +kernel
set_option maxRecDepth 100000 in
theorem d_51_48 : decode (mB 51) 48 = .ok (.getfield 91, 3) := by decide +kernel
set_option maxRecDepth 100000 in
theorem d_51_51 : decode (mB 51) 51 = .ok (.dup_x1, 1) := by decide +kernel
set_option maxRecDepth 100000 in
theorem d_51_52 : decode (mB 51) 52 = .ok (.iconst 1, 1) := by decide +kernel
set_option maxRecDepth 100000 in
theorem d_51_53 : decode (mB 51) 53 = .ok (.iadd, 1) := by decide +kernel
set_option maxRecDepth 100000 in
theorem d_51_54 : decode (mB 51) 54 = .ok (.putfield 91, 3) := by decide +kernel
set_option maxRecDepth 100000 in
theorem d_51_57 : decode (mB 51) 57 = .ok (.ireturn, 1) := by decide +kernel
set_option maxRecDepth 100000 in
theorem d_52_0 : decode (mB 52) 0 = .ok (.iload_n 0, 1) := by decide +kernel
set_option maxRecDepth 100000 in
theorem d_52_1 : decode (mB 52) 1 = .ok (.iload_n 1, 1) := by decide +kernel
set_option maxRecDepth 100000 in
theorem d_52_2 : decode (mB 52) 2 = .ok (.if_icmp .lt 12, 3) := by decide +kernel
set_option maxRecDepth 100000 in
theorem d_52_5 : decode (mB 52) 5 = .ok (.iload_n 0, 1) := by decide +kernel
set_option maxRecDepth 100000 in
theorem d_52_6 : decode (mB 52) 6 = .ok (.iload_n 2, 1) := by decide +kernel
set_option maxRecDepth 100000 in
theorem d_52_7 : decode (mB 52) 7 = .ok (.if_icmp .gt 7, 3) := by decide +kernel
set_option maxRecDepth 100000 in
theorem d_52_10 : decode (mB 52) 10 = .ok (.iconst 1, 1) := by decide +kernel
set_option maxRecDepth 100000 in
theorem d_52_11 : decode (mB 52) 11 = .ok (.goto 4, 3) := by decide +kernel
set_option maxRecDepth 100000 in
theorem d_52_14 : decode (mB 52) 14 = .ok (.iconst 0, 1) := by decide +kernel
set_option maxRecDepth 100000 in
theorem d_52_15 : decode (mB 52) 15 = .ok (.ireturn, 1) := by decide +kernel
set_option maxRecDepth 100000 in
theorem d_53_0 : decode (mB 53) 0 = .ok (.aload_n 0, 1) := by decide +kernel
set_option maxRecDepth 100000 in
theorem d_53_1 : decode (mB 53) 1 = .ok (.iload_n 1, 1) := by decide +kernel
set_option maxRecDepth 100000 in
theorem d_53_2 : decode (mB 53) 2 = .ok (.putfield 88, 3) := by decide +kernel
set_option maxRecDepth 100000 in
theorem d_53_5 : decode (mB 53) 5 = .ok (.iconst 0, 1) := by decide +kernel
set_option maxRecDepth 100000 in
theorem d_53_6 : decode (mB 53) 6 = .ok (.ireturn, 1) := by decide +kernel
set_option maxRecDepth 100000 in
theorem c_55_94 : csP 55 94 52 3 := ⟨cd_52, okk_w (k := 1257) (by decide +kernel), okk_w (k := 1258) (by decide +kernel), by decide +kernel, by decide +kernel⟩
set_option maxRecDepth 100000 in
theorem d_55_0 : decode (mB 55) 0 = .ok (.iload_n 1, 1) := by decide +kernel
set_option maxRecDepth 100000 in
theorem d_55_1 : decode (mB 55) 1 = .ok (.iconst 0, 1) := by decide +kernel
set_option maxRecDepth 100000 in
theorem d_55_2 : decode (mB 55) 2 = .ok (.aload_n 0, 1) := by decide +kernel
set_option maxRecDepth 100000 in
theorem d_55_3 : decode (mB 55) 3 = .ok (.getfield 91, 3) := by decide +kernel
set_option maxRecDepth 100000 in
theorem d_55_6 : decode (mB 55) 6 = .ok (.iconst 1, 1) := by decide +kernel
set_option maxRecDepth 100000 in
theorem d_55_7 : decode (mB 55) 7 = .ok (.isub, 1) := by decide +kernel
set_option maxRecDepth 100000 in
theorem d_55_8 : decode (mB 55) 8 = .ok (.invokestatic 94, 3) := by decide +kernel
set_option maxRecDepth 100000 in
theorem d_55_11 : decode (mB 55) 11 = .ok (.ireturn, 1) := by decide +kernel
set_option maxRecDepth 100000 in
theorem c_60_94 : csP 60 94 52 3 := ⟨cd_52, okk_w (k := 1257) (by decide +kernel), okk_w (k := 1258) (by decide +kernel), by decide +kernel, by decide +kernel⟩
set_option maxRecDepth 100000 in
theorem d_60_0 : decode (mB 60) 0 = .ok (.iload_n 2, 1) := by decide +kernel
set_option maxRecDepth 100000 in
theorem d_60_1 : decode (mB 60) 1 = .ok (.iconst 0, 1) := by decide +kernel
set_option maxRecDepth 100000 in
theorem d_60_2 : decode (mB 60) 2 = .ok (.sipush 365, 3) := by decide +kernel
set_option maxRecDepth 100000 in
theorem d_60_5 : decode (mB 60) 5 = .ok (.invokestatic 94, 3) := by decide +kernel
set_option maxRecDepth 100000 in
theorem d_60_8 : decode (mB 60) 8 = .ok (.ifCond .ne 5, 3) := by decide +kernel
set_option maxRecDepth 100000 in
theorem d_60_11 : decode (mB 60) 11 = .ok (.iconst 0, 1) := by decide +kernel
set_option maxRecDepth 100000 in
theorem d_60_12 : decode (mB 60) 12 = .ok (.ireturn, 1) := by decide +kernel
set_option maxRecDepth 100000 in
theorem d_60_13 : decode (mB 60) 13 = .ok (.aload_n 0, 1) := by decide +kernel
set_option maxRecDepth 100000 in
theorem d_60_14 : decode (mB 60) 14 = .ok (.getfield 33, 3) := by decide +kernel
set_option maxRecDepth 100000 in
theorem d_60_17 : decode (mB 60) 17 = .ok (.iload_n 1, 1) := by decide +kernel
set_option maxRecDepth 100000 in
theorem d_60_18 : decode (mB 60) 18 = .ok (.aaload, 1) := by decide +kernel
set_option maxRecDepth 100000 in
theorem d_60_19 : decode (mB 60) 19 = .ok (.iload_n 2, 1) := by decide +kernel
set_option maxRecDepth 100000 in
theorem d_60_20 : decode (mB 60) 20 = .ok (.iaload, 1) := by decide +kernel
set_option maxRecDepth 100000 in
theorem d_60_21 : decode (mB 60) 21 = .ok (.ifCond .eq 21, 3) := by decide +kernel
set_option maxRecDepth 100000 in
theorem d_60_24 : decode (mB 60) 24 = .ok (.aload_n 0, 1) := by decide +kernel
set_option maxRecDepth 100000 in
theorem d_60_25 : decode (mB 60) 25 = .ok (.getfield 33, 3) := by decide +kernel
set_option maxRecDepth 100000 in
theorem d_60_28 : decode (mB 60) 28 = .ok (.iload_n 1, 1) := by decide +kernel
set_option maxRecDepth 100000 in
theorem d_60_29 : decode (mB 60) 29 = .ok (.aaload, 1) := by decide +kernel
set_option maxRecDepth 100000 in
theorem d_60_30 : decode (mB 60) 30 = .ok (.iload_n 2, 1) := by decide +kernel
set_option maxRecDepth 100000 in
theorem d_60_31 : decode (mB 60) 31 = .ok (.iaload, 1) := by decide +kernel
set_option maxRecDepth 100000 in
theorem d_60_32 : decode (mB 60) 32 = .ok (.iconst 1, 1) := by decide +kernel
set_option maxRecDepth 100000 in
theorem d_60_33 : decode (mB 60) 33 = .ok (.if_icmp .ne 7, 3) := by decide +kernel
set_option maxRecDepth 100000 in
theorem d_60_36 : decode (mB 60) 36 = .ok (.iconst 1, 1) := by decide +kernel
set_option maxRecDepth 100000 in
theorem d_60_37 : decode (mB 60) 37 = .ok (.goto 4, 3) := by decide +kernel
set_option maxRecDepth 100000 in
theorem d_60_40 : decode (mB 60) 40 = .ok (.iconst 0, 1) := by decide +kernel
set_option maxRecDepth 100000 in
theorem d_60_41 : decode (mB 60) 41 = .ok (.ireturn, 1) := by decide +kernel
set_option maxRecDepth 100000 in
theorem d_60_42 : decode (mB 60) 42 = .ok (.iload_n 2, 1) := by decide +kernel
set_option maxRecDepth 100000 in
theorem d_60_43 : decode (mB 60) 43 = .ok (.aload_n 0, 1) := by decide +kernel
set_option maxRecDepth 100000 in
theorem d_60_44 : decode (mB 60) 44 = .ok (.getfield 25, 3) := by decide +kernel
set_option maxRecDepth 100000 in
theorem d_60_47 : decode (mB 60) 47 = .ok (.iload_n 1, 1) := by decide +kernel
set_option maxRecDepth 100000 in
theorem d_60_48 : decode (mB 60) 48 = .ok (.iaload, 1) := by decide +kernel
set_option maxRecDepth 100000 in
theorem d_60_49 : decode (mB 60) 49 = .ok (.aload_n 0, 1) := by decide +kernel
set_option maxRecDepth 100000 in
theorem d_60_50 : decode (mB 60) 50 = .ok (.getfield 28, 3) := by decide +kernel
set_option maxRecDepth 100000 in
theorem d_60_53 : decode (mB 60) 53 = .ok (.iload_n 1, 1) := by decide +kernel
set_option maxRecDepth 100000 in
theorem d_60_54 : decode (mB 60) 54 = .ok (.iaload, 1) := by decide +kernel
set_option maxRecDepth 100000 in
theorem d_60_55 : decode (mB 60) 55 = .ok (.invokestatic 94, 3) := by decide +kernel
set_option maxRecDepth 100000 in
theorem d_60_58 : decode (mB 60) 58 = .ok (.ifCond .eq 23, 3) := by decide +kernel
set_option maxRecDepth 100000 in
theorem d_60_61 : decode (mB 60) 61 = .ok (.aload_n 0, 1) := by decide +kernel
set_option maxRecDepth 100000 in
theorem d_60_62 : decode (mB 60) 62 = .ok (.getfield 22, 3) := by decide +kernel
set_option maxRecDepth 100000 in
theorem d_60_65 : decode (mB 60) 65 = .ok (.iload_n 1, 1) := by decide +kernel
set_option maxRecDepth 100000 in
theorem d_60_66 : decode (mB 60) 66 = .ok (.iaload, 1) := by decide +kernel
set_option maxRecDepth 100000 in
theorem d_60_67 : decode (mB 60) 67 = .ok (.iload_n 2, 1) := by decide +kernel
set_option maxRecDepth 100000 in
theorem d_60_68 : decode (mB 60) 68 = .ok (.bipush 7, 2) := by decide +kernel
set_option maxRecDepth 100000 in
theorem d_60_70 : decode (mB 60) 70 = .ok (.irem, 1) := by decide +kernel
set_option maxRecDepth 100000 in
theorem d_60_71 : decode (mB 60) 71 = .ok (.ishr, 1) := by decide +kernel
set_option maxRecDepth 100000 in
theorem d_60_72 : decode (mB 60) 72 = .ok (.iconst 1, 1) := by decide +kernel
set_option maxRecDepth 100000 in
theorem d_60_73 : decode (mB 60) 73 = .ok (.iand, 1) := by decide +kernel
set_option maxRecDepth 100000 in
theorem d_60_74 : decode (mB 60) 74 = .ok (.ifCond .eq 7, 3) := by decide +kernel
set_option maxRecDepth 100000 in
theorem d_60_77 : decode (mB 60) 77 = .ok (.iconst 1, 1) := by decide +kernel
set_option maxRecDepth 100000 in
theorem d_60_78 : decode (mB 60) 78 = .ok (.goto 4, 3) := by decide +kernel
set_option maxRecDepth 100000 in
theorem d_60_81 : decode (mB 60) 81 = .ok (.iconst 0, 1) := by decide +kernel
set_option maxRecDepth 100000 in
theorem d_60_82 : decode (mB 60) 82 = .ok (.ireturn, 1) := by decide +kernel
set_option maxRecDepth 100000 in
theorem c_72_118 : cvP 72 118 60 2 := ⟨cd_60, okk_w (k := 1288) (by decide +kernel), okk_w (k := 1290) (by decide +kernel), okk_w (k := 34) (by decide +kernel), by decide +kernel, by decide +kernel⟩
set_option maxRecDepth 100000 in
theorem fl_1_128 : flP "WhistleStopModel" 128 1 21 := ⟨_, rfl, by decide, okk_w (k := 1152) (by decide +kernel)⟩
set_option maxRecDepth 100000 in
theorem fl_1_131 : flP "WhistleStopModel" 131 1 22 := ⟨_, rfl, by decide, okk_w (k := 1153) (by decide +kernel)⟩
set_option maxRecDepth 100000 in
theorem d_72_0 : decode (mB 72) 0 = .ok (.aload_n 0, 1) := by decide +kernel
set_option maxRecDepth 100000 in
theorem d_72_1 : decode (mB 72) 1 = .ok (.aload_n 0, 1) := by decide +kernel
set_option maxRecDepth 100000 in
theorem d_72_2 : decode (mB 72) 2 = .ok (.getfield 36, 3) := by decide +kernel
set_option maxRecDepth 100000 in
theorem d_72_5 : decode (mB 72) 5 = .ok (.iload_n 1, 1) := by decide +kernel
set_option maxRecDepth 100000 in
theorem d_72_6 : decode (mB 72) 6 = .ok (.iaload, 1) := by decide +kernel
set_option maxRecDepth 100000 in
theorem d_72_7 : decode (mB 72) 7 = .ok (.iload_n 2, 1) := by decide +kernel
set_option maxRecDepth 100000 in
theorem d_72_8 : decode (mB 72) 8 = .ok (.invokevirtual 118, 3) := by decide +kernel
set_option maxRecDepth 100000 in
theorem d_72_11 : decode (mB 72) 11 = .ok (.ifCond .ne 5, 3) := by decide +kernel
set_option maxRecDepth 100000 in
theorem d_72_14 : decode (mB 72) 14 = .ok (.iconst (-1), 1) := by decide +kernel
set_option maxRecDepth 100000 in
theorem d_72_15 : decode (mB 72) 15 = .ok (.ireturn, 1) := by decide +kernel
set_option maxRecDepth 100000 in
theorem d_72_16 : decode (mB 72) 16 = .ok (.iload_n 1, 1) := by decide +kernel
set_option maxRecDepth 100000 in
theorem d_72_17 : decode (mB 72) 17 = .ok (.aload_n 0, 1) := by decide +kernel
set_option maxRecDepth 100000 in
theorem d_72_18 : decode (mB 72) 18 = .ok (.getfield 57, 3) := by decide +kernel
set_option maxRecDepth 100000 in
theorem d_72_21 : decode (mB 72) 21 = .ok (.if_icmp .ne 18, 3) := by decide +kernel
set_option maxRecDepth 100000 in
theorem d_72_24 : decode (mB 72) 24 = .ok (.iload_n 2, 1) := by decide +kernel
set_option maxRecDepth 100000 in
theorem d_72_25 : decode (mB 72) 25 = .ok (.aload_n 0, 1) := by decide +kernel
set_option maxRecDepth 100000 in
theorem d_72_26 : decode (mB 72) 26 = .ok (.getfield 128, 3) := by decide +kernel
set_option maxRecDepth 100000 in
theorem d_72_29 : decode (mB 72) 29 = .ok (.if_icmp .ne 10, 3) := by decide +kernel
set_option maxRecDepth 100000 in
theorem d_72_32 : decode (mB 72) 32 = .ok (.aload_n 0, 1) := by decide +kernel
set_option maxRecDepth 100000 in
theorem d_72_33 : decode (mB 72) 33 = .ok (.getfield 131, 3) := by decide +kernel
set_option maxRecDepth 100000 in
theorem d_72_36 : decode (mB 72) 36 = .ok (.goto 11, 3) := by decide +kernel
set_option maxRecDepth 100000 in
theorem d_72_39 : decode (mB 72) 39 = .ok (.aload_n 0, 1) := by decide +kernel
set_option maxRecDepth 100000 in
theorem d_72_40 : decode (mB 72) 40 = .ok (.getfield 54, 3) := by decide +kernel
set_option maxRecDepth 100000 in
theorem d_72_43 : decode (mB 72) 43 = .ok (.iload_n 1, 1) := by decide +kernel
set_option maxRecDepth 100000 in
theorem d_72_44 : decode (mB 72) 44 = .ok (.aaload, 1) := by decide +kernel
set_option maxRecDepth 100000 in
theorem d_72_45 : decode (mB 72) 45 = .ok (.iload_n 2, 1) := by decide +kernel
set_option maxRecDepth 100000 in
theorem d_72_46 : decode (mB 72) 46 = .ok (.iaload, 1) := by decide +kernel
set_option maxRecDepth 100000 in
theorem d_72_47 : decode (mB 72) 47 = .ok (.ireturn, 1) := by decide +kernel
set_option maxRecDepth 100000 in
theorem c_76_138 : csP 76 138 214 2 := ⟨cd_214, okk_w (k := 1356) (by decide +kernel), okk_w (k := 783) (by decide +kernel), by decide +kernel, by decide +kernel⟩
set_option maxRecDepth 100000 in
theorem d_76_0 : decode (mB 76) 0 = .ok (.iconst 0, 1) := by decide +kernel
set_option maxRecDepth 100000 in
theorem d_76_1 : decode (mB 76) 1 = .ok (.iload_n 0, 1) := by decide +kernel
set_option maxRecDepth 100000 in
theorem d_76_2 : decode (mB 76) 2 = .ok (.sipush 3059, 3) := by decide +kernel
set_option maxRecDepth 100000 in
theorem d_76_5 : decode (mB 76) 5 = .ok (.isub, 1) := by decide +kernel
set_option maxRecDepth 100000 in
theorem d_76_6 : decode (mB 76) 6 = .ok (.sipush 1440, 3) := by decide +kernel
set_option maxRecDepth 100000 in
theorem d_76_9 : decode (mB 76) 9 = .ok (.idiv, 1) := by decide +kernel
set_option maxRecDepth 100000 in
theorem d_76_10 : decode (mB 76) 10 = .ok (.invokestatic 138, 3) := by decide +kernel
set_option maxRecDepth 100000 in
theorem d_76_13 : decode (mB 76) 13 = .ok (.ireturn, 1) := by decide +kernel
set_option maxRecDepth 100000 in
theorem c_77_143 : csP 77 143 215 2 := ⟨cd_215, okk_w (k := 1360) (by decide +kernel), okk_w (k := 786) (by decide +kernel), by decide +kernel, by decide +kernel⟩
set_option maxRecDepth 100000 in
theorem d_77_0 : decode (mB 77) 0 = .ok (.sipush 365, 3) := by decide +kernel
set_option maxRecDepth 100000 in
theorem d_77_3 : decode (mB 77) 3 = .ok (.iload_n 0, 1) := by decide +kernel
set_option maxRecDepth 100000 in
theorem d_77_4 : decode (mB 77) 4 = .ok (.sipush 1440, 3) := by decide +kernel
set_option maxRecDepth 100000 in
theorem d_77_7 : decode (mB 77) 7 = .ok (.idiv, 1) := by decide +kernel
set_option maxRecDepth 100000 in
theorem d_77_8 : decode (mB 77) 8 = .ok (.invokestatic 143, 3) := by decide +kernel
set_option maxRecDepth 100000 in
theorem d_77_11 : decode (mB 77) 11 = .ok (.ireturn, 1) := by decide +kernel
set_option maxRecDepth 100000 in
theorem c_81_105 : cvP 81 105 55 1 := ⟨cd_55, okk_w (k := 1268) (by decide +kernel), okk_w (k := 1270) (by decide +kernel), okk_w (k := 32) (by decide +kernel), by decide +kernel, by decide +kernel⟩
set_option maxRecDepth 100000 in
theorem ck_1_152 : okw (.constant "WhistleStopModel" 152 (500000)) := okk_w (k := 1348) (by decide +kernel)
set_option maxRecDepth 100000 in
theorem c_81_94 : csP 81 94 52 3 := ⟨cd_52, okk_w (k := 1257) (by decide +kernel), okk_w (k := 1258) (by decide +kernel), by decide +kernel, by decide +kernel⟩
set_option maxRecDepth 100000 in
theorem d_81_0 : decode (mB 81) 0 = .ok (.aload_n 0, 1) := by decide +kernel
set_option maxRecDepth 100000 in
theorem d_81_1 : decode (mB 81) 1 = .ok (.iload_n 1, 1) := by decide +kernel
set_option maxRecDepth 100000 in
theorem d_81_2 : decode (mB 81) 2 = .ok (.invokevirtual 105, 3) := by decide +kernel
set_option maxRecDepth 100000 in
theorem d_81_5 : decode (mB 81) 5 = .ok (.ifCond .eq 11, 3) := by decide +kernel
set_option maxRecDepth 100000 in
theorem d_81_8 : decode (mB 81) 8 = .ok (.aload_n 0, 1) := by decide +kernel
set_option maxRecDepth 100000 in
theorem d_81_9 : decode (mB 81) 9 = .ok (.iload_n 2, 1) := by decide +kernel
set_option maxRecDepth 100000 in
theorem d_81_10 : decode (mB 81) 10 = .ok (.invokevirtual 105, 3) := by decide +kernel
set_option maxRecDepth 100000 in
theorem d_81_13 : decode (mB 81) 13 = .ok (.ifCond .ne 7, 3) := by decide +kernel
set_option maxRecDepth 100000 in
theorem d_81_16 : decode (mB 81) 16 = .ok (.iconst 1, 1) := by decide +kernel
set_option maxRecDepth 100000 in
theorem d_81_17 : decode (mB 81) 17 = .ok (.goto 18, 3) := by decide +kernel
set_option maxRecDepth 100000 in
theorem d_81_20 : decode (mB 81) 20 = .ok (.iload_n 3, 1) := by decide +kernel
set_option maxRecDepth 100000 in
theorem d_81_21 : decode (mB 81) 21 = .ok (.iconst 0, 1) := by decide +kernel
set_option maxRecDepth 100000 in
theorem d_81_22 : decode (mB 81) 22 = .ok (.ldc 152, 2) := by decide +kernel
set_option maxRecDepth 100000 in
theorem d_81_24 : decode (mB 81) 24 = .ok (.invokestatic 94, 3) := by decide +kernel
set_option maxRecDepth 100000 in
theorem d_81_27 : decode (mB 81) 27 = .ok (.ifCond .eq 7, 3) := by decide +kernel
set_option maxRecDepth 100000 in
theorem d_81_30 : decode (mB 81) 30 = .ok (.iconst 0, 1) := by decide +kernel
set_option maxRecDepth 100000 in
theorem d_81_31 : decode (mB 81) 31 = .ok (.goto 4, 3) := by decide +kernel
set_option maxRecDepth 100000 in
theorem d_81_34 : decode (mB 81) 34 = .ok (.iconst 2, 1) := by decide +kernel
set_option maxRecDepth 100000 in
theorem d_81_35 : decode (mB 81) 35 = .ok (.ireturn, 1) := by decide +kernel
set_option maxRecDepth 100000 in
theorem d_84_0 : decode (mB 84) 0 = .ok (.bipush 16, 2) := by decide +kernel
set_option maxRecDepth 100000 in
theorem d_84_2 : decode (mB 84) 2 = .ok (.newarray .int, 2) := by decide +kernel
set_option maxRecDepth 100000 in
theorem d_84_4 : decode (mB 84) 4 = .ok (.astore_n 1, 1) := by decide +kernel
set_option maxRecDepth 100000 in
theorem d_84_5 : decode (mB 84) 5 = .ok (.iconst 0, 1) := by decide +kernel
set_option maxRecDepth 100000 in
theorem d_84_6 : decode (mB 84) 6 = .ok (.istore_n 2, 1) := by decide +kernel
set_option maxRecDepth 100000 in
theorem d_84_7 : decode (mB 84) 7 = .ok (.iload_n 2, 1) := by decide +kernel
set_option maxRecDepth 100000 in
theorem d_84_8 : decode (mB 84) 8 = .ok (.bipush 16, 2) := by decide +kernel
set_option maxRecDepth 100000 in
theorem d_84_10 : decode (mB 84) 10 = .ok (.if_icmp .ge 13, 3) := by decide +kernel
set_option maxRecDepth 100000 in
theorem d_84_13 : decode (mB 84) 13 = .ok (.aload_n 1, 1) := by decide +kernel
set_option maxRecDepth 100000 in
theorem d_84_14 : decode (mB 84) 14 = .ok (.iload_n 2, 1) := by decide +kernel
set_option maxRecDepth 100000 in
theorem d_84_15 : decode (mB 84) 15 = .ok (.iload_n 0, 1) := by decide +kernel
set_option maxRecDepth 100000 in
theorem d_84_16 : decode (mB 84) 16 = .ok (.iastore, 1) := by decide +kernel
set_option maxRecDepth 100000 in
theorem d_84_17 : decode (mB 84) 17 = .ok (.iinc 2 1, 3) := by decide +kernel
set_option maxRecDepth 100000 in
theorem d_84_20 : decode (mB 84) 20 = .ok (.goto (-13), 3) := by decide +kernel
set_option maxRecDepth 100000 in
theorem d_84_23 : decode (mB 84) 23 = .ok (.aload_n 1, 1) := by decide +kernel
set_option maxRecDepth 100000 in
theorem d_84_24 : decode (mB 84) 24 = .ok (.areturn, 1) := by decide +kernel
set_option maxRecDepth 100000 in
theorem c_96_184 : cvP 96 184 81 3 := ⟨cd_81, okk_w (k := 1373) (by decide +kernel), okk_w (k := 1375) (by decide +kernel), okk_w (k := 39) (by decide +kernel), by decide +kernel, by decide +kernel⟩
set_option maxRecDepth 100000 in
theorem c_96_224 : cvP 96 224 97 3 := ⟨cd_97, okk_w (k := 1438) (by decide +kernel), okk_w (k := 1440) (by decide +kernel), okk_w (k := 48) (by decide +kernel), by decide +kernel, by decide +kernel⟩
set_option maxRecDepth 100000 in
theorem d_96_0 : decode (mB 96) 0 = .ok (.aload_n 0, 1) := by decide +kernel
set_option maxRecDepth 100000 in
theorem d_96_1 : decode (mB 96) 1 = .ok (.aload_n 0, 1) := by decide +kernel
set_option maxRecDepth 100000 in
theorem d_96_2 : decode (mB 96) 2 = .ok (.iload_n 1, 1) := by decide +kernel
set_option maxRecDepth 100000 in
theorem d_96_3 : decode (mB 96) 3 = .ok (.iload_n 2, 1) := by decide +kernel
set_option maxRecDepth 100000 in
theorem d_96_4 : decode (mB 96) 4 = .ok (.iload_n 3, 1) := by decide +kernel
set_option maxRecDepth 100000 in
theorem d_96_5 : decode (mB 96) 5 = .ok (.invokevirtual 184, 3) := by decide +kernel
set_option maxRecDepth 100000 in
theorem d_96_8 : decode (mB 96) 8 = .ok (.putfield 88, 3) := by decide +kernel
set_option maxRecDepth 100000 in
theorem d_96_11 : decode (mB 96) 11 = .ok (.aload_n 0, 1) := by decide +kernel
set_option maxRecDepth 100000 in
theorem d_96_12 : decode (mB 96) 12 = .ok (.getfield 88, 3) := by decide +kernel
set_option maxRecDepth 100000 in
theorem d_96_15 : decode (mB 96) 15 = .ok (.ifCond .eq 7, 3) := by decide +kernel
set_option maxRecDepth 100000 in
theorem d_96_18 : decode (mB 96) 18 = .ok (.iconst 0, 1) := by decide +kernel
set_option maxRecDepth 100000 in
theorem d_96_19 : decode (mB 96) 19 = .ok (.goto 10, 3) := by decide +kernel
set_option maxRecDepth 100000 in
theorem d_96_22 : decode (mB 96) 22 = .ok (.aload_n 0, 1) := by decide +kernel
set_option maxRecDepth 100000 in
theorem d_96_23 : decode (mB 96) 23 = .ok (.iload_n 1, 1) := by decide +kernel
set_option maxRecDepth 100000 in
theorem d_96_24 : decode (mB 96) 24 = .ok (.iload_n 2, 1) := by decide +kernel
set_option maxRecDepth 100000 in
theorem d_96_25 : decode (mB 96) 25 = .ok (.iload_n 3, 1) := by decide +kernel
set_option maxRecDepth 100000 in
theorem d_96_26 : decode (mB 96) 26 = .ok (.invokevirtual 224, 3) := by decide +kernel
set_option maxRecDepth 100000 in
theorem d_96_29 : decode (mB 96) 29 = .ok (.ireturn, 1) := by decide +kernel
set_option maxRecDepth 100000 in
theorem c_97_138 : csP 97 138 214 2 := ⟨cd_214, okk_w (k := 1356) (by decide +kernel), okk_w (k := 783) (by decide +kernel), by decide +kernel, by decide +kernel⟩
set_option maxRecDepth 100000 in
theorem c_97_143 : csP 97 143 215 2 := ⟨cd_215, okk_w (k := 1360) (by decide +kernel), okk_w (k := 786) (by decide +kernel), by decide +kernel, by decide +kernel⟩
set_option maxRecDepth 100000 in
theorem c_97_220 : cvP 97 220 98 3 := ⟨cd_98, okk_w (k := 1442) (by decide +kernel), okk_w (k := 1444) (by decide +kernel), okk_w (k := 49) (by decide +kernel), by decide +kernel, by decide +kernel⟩
set_option maxRecDepth 100000 in
theorem fl_1_109 : flP "WhistleStopModel" 109 1 3 := ⟨_, rfl, by decide, okk_w (k := 1134) (by decide +kernel)⟩
set_option maxRecDepth 100000 in
theorem d_97_0 : decode (mB 97) 0 = .ok (.iload_n 1, 1) := by decide +kernel
set_option maxRecDepth 100000 in
theorem d_97_1 : decode (mB 97) 1 = .ok (.iload_n 2, 1) := by decide +kernel
set_option maxRecDepth 100000 in
theorem d_97_2 : decode (mB 97) 2 = .ok (.if_icmp .ne 5, 3) := by decide +kernel
set_option maxRecDepth 100000 in
theorem d_97_5 : decode (mB 97) 5 = .ok (.iload_n 3, 1) := by decide +kernel
set_option maxRecDepth 100000 in
theorem d_97_6 : decode (mB 97) 6 = .ok (.ireturn, 1) := by decide +kernel
set_option maxRecDepth 100000 in
theorem d_97_7 : decode (mB 97) 7 = .ok (.iload_n 3, 1) := by decide +kernel
set_option maxRecDepth 100000 in
theorem d_97_8 : decode (mB 97) 8 = .ok (.istore 4, 2) := by decide +kernel
set_option maxRecDepth 100000 in
theorem d_97_10 : decode (mB 97) 10 = .ok (.iload 4, 2) := by decide +kernel
set_option maxRecDepth 100000 in
theorem d_97_12 : decode (mB 97) 12 = .ok (.ifCond .lt 215, 3) := by decide +kernel
set_option maxRecDepth 100000 in
theorem d_97_15 : decode (mB 97) 15 = .ok (.iconst 0, 1) := by decide +kernel
set_option maxRecDepth 100000 in
theorem d_97_16 : decode (mB 97) 16 = .ok (.iload 4, 2) := by decide +kernel
set_option maxRecDepth 100000 in
theorem d_97_18 : decode (mB 97) 18 = .ok (.sipush 1440, 3) := by decide +kernel
set_option maxRecDepth 100000 in
theorem d_97_21 : decode (mB 97) 21 = .ok (.isub, 1) := by decide +kernel
set_option maxRecDepth 100000 in
theorem d_97_22 : decode (mB 97) 22 = .ok (.invokestatic 138, 3) := by decide +kernel
set_option maxRecDepth 100000 in
theorem d_97_25 : decode (mB 97) 25 = .ok (.istore 5, 2) := by decide +kernel
set_option maxRecDepth 100000 in
theorem d_97_27 : decode (mB 97) 27 = .ok (.iload_n 3, 1) := by decide +kernel
set_option maxRecDepth 100000 in
theorem d_97_28 : decode (mB 97) 28 = .ok (.iload 4, 2) := by decide +kernel
set_option maxRecDepth 100000 in
theorem d_97_30 : decode (mB 97) 30 = .ok (.sipush 2880, 3) := by decide +kernel
set_option maxRecDepth 100000 in
theorem d_97_33 : decode (mB 97) 33 = .ok (.iadd, 1) := by decide +kernel
set_option maxRecDepth 100000 in
theorem d_97_34 : decode (mB 97) 34 = .ok (.invokestatic 143, 3) := by decide +kernel
set_option maxRecDepth 100000 in
theorem d_97_37 : decode (mB 97) 37 = .ok (.istore 6, 2) := by decide +kernel
set_option maxRecDepth 100000 in
theorem d_97_39 : decode (mB 97) 39 = .ok (.aload_n 0, 1) := by decide +kernel
set_option maxRecDepth 100000 in
theorem d_97_40 : decode (mB 97) 40 = .ok (.iload_n 2, 1) := by decide +kernel
set_option maxRecDepth 100000 in
theorem d_97_41 : decode (mB 97) 41 = .ok (.iload 6, 2) := by decide +kernel
set_option maxRecDepth 100000 in
theorem d_97_43 : decode (mB 97) 43 = .ok (.iload 5, 2) := by decide +kernel
set_option maxRecDepth 100000 in
theorem d_97_45 : decode (mB 97) 45 = .ok (.invokevirtual 220, 3) := by decide +kernel
set_option maxRecDepth 100000 in
theorem d_97_48 : decode (mB 97) 48 = .ok (.bipush 6, 2) := by decide +kernel
set_option maxRecDepth 100000 in
theorem d_97_50 : decode (mB 97) 50 = .ok (.aaload, 1) := by decide +kernel
set_option maxRecDepth 100000 in
theorem d_97_51 : decode (mB 97) 51 = .ok (.astore 7, 2) := by decide +kernel
set_option maxRecDepth 100000 in
theorem d_97_53 : decode (mB 97) 53 = .ok (.iload 4, 2) := by decide +kernel
set_option maxRecDepth 100000 in
theorem d_97_55 : decode (mB 97) 55 = .ok (.aload 7, 2) := by decide +kernel
set_option maxRecDepth 100000 in
theorem d_97_57 : decode (mB 97) 57 = .ok (.iload_n 1, 1) := by decide +kernel
set_option maxRecDepth 100000 in
theorem d_97_58 : decode (mB 97) 58 = .ok (.iaload, 1) := by decide +kernel
set_option maxRecDepth 100000 in
theorem d_97_59 : decode (mB 97) 59 = .ok (.invokestatic 143, 3) := by decide +kernel
set_option maxRecDepth 100000 in
theorem d_97_62 : decode (mB 97) 62 = .ok (.istore 8, 2) := by decide +kernel
set_option maxRecDepth 100000 in
theorem d_97_64 : decode (mB 97) 64 = .ok (.iconst 0, 1) := by decide +kernel
set_option maxRecDepth 100000 in
theorem d_97_65 : decode (mB 97) 65 = .ok (.istore 9, 2) := by decide +kernel
set_option maxRecDepth 100000 in
theorem d_97_67 : decode (mB 97) 67 = .ok (.iload 9, 2) := by decide +kernel
set_option maxRecDepth 100000 in
theorem d_97_69 : decode (mB 97) 69 = .ok (.aload_n 0, 1) := by decide +kernel
set_option maxRecDepth 100000 in
theorem d_97_70 : decode (mB 97) 70 = .ok (.getfield 109, 3) := by decide +kernel
set_option maxRecDepth 100000 in
theorem d_97_73 : decode (mB 97) 73 = .ok (.if_icmp .ge 108, 3) := by decide +kernel
set_option maxRecDepth 100000 in
theorem d_97_76 : decode (mB 97) 76 = .ok (.aload_n 0, 1) := by decide +kernel
set_option maxRecDepth 100000 in
theorem d_97_77 : decode (mB 97) 77 = .ok (.getfield 13, 3) := by decide +kernel
set_option maxRecDepth 100000 in
theorem d_97_80 : decode (mB 97) 80 = .ok (.iload 9, 2) := by decide +kernel
set_option maxRecDepth 100000 in
theorem d_97_82 : decode (mB 97) 82 = .ok (.iaload, 1) := by decide +kernel
set_option maxRecDepth 100000 in
theorem d_97_83 : decode (mB 97) 83 = .ok (.iload_n 1, 1) := by decide +kernel
set_option maxRecDepth 100000 in
theorem d_97_84 : decode (mB 97) 84 = .ok (.if_icmp .eq 17, 3) := by decide +kernel
set_option maxRecDepth 100000 in
theorem d_97_87 : decode (mB 97) 87 = .ok (.aload_n 0, 1) := by decide +kernel
set_option maxRecDepth 100000 in
theorem d_97_88 : decode (mB 97) 88 = .ok (.getfield 16, 3) := by decide +kernel
set_option maxRecDepth 100000 in
theorem d_97_91 : decode (mB 97) 91 = .ok (.iload 9, 2) := by decide +kernel
set_option maxRecDepth 100000 in
theorem d_97_93 : decode (mB 97) 93 = .ok (.iaload, 1) := by decide +kernel
set_option maxRecDepth 100000 in
theorem d_97_94 : decode (mB 97) 94 = .ok (.iload_n 1, 1) := by decide +kernel
set_option maxRecDepth 100000 in
theorem d_97_95 : decode (mB 97) 95 = .ok (.if_icmp .eq 6, 3) := by decide +kernel
set_option maxRecDepth 100000 in
theorem d_97_98 : decode (mB 97) 98 = .ok (.goto 77, 3) := by decide +kernel
set_option maxRecDepth 100000 in
theorem d_97_101 : decode (mB 97) 101 = .ok (.aload_n 0, 1) := by decide +kernel
set_option maxRecDepth 100000 in
theorem d_97_102 : decode (mB 97) 102 = .ok (.getfield 13, 3) := by decide +kernel
set_option maxRecDepth 100000 in
theorem d_97_105 : decode (mB 97) 105 = .ok (.iload 9, 2) := by decide +kernel
set_option maxRecDepth 100000 in
theorem d_97_107 : decode (mB 97) 107 = .ok (.iaload, 1) := by decide +kernel
set_option maxRecDepth 100000 in
theorem d_97_108 : decode (mB 97) 108 = .ok (.iload_n 1, 1) := by decide +kernel
set_option maxRecDepth 100000 in
theorem d_97_109 : decode (mB 97) 109 = .ok (.if_icmp .ne 13, 3) := by decide +kernel
set_option maxRecDepth 100000 in
theorem d_97_112 : decode (mB 97) 112 = .ok (.aload_n 0, 1) := by decide +kernel
set_option maxRecDepth 100000 in
theorem d_97_113 : decode (mB 97) 113 = .ok (.getfield 16, 3) := by decide +kernel
set_option maxRecDepth 100000 in
theorem d_97_116 : decode (mB 97) 116 = .ok (.iload 9, 2) := by decide +kernel
set_option maxRecDepth 100000 in
theorem d_97_118 : decode (mB 97) 118 = .ok (.iaload, 1) := by decide +kernel
set_option maxRecDepth 100000 in
theorem d_97_119 : decode (mB 97) 119 = .ok (.goto 10, 3) := by decide +kernel
set_option maxRecDepth 100000 in
theorem d_97_122 : decode (mB 97) 122 = .ok (.aload_n 0, 1) := by decide +kernel
set_option maxRecDepth 100000 in
theorem d_97_123 : decode (mB 97) 123 = .ok (.getfield 13, 3) := by decide +kernel
set_option maxRecDepth 100000 in
theorem d_97_126 : decode (mB 97) 126 = .ok (.iload 9, 2) := by decide +kernel
set_option maxRecDepth 100000 in
theorem d_97_128 : decode (mB 97) 128 = .ok (.iaload, 1) := by decide +kernel
set_option maxRecDepth 100000 in
theorem d_97_129 : decode (mB 97) 129 = .ok (.istore 10, 2) := by decide +kernel
set_option maxRecDepth 100000 in
theorem d_97_131 : decode (mB 97) 131 = .ok (.iload 8, 2) := by decide +kernel
set_option maxRecDepth 100000 in
theorem d_97_133 : decode (mB 97) 133 = .ok (.iload 4, 2) := by decide +kernel
set_option maxRecDepth 100000 in
theorem d_97_135 : decode (mB 97) 135 = .ok (.iload 10, 2) := by decide +kernel
set_option maxRecDepth 100000 in
theorem d_97_137 : decode (mB 97) 137 = .ok (.iload_n 2, 1) := by decide +kernel
set_option maxRecDepth 100000 in
theorem d_97_138 : decode (mB 97) 138 = .ok (.if_icmp .ne 16, 3) := by decide +kernel
set_option maxRecDepth 100000 in
theorem d_97_141 : decode (mB 97) 141 = .ok (.iload 6, 2) := by decide +kernel
set_option maxRecDepth 100000 in
theorem d_97_143 : decode (mB 97) 143 = .ok (.aload 7, 2) := by decide +kernel
set_option maxRecDepth 100000 in
theorem d_97_145 : decode (mB 97) 145 = .ok (.iload 10, 2) := by decide +kernel
set_option maxRecDepth 100000 in
theorem d_97_147 : decode (mB 97) 147 = .ok (.iaload, 1) := by decide +kernel
set_option maxRecDepth 100000 in
theorem d_97_148 : decode (mB 97) 148 = .ok (.invokestatic 138, 3) := by decide +kernel
set_option maxRecDepth 100000 in
theorem d_97_151 : decode (mB 97) 151 = .ok (.goto 8, 3) := by decide +kernel
set_option maxRecDepth 100000 in
theorem d_97_154 : decode (mB 97) 154 = .ok (.aload 7, 2) := by decide +kernel
set_option maxRecDepth 100000 in
theorem d_97_156 : decode (mB 97) 156 = .ok (.iload 10, 2) := by decide +kernel
set_option maxRecDepth 100000 in
theorem d_97_158 : decode (mB 97) 158 = .ok (.iaload, 1) := by decide +kernel
set_option maxRecDepth 100000 in
theorem d_97_159 : decode (mB 97) 159 = .ok (.aload_n 0, 1) := by decide +kernel
set_option maxRecDepth 100000 in
theorem d_97_160 : decode (mB 97) 160 = .ok (.getfield 19, 3) := by decide +kernel
set_option maxRecDepth 100000 in
theorem d_97_163 : decode (mB 97) 163 = .ok (.iload 9, 2) := by decide +kernel
set_option maxRecDepth 100000 in
theorem d_97_165 : decode (mB 97) 165 = .ok (.iaload, 1) := by decide +kernel
set_option maxRecDepth 100000 in
theorem d_97_166 : decode (mB 97) 166 = .ok (.isub, 1) := by decide +kernel
set_option maxRecDepth 100000 in
theorem d_97_167 : decode (mB 97) 167 = .ok (.invokestatic 143, 3) := by decide +kernel
set_option maxRecDepth 100000 in
theorem d_97_170 : decode (mB 97) 170 = .ok (.invokestatic 138, 3) := by decide +kernel
set_option maxRecDepth 100000 in
theorem d_97_173 : decode (mB 97) 173 = .ok (.istore 8, 2) := by decide +kernel
set_option maxRecDepth 100000 in
theorem d_97_175 : decode (mB 97) 175 = .ok (.iinc 9 1, 3) := by decide +kernel
set_option maxRecDepth 100000 in
theorem d_97_178 : decode (mB 97) 178 = .ok (.goto (-111), 3) := by decide +kernel
set_option maxRecDepth 100000 in
theorem d_97_181 : decode (mB 97) 181 = .ok (.iload 8, 2) := by decide +kernel
set_option maxRecDepth 100000 in
theorem d_97_183 : decode (mB 97) 183 = .ok (.iload 5, 2) := by decide +kernel
set_option maxRecDepth 100000 in
theorem d_97_185 : decode (mB 97) 185 = .ok (.if_icmp .ge 21, 3) := by decide +kernel
set_option maxRecDepth 100000 in
theorem d_97_188 : decode (mB 97) 188 = .ok (.iload 5, 2) := by decide +kernel
set_option maxRecDepth 100000 in
theorem d_97_190 : decode (mB 97) 190 = .ok (.ifCond .ne 7, 3) := by decide +kernel
set_option maxRecDepth 100000 in
theorem d_97_193 : decode (mB 97) 193 = .ok (.iconst (-1), 1) := by decide +kernel
set_option maxRecDepth 100000 in
theorem d_97_194 : decode (mB 97) 194 = .ok (.goto 7, 3) := by decide +kernel
set_option maxRecDepth 100000 in
theorem d_97_197 : decode (mB 97) 197 = .ok (.iload 5, 2) := by decide +kernel
set_option maxRecDepth 100000 in
theorem d_97_199 : decode (mB 97) 199 = .ok (.iconst 1, 1) := by decide +kernel
set_option maxRecDepth 100000 in
theorem d_97_200 : decode (mB 97) 200 = .ok (.isub, 1) := by decide +kernel
set_option maxRecDepth 100000 in
theorem d_97_201 : decode (mB 97) 201 = .ok (.istore 4, 2) := by decide +kernel
set_option maxRecDepth 100000 in
theorem d_97_203 : decode (mB 97) 203 = .ok (.goto 21, 3) := by decide +kernel
set_option maxRecDepth 100000 in
theorem d_97_206 : decode (mB 97) 206 = .ok (.iload 6, 2) := by decide +kernel
set_option maxRecDepth 100000 in
theorem d_97_208 : decode (mB 97) 208 = .ok (.iload 8, 2) := by decide +kernel
set_option maxRecDepth 100000 in
theorem d_97_210 : decode (mB 97) 210 = .ok (.sipush 2880, 3) := by decide +kernel
set_option maxRecDepth 100000 in
theorem d_97_213 : decode (mB 97) 213 = .ok (.iadd, 1) := by decide +kernel
set_option maxRecDepth 100000 in
theorem d_97_214 : decode (mB 97) 214 = .ok (.if_icmp .gt 6, 3) := by decide +kernel
set_option maxRecDepth 100000 in
theorem d_97_217 : decode (mB 97) 217 = .ok (.iload 8, 2) := by decide +kernel
set_option maxRecDepth 100000 in
theorem d_97_219 : decode (mB 97) 219 = .ok (.ireturn, 1) := by decide +kernel
set_option maxRecDepth 100000 in
theorem d_97_220 : decode (mB 97) 220 = .ok (.iload 8, 2) := by decide +kernel
set_option maxRecDepth 100000 in
theorem d_97_222 : decode (mB 97) 222 = .ok (.istore 4, 2) := by decide +kernel
set_option maxRecDepth 100000 in
theorem d_97_224 : decode (mB 97) 224 = .ok (.goto (-214), 3) := by decide +kernel
set_option maxRecDepth 100000 in
theorem d_97_227 : decode (mB 97) 227 = .ok (.iconst (-1), 1) := by decide +kernel
set_option maxRecDepth 100000 in
theorem d_97_228 : decode (mB 97) 228 = .ok (.ireturn, 1) := by decide +kernel
set_option maxRecDepth 100000 in
theorem cl_1_157 : okw (.classLink "WhistleStopModel" 157 "[I") := okk_w (k := 1385) (by decide +kernel)
set_option maxRecDepth 100000 in
theorem ck_1_215 : okw (.constant "WhistleStopModel" 215 (-268435456)) := okk_w (k := 1446) (by decide +kernel)
set_option maxRecDepth 100000 in
theorem c_98_159 : csP 98 159 84 1 := ⟨cd_84, okk_w (k := 1387) (by decide +kernel), okk_w (k := 1388) (by decide +kernel), by decide +kernel, by decide +kernel⟩
set_option maxRecDepth 100000 in
theorem fl_1_98 : flP "WhistleStopModel" 98 1 12 := ⟨_, rfl, by decide, okk_w (k := 1143) (by decide +kernel)⟩
set_option maxRecDepth 100000 in
theorem c_98_146 : csP 98 146 76 1 := ⟨cd_76, okk_w (k := 1353) (by decide +kernel), okk_w (k := 1354) (by decide +kernel), by decide +kernel, by decide +kernel⟩
set_option maxRecDepth 100000 in
theorem c_98_149 : csP 98 149 77 1 := ⟨cd_77, okk_w (k := 1357) (by decide +kernel), okk_w (k := 1358) (by decide +kernel), by decide +kernel, by decide +kernel⟩
set_option maxRecDepth 100000 in
theorem c_98_134 : cvP 98 134 72 2 := ⟨cd_72, okk_w (k := 1336) (by decide +kernel), okk_w (k := 1338) (by decide +kernel), okk_w (k := 37) (by decide +kernel), by decide +kernel, by decide +kernel⟩
set_option maxRecDepth 100000 in
theorem c_98_138 : csP 98 138 214 2 := ⟨cd_214, okk_w (k := 1356) (by decide +kernel), okk_w (k := 783) (by decide +kernel), by decide +kernel, by decide +kernel⟩
set_option maxRecDepth 100000 in
theorem c_98_216 : cvP 98 216 99 5 := ⟨cd_99, okk_w (k := 1447) (by decide +kernel), okk_w (k := 1449) (by decide +kernel), okk_w (k := 50) (by decide +kernel), by decide +kernel, by decide +kernel⟩
set_option maxRecDepth 100000 in
theorem d_98_0 : decode (mB 98) 0 = .ok (.bipush 7, 2) := by decide +kernel
set_option maxRecDepth 100000 in
theorem d_98_2 : decode (mB 98) 2 = .ok (.anewarray 157, 3) := by decide +kernel
set_option maxRecDepth 100000 in
theorem d_98_5 : decode (mB 98) 5 = .ok (.astore 4, 2) := by decide +kernel
set_option maxRecDepth 100000 in
theorem d_98_7 : decode (mB 98) 7 = .ok (.aload 4, 2) := by decide +kernel
set_option maxRecDepth 100000 in
theorem d_98_9 : decode (mB 98) 9 = .ok (.iconst 0, 1) := by decide +kernel
set_option maxRecDepth 100000 in
theorem d_98_10 : decode (mB 98) 10 = .ok (.ldc 215, 2) := by decide +kernel
set_option maxRecDepth 100000 in
theorem d_98_12 : decode (mB 98) 12 = .ok (.invokestatic 159, 3) := by decide +kernel
set_option maxRecDepth 100000 in
theorem d_98_15 : decode (mB 98) 15 = .ok (.aastore, 1) := by decide +kernel
set_option maxRecDepth 100000 in
theorem d_98_16 : decode (mB 98) 16 = .ok (.iconst 1, 1) := by decide +kernel
set_option maxRecDepth 100000 in
theorem d_98_17 : decode (mB 98) 17 = .ok (.istore 5, 2) := by decide +kernel
set_option maxRecDepth 100000 in
theorem d_98_19 : decode (mB 98) 19 = .ok (.iload 5, 2) := by decide +kernel
set_option maxRecDepth 100000 in
theorem d_98_21 : decode (mB 98) 21 = .ok (.bipush 6, 2) := by decide +kernel
set_option maxRecDepth 100000 in
theorem d_98_23 : decode (mB 98) 23 = .ok (.if_icmp .gt 230, 3) := by decide +kernel
set_option maxRecDepth 100000 in
theorem d_98_26 : decode (mB 98) 26 = .ok (.aload 4, 2) := by decide +kernel
set_option maxRecDepth 100000 in
theorem d_98_28 : decode (mB 98) 28 = .ok (.iload 5, 2) := by decide +kernel
set_option maxRecDepth 100000 in
theorem d_98_30 : decode (mB 98) 30 = .ok (.bipush 16, 2) := by decide +kernel
set_option maxRecDepth 100000 in
theorem d_98_32 : decode (mB 98) 32 = .ok (.newarray .int, 2) := by decide +kernel
set_option maxRecDepth 100000 in
theorem d_98_34 : decode (mB 98) 34 = .ok (.aastore, 1) := by decide +kernel
set_option maxRecDepth 100000 in
theorem d_98_35 : decode (mB 98) 35 = .ok (.aload 4, 2) := by decide +kernel
set_option maxRecDepth 100000 in
theorem d_98_37 : decode (mB 98) 37 = .ok (.iload 5, 2) := by decide +kernel
set_option maxRecDepth 100000 in
theorem d_98_39 : decode (mB 98) 39 = .ok (.iconst 1, 1) := by decide +kernel
set_option maxRecDepth 100000 in
theorem d_98_40 : decode (mB 98) 40 = .ok (.isub, 1) := by decide +kernel
set_option maxRecDepth 100000 in
theorem d_98_41 : decode (mB 98) 41 = .ok (.aaload, 1) := by decide +kernel
set_option maxRecDepth 100000 in
theorem d_98_42 : decode (mB 98) 42 = .ok (.iconst 0, 1) := by decide +kernel
set_option maxRecDepth 100000 in
theorem d_98_43 : decode (mB 98) 43 = .ok (.aload 4, 2) := by decide +kernel
set_option maxRecDepth 100000 in
theorem d_98_45 : decode (mB 98) 45 = .ok (.iload 5, 2) := by decide +kernel
set_option maxRecDepth 100000 in
theorem d_98_47 : decode (mB 98) 47 = .ok (.aaload, 1) := by decide +kernel
set_option maxRecDepth 100000 in
theorem d_98_48 : decode (mB 98) 48 = .ok (.iconst 0, 1) := by decide +kernel
set_option maxRecDepth 100000 in
theorem d_98_49 : decode (mB 98) 49 = .ok (.bipush 16, 2) := by decide +kernel
set_option maxRecDepth 100000 in
theorem d_98_51 : decode (mB 98) 51 = .ok (.invokestatic 167, 3) := by decide +kernel
set_option maxRecDepth 100000 in
theorem d_98_54 : decode (mB 98) 54 = .ok (.iconst 0, 1) := by decide +kernel
set_option maxRecDepth 100000 in
theorem d_98_55 : decode (mB 98) 55 = .ok (.istore 6, 2) := by decide +kernel
set_option maxRecDepth 100000 in
theorem d_98_57 : decode (mB 98) 57 = .ok (.iload 6, 2) := by decide +kernel
set_option maxRecDepth 100000 in
theorem d_98_59 : decode (mB 98) 59 = .ok (.aload_n 0, 1) := by decide +kernel
set_option maxRecDepth 100000 in
theorem d_98_60 : decode (mB 98) 60 = .ok (.getfield 98, 3) := by decide +kernel
set_option maxRecDepth 100000 in
theorem d_98_63 : decode (mB 98) 63 = .ok (.if_icmp .ge 184, 3) := by decide +kernel
set_option maxRecDepth 100000 in
theorem d_98_66 : decode (mB 98) 66 = .ok (.iload_n 3, 1) := by decide +kernel
set_option maxRecDepth 100000 in
theorem d_98_67 : decode (mB 98) 67 = .ok (.invokestatic 146, 3) := by decide +kernel
set_option maxRecDepth 100000 in
theorem d_98_70 : decode (mB 98) 70 = .ok (.istore 7, 2) := by decide +kernel
set_option maxRecDepth 100000 in
theorem d_98_72 : decode (mB 98) 72 = .ok (.iload 7, 2) := by decide +kernel
set_option maxRecDepth 100000 in
theorem d_98_74 : decode (mB 98) 74 = .ok (.iload_n 2, 1) := by decide +kernel
set_option maxRecDepth 100000 in
theorem d_98_75 : decode (mB 98) 75 = .ok (.invokestatic 149, 3) := by decide +kernel
set_option maxRecDepth 100000 in
theorem d_98_78 : decode (mB 98) 78 = .ok (.if_icmp .gt 163, 3) := by decide +kernel
set_option maxRecDepth 100000 in
theorem d_98_81 : decode (mB 98) 81 = .ok (.aload_n 0, 1) := by decide +kernel
set_option maxRecDepth 100000 in
theorem d_98_82 : decode (mB 98) 82 = .ok (.iload 6, 2) := by decide +kernel
set_option maxRecDepth 100000 in
theorem d_98_84 : decode (mB 98) 84 = .ok (.iload 7, 2) := by decide +kernel
set_option maxRecDepth 100000 in
theorem d_98_86 : decode (mB 98) 86 = .ok (.invokevirtual 134, 3) := by decide +kernel
set_option maxRecDepth 100000 in
theorem d_98_89 : decode (mB 98) 89 = .ok (.istore 8, 2) := by decide +kernel
set_option maxRecDepth 100000 in
theorem d_98_91 : decode (mB 98) 91 = .ok (.iload 8, 2) := by decide +kernel
set_option maxRecDepth 100000 in
theorem d_98_93 : decode (mB 98) 93 = .ok (.iconst (-1), 1) := by decide +kernel
set_option maxRecDepth 100000 in
theorem d_98_94 : decode (mB 98) 94 = .ok (.if_icmp .ne 6, 3) := by decide +kernel
set_option maxRecDepth 100000 in
theorem d_98_97 : decode (mB 98) 97 = .ok (.goto 138, 3) := by decide +kernel
set_option maxRecDepth 100000 in
theorem d_98_100 : decode (mB 98) 100 = .ok (.sipush 1440, 3) := by decide +kernel
set_option maxRecDepth 100000 in
theorem d_98_103 : decode (mB 98) 103 = .ok (.iload 7, 2) := by decide +kernel
set_option maxRecDepth 100000 in
theorem d_98_105 : decode (mB 98) 105 = .ok (.imul, 1) := by decide +kernel
set_option maxRecDepth 100000 in
theorem d_98_106 : decode (mB 98) 106 = .ok (.iload 8, 2) := by decide +kernel
set_option maxRecDepth 100000 in
theorem d_98_108 : decode (mB 98) 108 = .ok (.iadd, 1) := by decide +kernel
set_option maxRecDepth 100000 in
theorem d_98_109 : decode (mB 98) 109 = .ok (.istore 9, 2) := by decide +kernel
set_option maxRecDepth 100000 in
theorem d_98_111 : decode (mB 98) 111 = .ok (.iconst 0, 1) := by decide +kernel
set_option maxRecDepth 100000 in
theorem d_98_112 : decode (mB 98) 112 = .ok (.istore 10, 2) := by decide +kernel
set_option maxRecDepth 100000 in
theorem d_98_114 : decode (mB 98) 114 = .ok (.aload_n 0, 1) := by decide +kernel
set_option maxRecDepth 100000 in
theorem d_98_115 : decode (mB 98) 115 = .ok (.getfield 42, 3) := by decide +kernel
set_option maxRecDepth 100000 in
theorem d_98_118 : decode (mB 98) 118 = .ok (.iload 6, 2) := by decide +kernel
set_option maxRecDepth 100000 in
theorem d_98_120 : decode (mB 98) 120 = .ok (.iaload, 1) := by decide +kernel
set_option maxRecDepth 100000 in
theorem d_98_121 : decode (mB 98) 121 = .ok (.iconst 1, 1) := by decide +kernel
set_option maxRecDepth 100000 in
theorem d_98_122 : decode (mB 98) 122 = .ok (.isub, 1) := by decide +kernel
set_option maxRecDepth 100000 in
theorem d_98_123 : decode (mB 98) 123 = .ok (.istore 11, 2) := by decide +kernel
set_option maxRecDepth 100000 in
theorem d_98_125 : decode (mB 98) 125 = .ok (.iload 11, 2) := by decide +kernel
set_option maxRecDepth 100000 in
theorem d_98_127 : decode (mB 98) 127 = .ok (.ifCond .lt 108, 3) := by decide +kernel
set_option maxRecDepth 100000 in
theorem d_98_130 : decode (mB 98) 130 = .ok (.aload_n 0, 1) := by decide +kernel
set_option maxRecDepth 100000 in
theorem d_98_131 : decode (mB 98) 131 = .ok (.getfield 45, 3) := by decide +kernel
set_option maxRecDepth 100000 in
theorem d_98_134 : decode (mB 98) 134 = .ok (.iload 6, 2) := by decide +kernel
set_option maxRecDepth 100000 in
theorem d_98_136 : decode (mB 98) 136 = .ok (.aaload, 1) := by decide +kernel
set_option maxRecDepth 100000 in
theorem d_98_137 : decode (mB 98) 137 = .ok (.iload 11, 2) := by decide +kernel
set_option maxRecDepth 100000 in
theorem d_98_139 : decode (mB 98) 139 = .ok (.iaload, 1) := by decide +kernel
set_option maxRecDepth 100000 in
theorem d_98_140 : decode (mB 98) 140 = .ok (.istore 12, 2) := by decide +kernel
set_option maxRecDepth 100000 in
theorem d_98_142 : decode (mB 98) 142 = .ok (.iload 10, 2) := by decide +kernel
set_option maxRecDepth 100000 in
theorem d_98_144 : decode (mB 98) 144 = .ok (.ifCond .eq 52, 3) := by decide +kernel
set_option maxRecDepth 100000 in
theorem d_98_147 : decode (mB 98) 147 = .ok (.iload 9, 2) := by decide +kernel
set_option maxRecDepth 100000 in
theorem d_98_149 : decode (mB 98) 149 = .ok (.aload_n 0, 1) := by decide +kernel
set_option maxRecDepth 100000 in
theorem d_98_150 : decode (mB 98) 150 = .ok (.getfield 51, 3) := by decide +kernel
set_option maxRecDepth 100000 in
theorem d_98_153 : decode (mB 98) 153 = .ok (.iload 6, 2) := by decide +kernel
set_option maxRecDepth 100000 in
theorem d_98_155 : decode (mB 98) 155 = .ok (.aaload, 1) := by decide +kernel
set_option maxRecDepth 100000 in
theorem d_98_156 : decode (mB 98) 156 = .ok (.iload 11, 2) := by decide +kernel
set_option maxRecDepth 100000 in
theorem d_98_158 : decode (mB 98) 158 = .ok (.iaload, 1) := by decide +kernel
set_option maxRecDepth 100000 in
theorem d_98_159 : decode (mB 98) 159 = .ok (.iadd, 1) := by decide +kernel
set_option maxRecDepth 100000 in
theorem d_98_160 : decode (mB 98) 160 = .ok (.iload_n 3, 1) := by decide +kernel
set_option maxRecDepth 100000 in
theorem d_98_161 : decode (mB 98) 161 = .ok (.if_icmp .lt 35, 3) := by decide +kernel
set_option maxRecDepth 100000 in
theorem d_98_164 : decode (mB 98) 164 = .ok (.aload 4, 2) := by decide +kernel
set_option maxRecDepth 100000 in
theorem d_98_166 : decode (mB 98) 166 = .ok (.iload 5, 2) := by decide +kernel
set_option maxRecDepth 100000 in
theorem d_98_168 : decode (mB 98) 168 = .ok (.aaload, 1) := by decide +kernel
set_option maxRecDepth 100000 in
theorem d_98_169 : decode (mB 98) 169 = .ok (.iload 12, 2) := by decide +kernel
set_option maxRecDepth 100000 in
theorem d_98_171 : decode (mB 98) 171 = .ok (.aload 4, 2) := by decide +kernel
set_option maxRecDepth 100000 in
theorem d_98_173 : decode (mB 98) 173 = .ok (.iload 5, 2) := by decide +kernel
set_option maxRecDepth 100000 in
theorem d_98_175 : decode (mB 98) 175 = .ok (.aaload, 1) := by decide +kernel
set_option maxRecDepth 100000 in
theorem d_98_176 : decode (mB 98) 176 = .ok (.iload 12, 2) := by decide +kernel
set_option maxRecDepth 100000 in
theorem d_98_178 : decode (mB 98) 178 = .ok (.iaload, 1) := by decide +kernel
set_option maxRecDepth 100000 in
theorem d_98_179 : decode (mB 98) 179 = .ok (.iload 9, 2) := by decide +kernel
set_option maxRecDepth 100000 in
theorem d_98_181 : decode (mB 98) 181 = .ok (.aload_n 0, 1) := by decide +kernel
set_option maxRecDepth 100000 in
theorem d_98_182 : decode (mB 98) 182 = .ok (.getfield 51, 3) := by decide +kernel
set_option maxRecDepth 100000 in
theorem d_98_185 : decode (mB 98) 185 = .ok (.iload 6, 2) := by decide +kernel
set_option maxRecDepth 100000 in
theorem d_98_187 : decode (mB 98) 187 = .ok (.aaload, 1) := by decide +kernel
set_option maxRecDepth 100000 in
theorem d_98_188 : decode (mB 98) 188 = .ok (.iload 11, 2) := by decide +kernel
set_option maxRecDepth 100000 in
theorem d_98_190 : decode (mB 98) 190 = .ok (.iaload, 1) := by decide +kernel
set_option maxRecDepth 100000 in
theorem d_98_191 : decode (mB 98) 191 = .ok (.iadd, 1) := by decide +kernel
set_option maxRecDepth 100000 in
theorem d_98_192 : decode (mB 98) 192 = .ok (.invokestatic 138, 3) := by decide +kernel
set_option maxRecDepth 100000 in
theorem d_98_195 : decode (mB 98) 195 = .ok (.iastore, 1) := by decide +kernel
set_option maxRecDepth 100000 in
theorem d_98_196 : decode (mB 98) 196 = .ok (.iload 10, 2) := by decide +kernel
set_option maxRecDepth 100000 in
theorem d_98_198 : decode (mB 98) 198 = .ok (.aload_n 0, 1) := by decide +kernel
set_option maxRecDepth 100000 in
theorem d_98_199 : decode (mB 98) 199 = .ok (.iload 12, 2) := by decide +kernel
set_option maxRecDepth 100000 in
theorem d_98_201 : decode (mB 98) 201 = .ok (.iload 9, 2) := by decide +kernel
set_option maxRecDepth 100000 in
theorem d_98_203 : decode (mB 98) 203 = .ok (.aload_n 0, 1) := by decide +kernel
set_option maxRecDepth 100000 in
theorem d_98_204 : decode (mB 98) 204 = .ok (.getfield 48, 3) := by decide +kernel
set_option maxRecDepth 100000 in
theorem d_98_207 : decode (mB 98) 207 = .ok (.iload 6, 2) := by decide +kernel
set_option maxRecDepth 100000 in
theorem d_98_209 : decode (mB 98) 209 = .ok (.aaload, 1) := by decide +kernel
set_option maxRecDepth 100000 in
theorem d_98_210 : decode (mB 98) 210 = .ok (.iload 11, 2) := by decide +kernel
set_option maxRecDepth 100000 in
theorem d_98_212 : decode (mB 98) 212 = .ok (.iaload, 1) := by decide +kernel
set_option maxRecDepth 100000 in
theorem d_98_213 : decode (mB 98) 213 = .ok (.iadd, 1) := by decide +kernel
set_option maxRecDepth 100000 in
theorem d_98_214 : decode (mB 98) 214 = .ok (.iload_n 1, 1) := by decide +kernel
set_option maxRecDepth 100000 in
theorem d_98_215 : decode (mB 98) 215 = .ok (.iload_n 2, 1) := by decide +kernel
set_option maxRecDepth 100000 in
theorem d_98_216 : decode (mB 98) 216 = .ok (.aload 4, 2) := by decide +kernel
set_option maxRecDepth 100000 in
theorem d_98_218 : decode (mB 98) 218 = .ok (.iload 5, 2) := by decide +kernel
set_option maxRecDepth 100000 in
theorem d_98_220 : decode (mB 98) 220 = .ok (.iconst 1, 1) := by decide +kernel
set_option maxRecDepth 100000 in
theorem d_98_221 : decode (mB 98) 221 = .ok (.isub, 1) := by decide +kernel
set_option maxRecDepth 100000 in
theorem d_98_222 : decode (mB 98) 222 = .ok (.aaload, 1) := by decide +kernel
set_option maxRecDepth 100000 in
theorem d_98_223 : decode (mB 98) 223 = .ok (.invokevirtual 216, 3) := by decide +kernel
set_option maxRecDepth 100000 in
theorem d_98_226 : decode (mB 98) 226 = .ok (.ior, 1) := by decide +kernel
set_option maxRecDepth 100000 in
theorem d_98_227 : decode (mB 98) 227 = .ok (.istore 10, 2) := by decide +kernel
set_option maxRecDepth 100000 in
theorem d_98_229 : decode (mB 98) 229 = .ok (.iinc 11 (-1), 3) := by decide +kernel
set_option maxRecDepth 100000 in
theorem d_98_232 : decode (mB 98) 232 = .ok (.goto (-107), 3) := by decide +kernel
set_option maxRecDepth 100000 in
theorem d_98_235 : decode (mB 98) 235 = .ok (.iinc 7 1, 3) := by decide +kernel
set_option maxRecDepth 100000 in
theorem d_98_238 : decode (mB 98) 238 = .ok (.goto (-166), 3) := by decide +kernel
set_option maxRecDepth 100000 in
theorem d_98_241 : decode (mB 98) 241 = .ok (.iinc 6 1, 3) := by decide +kernel
set_option maxRecDepth 100000 in
theorem d_98_244 : decode (mB 98) 244 = .ok (.goto (-187), 3) := by decide +kernel
set_option maxRecDepth 100000 in
theorem d_98_247 : decode (mB 98) 247 = .ok (.iinc 5 1, 3) := by decide +kernel
set_option maxRecDepth 100000 in
theorem d_98_250 : decode (mB 98) 250 = .ok (.goto (-231), 3) := by decide +kernel
set_option maxRecDepth 100000 in
theorem d_98_253 : decode (mB 98) 253 = .ok (.aload 4, 2) := by decide +kernel
set_option maxRecDepth 100000 in
theorem d_98_255 : decode (mB 98) 255 = .ok (.areturn, 1) := by decide +kernel
set_option maxRecDepth 100000 in
theorem d_99_0 : decode (mB 99) 0 = .ok (.iload_n 2, 1) := by decide +kernel
set_option maxRecDepth 100000 in
theorem d_99_1 : decode (mB 99) 1 = .ok (.iload 4, 2) := by decide +kernel
set_option maxRecDepth 100000 in
theorem d_99_3 : decode (mB 99) 3 = .ok (.if_icmp .le 5, 3) := by decide +kernel
set_option maxRecDepth 100000 in
theorem d_99_6 : decode (mB 99) 6 = .ok (.iconst 0, 1) := by decide +kernel
set_option maxRecDepth 100000 in
theorem d_99_7 : decode (mB 99) 7 = .ok (.ireturn, 1) := by decide +kernel
set_option maxRecDepth 100000 in
theorem d_99_8 : decode (mB 99) 8 = .ok (.iload_n 1, 1) := by decide +kernel
set_option maxRecDepth 100000 in
theorem d_99_9 : decode (mB 99) 9 = .ok (.iload_n 3, 1) := by decide +kernel
set_option maxRecDepth 100000 in
theorem d_99_10 : decode (mB 99) 10 = .ok (.if_icmp .eq 18, 3) := by decide +kernel
set_option maxRecDepth 100000 in
theorem d_99_13 : decode (mB 99) 13 = .ok (.iload_n 2, 1) := by decide +kernel
set_option maxRecDepth 100000 in
theorem d_99_14 : decode (mB 99) 14 = .ok (.aload_n 0, 1) := by decide +kernel
set_option maxRecDepth 100000 in
theorem d_99_15 : decode (mB 99) 15 = .ok (.getfield 9, 3) := by decide +kernel
set_option maxRecDepth 100000 in
theorem d_99_18 : decode (mB 99) 18 = .ok (.iload_n 1, 1) := by decide +kernel
set_option maxRecDepth 100000 in
theorem d_99_19 : decode (mB 99) 19 = .ok (.iaload, 1) := by decide +kernel
set_option maxRecDepth 100000 in
theorem d_99_20 : decode (mB 99) 20 = .ok (.iadd, 1) := by decide +kernel
set_option maxRecDepth 100000 in
theorem d_99_21 : decode (mB 99) 21 = .ok (.aload 5, 2) := by decide +kernel
set_option maxRecDepth 100000 in
theorem d_99_23 : decode (mB 99) 23 = .ok (.iload_n 1, 1) := by decide +kernel
set_option maxRecDepth 100000 in
theorem d_99_24 : decode (mB 99) 24 = .ok (.iaload, 1) := by decide +kernel
set_option maxRecDepth 100000 in
theorem d_99_25 : decode (mB 99) 25 = .ok (.if_icmp .gt 5, 3) := by decide +kernel
set_option maxRecDepth 100000 in
theorem d_99_28 : decode (mB 99) 28 = .ok (.iconst 1, 1) := by decide +kernel
set_option maxRecDepth 100000 in
theorem d_99_29 : decode (mB 99) 29 = .ok (.ireturn, 1) := by decide +kernel
set_option maxRecDepth 100000 in
theorem d_99_30 : decode (mB 99) 30 = .ok (.iconst 0, 1) := by decide +kernel
set_option maxRecDepth 100000 in
theorem d_99_31 : decode (mB 99) 31 = .ok (.istore 6, 2) := by decide +kernel
set_option maxRecDepth 100000 in
theorem d_99_33 : decode (mB 99) 33 = .ok (.iload 6, 2) := by decide +kernel
set_option maxRecDepth 100000 in
theorem d_99_35 : decode (mB 99) 35 = .ok (.aload_n 0, 1) := by decide +kernel
set_option maxRecDepth 100000 in
theorem d_99_36 : decode (mB 99) 36 = .ok (.getfield 109, 3) := by decide +kernel
set_option maxRecDepth 100000 in
theorem d_99_39 : decode (mB 99) 39 = .ok (.if_icmp .ge 103, 3) := by decide +kernel
set_option maxRecDepth 100000 in
theorem d_99_42 : decode (mB 99) 42 = .ok (.aload_n 0, 1) := by decide +kernel
set_option maxRecDepth 100000 in
theorem d_99_43 : decode (mB 99) 43 = .ok (.getfield 13, 3) := by decide +kernel
set_option maxRecDepth 100000 in
theorem d_99_46 : decode (mB 99) 46 = .ok (.iload 6, 2) := by decide +kernel
set_option maxRecDepth 100000 in
theorem d_99_48 : decode (mB 99) 48 = .ok (.iaload, 1) := by decide +kernel
set_option maxRecDepth 100000 in
theorem d_99_49 : decode (mB 99) 49 = .ok (.iload_n 1, 1) := by decide +kernel
set_option maxRecDepth 100000 in
theorem d_99_50 : decode (mB 99) 50 = .ok (.if_icmp .eq 17, 3) := by decide +kernel
set_option maxRecDepth 100000 in
theorem d_99_53 : decode (mB 99) 53 = .ok (.aload_n 0, 1) := by decide +kernel
set_option maxRecDepth 100000 in
theorem d_99_54 : decode (mB 99) 54 = .ok (.getfield 16, 3) := by decide +kernel
set_option maxRecDepth 100000 in
theorem d_99_57 : decode (mB 99) 57 = .ok (.iload 6, 2) := by decide +kernel
set_option maxRecDepth 100000 in
theorem d_99_59 : decode (mB 99) 59 = .ok (.iaload, 1) := by decide +kernel
set_option maxRecDepth 100000 in
theorem d_99_60 : decode (mB 99) 60 = .ok (.iload_n 1, 1) := by decide +kernel
set_option maxRecDepth 100000 in
theorem d_99_61 : decode (mB 99) 61 = .ok (.if_icmp .eq 6, 3) := by decide +kernel
set_option maxRecDepth 100000 in
theorem d_99_64 : decode (mB 99) 64 = .ok (.goto 72, 3) := by decide +kernel
set_option maxRecDepth 100000 in
theorem d_99_67 : decode (mB 99) 67 = .ok (.aload_n 0, 1) := by decide +kernel
set_option maxRecDepth 100000 in
theorem d_99_68 : decode (mB 99) 68 = .ok (.getfield 13, 3) := by decide +kernel
set_option maxRecDepth 100000 in
theorem d_99_71 : decode (mB 99) 71 = .ok (.iload 6, 2) := by decide +kernel
set_option maxRecDepth 100000 in
theorem d_99_73 : decode (mB 99) 73 = .ok (.iaload, 1) := by decide +kernel
set_option maxRecDepth 100000 in
theorem d_99_74 : decode (mB 99) 74 = .ok (.iload_n 1, 1) := by decide +kernel
set_option maxRecDepth 100000 in
theorem d_99_75 : decode (mB 99) 75 = .ok (.if_icmp .ne 13, 3) := by decide +kernel
set_option maxRecDepth 100000 in
theorem d_99_78 : decode (mB 99) 78 = .ok (.aload_n 0, 1) := by decide +kernel
set_option maxRecDepth 100000 in
theorem d_99_79 : decode (mB 99) 79 = .ok (.getfield 16, 3) := by decide +kernel
set_option maxRecDepth 100000 in
theorem d_99_82 : decode (mB 99) 82 = .ok (.iload 6, 2) := by decide +kernel
set_option maxRecDepth 100000 in
theorem d_99_84 : decode (mB 99) 84 = .ok (.iaload, 1) := by decide +kernel
set_option maxRecDepth 100000 in
theorem d_99_85 : decode (mB 99) 85 = .ok (.goto 10, 3) := by decide +kernel
set_option maxRecDepth 100000 in
theorem d_99_88 : decode (mB 99) 88 = .ok (.aload_n 0, 1) := by decide +kernel
set_option maxRecDepth 100000 in
theorem d_99_89 : decode (mB 99) 89 = .ok (.getfield 13, 3) := by decide +kernel
set_option maxRecDepth 100000 in
theorem d_99_92 : decode (mB 99) 92 = .ok (.iload 6, 2) := by decide +kernel
set_option maxRecDepth 100000 in
theorem d_99_94 : decode (mB 99) 94 = .ok (.iaload, 1) := by decide +kernel
set_option maxRecDepth 100000 in
theorem d_99_95 : decode (mB 99) 95 = .ok (.istore 7, 2) := by decide +kernel
set_option maxRecDepth 100000 in
theorem d_99_97 : decode (mB 99) 97 = .ok (.iload 7, 2) := by decide +kernel
set_option maxRecDepth 100000 in
theorem d_99_99 : decode (mB 99) 99 = .ok (.iload_n 3, 1) := by decide +kernel
set_option maxRecDepth 100000 in
theorem d_99_100 : decode (mB 99) 100 = .ok (.if_icmp .ne 17, 3) := by decide +kernel
set_option maxRecDepth 100000 in
theorem d_99_103 : decode (mB 99) 103 = .ok (.iload_n 2, 1) := by decide +kernel
set_option maxRecDepth 100000 in
theorem d_99_104 : decode (mB 99) 104 = .ok (.aload_n 0, 1) := by decide +kernel
set_option maxRecDepth 100000 in
theorem d_99_105 : decode (mB 99) 105 = .ok (.getfield 19, 3) := by decide +kernel
set_option maxRecDepth 100000 in
theorem d_99_108 : decode (mB 99) 108 = .ok (.iload 6, 2) := by decide +kernel
set_option maxRecDepth 100000 in
theorem d_99_110 : decode (mB 99) 110 = .ok (.iaload, 1) := by decide +kernel
set_option maxRecDepth 100000 in
theorem d_99_111 : decode (mB 99) 111 = .ok (.iadd, 1) := by decide +kernel
set_option maxRecDepth 100000 in
theorem d_99_112 : decode (mB 99) 112 = .ok (.iload 4, 2) := by decide +kernel
set_option maxRecDepth 100000 in
theorem d_99_114 : decode (mB 99) 114 = .ok (.if_icmp .le 20, 3) := by decide +kernel
set_option maxRecDepth 100000 in
theorem d_99_117 : decode (mB 99) 117 = .ok (.iload_n 2, 1) := by decide +kernel
set_option maxRecDepth 100000 in
theorem d_99_118 : decode (mB 99) 118 = .ok (.aload_n 0, 1) := by decide +kernel
set_option maxRecDepth 100000 in
theorem d_99_119 : decode (mB 99) 119 = .ok (.getfield 19, 3) := by decide +kernel
set_option maxRecDepth 100000 in
theorem d_99_122 : decode (mB 99) 122 = .ok (.iload 6, 2) := by decide +kernel
set_option maxRecDepth 100000 in
theorem d_99_124 : decode (mB 99) 124 = .ok (.iaload, 1) := by decide +kernel
set_option maxRecDepth 100000 in
theorem d_99_125 : decode (mB 99) 125 = .ok (.iadd, 1) := by decide +kernel
set_option maxRecDepth 100000 in
theorem d_99_126 : decode (mB 99) 126 = .ok (.aload 5, 2) := by decide +kernel
set_option maxRecDepth 100000 in
theorem d_99_128 : decode (mB 99) 128 = .ok (.iload 7, 2) := by decide +kernel
set_option maxRecDepth 100000 in
theorem d_99_130 : decode (mB 99) 130 = .ok (.iaload, 1) := by decide +kernel
set_option maxRecDepth 100000 in
theorem d_99_131 : decode (mB 99) 131 = .ok (.if_icmp .gt 5, 3) := by decide +kernel
set_option maxRecDepth 100000 in
theorem d_99_134 : decode (mB 99) 134 = .ok (.iconst 1, 1) := by decide +kernel
set_option maxRecDepth 100000 in
theorem d_99_135 : decode (mB 99) 135 = .ok (.ireturn, 1) := by decide +kernel
set_option maxRecDepth 100000 in
theorem d_99_136 : decode (mB 99) 136 = .ok (.iinc 6 1, 3) := by decide +kernel
set_option maxRecDepth 100000 in
theorem d_99_139 : decode (mB 99) 139 = .ok (.goto (-106), 3) := by decide +kernel
set_option maxRecDepth 100000 in
theorem d_99_142 : decode (mB 99) 142 = .ok (.iconst 0, 1) := by decide +kernel
set_option maxRecDepth 100000 in
theorem d_99_143 : decode (mB 99) 143 = .ok (.ireturn, 1) := by decide +kernel
set_option maxRecDepth 100000 in
theorem oi_2 : okw (.methodLink "WhistleStop$Backward" 3 Lib.objectInit) := okk_w (k := 224) (by decide +kernel)
set_option maxRecDepth 100000 in
theorem cl_2_9 : okw (.classLink "WhistleStop$Backward" 9 "[[I") := okk_w (k := 225) (by decide +kernel)
set_option maxRecDepth 100000 in
theorem fl_2_11 : flP "WhistleStop$Backward" 11 2 0 := ⟨_, rfl, by decide, okk_w (k := 226) (by decide +kernel)⟩
set_option maxRecDepth 100000 in
theorem fl_2_16 : flP "WhistleStop$Backward" 16 2 1 := ⟨_, rfl, by decide, okk_w (k := 227) (by decide +kernel)⟩
set_option maxRecDepth 100000 in
theorem d_118_0 : decode (mB 118) 0 = .ok (.aload_n 0, 1) := by decide +kernel
set_option maxRecDepth 100000 in
theorem d_118_1 : decode (mB 118) 1 = .ok (.invokespecial 3, 3) := by decide +kernel
set_option maxRecDepth 100000 in
theorem d_118_4 : decode (mB 118) 4 = .ok (.aload_n 0, 1) := by decide +kernel
set_option maxRecDepth 100000 in
theorem d_118_5 : decode (mB 118) 5 = .ok (.bipush 7, 2) := by decide +kernel
set_option maxRecDepth 100000 in
theorem d_118_7 : decode (mB 118) 7 = .ok (.bipush 16, 2) := by decide +kernel
set_option maxRecDepth 100000 in
theorem d_118_9 : decode (mB 118) 9 = .ok (.multianewarray 9 2, 4) := by decide +kernel
set_option maxRecDepth 100000 in
theorem d_118_13 : decode (mB 118) 13 = .ok (.putfield 11, 3) := by decide +kernel
set_option maxRecDepth 100000 in
theorem d_118_16 : decode (mB 118) 16 = .ok (.aload_n 0, 1) := by decide +kernel
set_option maxRecDepth 100000 in
theorem d_118_17 : decode (mB 118) 17 = .ok (.bipush 7, 2) := by decide +kernel
set_option maxRecDepth 100000 in
theorem d_118_19 : decode (mB 118) 19 = .ok (.bipush 16, 2) := by decide +kernel
set_option maxRecDepth 100000 in
theorem d_118_21 : decode (mB 118) 21 = .ok (.multianewarray 9 2, 4) := by decide +kernel
set_option maxRecDepth 100000 in
theorem d_118_25 : decode (mB 118) 25 = .ok (.putfield 16, 3) := by decide +kernel
set_option maxRecDepth 100000 in
theorem d_118_28 : decode (mB 118) 28 = .ok (.return_, 1) := by decide +kernel
set_option maxRecDepth 100000 in
theorem fl_2_19 : flP "WhistleStop$Backward" 19 2 2 := ⟨_, rfl, by decide, okk_w (k := 229) (by decide +kernel)⟩
set_option maxRecDepth 100000 in
theorem fl_2_23 : flP "WhistleStop$Backward" 23 2 3 := ⟨_, rfl, by decide, okk_w (k := 230) (by decide +kernel)⟩
set_option maxRecDepth 100000 in
theorem ck_2_26 : okw (.constant "WhistleStop$Backward" 26 (-1000000000)) := okk_w (k := 980) (by decide +kernel)
set_option maxRecDepth 100000 in
theorem c_119_27 : csP 119 27 216 2 := ⟨cd_216, okk_w (k := 981) (by decide +kernel), okk_w (k := 849) (by decide +kernel), by decide +kernel, by decide +kernel⟩
set_option maxRecDepth 100000 in
theorem c_119_33 : cvP 119 33 120 2 := ⟨cd_120, okk_w (k := 982) (by decide +kernel), okk_w (k := 984) (by decide +kernel), okk_w (k := 19) (by decide +kernel), by decide +kernel, by decide +kernel⟩
set_option maxRecDepth 100000 in
theorem c_119_37 : csP 119 37 215 2 := ⟨cd_215, okk_w (k := 995) (by decide +kernel), okk_w (k := 786) (by decide +kernel), by decide +kernel, by decide +kernel⟩
set_option maxRecDepth 100000 in
theorem c_119_49 : cvP 119 49 123 3 := ⟨cd_123, okk_w (k := 997) (by decide +kernel), okk_w (k := 999) (by decide +kernel), okk_w (k := 21) (by decide +kernel), by decide +kernel, by decide +kernel⟩
set_option maxRecDepth 100000 in
theorem d_119_0 : decode (mB 119) 0 = .ok (.aload_n 0, 1) := by decide +kernel
set_option maxRecDepth 100000 in
theorem d_119_1 : decode (mB 119) 1 = .ok (.iload_n 3, 1) := by decide +kernel
set_option maxRecDepth 100000 in
theorem d_119_2 : decode (mB 119) 2 = .ok (.putfield 19, 3) := by decide +kernel
set_option maxRecDepth 100000 in
theorem d_119_5 : decode (mB 119) 5 = .ok (.aload_n 0, 1) := by decide +kernel
set_option maxRecDepth 100000 in
theorem d_119_6 : decode (mB 119) 6 = .ok (.iload 4, 2) := by decide +kernel
set_option maxRecDepth 100000 in
theorem d_119_8 : decode (mB 119) 8 = .ok (.putfield 23, 3) := by decide +kernel
set_option maxRecDepth 100000 in
theorem d_119_11 : decode (mB 119) 11 = .ok (.aload_n 0, 1) := by decide +kernel
set_option maxRecDepth 100000 in
theorem d_119_12 : decode (mB 119) 12 = .ok (.getfield 11, 3) := by decide +kernel
set_option maxRecDepth 100000 in
theorem d_119_15 : decode (mB 119) 15 = .ok (.iconst 0, 1) := by decide +kernel
set_option maxRecDepth 100000 in
theorem d_119_16 : decode (mB 119) 16 = .ok (.aaload, 1) := by decide +kernel
set_option maxRecDepth 100000 in
theorem d_119_17 : decode (mB 119) 17 = .ok (.ldc 26, 2) := by decide +kernel
set_option maxRecDepth 100000 in
theorem d_119_19 : decode (mB 119) 19 = .ok (.invokestatic 27, 3) := by decide +kernel
set_option maxRecDepth 100000 in
theorem d_119_22 : decode (mB 119) 22 = .ok (.aload_n 0, 1) := by decide +kernel
set_option maxRecDepth 100000 in
theorem d_119_23 : decode (mB 119) 23 = .ok (.aload_n 1, 1) := by decide +kernel
set_option maxRecDepth 100000 in
theorem d_119_24 : decode (mB 119) 24 = .ok (.iconst 0, 1) := by decide +kernel
set_option maxRecDepth 100000 in
theorem d_119_25 : decode (mB 119) 25 = .ok (.invokevirtual 33, 3) := by decide +kernel
set_option maxRecDepth 100000 in
theorem d_119_28 : decode (mB 119) 28 = .ok (.iconst 1, 1) := by decide +kernel
set_option maxRecDepth 100000 in
theorem d_119_29 : decode (mB 119) 29 = .ok (.istore 6, 2) := by decide +kernel
set_option maxRecDepth 100000 in
theorem d_119_31 : decode (mB 119) 31 = .ok (.iconst 1, 1) := by decide +kernel
set_option maxRecDepth 100000 in
theorem d_119_32 : decode (mB 119) 32 = .ok (.istore 7, 2) := by decide +kernel
set_option maxRecDepth 100000 in
theorem d_119_34 : decode (mB 119) 34 = .ok (.iload 7, 2) := by decide +kernel
set_option maxRecDepth 100000 in
theorem d_119_36 : decode (mB 119) 36 = .ok (.iload 5, 2) := by decide +kernel
set_option maxRecDepth 100000 in
theorem d_119_38 : decode (mB 119) 38 = .ok (.bipush 6, 2) := by decide +kernel
set_option maxRecDepth 100000 in
theorem d_119_40 : decode (mB 119) 40 = .ok (.invokestatic 37, 3) := by decide +kernel
set_option maxRecDepth 100000 in
theorem d_119_43 : decode (mB 119) 43 = .ok (.if_icmp .gt 90, 3) := by decide +kernel
set_option maxRecDepth 100000 in
theorem d_119_46 : decode (mB 119) 46 = .ok (.aload_n 0, 1) := by decide +kernel
set_option maxRecDepth 100000 in
theorem d_119_47 : decode (mB 119) 47 = .ok (.getfield 11, 3) := by decide +kernel
set_option maxRecDepth 100000 in
theorem d_119_50 : decode (mB 119) 50 = .ok (.iload 7, 2) := by decide +kernel
set_option maxRecDepth 100000 in
theorem d_119_52 : decode (mB 119) 52 = .ok (.iconst 1, 1) := by decide +kernel
set_option maxRecDepth 100000 in
theorem d_119_53 : decode (mB 119) 53 = .ok (.isub, 1) := by decide +kernel
set_option maxRecDepth 100000 in
theorem d_119_54 : decode (mB 119) 54 = .ok (.aaload, 1) := by decide +kernel
set_option maxRecDepth 100000 in
theorem d_119_55 : decode (mB 119) 55 = .ok (.iconst 0, 1) := by decide +kernel
set_option maxRecDepth 100000 in
theorem d_119_56 : decode (mB 119) 56 = .ok (.aload_n 0, 1) := by decide +kernel
set_option maxRecDepth 100000 in
theorem d_119_57 : decode (mB 119) 57 = .ok (.getfield 11, 3) := by decide +kernel
set_option maxRecDepth 100000 in
theorem d_119_60 : decode (mB 119) 60 = .ok (.iload 7, 2) := by decide +kernel
set_option maxRecDepth 100000 in
theorem d_119_62 : decode (mB 119) 62 = .ok (.aaload, 1) := by decide +kernel
set_option maxRecDepth 100000 in
theorem d_119_63 : decode (mB 119) 63 = .ok (.iconst 0, 1) := by decide +kernel
set_option maxRecDepth 100000 in
theorem d_119_64 : decode (mB 119) 64 = .ok (.bipush 16, 2) := by decide +kernel
set_option maxRecDepth 100000 in
theorem d_119_66 : decode (mB 119) 66 = .ok (.invokestatic 43, 3) := by decide +kernel
set_option maxRecDepth 100000 in
theorem d_119_69 : decode (mB 119) 69 = .ok (.aload_n 0, 1) := by decide +kernel
set_option maxRecDepth 100000 in
theorem d_119_70 : decode (mB 119) 70 = .ok (.getfield 16, 3) := by decide +kernel
set_option maxRecDepth 100000 in
theorem d_119_73 : decode (mB 119) 73 = .ok (.iload 7, 2) := by decide +kernel
set_option maxRecDepth 100000 in
theorem d_119_75 : decode (mB 119) 75 = .ok (.iconst 1, 1) := by decide +kernel
set_option maxRecDepth 100000 in
theorem d_119_76 : decode (mB 119) 76 = .ok (.isub, 1) := by decide +kernel
set_option maxRecDepth 100000 in
theorem d_119_77 : decode (mB 119) 77 = .ok (.aaload, 1) := by decide +kernel
set_option maxRecDepth 100000 in
theorem d_119_78 : decode (mB 119) 78 = .ok (.iconst 0, 1) := by decide +kernel
set_option maxRecDepth 100000 in
theorem d_119_79 : decode (mB 119) 79 = .ok (.aload_n 0, 1) := by decide +kernel
set_option maxRecDepth 100000 in
theorem d_119_80 : decode (mB 119) 80 = .ok (.getfield 16, 3) := by decide +kernel
set_option maxRecDepth 100000 in
theorem d_119_83 : decode (mB 119) 83 = .ok (.iload 7, 2) := by decide +kernel
set_option maxRecDepth 100000 in
theorem d_119_85 : decode (mB 119) 85 = .ok (.aaload, 1) := by decide +kernel
set_option maxRecDepth 100000 in
theorem d_119_86 : decode (mB 119) 86 = .ok (.iconst 0, 1) := by decide +kernel
set_option maxRecDepth 100000 in
theorem d_119_87 : decode (mB 119) 87 = .ok (.bipush 16, 2) := by decide +kernel
set_option maxRecDepth 100000 in
theorem d_119_89 : decode (mB 119) 89 = .ok (.invokestatic 43, 3) := by decide +kernel
set_option maxRecDepth 100000 in
theorem d_119_92 : decode (mB 119) 92 = .ok (.iload 6, 2) := by decide +kernel
set_option maxRecDepth 100000 in
theorem d_119_94 : decode (mB 119) 94 = .ok (.ifCond .eq 33, 3) := by decide +kernel
set_option maxRecDepth 100000 in
theorem d_119_97 : decode (mB 119) 97 = .ok (.aload_n 0, 1) := by decide +kernel
set_option maxRecDepth 100000 in
theorem d_119_98 : decode (mB 119) 98 = .ok (.aload_n 2, 1) := by decide +kernel
set_option maxRecDepth 100000 in
theorem d_119_99 : decode (mB 119) 99 = .ok (.aload_n 0, 1) := by decide +kernel
set_option maxRecDepth 100000 in
theorem d_119_100 : decode (mB 119) 100 = .ok (.getfield 11, 3) := by decide +kernel
set_option maxRecDepth 100000 in
theorem d_119_103 : decode (mB 119) 103 = .ok (.iload 7, 2) := by decide +kernel
set_option maxRecDepth 100000 in
theorem d_119_105 : decode (mB 119) 105 = .ok (.aaload, 1) := by decide +kernel
set_option maxRecDepth 100000 in
theorem d_119_106 : decode (mB 119) 106 = .ok (.aload_n 0, 1) := by decide +kernel
set_option maxRecDepth 100000 in
theorem d_119_107 : decode (mB 119) 107 = .ok (.getfield 16, 3) := by decide +kernel
set_option maxRecDepth 100000 in
theorem d_119_110 : decode (mB 119) 110 = .ok (.iload 7, 2) := by decide +kernel
set_option maxRecDepth 100000 in
theorem d_119_112 : decode (mB 119) 112 = .ok (.iconst 1, 1) := by decide +kernel
set_option maxRecDepth 100000 in
theorem d_119_113 : decode (mB 119) 113 = .ok (.isub, 1) := by decide +kernel
set_option maxRecDepth 100000 in
theorem d_119_114 : decode (mB 119) 114 = .ok (.aaload, 1) := by decide +kernel
set_option maxRecDepth 100000 in
theorem d_119_115 : decode (mB 119) 115 = .ok (.invokevirtual 49, 3) := by decide +kernel
set_option maxRecDepth 100000 in
theorem d_119_118 : decode (mB 119) 118 = .ok (.istore 6, 2) := by decide +kernel
set_option maxRecDepth 100000 in
theorem d_119_120 : decode (mB 119) 120 = .ok (.aload_n 0, 1) := by decide +kernel
set_option maxRecDepth 100000 in
theorem d_119_121 : decode (mB 119) 121 = .ok (.aload_n 1, 1) := by decide +kernel
set_option maxRecDepth 100000 in
theorem d_119_122 : decode (mB 119) 122 = .ok (.iload 7, 2) := by decide +kernel
set_option maxRecDepth 100000 in
theorem d_119_124 : decode (mB 119) 124 = .ok (.invokevirtual 33, 3) := by decide +kernel
set_option maxRecDepth 100000 in
theorem d_119_127 : decode (mB 119) 127 = .ok (.iinc 7 1, 3) := by decide +kernel
set_option maxRecDepth 100000 in
theorem d_119_130 : decode (mB 119) 130 = .ok (.goto (-96), 3) := by decide +kernel
set_option maxRecDepth 100000 in
theorem d_119_133 : decode (mB 119) 133 = .ok (.return_, 1) := by decide +kernel
set_option maxRecDepth 100000 in
theorem fl_2_106 : flP "WhistleStop$Backward" 106 8 4 := ⟨_, rfl, by decide, okk_w (k := 118) (by decide +kernel)⟩
set_option maxRecDepth 100000 in
theorem fl_2_109 : flP "WhistleStop$Backward" 109 8 0 := ⟨_, rfl, by decide, okk_w (k := 104) (by decide +kernel)⟩
set_option maxRecDepth 100000 in
theorem fl_2_56 : flP "WhistleStop$Backward" 56 8 5 := ⟨_, rfl, by decide, okk_w (k := 120) (by decide +kernel)⟩
set_option maxRecDepth 100000 in
theorem fl_2_61 : flP "WhistleStop$Backward" 61 8 1 := ⟨_, rfl, by decide, okk_w (k := 107) (by decide +kernel)⟩
set_option maxRecDepth 100000 in
theorem fl_2_112 : flP "WhistleStop$Backward" 112 6 0 := ⟨_, rfl, by decide, okk_w (k := 586) (by decide +kernel)⟩
set_option maxRecDepth 100000 in
theorem fl_2_115 : flP "WhistleStop$Backward" 115 6 1 := ⟨_, rfl, by decide, okk_w (k := 589) (by decide +kernel)⟩
set_option maxRecDepth 100000 in
theorem fl_2_71 : flP "WhistleStop$Backward" 71 6 2 := ⟨_, rfl, by decide, okk_w (k := 592) (by decide +kernel)⟩
set_option maxRecDepth 100000 in
theorem c_120_118 : cvP 120 118 121 4 := ⟨cd_121, okk_w (k := 986) (by decide +kernel), okk_w (k := 988) (by decide +kernel), okk_w (k := 20) (by decide +kernel), by decide +kernel, by decide +kernel⟩
set_option maxRecDepth 100000 in
theorem d_120_0 : decode (mB 120) 0 = .ok (.iconst 0, 1) := by decide +kernel
set_option maxRecDepth 100000 in
theorem d_120_1 : decode (mB 120) 1 = .ok (.istore_n 3, 1) := by decide +kernel
set_option maxRecDepth 100000 in
theorem d_120_2 : decode (mB 120) 2 = .ok (.iload_n 3, 1) := by decide +kernel
set_option maxRecDepth 100000 in
theorem d_120_3 : decode (mB 120) 3 = .ok (.aload_n 1, 1) := by decide +kernel
set_option maxRecDepth 100000 in
theorem d_120_4 : decode (mB 120) 4 = .ok (.getfield 106, 3) := by decide +kernel
set_option maxRecDepth 100000 in
theorem d_120_7 : decode (mB 120) 7 = .ok (.if_icmp .ge 47, 3) := by decide +kernel
set_option maxRecDepth 100000 in
theorem d_120_10 : decode (mB 120) 10 = .ok (.aload_n 0, 1) := by decide +kernel
set_option maxRecDepth 100000 in
theorem d_120_11 : decode (mB 120) 11 = .ok (.getfield 16, 3) := by decide +kernel
set_option maxRecDepth 100000 in
theorem d_120_14 : decode (mB 120) 14 = .ok (.iload_n 2, 1) := by decide +kernel
set_option maxRecDepth 100000 in
theorem d_120_15 : decode (mB 120) 15 = .ok (.aaload, 1) := by decide +kernel
set_option maxRecDepth 100000 in
theorem d_120_16 : decode (mB 120) 16 = .ok (.iload_n 3, 1) := by decide +kernel
set_option maxRecDepth 100000 in
theorem d_120_17 : decode (mB 120) 17 = .ok (.iload_n 3, 1) := by decide +kernel
set_option maxRecDepth 100000 in
theorem d_120_18 : decode (mB 120) 18 = .ok (.aload_n 0, 1) := by decide +kernel
set_option maxRecDepth 100000 in
theorem d_120_19 : decode (mB 120) 19 = .ok (.getfield 19, 3) := by decide +kernel
set_option maxRecDepth 100000 in
theorem d_120_22 : decode (mB 120) 22 = .ok (.if_icmp .ne 10, 3) := by decide +kernel
set_option maxRecDepth 100000 in
theorem d_120_25 : decode (mB 120) 25 = .ok (.aload_n 0, 1) := by decide +kernel
set_option maxRecDepth 100000 in
theorem d_120_26 : decode (mB 120) 26 = .ok (.getfield 23, 3) := by decide +kernel
set_option maxRecDepth 100000 in
theorem d_120_29 : decode (mB 120) 29 = .ok (.goto 18, 3) := by decide +kernel
set_option maxRecDepth 100000 in
theorem d_120_32 : decode (mB 120) 32 = .ok (.aload_n 0, 1) := by decide +kernel
set_option maxRecDepth 100000 in
theorem d_120_33 : decode (mB 120) 33 = .ok (.getfield 11, 3) := by decide +kernel
set_option maxRecDepth 100000 in
theorem d_120_36 : decode (mB 120) 36 = .ok (.iload_n 2, 1) := by decide +kernel
set_option maxRecDepth 100000 in
theorem d_120_37 : decode (mB 120) 37 = .ok (.aaload, 1) := by decide +kernel
set_option maxRecDepth 100000 in
theorem d_120_38 : decode (mB 120) 38 = .ok (.iload_n 3, 1) := by decide +kernel
set_option maxRecDepth 100000 in
theorem d_120_39 : decode (mB 120) 39 = .ok (.iaload, 1) := by decide +kernel
set_option maxRecDepth 100000 in
theorem d_120_40 : decode (mB 120) 40 = .ok (.aload_n 1, 1) := by decide +kernel
set_option maxRecDepth 100000 in
theorem d_120_41 : decode (mB 120) 41 = .ok (.getfield 109, 3) := by decide +kernel
set_option maxRecDepth 100000 in
theorem d_120_44 : decode (mB 120) 44 = .ok (.iload_n 3, 1) := by decide +kernel
set_option maxRecDepth 100000 in
theorem d_120_45 : decode (mB 120) 45 = .ok (.iaload, 1) := by decide +kernel
set_option maxRecDepth 100000 in
theorem d_120_46 : decode (mB 120) 46 = .ok (.isub, 1) := by decide +kernel
set_option maxRecDepth 100000 in
theorem d_120_47 : decode (mB 120) 47 = .ok (.iastore, 1) := by decide +kernel
set_option maxRecDepth 100000 in
theorem d_120_48 : decode (mB 120) 48 = .ok (.iinc 3 1, 3) := by decide +kernel
set_option maxRecDepth 100000 in
theorem d_120_51 : decode (mB 120) 51 = .ok (.goto (-49), 3) := by decide +kernel
set_option maxRecDepth 100000 in
theorem d_120_54 : decode (mB 120) 54 = .ok (.iconst 0, 1) := by decide +kernel
set_option maxRecDepth 100000 in
theorem d_120_55 : decode (mB 120) 55 = .ok (.istore_n 3, 1) := by decide +kernel
set_option maxRecDepth 100000 in
theorem d_120_56 : decode (mB 120) 56 = .ok (.iload_n 3, 1) := by decide +kernel
set_option maxRecDepth 100000 in
theorem d_120_57 : decode (mB 120) 57 = .ok (.aload_n 1, 1) := by decide +kernel
set_option maxRecDepth 100000 in
theorem d_120_58 : decode (mB 120) 58 = .ok (.getfield 56, 3) := by decide +kernel
set_option maxRecDepth 100000 in
theorem d_120_61 : decode (mB 120) 61 = .ok (.if_icmp .ge 57, 3) := by decide +kernel
set_option maxRecDepth 100000 in
theorem d_120_64 : decode (mB 120) 64 = .ok (.aload_n 1, 1) := by decide +kernel
set_option maxRecDepth 100000 in
theorem d_120_65 : decode (mB 120) 65 = .ok (.getfield 61, 3) := by decide +kernel
set_option maxRecDepth 100000 in
theorem d_120_68 : decode (mB 120) 68 = .ok (.iload_n 3, 1) := by decide +kernel
set_option maxRecDepth 100000 in
theorem d_120_69 : decode (mB 120) 69 = .ok (.aaload, 1) := by decide +kernel
set_option maxRecDepth 100000 in
theorem d_120_70 : decode (mB 120) 70 = .ok (.astore 4, 2) := by decide +kernel
set_option maxRecDepth 100000 in
theorem d_120_72 : decode (mB 120) 72 = .ok (.aload_n 0, 1) := by decide +kernel
set_option maxRecDepth 100000 in
theorem d_120_73 : decode (mB 120) 73 = .ok (.iload_n 2, 1) := by decide +kernel
set_option maxRecDepth 100000 in
theorem d_120_74 : decode (mB 120) 74 = .ok (.aload 4, 2) := by decide +kernel
set_option maxRecDepth 100000 in
theorem d_120_76 : decode (mB 120) 76 = .ok (.getfield 112, 3) := by decide +kernel
set_option maxRecDepth 100000 in
theorem d_120_79 : decode (mB 120) 79 = .ok (.aload 4, 2) := by decide +kernel
set_option maxRecDepth 100000 in
theorem d_120_81 : decode (mB 120) 81 = .ok (.getfield 115, 3) := by decide +kernel
set_option maxRecDepth 100000 in
theorem d_120_84 : decode (mB 120) 84 = .ok (.aload 4, 2) := by decide +kernel
set_option maxRecDepth 100000 in
theorem d_120_86 : decode (mB 120) 86 = .ok (.getfield 71, 3) := by decide +kernel
set_option maxRecDepth 100000 in
theorem d_120_89 : decode (mB 120) 89 = .ok (.invokevirtual 118, 3) := by decide +kernel
set_option maxRecDepth 100000 in
theorem d_120_92 : decode (mB 120) 92 = .ok (.aload_n 0, 1) := by decide +kernel
set_option maxRecDepth 100000 in
theorem d_120_93 : decode (mB 120) 93 = .ok (.iload_n 2, 1) := by decide +kernel
set_option maxRecDepth 100000 in
theorem d_120_94 : decode (mB 120) 94 = .ok (.aload 4, 2) := by decide +kernel
set_option maxRecDepth 100000 in
theorem d_120_96 : decode (mB 120) 96 = .ok (.getfield 115, 3) := by decide +kernel
set_option maxRecDepth 100000 in
theorem d_120_99 : decode (mB 120) 99 = .ok (.aload 4, 2) := by decide +kernel
set_option maxRecDepth 100000 in
theorem d_120_101 : decode (mB 120) 101 = .ok (.getfield 112, 3) := by decide +kernel
set_option maxRecDepth 100000 in
theorem d_120_104 : decode (mB 120) 104 = .ok (.aload 4, 2) := by decide +kernel
set_option maxRecDepth 100000 in
theorem d_120_106 : decode (mB 120) 106 = .ok (.getfield 71, 3) := by decide +kernel
set_option maxRecDepth 100000 in
theorem d_120_109 : decode (mB 120) 109 = .ok (.invokevirtual 118, 3) := by decide +kernel
set_option maxRecDepth 100000 in
theorem d_120_112 : decode (mB 120) 112 = .ok (.iinc 3 1, 3) := by decide +kernel
set_option maxRecDepth 100000 in
theorem d_120_115 : decode (mB 120) 115 = .ok (.goto (-59), 3) := by decide +kernel
set_option maxRecDepth 100000 in
theorem d_120_118 : decode (mB 120) 118 = .ok (.return_, 1) := by decide +kernel
set_option maxRecDepth 100000 in
theorem c_121_53 : cvP 121 53 122 2 := ⟨cd_122, okk_w (k := 990) (by decide +kernel), okk_w (k := 991) (by decide +kernel), okk_w (k := 992) (by decide +kernel), by decide +kernel, by decide +kernel⟩
set_option maxRecDepth 100000 in
theorem c_121_74 : csP 121 74 214 2 := ⟨cd_214, okk_w (k := 994) (by decide +kernel), okk_w (k := 783) (by decide +kernel), by decide +kernel, by decide +kernel⟩
set_option maxRecDepth 100000 in
theorem d_121_0 : decode (mB 121) 0 = .ok (.aload_n 0, 1) := by decide +kernel
set_option maxRecDepth 100000 in
theorem d_121_1 : decode (mB 121) 1 = .ok (.getfield 16, 3) := by decide +kernel
set_option maxRecDepth 100000 in
theorem d_121_4 : decode (mB 121) 4 = .ok (.iload_n 1, 1) := by decide +kernel
set_option maxRecDepth 100000 in
theorem d_121_5 : decode (mB 121) 5 = .ok (.aaload, 1) := by decide +kernel
set_option maxRecDepth 100000 in
theorem d_121_6 : decode (mB 121) 6 = .ok (.iload_n 2, 1) := by decide +kernel
set_option maxRecDepth 100000 in
theorem d_121_7 : decode (mB 121) 7 = .ok (.aload_n 0, 1) := by decide +kernel
set_option maxRecDepth 100000 in
theorem d_121_8 : decode (mB 121) 8 = .ok (.getfield 16, 3) := by decide +kernel
set_option maxRecDepth 100000 in
theorem d_121_11 : decode (mB 121) 11 = .ok (.iload_n 1, 1) := by decide +kernel
set_option maxRecDepth 100000 in
theorem d_121_12 : decode (mB 121) 12 = .ok (.aaload, 1) := by decide +kernel
set_option maxRecDepth 100000 in
theorem d_121_13 : decode (mB 121) 13 = .ok (.iload_n 2, 1) := by decide +kernel
set_option maxRecDepth 100000 in
theorem d_121_14 : decode (mB 121) 14 = .ok (.iaload, 1) := by decide +kernel
set_option maxRecDepth 100000 in
theorem d_121_15 : decode (mB 121) 15 = .ok (.aload_n 0, 1) := by decide +kernel
set_option maxRecDepth 100000 in
theorem d_121_16 : decode (mB 121) 16 = .ok (.iload_n 3, 1) := by decide +kernel
set_option maxRecDepth 100000 in
theorem d_121_17 : decode (mB 121) 17 = .ok (.iload_n 1, 1) := by decide +kernel
set_option maxRecDepth 100000 in
theorem d_121_18 : decode (mB 121) 18 = .ok (.invokevirtual 53, 3) := by decide +kernel
set_option maxRecDepth 100000 in
theorem d_121_21 : decode (mB 121) 21 = .ok (.iload 4, 2) := by decide +kernel
set_option maxRecDepth 100000 in
theorem d_121_23 : decode (mB 121) 23 = .ok (.isub, 1) := by decide +kernel
set_option maxRecDepth 100000 in
theorem d_121_24 : decode (mB 121) 24 = .ok (.invokestatic 74, 3) := by decide +kernel
set_option maxRecDepth 100000 in
theorem d_121_27 : decode (mB 121) 27 = .ok (.iastore, 1) := by decide +kernel
set_option maxRecDepth 100000 in
theorem d_121_28 : decode (mB 121) 28 = .ok (.return_, 1) := by decide +kernel
set_option maxRecDepth 100000 in
theorem d_122_0 : decode (mB 122) 0 = .ok (.iload_n 1, 1) := by decide +kernel
set_option maxRecDepth 100000 in
theorem d_122_1 : decode (mB 122) 1 = .ok (.aload_n 0, 1) := by decide +kernel
set_option maxRecDepth 100000 in
theorem d_122_2 : decode (mB 122) 2 = .ok (.getfield 19, 3) := by decide +kernel
set_option maxRecDepth 100000 in
theorem d_122_5 : decode (mB 122) 5 = .ok (.if_icmp .ne 10, 3) := by decide +kernel
set_option maxRecDepth 100000 in
theorem d_122_8 : decode (mB 122) 8 = .ok (.aload_n 0, 1) := by decide +kernel
set_option maxRecDepth 100000 in
theorem d_122_9 : decode (mB 122) 9 = .ok (.getfield 23, 3) := by decide +kernel
set_option maxRecDepth 100000 in
theorem d_122_12 : decode (mB 122) 12 = .ok (.goto 11, 3) := by decide +kernel
set_option maxRecDepth 100000 in
theorem d_122_15 : decode (mB 122) 15 = .ok (.aload_n 0, 1) := by decide +kernel
set_option maxRecDepth 100000 in
theorem d_122_16 : decode (mB 122) 16 = .ok (.getfield 11, 3) := by decide +kernel
set_option maxRecDepth 100000 in
theorem d_122_19 : decode (mB 122) 19 = .ok (.iload_n 2, 1) := by decide +kernel
set_option maxRecDepth 100000 in
theorem d_122_20 : decode (mB 122) 20 = .ok (.aaload, 1) := by decide +kernel
set_option maxRecDepth 100000 in
theorem d_122_21 : decode (mB 122) 21 = .ok (.iload_n 1, 1) := by decide +kernel
set_option maxRecDepth 100000 in
theorem d_122_22 : decode (mB 122) 22 = .ok (.iaload, 1) := by decide +kernel
set_option maxRecDepth 100000 in
theorem d_122_23 : decode (mB 122) 23 = .ok (.ireturn, 1) := by decide +kernel
set_option maxRecDepth 100000 in
theorem fl_2_77 : flP "WhistleStop$Backward" 77 11 3 := ⟨_, rfl, by decide, okk_w (k := 171) (by decide +kernel)⟩
set_option maxRecDepth 100000 in
theorem fl_2_82 : flP "WhistleStop$Backward" 82 11 0 := ⟨_, rfl, by decide, okk_w (k := 156) (by decide +kernel)⟩
set_option maxRecDepth 100000 in
theorem fl_2_86 : flP "WhistleStop$Backward" 86 11 2 := ⟨_, rfl, by decide, okk_w (k := 165) (by decide +kernel)⟩
set_option maxRecDepth 100000 in
theorem c_123_90 : cvP 123 90 124 4 := ⟨cd_124, okk_w (k := 1001) (by decide +kernel), okk_w (k := 1003) (by decide +kernel), okk_w (k := 22) (by decide +kernel), by decide +kernel, by decide +kernel⟩
set_option maxRecDepth 100000 in
theorem d_123_0 : decode (mB 123) 0 = .ok (.iconst 0, 1) := by decide +kernel
set_option maxRecDepth 100000 in
theorem d_123_1 : decode (mB 123) 1 = .ok (.istore 4, 2) := by decide +kernel
set_option maxRecDepth 100000 in
theorem d_123_3 : decode (mB 123) 3 = .ok (.iconst 0, 1) := by decide +kernel
set_option maxRecDepth 100000 in
theorem d_123_4 : decode (mB 123) 4 = .ok (.istore 5, 2) := by decide +kernel
set_option maxRecDepth 100000 in
theorem d_123_6 : decode (mB 123) 6 = .ok (.iload 5, 2) := by decide +kernel
set_option maxRecDepth 100000 in
theorem d_123_8 : decode (mB 123) 8 = .ok (.aload_n 1, 1) := by decide +kernel
set_option maxRecDepth 100000 in
theorem d_123_9 : decode (mB 123) 9 = .ok (.getfield 77, 3) := by decide +kernel
set_option maxRecDepth 100000 in
theorem d_123_12 : decode (mB 123) 12 = .ok (.if_icmp .ge 44, 3) := by decide +kernel
set_option maxRecDepth 100000 in
theorem d_123_15 : decode (mB 123) 15 = .ok (.aload_n 0, 1) := by decide +kernel
set_option maxRecDepth 100000 in
theorem d_123_16 : decode (mB 123) 16 = .ok (.aload_n 1, 1) := by decide +kernel
set_option maxRecDepth 100000 in
theorem d_123_17 : decode (mB 123) 17 = .ok (.getfield 82, 3) := by decide +kernel
set_option maxRecDepth 100000 in
theorem d_123_20 : decode (mB 123) 20 = .ok (.iload 5, 2) := by decide +kernel
set_option maxRecDepth 100000 in
theorem d_123_22 : decode (mB 123) 22 = .ok (.aaload, 1) := by decide +kernel
set_option maxRecDepth 100000 in
theorem d_123_23 : decode (mB 123) 23 = .ok (.aload_n 1, 1) := by decide +kernel
set_option maxRecDepth 100000 in
theorem d_123_24 : decode (mB 123) 24 = .ok (.getfield 86, 3) := by decide +kernel
set_option maxRecDepth 100000 in
theorem d_123_27 : decode (mB 123) 27 = .ok (.iload 5, 2) := by decide +kernel
set_option maxRecDepth 100000 in
theorem d_123_29 : decode (mB 123) 29 = .ok (.iaload, 1) := by decide +kernel
set_option maxRecDepth 100000 in
theorem d_123_30 : decode (mB 123) 30 = .ok (.aload_n 2, 1) := by decide +kernel
set_option maxRecDepth 100000 in
theorem d_123_31 : decode (mB 123) 31 = .ok (.aload_n 3, 1) := by decide +kernel
set_option maxRecDepth 100000 in
theorem d_123_32 : decode (mB 123) 32 = .ok (.invokevirtual 90, 3) := by decide +kernel
set_option maxRecDepth 100000 in
theorem d_123_35 : decode (mB 123) 35 = .ok (.ifCond .ne 8, 3) := by decide +kernel
set_option maxRecDepth 100000 in
theorem d_123_38 : decode (mB 123) 38 = .ok (.iload 4, 2) := by decide +kernel
set_option maxRecDepth 100000 in
theorem d_123_40 : decode (mB 123) 40 = .ok (.ifCond .eq 7, 3) := by decide +kernel
set_option maxRecDepth 100000 in
theorem d_123_43 : decode (mB 123) 43 = .ok (.iconst 1, 1) := by decide +kernel
set_option maxRecDepth 100000 in
theorem d_123_44 : decode (mB 123) 44 = .ok (.goto 4, 3) := by decide +kernel
set_option maxRecDepth 100000 in
theorem d_123_47 : decode (mB 123) 47 = .ok (.iconst 0, 1) := by decide +kernel
set_option maxRecDepth 100000 in
theorem d_123_48 : decode (mB 123) 48 = .ok (.istore 4, 2) := by decide +kernel
set_option maxRecDepth 100000 in
theorem d_123_50 : decode (mB 123) 50 = .ok (.iinc 5 1, 3) := by decide +kernel
set_option maxRecDepth 100000 in
theorem d_123_53 : decode (mB 123) 53 = .ok (.goto (-47), 3) := by decide +kernel
set_option maxRecDepth 100000 in
theorem d_123_56 : decode (mB 123) 56 = .ok (.iload 4, 2) := by decide +kernel
set_option maxRecDepth 100000 in
theorem d_123_58 : decode (mB 123) 58 = .ok (.ireturn, 1) := by decide +kernel
set_option maxRecDepth 100000 in
theorem fl_2_94 : flP "WhistleStop$Backward" 94 12 7 := ⟨_, rfl, by decide, okk_w (k := 692) (by decide +kernel)⟩
set_option maxRecDepth 100000 in
theorem fl_2_97 : flP "WhistleStop$Backward" 97 12 3 := ⟨_, rfl, by decide, okk_w (k := 670) (by decide +kernel)⟩
set_option maxRecDepth 100000 in
theorem fl_2_100 : flP "WhistleStop$Backward" 100 12 5 := ⟨_, rfl, by decide, okk_w (k := 683) (by decide +kernel)⟩
set_option maxRecDepth 100000 in
theorem fl_2_103 : flP "WhistleStop$Backward" 103 12 4 := ⟨_, rfl, by decide, okk_w (k := 676) (by decide +kernel)⟩
set_option maxRecDepth 100000 in
theorem d_124_0 : decode (mB 124) 0 = .ok (.iconst 0, 1) := by decide +kernel
set_option maxRecDepth 100000 in
theorem d_124_1 : decode (mB 124) 1 = .ok (.istore 5, 2) := by decide +kernel
set_option maxRecDepth 100000 in
theorem d_124_3 : decode (mB 124) 3 = .ok (.iconst 0, 1) := by decide +kernel
set_option maxRecDepth 100000 in
theorem d_124_4 : decode (mB 124) 4 = .ok (.istore 6, 2) := by decide +kernel
set_option maxRecDepth 100000 in
theorem d_124_6 : decode (mB 124) 6 = .ok (.aload_n 1, 1) := by decide +kernel
set_option maxRecDepth 100000 in
theorem d_124_7 : decode (mB 124) 7 = .ok (.getfield 94, 3) := by decide +kernel
set_option maxRecDepth 100000 in
theorem d_124_10 : decode (mB 124) 10 = .ok (.iconst 1, 1) := by decide +kernel
set_option maxRecDepth 100000 in
theorem d_124_11 : decode (mB 124) 11 = .ok (.isub, 1) := by decide +kernel
set_option maxRecDepth 100000 in
theorem d_124_12 : decode (mB 124) 12 = .ok (.istore 7, 2) := by decide +kernel
set_option maxRecDepth 100000 in
theorem d_124_14 : decode (mB 124) 14 = .ok (.iload 7, 2) := by decide +kernel
set_option maxRecDepth 100000 in
theorem d_124_16 : decode (mB 124) 16 = .ok (.ifCond .lt 81, 3) := by decide +kernel
set_option maxRecDepth 100000 in
theorem d_124_19 : decode (mB 124) 19 = .ok (.aload_n 1, 1) := by decide +kernel
set_option maxRecDepth 100000 in
theorem d_124_20 : decode (mB 124) 20 = .ok (.getfield 97, 3) := by decide +kernel
set_option maxRecDepth 100000 in
theorem d_124_23 : decode (mB 124) 23 = .ok (.iload 7, 2) := by decide +kernel
set_option maxRecDepth 100000 in
theorem d_124_25 : decode (mB 124) 25 = .ok (.iaload, 1) := by decide +kernel
set_option maxRecDepth 100000 in
theorem d_124_26 : decode (mB 124) 26 = .ok (.istore 8, 2) := by decide +kernel
set_option maxRecDepth 100000 in
theorem d_124_28 : decode (mB 124) 28 = .ok (.iload_n 2, 1) := by decide +kernel
set_option maxRecDepth 100000 in
theorem d_124_29 : decode (mB 124) 29 = .ok (.aload_n 1, 1) := by decide +kernel
set_option maxRecDepth 100000 in
theorem d_124_30 : decode (mB 124) 30 = .ok (.getfield 100, 3) := by decide +kernel
set_option maxRecDepth 100000 in
theorem d_124_33 : decode (mB 124) 33 = .ok (.iload 7, 2) := by decide +kernel
set_option maxRecDepth 100000 in
theorem d_124_35 : decode (mB 124) 35 = .ok (.iaload, 1) := by decide +kernel
set_option maxRecDepth 100000 in
theorem d_124_36 : decode (mB 124) 36 = .ok (.iadd, 1) := by decide +kernel
set_option maxRecDepth 100000 in
theorem d_124_37 : decode (mB 124) 37 = .ok (.istore 9, 2) := by decide +kernel
set_option maxRecDepth 100000 in
theorem d_124_39 : decode (mB 124) 39 = .ok (.iload 6, 2) := by decide +kernel
set_option maxRecDepth 100000 in
theorem d_124_41 : decode (mB 124) 41 = .ok (.ifCond .eq 21, 3) := by decide +kernel
set_option maxRecDepth 100000 in
theorem d_124_44 : decode (mB 124) 44 = .ok (.iload 9, 2) := by decide +kernel
set_option maxRecDepth 100000 in
theorem d_124_46 : decode (mB 124) 46 = .ok (.aload_n 3, 1) := by decide +kernel
set_option maxRecDepth 100000 in
theorem d_124_47 : decode (mB 124) 47 = .ok (.iload 8, 2) := by decide +kernel
set_option maxRecDepth 100000 in
theorem d_124_49 : decode (mB 124) 49 = .ok (.iaload, 1) := by decide +kernel
set_option maxRecDepth 100000 in
theorem d_124_50 : decode (mB 124) 50 = .ok (.if_icmp .le 12, 3) := by decide +kernel
set_option maxRecDepth 100000 in
theorem d_124_53 : decode (mB 124) 53 = .ok (.aload_n 3, 1) := by decide +kernel
set_option maxRecDepth 100000 in
theorem d_124_54 : decode (mB 124) 54 = .ok (.iload 8, 2) := by decide +kernel
set_option maxRecDepth 100000 in
theorem d_124_56 : decode (mB 124) 56 = .ok (.iload 9, 2) := by decide +kernel
set_option maxRecDepth 100000 in
theorem d_124_58 : decode (mB 124) 58 = .ok (.iastore, 1) := by decide +kernel
set_option maxRecDepth 100000 in
theorem d_124_59 : decode (mB 124) 59 = .ok (.iconst 1, 1) := by decide +kernel
set_option maxRecDepth 100000 in
theorem d_124_60 : decode (mB 124) 60 = .ok (.istore 5, 2) := by decide +kernel
set_option maxRecDepth 100000 in
theorem d_124_62 : decode (mB 124) 62 = .ok (.iload 6, 2) := by decide +kernel
set_option maxRecDepth 100000 in
theorem d_124_64 : decode (mB 124) 64 = .ok (.ifCond .ne 20, 3) := by decide +kernel
set_option maxRecDepth 100000 in
theorem d_124_67 : decode (mB 124) 67 = .ok (.iload_n 2, 1) := by decide +kernel
set_option maxRecDepth 100000 in
theorem d_124_68 : decode (mB 124) 68 = .ok (.aload_n 1, 1) := by decide +kernel
set_option maxRecDepth 100000 in
theorem d_124_69 : decode (mB 124) 69 = .ok (.getfield 103, 3) := by decide +kernel
set_option maxRecDepth 100000 in
theorem d_124_72 : decode (mB 124) 72 = .ok (.iload 7, 2) := by decide +kernel
set_option maxRecDepth 100000 in
theorem d_124_74 : decode (mB 124) 74 = .ok (.iaload, 1) := by decide +kernel
set_option maxRecDepth 100000 in
theorem d_124_75 : decode (mB 124) 75 = .ok (.iadd, 1) := by decide +kernel
set_option maxRecDepth 100000 in
theorem d_124_76 : decode (mB 124) 76 = .ok (.aload 4, 2) := by decide +kernel
set_option maxRecDepth 100000 in
theorem d_124_78 : decode (mB 124) 78 = .ok (.iload 8, 2) := by decide +kernel
set_option maxRecDepth 100000 in
theorem d_124_80 : decode (mB 124) 80 = .ok (.iaload, 1) := by decide +kernel
set_option maxRecDepth 100000 in
theorem d_124_81 : decode (mB 124) 81 = .ok (.if_icmp .gt 7, 3) := by decide +kernel
set_option maxRecDepth 100000 in
theorem d_124_84 : decode (mB 124) 84 = .ok (.iconst 1, 1) := by decide +kernel
set_option maxRecDepth 100000 in
theorem d_124_85 : decode (mB 124) 85 = .ok (.goto 4, 3) := by decide +kernel
set_option maxRecDepth 100000 in
theorem d_124_88 : decode (mB 124) 88 = .ok (.iconst 0, 1) := by decide +kernel
set_option maxRecDepth 100000 in
theorem d_124_89 : decode (mB 124) 89 = .ok (.istore 6, 2) := by decide +kernel
set_option maxRecDepth 100000 in
theorem d_124_91 : decode (mB 124) 91 = .ok (.iinc 7 (-1), 3) := by decide +kernel
set_option maxRecDepth 100000 in
theorem d_124_94 : decode (mB 124) 94 = .ok (.goto (-80), 3) := by decide +kernel
set_option maxRecDepth 100000 in
theorem d_124_97 : decode (mB 124) 97 = .ok (.iload 5, 2) := by decide +kernel
set_option maxRecDepth 100000 in
theorem d_124_99 : decode (mB 124) 99 = .ok (.ireturn, 1) := by decide +kernel
set_option maxRecDepth 100000 in
theorem c_125_53 : cvP 125 53 122 2 := ⟨cd_122, okk_w (k := 990) (by decide +kernel), okk_w (k := 991) (by decide +kernel), okk_w (k := 992) (by decide +kernel), by decide +kernel, by decide +kernel⟩
set_option maxRecDepth 100000 in
theorem c_125_65 : cvP 125 65 140 1 := ⟨cd_140, okk_w (k := 1009) (by decide +kernel), okk_w (k := 948) (by decide +kernel), okk_w (k := 949) (by decide +kernel), by decide +kernel, by decide +kernel⟩
set_option maxRecDepth 100000 in
theorem c_125_74 : csP 125 74 214 2 := ⟨cd_214, okk_w (k := 994) (by decide +kernel), okk_w (k := 783) (by decide +kernel), by decide +kernel, by decide +kernel⟩
set_option maxRecDepth 100000 in
theorem d_125_0 : decode (mB 125) 0 = .ok (.aload_n 0, 1) := by decide +kernel
set_option maxRecDepth 100000 in
theorem d_125_1 : decode (mB 125) 1 = .ok (.iload_n 2, 1) := by decide +kernel
set_option maxRecDepth 100000 in
theorem d_125_2 : decode (mB 125) 2 = .ok (.iload_n 3, 1) := by decide +kernel
set_option maxRecDepth 100000 in
theorem d_125_3 : decode (mB 125) 3 = .ok (.invokevirtual 53, 3) := by decide +kernel
set_option maxRecDepth 100000 in
theorem d_125_6 : decode (mB 125) 6 = .ok (.istore 4, 2) := by decide +kernel
set_option maxRecDepth 100000 in
theorem d_125_8 : decode (mB 125) 8 = .ok (.iconst 0, 1) := by decide +kernel
set_option maxRecDepth 100000 in
theorem d_125_9 : decode (mB 125) 9 = .ok (.istore 5, 2) := by decide +kernel
set_option maxRecDepth 100000 in
theorem d_125_11 : decode (mB 125) 11 = .ok (.iload 5, 2) := by decide +kernel
set_option maxRecDepth 100000 in
theorem d_125_13 : decode (mB 125) 13 = .ok (.aload_n 1, 1) := by decide +kernel
set_option maxRecDepth 100000 in
theorem d_125_14 : decode (mB 125) 14 = .ok (.getfield 56, 3) := by decide +kernel
set_option maxRecDepth 100000 in
theorem d_125_17 : decode (mB 125) 17 = .ok (.if_icmp .ge 52, 3) := by decide +kernel
set_option maxRecDepth 100000 in
theorem d_125_20 : decode (mB 125) 20 = .ok (.aload_n 1, 1) := by decide +kernel
set_option maxRecDepth 100000 in
theorem d_125_21 : decode (mB 125) 21 = .ok (.getfield 61, 3) := by decide +kernel
set_option maxRecDepth 100000 in
theorem d_125_24 : decode (mB 125) 24 = .ok (.iload 5, 2) := by decide +kernel
set_option maxRecDepth 100000 in
theorem d_125_26 : decode (mB 125) 26 = .ok (.aaload, 1) := by decide +kernel
set_option maxRecDepth 100000 in
theorem d_125_27 : decode (mB 125) 27 = .ok (.astore 6, 2) := by decide +kernel
set_option maxRecDepth 100000 in
theorem d_125_29 : decode (mB 125) 29 = .ok (.aload 6, 2) := by decide +kernel
set_option maxRecDepth 100000 in
theorem d_125_31 : decode (mB 125) 31 = .ok (.iload_n 2, 1) := by decide +kernel
set_option maxRecDepth 100000 in
theorem d_125_32 : decode (mB 125) 32 = .ok (.invokevirtual 65, 3) := by decide +kernel
set_option maxRecDepth 100000 in
theorem d_125_35 : decode (mB 125) 35 = .ok (.istore 7, 2) := by decide +kernel
set_option maxRecDepth 100000 in
theorem d_125_37 : decode (mB 125) 37 = .ok (.iload 7, 2) := by decide +kernel
set_option maxRecDepth 100000 in
theorem d_125_39 : decode (mB 125) 39 = .ok (.iconst (-1), 1) := by decide +kernel
set_option maxRecDepth 100000 in
theorem d_125_40 : decode (mB 125) 40 = .ok (.if_icmp .eq 23, 3) := by decide +kernel
set_option maxRecDepth 100000 in
theorem d_125_43 : decode (mB 125) 43 = .ok (.iload 4, 2) := by decide +kernel
set_option maxRecDepth 100000 in
theorem d_125_45 : decode (mB 125) 45 = .ok (.aload_n 0, 1) := by decide +kernel
set_option maxRecDepth 100000 in
theorem d_125_46 : decode (mB 125) 46 = .ok (.iload 7, 2) := by decide +kernel
set_option maxRecDepth 100000 in
theorem d_125_48 : decode (mB 125) 48 = .ok (.iload_n 3, 1) := by decide +kernel
set_option maxRecDepth 100000 in
theorem d_125_49 : decode (mB 125) 49 = .ok (.invokevirtual 53, 3) := by decide +kernel
set_option maxRecDepth 100000 in
theorem d_125_52 : decode (mB 125) 52 = .ok (.aload 6, 2) := by decide +kernel
set_option maxRecDepth 100000 in
theorem d_125_54 : decode (mB 125) 54 = .ok (.getfield 71, 3) := by decide +kernel
set_option maxRecDepth 100000 in
theorem d_125_57 : decode (mB 125) 57 = .ok (.isub, 1) := by decide +kernel
set_option maxRecDepth 100000 in
theorem d_125_58 : decode (mB 125) 58 = .ok (.invokestatic 74, 3) := by decide +kernel
set_option maxRecDepth 100000 in
theorem d_125_61 : decode (mB 125) 61 = .ok (.istore 4, 2) := by decide +kernel
set_option maxRecDepth 100000 in
theorem d_125_63 : decode (mB 125) 63 = .ok (.iinc 5 1, 3) := by decide +kernel
set_option maxRecDepth 100000 in
theorem d_125_66 : decode (mB 125) 66 = .ok (.goto (-55), 3) := by decide +kernel
set_option maxRecDepth 100000 in
theorem d_125_69 : decode (mB 125) 69 = .ok (.iload 4, 2) := by decide +kernel
set_option maxRecDepth 100000 in
theorem d_125_71 : decode (mB 125) 71 = .ok (.ireturn, 1) := by decide +kernel
set_option maxRecDepth 100000 in
theorem oi_3 : okw (.methodLink "WhistleStop$Board" 3 Lib.objectInit) := okk_w (k := 188) (by decide +kernel)
set_option maxRecDepth 100000 in
theorem fl_3_9 : flP "WhistleStop$Board" 9 3 0 := ⟨_, rfl, by decide, okk_w (k := 189) (by decide +kernel)⟩
set_option maxRecDepth 100000 in
theorem d_126_0 : decode (mB 126) 0 = .ok (.aload_n 0, 1) := by decide +kernel
set_option maxRecDepth 100000 in
theorem d_126_1 : decode (mB 126) 1 = .ok (.invokespecial 3, 3) := by decide +kernel
set_option maxRecDepth 100000 in
theorem d_126_4 : decode (mB 126) 4 = .ok (.aload_n 0, 1) := by decide +kernel
set_option maxRecDepth 100000 in
theorem d_126_5 : decode (mB 126) 5 = .ok (.sipush 1344, 3) := by decide +kernel
set_option maxRecDepth 100000 in
theorem d_126_8 : decode (mB 126) 8 = .ok (.newarray .long, 2) := by decide +kernel
set_option maxRecDepth 100000 in
theorem d_126_10 : decode (mB 126) 10 = .ok (.putfield 9, 3) := by decide +kernel
set_option maxRecDepth 100000 in
theorem d_126_13 : decode (mB 126) 13 = .ok (.return_, 1) := by decide +kernel
set_option maxRecDepth 100000 in
theorem c_131_25 : csnP 131 25 10 1 := ⟨cd_10, ⟨"WhistleStop", okk_w (k := 492) (by decide +kernel)⟩, okk_w (k := 483) (by decide +kernel), by decide +kernel, by decide +kernel⟩
set_option maxRecDepth 100000 in
theorem fl_4_9 : flP "WhistleStop$Calendar" 9 4 3 := ⟨_, rfl, by decide, okk_w (k := 620) (by decide +kernel)⟩
set_option maxRecDepth 100000 in
theorem fl_4_19 : flP "WhistleStop$Calendar" 19 4 1 := ⟨_, rfl, by decide, okk_w (k := 618) (by decide +kernel)⟩
set_option maxRecDepth 100000 in
theorem fl_4_22 : flP "WhistleStop$Calendar" 22 4 2 := ⟨_, rfl, by decide, okk_w (k := 619) (by decide +kernel)⟩
set_option maxRecDepth 100000 in
theorem c_131_29 : csnP 131 29 11 3 := ⟨cd_11, ⟨"WhistleStop", okk_w (k := 493) (by decide +kernel)⟩, okk_w (k := 486) (by decide +kernel), by decide +kernel, by decide +kernel⟩
set_option maxRecDepth 100000 in
theorem fl_4_15 : flP "WhistleStop$Calendar" 15 4 0 := ⟨_, rfl, by decide, okk_w (k := 617) (by decide +kernel)⟩
set_option maxRecDepth 100000 in
theorem d_131_0 : decode (mB 131) 0 = .ok (.iload_n 1, 1) := by decide +kernel
set_option maxRecDepth 100000 in
theorem d_131_1 : decode (mB 131) 1 = .ok (.invokestatic 25, 3) := by decide +kernel
set_option maxRecDepth 100000 in
theorem d_131_4 : decode (mB 131) 4 = .ok (.ifCond .ne 5, 3) := by decide +kernel
set_option maxRecDepth 100000 in
theorem d_131_7 : decode (mB 131) 7 = .ok (.iconst 0, 1) := by decide +kernel
set_option maxRecDepth 100000 in
theorem d_131_8 : decode (mB 131) 8 = .ok (.ireturn, 1) := by decide +kernel
set_option maxRecDepth 100000 in
theorem d_131_9 : decode (mB 131) 9 = .ok (.aload_n 0, 1) := by decide +kernel
set_option maxRecDepth 100000 in
theorem d_131_10 : decode (mB 131) 10 = .ok (.getfield 9, 3) := by decide +kernel
set_option maxRecDepth 100000 in
theorem d_131_13 : decode (mB 131) 13 = .ok (.iload_n 1, 1) := by decide +kernel
set_option maxRecDepth 100000 in
theorem d_131_14 : decode (mB 131) 14 = .ok (.iaload, 1) := by decide +kernel
set_option maxRecDepth 100000 in
theorem d_131_15 : decode (mB 131) 15 = .ok (.ifCond .eq 19, 3) := by decide +kernel
set_option maxRecDepth 100000 in
theorem d_131_18 : decode (mB 131) 18 = .ok (.aload_n 0, 1) := by decide +kernel
set_option maxRecDepth 100000 in
theorem d_131_19 : decode (mB 131) 19 = .ok (.getfield 9, 3) := by decide +kernel
set_option maxRecDepth 100000 in
theorem d_131_22 : decode (mB 131) 22 = .ok (.iload_n 1, 1) := by decide +kernel
set_option maxRecDepth 100000 in
theorem d_131_23 : decode (mB 131) 23 = .ok (.iaload, 1) := by decide +kernel
set_option maxRecDepth 100000 in
theorem d_131_24 : decode (mB 131) 24 = .ok (.iconst 1, 1) := by decide +kernel
set_option maxRecDepth 100000 in
theorem d_131_25 : decode (mB 131) 25 = .ok (.if_icmp .ne 7, 3) := by decide +kernel
set_option maxRecDepth 100000 in
theorem d_131_28 : decode (mB 131) 28 = .ok (.iconst 1, 1) := by decide +kernel
set_option maxRecDepth 100000 in
theorem d_131_29 : decode (mB 131) 29 = .ok (.goto 4, 3) := by decide +kernel
set_option maxRecDepth 100000 in
theorem d_131_32 : decode (mB 131) 32 = .ok (.iconst 0, 1) := by decide +kernel
set_option maxRecDepth 100000 in
theorem d_131_33 : decode (mB 131) 33 = .ok (.ireturn, 1) := by decide +kernel
set_option maxRecDepth 100000 in
theorem d_131_34 : decode (mB 131) 34 = .ok (.iload_n 1, 1) := by decide +kernel
set_option maxRecDepth 100000 in
theorem d_131_35 : decode (mB 131) 35 = .ok (.aload_n 0, 1) := by decide +kernel
set_option maxRecDepth 100000 in
theorem d_131_36 : decode (mB 131) 36 = .ok (.getfield 19, 3) := by decide +kernel
set_option maxRecDepth 100000 in
theorem d_131_39 : decode (mB 131) 39 = .ok (.aload_n 0, 1) := by decide +kernel
set_option maxRecDepth 100000 in
theorem d_131_40 : decode (mB 131) 40 = .ok (.getfield 22, 3) := by decide +kernel
set_option maxRecDepth 100000 in
theorem d_131_43 : decode (mB 131) 43 = .ok (.invokestatic 29, 3) := by decide +kernel
set_option maxRecDepth 100000 in
theorem d_131_46 : decode (mB 131) 46 = .ok (.ifCond .eq 22, 3) := by decide +kernel
set_option maxRecDepth 100000 in
theorem d_131_49 : decode (mB 131) 49 = .ok (.aload_n 0, 1) := by decide +kernel
set_option maxRecDepth 100000 in
theorem d_131_50 : decode (mB 131) 50 = .ok (.getfield 15, 3) := by decide +kernel
set_option maxRecDepth 100000 in
theorem d_131_53 : decode (mB 131) 53 = .ok (.iload_n 1, 1) := by decide +kernel
set_option maxRecDepth 100000 in
theorem d_131_54 : decode (mB 131) 54 = .ok (.bipush 7, 2) := by decide +kernel
set_option maxRecDepth 100000 in
theorem d_131_56 : decode (mB 131) 56 = .ok (.irem, 1) := by decide +kernel
set_option maxRecDepth 100000 in
theorem d_131_57 : decode (mB 131) 57 = .ok (.ishr, 1) := by decide +kernel
set_option maxRecDepth 100000 in
theorem d_131_58 : decode (mB 131) 58 = .ok (.iconst 1, 1) := by decide +kernel
set_option maxRecDepth 100000 in
theorem d_131_59 : decode (mB 131) 59 = .ok (.iand, 1) := by decide +kernel
set_option maxRecDepth 100000 in
theorem d_131_60 : decode (mB 131) 60 = .ok (.iconst 1, 1) := by decide +kernel
set_option maxRecDepth 100000 in
theorem d_131_61 : decode (mB 131) 61 = .ok (.if_icmp .ne 7, 3) := by decide +kernel
set_option maxRecDepth 100000 in
theorem d_131_64 : decode (mB 131) 64 = .ok (.iconst 1, 1) := by decide +kernel
set_option maxRecDepth 100000 in
theorem d_131_65 : decode (mB 131) 65 = .ok (.goto 4, 3) := by decide +kernel
set_option maxRecDepth 100000 in
theorem d_131_68 : decode (mB 131) 68 = .ok (.iconst 0, 1) := by decide +kernel
set_option maxRecDepth 100000 in
theorem d_131_69 : decode (mB 131) 69 = .ok (.ireturn, 1) := by decide +kernel
set_option maxRecDepth 100000 in
theorem oi_5 : okw (.methodLink "WhistleStop$Fares" 3 Lib.objectInit) := okk_w (k := 245) (by decide +kernel)
set_option maxRecDepth 100000 in
theorem cl_5_9 : okw (.classLink "WhistleStop$Fares" 9 "WhistleStop$Offers") := okk_w (k := 246) (by decide +kernel)
set_option maxRecDepth 100000 in
theorem fl_5_11 : flP "WhistleStop$Fares" 11 5 0 := ⟨_, rfl, by decide, okk_w (k := 264) (by decide +kernel)⟩
set_option maxRecDepth 100000 in
theorem fl_5_17 : flP "WhistleStop$Fares" 17 5 1 := ⟨_, rfl, by decide, okk_w (k := 265) (by decide +kernel)⟩
set_option maxRecDepth 100000 in
theorem c_133_20 : cinP 133 20 157 0 := ⟨cd_157, ⟨"WhistleStop", okk_w (k := 249) (by decide +kernel)⟩, okk_w (k := 250) (by decide +kernel), by decide +kernel, by decide +kernel, by decide +kernel⟩
set_option maxRecDepth 100000 in
theorem d_133_0 : decode (mB 133) 0 = .ok (.aload_n 0, 1) := by decide +kernel
set_option maxRecDepth 100000 in
theorem d_133_1 : decode (mB 133) 1 = .ok (.invokespecial 3, 3) := by decide +kernel
set_option maxRecDepth 100000 in
theorem d_133_4 : decode (mB 133) 4 = .ok (.aload_n 0, 1) := by decide +kernel
set_option maxRecDepth 100000 in
theorem d_133_5 : decode (mB 133) 5 = .ok (.bipush 16, 2) := by decide +kernel
set_option maxRecDepth 100000 in
theorem d_133_7 : decode (mB 133) 7 = .ok (.anewarray 9, 3) := by decide +kernel
set_option maxRecDepth 100000 in
theorem d_133_10 : decode (mB 133) 10 = .ok (.putfield 11, 3) := by decide +kernel
set_option maxRecDepth 100000 in
theorem d_133_13 : decode (mB 133) 13 = .ok (.aload_n 0, 1) := by decide +kernel
set_option maxRecDepth 100000 in
theorem d_133_14 : decode (mB 133) 14 = .ok (.bipush 16, 2) := by decide +kernel
set_option maxRecDepth 100000 in
theorem d_133_16 : decode (mB 133) 16 = .ok (.anewarray 9, 3) := by decide +kernel
set_option maxRecDepth 100000 in
theorem d_133_19 : decode (mB 133) 19 = .ok (.putfield 17, 3) := by decide +kernel
set_option maxRecDepth 100000 in
theorem d_133_22 : decode (mB 133) 22 = .ok (.iconst 0, 1) := by decide +kernel
set_option maxRecDepth 100000 in
theorem d_133_23 : decode (mB 133) 23 = .ok (.istore_n 1, 1) := by decide +kernel
set_option maxRecDepth 100000 in
theorem d_133_24 : decode (mB 133) 24 = .ok (.iload_n 1, 1) := by decide +kernel
set_option maxRecDepth 100000 in
theorem d_133_25 : decode (mB 133) 25 = .ok (.bipush 16, 2) := by decide +kernel
set_option maxRecDepth 100000 in
theorem d_133_27 : decode (mB 133) 27 = .ok (.if_icmp .ge 35, 3) := by decide +kernel
set_option maxRecDepth 100000 in
theorem d_133_30 : decode (mB 133) 30 = .ok (.aload_n 0, 1) := by decide +kernel
set_option maxRecDepth 100000 in
theorem d_133_31 : decode (mB 133) 31 = .ok (.getfield 11, 3) := by decide +kernel
set_option maxRecDepth 100000 in
theorem d_133_34 : decode (mB 133) 34 = .ok (.iload_n 1, 1) := by decide +kernel
set_option maxRecDepth 100000 in
theorem d_133_35 : decode (mB 133) 35 = .ok (.new 9, 3) := by decide +kernel
set_option maxRecDepth 100000 in
theorem d_133_38 : decode (mB 133) 38 = .ok (.dup, 1) := by decide +kernel
set_option maxRecDepth 100000 in
theorem d_133_39 : decode (mB 133) 39 = .ok (.invokespecial 20, 3) := by decide +kernel
set_option maxRecDepth 100000 in
theorem d_133_42 : decode (mB 133) 42 = .ok (.aastore, 1) := by decide +kernel
set_option maxRecDepth 100000 in
theorem d_133_43 : decode (mB 133) 43 = .ok (.aload_n 0, 1) := by decide +kernel
set_option maxRecDepth 100000 in
theorem d_133_44 : decode (mB 133) 44 = .ok (.getfield 17, 3) := by decide +kernel
set_option maxRecDepth 100000 in
theorem d_133_47 : decode (mB 133) 47 = .ok (.iload_n 1, 1) := by decide +kernel
set_option maxRecDepth 100000 in
theorem d_133_48 : decode (mB 133) 48 = .ok (.new 9, 3) := by decide +kernel
set_option maxRecDepth 100000 in
theorem d_133_51 : decode (mB 133) 51 = .ok (.dup, 1) := by decide +kernel
set_option maxRecDepth 100000 in
theorem d_133_52 : decode (mB 133) 52 = .ok (.invokespecial 20, 3) := by decide +kernel
set_option maxRecDepth 100000 in
theorem d_133_55 : decode (mB 133) 55 = .ok (.aastore, 1) := by decide +kernel
set_option maxRecDepth 100000 in
theorem d_133_56 : decode (mB 133) 56 = .ok (.iinc 1 1, 3) := by decide +kernel
set_option maxRecDepth 100000 in
theorem d_133_59 : decode (mB 133) 59 = .ok (.goto (-35), 3) := by decide +kernel
set_option maxRecDepth 100000 in
theorem d_133_62 : decode (mB 133) 62 = .ok (.return_, 1) := by decide +kernel
set_option maxRecDepth 100000 in
theorem fl_6_9 : flP "WhistleStop$Footway" 9 6 0 := ⟨_, rfl, by decide, okk_w (k := 585) (by decide +kernel)⟩
set_option maxRecDepth 100000 in
theorem fl_6_15 : flP "WhistleStop$Footway" 15 6 1 := ⟨_, rfl, by decide, okk_w (k := 588) (by decide +kernel)⟩
set_option maxRecDepth 100000 in
theorem d_140_0 : decode (mB 140) 0 = .ok (.iload_n 1, 1) := by decide +kernel
set_option maxRecDepth 100000 in
theorem d_140_1 : decode (mB 140) 1 = .ok (.aload_n 0, 1) := by decide +kernel
set_option maxRecDepth 100000 in
theorem d_140_2 : decode (mB 140) 2 = .ok (.getfield 9, 3) := by decide +kernel
set_option maxRecDepth 100000 in
theorem d_140_5 : decode (mB 140) 5 = .ok (.if_icmp .ne 8, 3) := by decide +kernel
set_option maxRecDepth 100000 in
theorem d_140_8 : decode (mB 140) 8 = .ok (.aload_n 0, 1) := by decide +kernel
set_option maxRecDepth 100000 in
theorem d_140_9 : decode (mB 140) 9 = .ok (.getfield 15, 3) := by decide +kernel
set_option maxRecDepth 100000 in
theorem d_140_12 : decode (mB 140) 12 = .ok (.ireturn, 1) := by decide +kernel
set_option maxRecDepth 100000 in
theorem d_140_13 : decode (mB 140) 13 = .ok (.iload_n 1, 1) := by decide +kernel
set_option maxRecDepth 100000 in
theorem d_140_14 : decode (mB 140) 14 = .ok (.aload_n 0, 1) := by decide +kernel
set_option maxRecDepth 100000 in
theorem d_140_15 : decode (mB 140) 15 = .ok (.getfield 15, 3) := by decide +kernel
set_option maxRecDepth 100000 in
theorem d_140_18 : decode (mB 140) 18 = .ok (.if_icmp .ne 10, 3) := by decide +kernel
set_option maxRecDepth 100000 in
theorem d_140_21 : decode (mB 140) 21 = .ok (.aload_n 0, 1) := by decide +kernel
set_option maxRecDepth 100000 in
theorem d_140_22 : decode (mB 140) 22 = .ok (.getfield 9, 3) := by decide +kernel
set_option maxRecDepth 100000 in
theorem d_140_25 : decode (mB 140) 25 = .ok (.goto 4, 3) := by decide +kernel
set_option maxRecDepth 100000 in
theorem d_140_28 : decode (mB 140) 28 = .ok (.iconst (-1), 1) := by decide +kernel
set_option maxRecDepth 100000 in
theorem d_140_29 : decode (mB 140) 29 = .ok (.ireturn, 1) := by decide +kernel
set_option maxRecDepth 100000 in
theorem oi_7 : okw (.methodLink "WhistleStop$Journey" 3 Lib.objectInit) := okk_w (k := 285) (by decide +kernel)
set_option maxRecDepth 100000 in
theorem cl_7_9 : okw (.classLink "WhistleStop$Journey" 9 "WhistleStop$Trip") := okk_w (k := 286) (by decide +kernel)
set_option maxRecDepth 100000 in
theorem fl_7_11 : flP "WhistleStop$Journey" 11 7 5 := ⟨_, rfl, by decide, okk_w (k := 297) (by decide +kernel)⟩
set_option maxRecDepth 100000 in
theorem fl_7_17 : flP "WhistleStop$Journey" 17 7 6 := ⟨_, rfl, by decide, okk_w (k := 298) (by decide +kernel)⟩
set_option maxRecDepth 100000 in
theorem fl_7_21 : flP "WhistleStop$Journey" 21 7 7 := ⟨_, rfl, by decide, okk_w (k := 299) (by decide +kernel)⟩
set_option maxRecDepth 100000 in
theorem fl_7_24 : flP "WhistleStop$Journey" 24 7 8 := ⟨_, rfl, by decide, okk_w (k := 300) (by decide +kernel)⟩
set_option maxRecDepth 100000 in
theorem fl_7_27 : flP "WhistleStop$Journey" 27 7 9 := ⟨_, rfl, by decide, okk_w (k := 301) (by decide +kernel)⟩
set_option maxRecDepth 100000 in
theorem fl_7_30 : flP "WhistleStop$Journey" 30 7 10 := ⟨_, rfl, by decide, okk_w (k := 303) (by decide +kernel)⟩
set_option maxRecDepth 100000 in
theorem fl_7_33 : flP "WhistleStop$Journey" 33 7 11 := ⟨_, rfl, by decide, okk_w (k := 305) (by decide +kernel)⟩
set_option maxRecDepth 100000 in
theorem d_141_0 : decode (mB 141) 0 = .ok (.aload_n 0, 1) := by decide +kernel
set_option maxRecDepth 100000 in
theorem d_141_1 : decode (mB 141) 1 = .ok (.invokespecial 3, 3) := by decide +kernel
set_option maxRecDepth 100000 in
theorem d_141_4 : decode (mB 141) 4 = .ok (.aload_n 0, 1) := by decide +kernel
set_option maxRecDepth 100000 in
theorem d_141_5 : decode (mB 141) 5 = .ok (.bipush 13, 2) := by decide +kernel
set_option maxRecDepth 100000 in
theorem d_141_7 : decode (mB 141) 7 = .ok (.anewarray 9, 3) := by decide +kernel
set_option maxRecDepth 100000 in
theorem d_141_10 : decode (mB 141) 10 = .ok (.putfield 11, 3) := by decide +kernel
set_option maxRecDepth 100000 in
theorem d_141_13 : decode (mB 141) 13 = .ok (.aload_n 0, 1) := by decide +kernel
set_option maxRecDepth 100000 in
theorem d_141_14 : decode (mB 141) 14 = .ok (.bipush 13, 2) := by decide +kernel
set_option maxRecDepth 100000 in
theorem d_141_16 : decode (mB 141) 16 = .ok (.newarray .int, 2) := by decide +kernel
set_option maxRecDepth 100000 in
theorem d_141_18 : decode (mB 141) 18 = .ok (.putfield 17, 3) := by decide +kernel
set_option maxRecDepth 100000 in
theorem d_141_21 : decode (mB 141) 21 = .ok (.aload_n 0, 1) := by decide +kernel
set_option maxRecDepth 100000 in
theorem d_141_22 : decode (mB 141) 22 = .ok (.bipush 13, 2) := by decide +kernel
set_option maxRecDepth 100000 in
theorem d_141_24 : decode (mB 141) 24 = .ok (.newarray .int, 2) := by decide +kernel
set_option maxRecDepth 100000 in
theorem d_141_26 : decode (mB 141) 26 = .ok (.putfield 21, 3) := by decide +kernel
set_option maxRecDepth 100000 in
theorem d_141_29 : decode (mB 141) 29 = .ok (.aload_n 0, 1) := by decide +kernel
set_option maxRecDepth 100000 in
theorem d_141_30 : decode (mB 141) 30 = .ok (.bipush 13, 2) := by decide +kernel
set_option maxRecDepth 100000 in
theorem d_141_32 : decode (mB 141) 32 = .ok (.newarray .int, 2) := by decide +kernel
set_option maxRecDepth 100000 in
theorem d_141_34 : decode (mB 141) 34 = .ok (.putfield 24, 3) := by decide +kernel
set_option maxRecDepth 100000 in
theorem d_141_37 : decode (mB 141) 37 = .ok (.aload_n 0, 1) := by decide +kernel
set_option maxRecDepth 100000 in
theorem d_141_38 : decode (mB 141) 38 = .ok (.bipush 13, 2) := by decide +kernel
set_option maxRecDepth 100000 in
theorem d_141_40 : decode (mB 141) 40 = .ok (.newarray .int, 2) := by decide +kernel
set_option maxRecDepth 100000 in
theorem d_141_42 : decode (mB 141) 42 = .ok (.putfield 27, 3) := by decide +kernel
set_option maxRecDepth 100000 in
theorem d_141_45 : decode (mB 141) 45 = .ok (.aload_n 0, 1) := by decide +kernel
set_option maxRecDepth 100000 in
theorem d_141_46 : decode (mB 141) 46 = .ok (.bipush 13, 2) := by decide +kernel
set_option maxRecDepth 100000 in
theorem d_141_48 : decode (mB 141) 48 = .ok (.newarray .int, 2) := by decide +kernel
set_option maxRecDepth 100000 in
theorem d_141_50 : decode (mB 141) 50 = .ok (.putfield 30, 3) := by decide +kernel
set_option maxRecDepth 100000 in
theorem d_141_53 : decode (mB 141) 53 = .ok (.aload_n 0, 1) := by decide +kernel
set_option maxRecDepth 100000 in
theorem d_141_54 : decode (mB 141) 54 = .ok (.bipush 13, 2) := by decide +kernel
set_option maxRecDepth 100000 in
theorem d_141_56 : decode (mB 141) 56 = .ok (.newarray .int, 2) := by decide +kernel
set_option maxRecDepth 100000 in
theorem d_141_58 : decode (mB 141) 58 = .ok (.putfield 33, 3) := by decide +kernel
set_option maxRecDepth 100000 in
theorem d_141_61 : decode (mB 141) 61 = .ok (.return_, 1) := by decide +kernel
set_option maxRecDepth 100000 in
theorem oi_8 : okw (.methodLink "WhistleStop$Network" 3 Lib.objectInit) := okk_w (k := 93) (by decide +kernel)
set_option maxRecDepth 100000 in
theorem fl_8_9 : flP "WhistleStop$Network" 9 8 0 := ⟨_, rfl, by decide, okk_w (k := 100) (by decide +kernel)⟩
set_option maxRecDepth 100000 in
theorem cl_8_15 : okw (.classLink "WhistleStop$Network" 15 "WhistleStop$Footway") := okk_w (k := 94) (by decide +kernel)
set_option maxRecDepth 100000 in
theorem fl_8_17 : flP "WhistleStop$Network" 17 8 1 := ⟨_, rfl, by decide, okk_w (k := 106) (by decide +kernel)⟩
set_option maxRecDepth 100000 in
theorem cl_8_21 : okw (.classLink "WhistleStop$Network" 21 "WhistleStop$Calendar") := okk_w (k := 96) (by decide +kernel)
set_option maxRecDepth 100000 in
theorem fl_8_23 : flP "WhistleStop$Network" 23 8 2 := ⟨_, rfl, by decide, okk_w (k := 112) (by decide +kernel)⟩
set_option maxRecDepth 100000 in
theorem cl_8_27 : okw (.classLink "WhistleStop$Network" 27 "WhistleStop$Trip") := okk_w (k := 98) (by decide +kernel)
set_option maxRecDepth 100000 in
theorem fl_8_29 : flP "WhistleStop$Network" 29 8 3 := ⟨_, rfl, by decide, okk_w (k := 114) (by decide +kernel)⟩
set_option maxRecDepth 100000 in
theorem d_156_0 : decode (mB 156) 0 = .ok (.aload_n 0, 1) := by decide +kernel
set_option maxRecDepth 100000 in
theorem d_156_1 : decode (mB 156) 1 = .ok (.invokespecial 3, 3) := by decide +kernel
set_option maxRecDepth 100000 in
theorem d_156_4 : decode (mB 156) 4 = .ok (.aload_n 0, 1) := by decide +kernel
set_option maxRecDepth 100000 in
theorem d_156_5 : decode (mB 156) 5 = .ok (.bipush 16, 2) := by decide +kernel
set_option maxRecDepth 100000 in
theorem d_156_7 : decode (mB 156) 7 = .ok (.newarray .int, 2) := by decide +kernel
set_option maxRecDepth 100000 in
theorem d_156_9 : decode (mB 156) 9 = .ok (.putfield 9, 3) := by decide +kernel
set_option maxRecDepth 100000 in
theorem d_156_12 : decode (mB 156) 12 = .ok (.aload_n 0, 1) := by decide +kernel
set_option maxRecDepth 100000 in
theorem d_156_13 : decode (mB 156) 13 = .ok (.bipush 20, 2) := by decide +kernel
set_option maxRecDepth 100000 in
theorem d_156_15 : decode (mB 156) 15 = .ok (.anewarray 15, 3) := by decide +kernel
set_option maxRecDepth 100000 in
theorem d_156_18 : decode (mB 156) 18 = .ok (.putfield 17, 3) := by decide +kernel
set_option maxRecDepth 100000 in
theorem d_156_21 : decode (mB 156) 21 = .ok (.aload_n 0, 1) := by decide +kernel
set_option maxRecDepth 100000 in
theorem d_156_22 : decode (mB 156) 22 = .ok (.bipush 6, 2) := by decide +kernel
set_option maxRecDepth 100000 in
theorem d_156_24 : decode (mB 156) 24 = .ok (.anewarray 21, 3) := by decide +kernel
set_option maxRecDepth 100000 in
theorem d_156_27 : decode (mB 156) 27 = .ok (.putfield 23, 3) := by decide +kernel
set_option maxRecDepth 100000 in
theorem d_156_30 : decode (mB 156) 30 = .ok (.aload_n 0, 1) := by decide +kernel
set_option maxRecDepth 100000 in
theorem d_156_31 : decode (mB 156) 31 = .ok (.bipush 24, 2) := by decide +kernel
set_option maxRecDepth 100000 in
theorem d_156_33 : decode (mB 156) 33 = .ok (.anewarray 27, 3) := by decide +kernel
set_option maxRecDepth 100000 in
theorem d_156_36 : decode (mB 156) 36 = .ok (.putfield 29, 3) := by decide +kernel
set_option maxRecDepth 100000 in
theorem d_156_39 : decode (mB 156) 39 = .ok (.return_, 1) := by decide +kernel
set_option maxRecDepth 100000 in
theorem oi_9 : okw (.methodLink "WhistleStop$Offers" 3 Lib.objectInit) := okk_w (k := 252) (by decide +kernel)
set_option maxRecDepth 100000 in
theorem fl_9_11 : flP "WhistleStop$Offers" 11 9 0 := ⟨_, rfl, by decide, okk_w (k := 253) (by decide +kernel)⟩
set_option maxRecDepth 100000 in
theorem fl_9_15 : flP "WhistleStop$Offers" 15 9 1 := ⟨_, rfl, by decide, okk_w (k := 254) (by decide +kernel)⟩
set_option maxRecDepth 100000 in
theorem d_157_0 : decode (mB 157) 0 = .ok (.aload_n 0, 1) := by decide +kernel
set_option maxRecDepth 100000 in
theorem d_157_1 : decode (mB 157) 1 = .ok (.invokespecial 3, 3) := by decide +kernel
set_option maxRecDepth 100000 in
theorem d_157_4 : decode (mB 157) 4 = .ok (.aload_n 0, 1) := by decide +kernel
set_option maxRecDepth 100000 in
theorem d_157_5 : decode (mB 157) 5 = .ok (.bipush 16, 2) := by decide +kernel
set_option maxRecDepth 100000 in
theorem d_157_7 : decode (mB 157) 7 = .ok (.newarray .int, 2) := by decide +kernel
set_option maxRecDepth 100000 in
theorem d_157_9 : decode (mB 157) 9 = .ok (.putfield 11, 3) := by decide +kernel
set_option maxRecDepth 100000 in
theorem d_157_12 : decode (mB 157) 12 = .ok (.aload_n 0, 1) := by decide +kernel
set_option maxRecDepth 100000 in
theorem d_157_13 : decode (mB 157) 13 = .ok (.bipush 16, 2) := by decide +kernel
set_option maxRecDepth 100000 in
theorem d_157_15 : decode (mB 157) 15 = .ok (.newarray .int, 2) := by decide +kernel
set_option maxRecDepth 100000 in
theorem d_157_17 : decode (mB 157) 17 = .ok (.putfield 15, 3) := by decide +kernel
set_option maxRecDepth 100000 in
theorem d_157_20 : decode (mB 157) 20 = .ok (.return_, 1) := by decide +kernel
set_option maxRecDepth 100000 in
theorem oi_10 : okw (.methodLink "WhistleStop$Onward" 3 Lib.objectInit) := okk_w (k := 203) (by decide +kernel)
set_option maxRecDepth 100000 in
theorem cl_10_9 : okw (.classLink "WhistleStop$Onward" 9 "[[I") := okk_w (k := 204) (by decide +kernel)
set_option maxRecDepth 100000 in
theorem fl_10_11 : flP "WhistleStop$Onward" 11 10 0 := ⟨_, rfl, by decide, okk_w (k := 206) (by decide +kernel)⟩
set_option maxRecDepth 100000 in
theorem fl_10_16 : flP "WhistleStop$Onward" 16 10 1 := ⟨_, rfl, by decide, okk_w (k := 207) (by decide +kernel)⟩
set_option maxRecDepth 100000 in
theorem fl_10_19 : flP "WhistleStop$Onward" 19 10 2 := ⟨_, rfl, by decide, okk_w (k := 208) (by decide +kernel)⟩
set_option maxRecDepth 100000 in
theorem d_162_0 : decode (mB 162) 0 = .ok (.aload_n 0, 1) := by decide +kernel
set_option maxRecDepth 100000 in
theorem d_162_1 : decode (mB 162) 1 = .ok (.invokespecial 3, 3) := by decide +kernel
set_option maxRecDepth 100000 in
theorem d_162_4 : decode (mB 162) 4 = .ok (.aload_n 0, 1) := by decide +kernel
set_option maxRecDepth 100000 in
theorem d_162_5 : decode (mB 162) 5 = .ok (.bipush 7, 2) := by decide +kernel
set_option maxRecDepth 100000 in
theorem d_162_7 : decode (mB 162) 7 = .ok (.bipush 16, 2) := by decide +kernel
set_option maxRecDepth 100000 in
theorem d_162_9 : decode (mB 162) 9 = .ok (.multianewarray 9 2, 4) := by decide +kernel
set_option maxRecDepth 100000 in
theorem d_162_13 : decode (mB 162) 13 = .ok (.putfield 11, 3) := by decide +kernel
set_option maxRecDepth 100000 in
theorem d_162_16 : decode (mB 162) 16 = .ok (.aload_n 0, 1) := by decide +kernel
set_option maxRecDepth 100000 in
theorem d_162_17 : decode (mB 162) 17 = .ok (.bipush 7, 2) := by decide +kernel
set_option maxRecDepth 100000 in
theorem d_162_19 : decode (mB 162) 19 = .ok (.bipush 16, 2) := by decide +kernel
set_option maxRecDepth 100000 in
theorem d_162_21 : decode (mB 162) 21 = .ok (.multianewarray 9 2, 4) := by decide +kernel
set_option maxRecDepth 100000 in
theorem d_162_25 : decode (mB 162) 25 = .ok (.putfield 16, 3) := by decide +kernel
set_option maxRecDepth 100000 in
theorem d_162_28 : decode (mB 162) 28 = .ok (.aload_n 0, 1) := by decide +kernel
set_option maxRecDepth 100000 in
theorem d_162_29 : decode (mB 162) 29 = .ok (.bipush 16, 2) := by decide +kernel
set_option maxRecDepth 100000 in
theorem d_162_31 : decode (mB 162) 31 = .ok (.newarray .int, 2) := by decide +kernel
set_option maxRecDepth 100000 in
theorem d_162_33 : decode (mB 162) 33 = .ok (.putfield 19, 3) := by decide +kernel
set_option maxRecDepth 100000 in
theorem d_162_36 : decode (mB 162) 36 = .ok (.return_, 1) := by decide +kernel
set_option maxRecDepth 100000 in
theorem oi_11 : okw (.methodLink "WhistleStop$Runs" 3 Lib.objectInit) := okk_w (k := 151) (by decide +kernel)
set_option maxRecDepth 100000 in
theorem cl_11_9 : okw (.classLink "WhistleStop$Runs" 9 "WhistleStop$Trip") := okk_w (k := 152) (by decide +kernel)
set_option maxRecDepth 100000 in
theorem fl_11_11 : flP "WhistleStop$Runs" 11 11 0 := ⟨_, rfl, by decide, okk_w (k := 153) (by decide +kernel)⟩
set_option maxRecDepth 100000 in
theorem fl_11_17 : flP "WhistleStop$Runs" 17 11 1 := ⟨_, rfl, by decide, okk_w (k := 159) (by decide +kernel)⟩
set_option maxRecDepth 100000 in
theorem fl_11_21 : flP "WhistleStop$Runs" 21 11 2 := ⟨_, rfl, by decide, okk_w (k := 162) (by decide +kernel)⟩
set_option maxRecDepth 100000 in
theorem d_173_0 : decode (mB 173) 0 = .ok (.aload_n 0, 1) := by decide +kernel
set_option maxRecDepth 100000 in
theorem d_173_1 : decode (mB 173) 1 = .ok (.invokespecial 3, 3) := by decide +kernel
set_option maxRecDepth 100000 in
theorem d_173_4 : decode (mB 173) 4 = .ok (.aload_n 0, 1) := by decide +kernel
set_option maxRecDepth 100000 in
theorem d_173_5 : decode (mB 173) 5 = .ok (.sipush 192, 3) := by decide +kernel
set_option maxRecDepth 100000 in
theorem d_173_8 : decode (mB 173) 8 = .ok (.anewarray 9, 3) := by decide +kernel
set_option maxRecDepth 100000 in
theorem d_173_11 : decode (mB 173) 11 = .ok (.putfield 11, 3) := by decide +kernel
set_option maxRecDepth 100000 in
theorem d_173_14 : decode (mB 173) 14 = .ok (.aload_n 0, 1) := by decide +kernel
set_option maxRecDepth 100000 in
theorem d_173_15 : decode (mB 173) 15 = .ok (.sipush 192, 3) := by decide +kernel
set_option maxRecDepth 100000 in
theorem d_173_18 : decode (mB 173) 18 = .ok (.newarray .int, 2) := by decide +kernel
set_option maxRecDepth 100000 in
theorem d_173_20 : decode (mB 173) 20 = .ok (.putfield 17, 3) := by decide +kernel
set_option maxRecDepth 100000 in
theorem d_173_23 : decode (mB 173) 23 = .ok (.aload_n 0, 1) := by decide +kernel
set_option maxRecDepth 100000 in
theorem d_173_24 : decode (mB 173) 24 = .ok (.sipush 192, 3) := by decide +kernel
set_option maxRecDepth 100000 in
theorem d_173_27 : decode (mB 173) 27 = .ok (.newarray .int, 2) := by decide +kernel
set_option maxRecDepth 100000 in
theorem d_173_29 : decode (mB 173) 29 = .ok (.putfield 21, 3) := by decide +kernel
set_option maxRecDepth 100000 in
theorem d_173_32 : decode (mB 173) 32 = .ok (.return_, 1) := by decide +kernel
set_option maxRecDepth 100000 in
theorem fl_11_24 : flP "WhistleStop$Runs" 24 11 3 := ⟨_, rfl, by decide, okk_w (k := 168) (by decide +kernel)⟩
set_option maxRecDepth 100000 in
theorem c_174_28 : csP 174 28 213 2 := ⟨cd_213, okk_w (k := 779) (by decide +kernel), okk_w (k := 780) (by decide +kernel), by decide +kernel, by decide +kernel⟩
set_option maxRecDepth 100000 in
theorem c_174_34 : csP 174 34 214 2 := ⟨cd_214, okk_w (k := 782) (by decide +kernel), okk_w (k := 783) (by decide +kernel), by decide +kernel, by decide +kernel⟩
set_option maxRecDepth 100000 in
theorem c_174_37 : csP 174 37 215 2 := ⟨cd_215, okk_w (k := 785) (by decide +kernel), okk_w (k := 786) (by decide +kernel), by decide +kernel, by decide +kernel⟩
set_option maxRecDepth 100000 in
theorem fl_11_40 : flP "WhistleStop$Runs" 40 8 7 := ⟨_, rfl, by decide, okk_w (k := 126) (by decide +kernel)⟩
set_option maxRecDepth 100000 in
theorem fl_11_45 : flP "WhistleStop$Runs" 45 8 3 := ⟨_, rfl, by decide, okk_w (k := 115) (by decide +kernel)⟩
set_option maxRecDepth 100000 in
theorem fl_11_46 : flP "WhistleStop$Runs" 46 12 7 := ⟨_, rfl, by decide, okk_w (k := 690) (by decide +kernel)⟩
set_option maxRecDepth 100000 in
theorem c_174_47 : cvP 174 47 176 1 := ⟨cd_176, okk_w (k := 788) (by decide +kernel), okk_w (k := 479) (by decide +kernel), okk_w (k := 480) (by decide +kernel), by decide +kernel, by decide +kernel⟩
set_option maxRecDepth 100000 in
theorem c_174_51 : cvP 174 51 175 4 := ⟨cd_175, okk_w (k := 789) (by decide +kernel), okk_w (k := 791) (by decide +kernel), okk_w (k := 5) (by decide +kernel), by decide +kernel, by decide +kernel⟩
set_option maxRecDepth 100000 in
theorem d_174_0 : decode (mB 174) 0 = .ok (.aload_n 0, 1) := by decide +kernel
set_option maxRecDepth 100000 in
theorem d_174_1 : decode (mB 174) 1 = .ok (.iconst 0, 1) := by decide +kernel
set_option maxRecDepth 100000 in
theorem d_174_2 : decode (mB 174) 2 = .ok (.putfield 24, 3) := by decide +kernel
set_option maxRecDepth 100000 in
theorem d_174_5 : decode (mB 174) 5 = .ok (.iconst 0, 1) := by decide +kernel
set_option maxRecDepth 100000 in
theorem d_174_6 : decode (mB 174) 6 = .ok (.iload_n 2, 1) := by decide +kernel
set_option maxRecDepth 100000 in
theorem d_174_7 : decode (mB 174) 7 = .ok (.sipush 2879, 3) := by decide +kernel
set_option maxRecDepth 100000 in
theorem d_174_10 : decode (mB 174) 10 = .ok (.isub, 1) := by decide +kernel
set_option maxRecDepth 100000 in
theorem d_174_11 : decode (mB 174) 11 = .ok (.sipush 180, 3) := by decide +kernel
set_option maxRecDepth 100000 in
theorem d_174_14 : decode (mB 174) 14 = .ok (.isub, 1) := by decide +kernel
set_option maxRecDepth 100000 in
theorem d_174_15 : decode (mB 174) 15 = .ok (.sipush 1440, 3) := by decide +kernel
set_option maxRecDepth 100000 in
theorem d_174_18 : decode (mB 174) 18 = .ok (.invokestatic 28, 3) := by decide +kernel
set_option maxRecDepth 100000 in
theorem d_174_21 : decode (mB 174) 21 = .ok (.invokestatic 34, 3) := by decide +kernel
set_option maxRecDepth 100000 in
theorem d_174_24 : decode (mB 174) 24 = .ok (.istore 4, 2) := by decide +kernel
set_option maxRecDepth 100000 in
theorem d_174_26 : decode (mB 174) 26 = .ok (.sipush 365, 3) := by decide +kernel
set_option maxRecDepth 100000 in
theorem d_174_29 : decode (mB 174) 29 = .ok (.iload_n 3, 1) := by decide +kernel
set_option maxRecDepth 100000 in
theorem d_174_30 : decode (mB 174) 30 = .ok (.sipush 1440, 3) := by decide +kernel
set_option maxRecDepth 100000 in
theorem d_174_33 : decode (mB 174) 33 = .ok (.invokestatic 28, 3) := by decide +kernel
set_option maxRecDepth 100000 in
theorem d_174_36 : decode (mB 174) 36 = .ok (.invokestatic 37, 3) := by decide +kernel
set_option maxRecDepth 100000 in
theorem d_174_39 : decode (mB 174) 39 = .ok (.istore 5, 2) := by decide +kernel
set_option maxRecDepth 100000 in
theorem d_174_41 : decode (mB 174) 41 = .ok (.iconst 0, 1) := by decide +kernel
set_option maxRecDepth 100000 in
theorem d_174_42 : decode (mB 174) 42 = .ok (.istore 6, 2) := by decide +kernel
set_option maxRecDepth 100000 in
theorem d_174_44 : decode (mB 174) 44 = .ok (.iload 6, 2) := by decide +kernel
set_option maxRecDepth 100000 in
theorem d_174_46 : decode (mB 174) 46 = .ok (.aload_n 1, 1) := by decide +kernel
set_option maxRecDepth 100000 in
theorem d_174_47 : decode (mB 174) 47 = .ok (.getfield 40, 3) := by decide +kernel
set_option maxRecDepth 100000 in
theorem d_174_50 : decode (mB 174) 50 = .ok (.if_icmp .ge 64, 3) := by decide +kernel
set_option maxRecDepth 100000 in
theorem d_174_53 : decode (mB 174) 53 = .ok (.aload_n 1, 1) := by decide +kernel
set_option maxRecDepth 100000 in
theorem d_174_54 : decode (mB 174) 54 = .ok (.getfield 45, 3) := by decide +kernel
set_option maxRecDepth 100000 in
theorem d_174_57 : decode (mB 174) 57 = .ok (.iload 6, 2) := by decide +kernel
set_option maxRecDepth 100000 in
theorem d_174_59 : decode (mB 174) 59 = .ok (.aaload, 1) := by decide +kernel
set_option maxRecDepth 100000 in
theorem d_174_60 : decode (mB 174) 60 = .ok (.astore 7, 2) := by decide +kernel
set_option maxRecDepth 100000 in
theorem d_174_62 : decode (mB 174) 62 = .ok (.iload 4, 2) := by decide +kernel
set_option maxRecDepth 100000 in
theorem d_174_64 : decode (mB 174) 64 = .ok (.istore 8, 2) := by decide +kernel
set_option maxRecDepth 100000 in
theorem d_174_66 : decode (mB 174) 66 = .ok (.iload 8, 2) := by decide +kernel
set_option maxRecDepth 100000 in
theorem d_174_68 : decode (mB 174) 68 = .ok (.iload 5, 2) := by decide +kernel
set_option maxRecDepth 100000 in
theorem d_174_70 : decode (mB 174) 70 = .ok (.if_icmp .gt 38, 3) := by decide +kernel
set_option maxRecDepth 100000 in
theorem d_174_73 : decode (mB 174) 73 = .ok (.aload 7, 2) := by decide +kernel
set_option maxRecDepth 100000 in
theorem d_174_75 : decode (mB 174) 75 = .ok (.getfield 46, 3) := by decide +kernel
set_option maxRecDepth 100000 in
theorem d_174_78 : decode (mB 174) 78 = .ok (.iconst 1, 1) := by decide +kernel
set_option maxRecDepth 100000 in
theorem d_174_79 : decode (mB 174) 79 = .ok (.if_icmp .le 23, 3) := by decide +kernel
set_option maxRecDepth 100000 in
theorem d_174_82 : decode (mB 174) 82 = .ok (.aload 7, 2) := by decide +kernel
set_option maxRecDepth 100000 in
theorem d_174_84 : decode (mB 174) 84 = .ok (.iload 8, 2) := by decide +kernel
set_option maxRecDepth 100000 in
theorem d_174_86 : decode (mB 174) 86 = .ok (.invokevirtual 47, 3) := by decide +kernel
set_option maxRecDepth 100000 in
theorem d_174_89 : decode (mB 174) 89 = .ok (.ifCond .eq 13, 3) := by decide +kernel
set_option maxRecDepth 100000 in
theorem d_174_92 : decode (mB 174) 92 = .ok (.aload_n 0, 1) := by decide +kernel
set_option maxRecDepth 100000 in
theorem d_174_93 : decode (mB 174) 93 = .ok (.aload 7, 2) := by decide +kernel
set_option maxRecDepth 100000 in
theorem d_174_95 : decode (mB 174) 95 = .ok (.iload 8, 2) := by decide +kernel
set_option maxRecDepth 100000 in
theorem d_174_97 : decode (mB 174) 97 = .ok (.iload_n 2, 1) := by decide +kernel
set_option maxRecDepth 100000 in
theorem d_174_98 : decode (mB 174) 98 = .ok (.iload_n 3, 1) := by decide +kernel
set_option maxRecDepth 100000 in
theorem d_174_99 : decode (mB 174) 99 = .ok (.invokevirtual 51, 3) := by decide +kernel
set_option maxRecDepth 100000 in
theorem d_174_102 : decode (mB 174) 102 = .ok (.iinc 8 1, 3) := by decide +kernel
set_option maxRecDepth 100000 in
theorem d_174_105 : decode (mB 174) 105 = .ok (.goto (-39), 3) := by decide +kernel
set_option maxRecDepth 100000 in
theorem d_174_108 : decode (mB 174) 108 = .ok (.iinc 6 1, 3) := by decide +kernel
set_option maxRecDepth 100000 in
theorem d_174_111 : decode (mB 174) 111 = .ok (.goto (-67), 3) := by decide +kernel
set_option maxRecDepth 100000 in
theorem d_174_114 : decode (mB 174) 114 = .ok (.return_, 1) := by decide +kernel
set_option maxRecDepth 100000 in
theorem c_175_55 : cvP 175 55 177 1 := ⟨cd_177, okk_w (k := 793) (by decide +kernel), okk_w (k := 508) (by decide +kernel), okk_w (k := 509) (by decide +kernel), by decide +kernel, by decide +kernel⟩
set_option maxRecDepth 100000 in
theorem fl_11_59 : flP "WhistleStop$Runs" 59 12 5 := ⟨_, rfl, by decide, okk_w (k := 681) (by decide +kernel)⟩
set_option maxRecDepth 100000 in
theorem c_175_62 : cvP 175 62 180 0 := ⟨cd_180, okk_w (k := 794) (by decide +kernel), okk_w (k := 725) (by decide +kernel), okk_w (k := 726) (by decide +kernel), by decide +kernel, by decide +kernel⟩
set_option maxRecDepth 100000 in
theorem d_175_0 : decode (mB 175) 0 = .ok (.aload_n 1, 1) := by decide +kernel
set_option maxRecDepth 100000 in
theorem d_175_1 : decode (mB 175) 1 = .ok (.iload_n 2, 1) := by decide +kernel
set_option maxRecDepth 100000 in
theorem d_175_2 : decode (mB 175) 2 = .ok (.invokevirtual 55, 3) := by decide +kernel
set_option maxRecDepth 100000 in
theorem d_175_5 : decode (mB 175) 5 = .ok (.istore 5, 2) := by decide +kernel
set_option maxRecDepth 100000 in
theorem d_175_7 : decode (mB 175) 7 = .ok (.iload 5, 2) := by decide +kernel
set_option maxRecDepth 100000 in
theorem d_175_9 : decode (mB 175) 9 = .ok (.aload_n 1, 1) := by decide +kernel
set_option maxRecDepth 100000 in
theorem d_175_10 : decode (mB 175) 10 = .ok (.getfield 59, 3) := by decide +kernel
set_option maxRecDepth 100000 in
theorem d_175_13 : decode (mB 175) 13 = .ok (.iconst 0, 1) := by decide +kernel
set_option maxRecDepth 100000 in
theorem d_175_14 : decode (mB 175) 14 = .ok (.iaload, 1) := by decide +kernel
set_option maxRecDepth 100000 in
theorem d_175_15 : decode (mB 175) 15 = .ok (.iadd, 1) := by decide +kernel
set_option maxRecDepth 100000 in
theorem d_175_16 : decode (mB 175) 16 = .ok (.iload 4, 2) := by decide +kernel
set_option maxRecDepth 100000 in
theorem d_175_18 : decode (mB 175) 18 = .ok (.if_icmp .gt 18, 3) := by decide +kernel
set_option maxRecDepth 100000 in
theorem d_175_21 : decode (mB 175) 21 = .ok (.iload 5, 2) := by decide +kernel
set_option maxRecDepth 100000 in
theorem d_175_23 : decode (mB 175) 23 = .ok (.aload_n 1, 1) := by decide +kernel
set_option maxRecDepth 100000 in
theorem d_175_24 : decode (mB 175) 24 = .ok (.invokevirtual 62, 3) := by decide +kernel
set_option maxRecDepth 100000 in
theorem d_175_27 : decode (mB 175) 27 = .ok (.iadd, 1) := by decide +kernel
set_option maxRecDepth 100000 in
theorem d_175_28 : decode (mB 175) 28 = .ok (.iload_n 3, 1) := by decide +kernel
set_option maxRecDepth 100000 in
theorem d_175_29 : decode (mB 175) 29 = .ok (.if_icmp .lt 7, 3) := by decide +kernel
set_option maxRecDepth 100000 in
theorem d_175_32 : decode (mB 175) 32 = .ok (.iconst 1, 1) := by decide +kernel
set_option maxRecDepth 100000 in
theorem d_175_33 : decode (mB 175) 33 = .ok (.goto 4, 3) := by decide +kernel
set_option maxRecDepth 100000 in
theorem d_175_36 : decode (mB 175) 36 = .ok (.iconst 0, 1) := by decide +kernel
set_option maxRecDepth 100000 in
theorem d_175_37 : decode (mB 175) 37 = .ok (.istore 6, 2) := by decide +kernel
set_option maxRecDepth 100000 in
theorem d_175_39 : decode (mB 175) 39 = .ok (.iload 6, 2) := by decide +kernel
set_option maxRecDepth 100000 in
theorem d_175_41 : decode (mB 175) 41 = .ok (.ifCond .eq 54, 3) := by decide +kernel
set_option maxRecDepth 100000 in
theorem d_175_44 : decode (mB 175) 44 = .ok (.aload_n 0, 1) := by decide +kernel
set_option maxRecDepth 100000 in
theorem d_175_45 : decode (mB 175) 45 = .ok (.getfield 24, 3) := by decide +kernel
set_option maxRecDepth 100000 in
theorem d_175_48 : decode (mB 175) 48 = .ok (.sipush 192, 3) := by decide +kernel
set_option maxRecDepth 100000 in
theorem d_175_51 : decode (mB 175) 51 = .ok (.if_icmp .ge 44, 3) := by decide +kernel
set_option maxRecDepth 100000 in
theorem d_175_54 : decode (mB 175) 54 = .ok (.aload_n 0, 1) := by decide +kernel
set_option maxRecDepth 100000 in
theorem d_175_55 : decode (mB 175) 55 = .ok (.getfield 11, 3) := by decide +kernel
set_option maxRecDepth 100000 in
theorem d_175_58 : decode (mB 175) 58 = .ok (.aload_n 0, 1) := by decide +kernel
set_option maxRecDepth 100000 in
theorem d_175_59 : decode (mB 175) 59 = .ok (.getfield 24, 3) := by decide +kernel
set_option maxRecDepth 100000 in
theorem d_175_62 : decode (mB 175) 62 = .ok (.aload_n 1, 1) := by decide +kernel
set_option maxRecDepth 100000 in
theorem d_175_63 : decode (mB 175) 63 = .ok (.aastore, 1) := by decide +kernel
set_option maxRecDepth 100000 in
theorem d_175_64 : decode (mB 175) 64 = .ok (.aload_n 0, 1) := by decide +kernel
set_option maxRecDepth 100000 in
theorem d_175_65 : decode (mB 175) 65 = .ok (.getfield 17, 3) := by decide +kernel
set_option maxRecDepth 100000 in
theorem d_175_68 : decode (mB 175) 68 = .ok (.aload_n 0, 1) := by decide +kernel
set_option maxRecDepth 100000 in
theorem d_175_69 : decode (mB 175) 69 = .ok (.getfield 24, 3) := by decide +kernel
set_option maxRecDepth 100000 in
theorem d_175_72 : decode (mB 175) 72 = .ok (.iload_n 2, 1) := by decide +kernel
set_option maxRecDepth 100000 in
theorem d_175_73 : decode (mB 175) 73 = .ok (.iastore, 1) := by decide +kernel
set_option maxRecDepth 100000 in
theorem d_175_74 : decode (mB 175) 74 = .ok (.aload_n 0, 1) := by decide +kernel
set_option maxRecDepth 100000 in
theorem d_175_75 : decode (mB 175) 75 = .ok (.getfield 21, 3) := by decide +kernel
set_option maxRecDepth 100000 in
theorem d_175_78 : decode (mB 175) 78 = .ok (.aload_n 0, 1) := by decide +kernel
set_option maxRecDepth 100000 in
theorem d_175_79 : decode (mB 175) 79 = .ok (.getfield 24, 3) := by decide +kernel
set_option maxRecDepth 100000 in
theorem d_175_82 : decode (mB 175) 82 = .ok (.iload 5, 2) := by decide +kernel
set_option maxRecDepth 100000 in
theorem d_175_84 : decode (mB 175) 84 = .ok (.iastore, 1) := by decide +kernel
set_option maxRecDepth 100000 in
theorem d_175_85 : decode (mB 175) 85 = .ok (.aload_n 0, 1) := by decide +kernel
set_option maxRecDepth 100000 in
theorem d_175_86 : decode (mB 175) 86 = .ok (.dup, 1) := by decide +kernel
set_option maxRecDepth 100000 in
theorem d_175_87 : decode (mB 175) 87 = .ok (.getfield 24, 3) := by decide +kernel
set_option maxRecDepth 100000 in
theorem d_175_90 : decode (mB 175) 90 = .ok (.iconst 1, 1) := by decide +kernel
set_option maxRecDepth 100000 in
theorem d_175_91 : decode (mB 175) 91 = .ok (.iadd, 1) := by decide +kernel
set_option maxRecDepth 100000 in
theorem d_175_92 : decode (mB 175) 92 = .ok (.putfield 24, 3) := by decide +kernel
set_option maxRecDepth 100000 in
theorem d_175_95 : decode (mB 175) 95 = .ok (.return_, 1) := by decide +kernel
set_option maxRecDepth 100000 in
theorem c_176_38 : csnP 176 38 10 1 := ⟨cd_10, ⟨"WhistleStop", okk_w (k := 482) (by decide +kernel)⟩, okk_w (k := 483) (by decide +kernel), by decide +kernel, by decide +kernel⟩
set_option maxRecDepth 100000 in
theorem fl_12_21 : flP "WhistleStop$Trip" 21 12 6 := ⟨_, rfl, by decide, okk_w (k := 686) (by decide +kernel)⟩
set_option maxRecDepth 100000 in
theorem fl_12_28 : flP "WhistleStop$Trip" 28 12 1 := ⟨_, rfl, by decide, okk_w (k := 663) (by decide +kernel)⟩
set_option maxRecDepth 100000 in
theorem c_176_42 : cvP 176 42 131 1 := ⟨cd_131, okk_w (k := 488) (by decide +kernel), okk_w (k := 489) (by decide +kernel), okk_w (k := 490) (by decide +kernel), by decide +kernel, by decide +kernel⟩
set_option maxRecDepth 100000 in
theorem d_176_0 : decode (mB 176) 0 = .ok (.iload_n 1, 1) := by decide +kernel
set_option maxRecDepth 100000 in
theorem d_176_1 : decode (mB 176) 1 = .ok (.invokestatic 38, 3) := by decide +kernel
set_option maxRecDepth 100000 in
theorem d_176_4 : decode (mB 176) 4 = .ok (.ifCond .eq 28, 3) := by decide +kernel
set_option maxRecDepth 100000 in
theorem d_176_7 : decode (mB 176) 7 = .ok (.aload_n 0, 1) := by decide +kernel
set_option maxRecDepth 100000 in
theorem d_176_8 : decode (mB 176) 8 = .ok (.getfield 21, 3) := by decide +kernel
set_option maxRecDepth 100000 in
theorem d_176_11 : decode (mB 176) 11 = .ok (.iload_n 1, 1) := by decide +kernel
set_option maxRecDepth 100000 in
theorem d_176_12 : decode (mB 176) 12 = .ok (.iaload, 1) := by decide +kernel
set_option maxRecDepth 100000 in
theorem d_176_13 : decode (mB 176) 13 = .ok (.iconst (-1), 1) := by decide +kernel
set_option maxRecDepth 100000 in
theorem d_176_14 : decode (mB 176) 14 = .ok (.if_icmp .eq 18, 3) := by decide +kernel
set_option maxRecDepth 100000 in
theorem d_176_17 : decode (mB 176) 17 = .ok (.aload_n 0, 1) := by decide +kernel
set_option maxRecDepth 100000 in
theorem d_176_18 : decode (mB 176) 18 = .ok (.getfield 28, 3) := by decide +kernel
set_option maxRecDepth 100000 in
theorem d_176_21 : decode (mB 176) 21 = .ok (.iload_n 1, 1) := by decide +kernel
set_option maxRecDepth 100000 in
theorem d_176_22 : decode (mB 176) 22 = .ok (.invokevirtual 42, 3) := by decide +kernel
set_option maxRecDepth 100000 in
theorem d_176_25 : decode (mB 176) 25 = .ok (.ifCond .eq 7, 3) := by decide +kernel
set_option maxRecDepth 100000 in
theorem d_176_28 : decode (mB 176) 28 = .ok (.iconst 1, 1) := by decide +kernel
set_option maxRecDepth 100000 in
theorem d_176_29 : decode (mB 176) 29 = .ok (.goto 4, 3) := by decide +kernel
set_option maxRecDepth 100000 in
theorem d_176_32 : decode (mB 176) 32 = .ok (.iconst 0, 1) := by decide +kernel
set_option maxRecDepth 100000 in
theorem d_176_33 : decode (mB 176) 33 = .ok (.ireturn, 1) := by decide +kernel
set_option maxRecDepth 100000 in
theorem c_177_38 : csnP 177 38 10 1 := ⟨cd_10, ⟨"WhistleStop", okk_w (k := 482) (by decide +kernel)⟩, okk_w (k := 483) (by decide +kernel), by decide +kernel, by decide +kernel⟩
set_option maxRecDepth 100000 in
theorem ck_12_47 : okw (.constant "WhistleStop$Trip" 47 (1000000000)) := okk_w (k := 511) (by decide +kernel)
set_option maxRecDepth 100000 in
theorem d_177_0 : decode (mB 177) 0 = .ok (.iload_n 1, 1) := by decide +kernel
set_option maxRecDepth 100000 in
theorem d_177_1 : decode (mB 177) 1 = .ok (.invokestatic 38, 3) := by decide +kernel
set_option maxRecDepth 100000 in
theorem d_177_4 : decode (mB 177) 4 = .ok (.ifCond .eq 18, 3) := by decide +kernel
set_option maxRecDepth 100000 in
theorem d_177_7 : decode (mB 177) 7 = .ok (.sipush 1440, 3) := by decide +kernel
set_option maxRecDepth 100000 in
theorem d_177_10 : decode (mB 177) 10 = .ok (.iload_n 1, 1) := by decide +kernel
set_option maxRecDepth 100000 in
theorem d_177_11 : decode (mB 177) 11 = .ok (.imul, 1) := by decide +kernel
set_option maxRecDepth 100000 in
theorem d_177_12 : decode (mB 177) 12 = .ok (.aload_n 0, 1) := by decide +kernel
set_option maxRecDepth 100000 in
theorem d_177_13 : decode (mB 177) 13 = .ok (.getfield 21, 3) := by decide +kernel
set_option maxRecDepth 100000 in
theorem d_177_16 : decode (mB 177) 16 = .ok (.iload_n 1, 1) := by decide +kernel
set_option maxRecDepth 100000 in
theorem d_177_17 : decode (mB 177) 17 = .ok (.iaload, 1) := by decide +kernel
set_option maxRecDepth 100000 in
theorem d_177_18 : decode (mB 177) 18 = .ok (.iadd, 1) := by decide +kernel
set_option maxRecDepth 100000 in
theorem d_177_19 : decode (mB 177) 19 = .ok (.goto 5, 3) := by decide +kernel
set_option maxRecDepth 100000 in
theorem d_177_22 : decode (mB 177) 22 = .ok (.ldc 47, 2) := by decide +kernel
set_option maxRecDepth 100000 in
theorem d_177_24 : decode (mB 177) 24 = .ok (.ireturn, 1) := by decide +kernel
set_option maxRecDepth 100000 in
theorem fl_12_35 : flP "WhistleStop$Trip" 35 12 7 := ⟨_, rfl, by decide, okk_w (k := 688) (by decide +kernel)⟩
set_option maxRecDepth 100000 in
theorem fl_12_18 : flP "WhistleStop$Trip" 18 12 5 := ⟨_, rfl, by decide, okk_w (k := 679) (by decide +kernel)⟩
set_option maxRecDepth 100000 in
theorem d_180_0 : decode (mB 180) 0 = .ok (.aload_n 0, 1) := by decide +kernel
set_option maxRecDepth 100000 in
theorem d_180_1 : decode (mB 180) 1 = .ok (.getfield 35, 3) := by decide +kernel
set_option maxRecDepth 100000 in
theorem d_180_4 : decode (mB 180) 4 = .ok (.ifCond .le 17, 3) := by decide +kernel
set_option maxRecDepth 100000 in
theorem d_180_7 : decode (mB 180) 7 = .ok (.aload_n 0, 1) := by decide +kernel
set_option maxRecDepth 100000 in
theorem d_180_8 : decode (mB 180) 8 = .ok (.getfield 18, 3) := by decide +kernel
set_option maxRecDepth 100000 in
theorem d_180_11 : decode (mB 180) 11 = .ok (.aload_n 0, 1) := by decide +kernel
set_option maxRecDepth 100000 in
theorem d_180_12 : decode (mB 180) 12 = .ok (.getfield 35, 3) := by decide +kernel
set_option maxRecDepth 100000 in
theorem d_180_15 : decode (mB 180) 15 = .ok (.iconst 1, 1) := by decide +kernel
set_option maxRecDepth 100000 in
theorem d_180_16 : decode (mB 180) 16 = .ok (.isub, 1) := by decide +kernel
set_option maxRecDepth 100000 in
theorem d_180_17 : decode (mB 180) 17 = .ok (.iaload, 1) := by decide +kernel
set_option maxRecDepth 100000 in
theorem d_180_18 : decode (mB 180) 18 = .ok (.goto 4, 3) := by decide +kernel
set_option maxRecDepth 100000 in
theorem d_180_21 : decode (mB 180) 21 = .ok (.iconst 0, 1) := by decide +kernel
set_option maxRecDepth 100000 in
theorem d_180_22 : decode (mB 180) 22 = .ok (.ireturn, 1) := by decide +kernel
set_option maxRecDepth 100000 in
theorem d_213_0 : decode (mB 213) 0 = .ok (.iload_n 0, 1) := by decide +kernel
set_option maxRecDepth 100000 in
theorem d_213_1 : decode (mB 213) 1 = .ok (.iload_n 1, 1) := by decide +kernel
set_option maxRecDepth 100000 in
theorem d_213_2 : decode (mB 213) 2 = .ok (.idiv, 1) := by decide +kernel
set_option maxRecDepth 100000 in
theorem d_213_3 : decode (mB 213) 3 = .ok (.istore_n 2, 1) := by decide +kernel
set_option maxRecDepth 100000 in
theorem d_213_4 : decode (mB 213) 4 = .ok (.iload_n 0, 1) := by decide +kernel
set_option maxRecDepth 100000 in
theorem d_213_5 : decode (mB 213) 5 = .ok (.iload_n 1, 1) := by decide +kernel
set_option maxRecDepth 100000 in
theorem d_213_6 : decode (mB 213) 6 = .ok (.ixor, 1) := by decide +kernel
set_option maxRecDepth 100000 in
theorem d_213_7 : decode (mB 213) 7 = .ok (.ifCond .ge 14, 3) := by decide +kernel
set_option maxRecDepth 100000 in
theorem d_213_10 : decode (mB 213) 10 = .ok (.iload_n 2, 1) := by decide +kernel
set_option maxRecDepth 100000 in
theorem d_213_11 : decode (mB 213) 11 = .ok (.iload_n 1, 1) := by decide +kernel
set_option maxRecDepth 100000 in
theorem d_213_12 : decode (mB 213) 12 = .ok (.imul, 1) := by decide +kernel
set_option maxRecDepth 100000 in
theorem d_213_13 : decode (mB 213) 13 = .ok (.iload_n 0, 1) := by decide +kernel
set_option maxRecDepth 100000 in
theorem d_213_14 : decode (mB 213) 14 = .ok (.if_icmp .eq 7, 3) := by decide +kernel
set_option maxRecDepth 100000 in
theorem d_213_17 : decode (mB 213) 17 = .ok (.iload_n 2, 1) := by decide +kernel
set_option maxRecDepth 100000 in
theorem d_213_18 : decode (mB 213) 18 = .ok (.iconst 1, 1) := by decide +kernel
set_option maxRecDepth 100000 in
theorem d_213_19 : decode (mB 213) 19 = .ok (.isub, 1) := by decide +kernel
set_option maxRecDepth 100000 in
theorem d_213_20 : decode (mB 213) 20 = .ok (.ireturn, 1) := by decide +kernel
set_option maxRecDepth 100000 in
theorem d_213_21 : decode (mB 213) 21 = .ok (.iload_n 2, 1) := by decide +kernel
set_option maxRecDepth 100000 in
theorem d_213_22 : decode (mB 213) 22 = .ok (.ireturn, 1) := by decide +kernel
set_option maxRecDepth 100000 in
theorem d_214_0 : decode (mB 214) 0 = .ok (.iload_n 0, 1) := by decide +kernel
set_option maxRecDepth 100000 in
theorem d_214_1 : decode (mB 214) 1 = .ok (.iload_n 1, 1) := by decide +kernel
set_option maxRecDepth 100000 in
theorem d_214_2 : decode (mB 214) 2 = .ok (.if_icmp .lt 7, 3) := by decide +kernel
set_option maxRecDepth 100000 in
theorem d_214_5 : decode (mB 214) 5 = .ok (.iload_n 0, 1) := by decide +kernel
set_option maxRecDepth 100000 in
theorem d_214_6 : decode (mB 214) 6 = .ok (.goto 4, 3) := by decide +kernel
set_option maxRecDepth 100000 in
theorem d_214_9 : decode (mB 214) 9 = .ok (.iload_n 1, 1) := by decide +kernel
set_option maxRecDepth 100000 in
theorem d_214_10 : decode (mB 214) 10 = .ok (.ireturn, 1) := by decide +kernel
set_option maxRecDepth 100000 in
theorem d_215_0 : decode (mB 215) 0 = .ok (.iload_n 0, 1) := by decide +kernel
set_option maxRecDepth 100000 in
theorem d_215_1 : decode (mB 215) 1 = .ok (.iload_n 1, 1) := by decide +kernel
set_option maxRecDepth 100000 in
theorem d_215_2 : decode (mB 215) 2 = .ok (.if_icmp .gt 7, 3) := by decide +kernel
set_option maxRecDepth 100000 in
theorem d_215_5 : decode (mB 215) 5 = .ok (.iload_n 0, 1) := by decide +kernel
set_option maxRecDepth 100000 in
theorem d_215_6 : decode (mB 215) 6 = .ok (.goto 4, 3) := by decide +kernel
set_option maxRecDepth 100000 in
theorem d_215_9 : decode (mB 215) 9 = .ok (.iload_n 1, 1) := by decide +kernel
set_option maxRecDepth 100000 in
theorem d_215_10 : decode (mB 215) 10 = .ok (.ireturn, 1) := by decide +kernel
set_option maxRecDepth 100000 in
theorem d_216_0 : decode (mB 216) 0 = .ok (.iconst 0, 1) := by decide +kernel
set_option maxRecDepth 100000 in
theorem d_216_1 : decode (mB 216) 1 = .ok (.istore_n 2, 1) := by decide +kernel
set_option maxRecDepth 100000 in
theorem d_216_2 : decode (mB 216) 2 = .ok (.aload_n 0, 1) := by decide +kernel
set_option maxRecDepth 100000 in
theorem d_216_3 : decode (mB 216) 3 = .ok (.arraylength, 1) := by decide +kernel
set_option maxRecDepth 100000 in
theorem d_216_4 : decode (mB 216) 4 = .ok (.istore_n 3, 1) := by decide +kernel
set_option maxRecDepth 100000 in
theorem d_216_5 : decode (mB 216) 5 = .ok (.iload_n 2, 1) := by decide +kernel
set_option maxRecDepth 100000 in
theorem d_216_6 : decode (mB 216) 6 = .ok (.iload_n 3, 1) := by decide +kernel
set_option maxRecDepth 100000 in
theorem d_216_7 : decode (mB 216) 7 = .ok (.if_icmp .ge 13, 3) := by decide +kernel
set_option maxRecDepth 100000 in
theorem d_216_10 : decode (mB 216) 10 = .ok (.aload_n 0, 1) := by decide +kernel
set_option maxRecDepth 100000 in
theorem d_216_11 : decode (mB 216) 11 = .ok (.iload_n 2, 1) := by decide +kernel
set_option maxRecDepth 100000 in
theorem d_216_12 : decode (mB 216) 12 = .ok (.iload_n 1, 1) := by decide +kernel
set_option maxRecDepth 100000 in
theorem d_216_13 : decode (mB 216) 13 = .ok (.iastore, 1) := by decide +kernel
set_option maxRecDepth 100000 in
theorem d_216_14 : decode (mB 216) 14 = .ok (.iinc 2 1, 3) := by decide +kernel
set_option maxRecDepth 100000 in
theorem d_216_17 : decode (mB 216) 17 = .ok (.goto (-12), 3) := by decide +kernel
set_option maxRecDepth 100000 in
theorem d_216_20 : decode (mB 216) 20 = .ok (.return_, 1) := by decide +kernel
set_option maxRecDepth 100000 in
theorem ca_100 : okw (.arrayClass (AT 100)) := okk_w (k := 145) (by decide +kernel)
set_option maxRecDepth 100000 in
theorem ca_101 : okw (.arrayClass (AT 101)) := okk_w (k := 197) (by decide +kernel)
set_option maxRecDepth 100000 in
theorem ca_104 : okw (.arrayOver (AT 104)) := okk_w (k := 95) (by decide +kernel)
set_option maxRecDepth 100000 in
theorem ca_105 : okw (.arrayOver (AT 105)) := okk_w (k := 97) (by decide +kernel)
set_option maxRecDepth 100000 in
theorem ca_106 : okw (.arrayOver (AT 106)) := okk_w (k := 99) (by decide +kernel)
set_option maxRecDepth 100000 in
theorem ca_103 : okw (.arrayOver (AT 103)) := okk_w (k := 205) (by decide +kernel)
set_option maxRecDepth 100000 in
theorem ca_107 : okw (.arrayOver (AT 107)) := okk_w (k := 247) (by decide +kernel)
set_option maxRecDepth 100000 in
theorem co_code : okw (.instanceMethod Lib.objectInit) ∧ okw (.code Lib.objectInit ⟨#[0xb1]⟩ 1 none) := ⟨okk_w (k := 86) (by decide +kernel), okk_w (k := 87) (by decide +kernel)⟩
end
section
/-! ===== BEGIN words of one list among another's, by their places ===== -/
theorem goodIn_r {big : List Cond} (ws : List Cond) (ps : List Nat) (hp : ws = ps.filterMap (fun i => big[i]?)) (h : ws.all goodWord = true) : GoodIn big ws := by
  intro w hw
  have h1 := List.all_eq_true.mp h w hw
  rw [hp] at hw
  obtain ⟨i, -, hi⟩ := List.mem_filterMap.mp hw
  have hm : w ∈ big := by first | exact List.mem_of_getElem? hi | exact List.getElem?_mem hi
  exact ⟨hm, good_of_word h1⟩
theorem goodIn_app {big a b : List Cond} (ha : GoodIn big a) (hb : GoodIn big b) : GoodIn big (a ++ b) := fun w h => (List.mem_append.mp h).elim (ha w) (hb w)
theorem goodIn_ca {big a b : List Cond} {c : Cond} (ha : GoodIn big (c :: a)) (hb : GoodIn big b) : GoodIn big (c :: (a ++ b)) := fun w h => (List.mem_cons.mp h).elim (fun e => ha w (List.mem_cons.mpr (Or.inl e))) (fun h => (List.mem_append.mp h).elim (fun h => ha w (List.mem_cons.mpr (Or.inr h))) (hb w))
theorem goodIn_sub {big ws : List Cond} (hm : ∀ w ∈ ws, w ∈ big) (h : ws.all goodWord = true) : GoodIn big ws := fun w hw => ⟨hm w hw, good_of_word (List.all_eq_true.mp h w hw)⟩
/-! ===== END ===== -/
/-! ===== BEGIN exceptions that leave a method, and their catching by the caller (launches without stack traces) ===== -/
section VXA
/-! The laws vx_back, vx_callV, vx_callS, vx_callSW, vx_throw0, vx_throwS follow proofs of the library, with one case more: JvmDerived/Free/Laws.lean (Back.of_free), Shelf42/LK1.lean (callV, callS), Shelf/KitTraced.lean (throwNew0V, throwNewS). -/
/-- where a method has thrown q: the class by its name, the cell, what was written, the world -/
def vx_T (XC : String → State → State → Prop) (st : State) (q : Addr) (t : State) (mc ms : Nat) (free : Addr → Prop) : Prop :=
  ∃ (E : String) (ce : Cell) (L : List Loc), XC E st t ∧ t.heap[q]? = some ce ∧ ce.vm = .none ∧ st.vm.findClass E = some ce.cls ∧ st.WarmedH t.vm ∧ st.sameButNew ({ t with vm := st.vm } : State) L mc ms ∧ ∀ z ∈ L, free z.base
def vx_Q (Qc : Array Value → State → Outcome → State → Prop) (XC : String → State → State → Prop) (mc ms : Nat) (free : Addr → Prop) : Array Value → State → Outcome → State → Prop := fun a st o t =>
  (Qc a st o t ∧ ∃ L, FrameEnd st o t L mc ms ∧ ∀ q ∈ L, free q.base) ∨ ∃ q, o = .threw q ∧ vx_T XC st q t mc ms free
/-- a callee that returns or throws -/
def vx_Met (l : Launch) (y : MethodName) (ws : List Cond) (rm : Room) (Pc : Array Value → State → Prop) (Qc : Array Value → State → Outcome → State → Prop) (XC : String → State → State → Prop) (mc ms : Nat) (free : Addr → Prop) : Prop :=
  MetFree l y (headSpec ws rm) Pc (fun _ _ _ _ _ => True) (vx_Q Qc XC mc ms free)
def vx_Post (XC : String → State → State → Prop) (mc ms : Nat) (free : Addr → Prop) : Pt → Array Value → Addr → Pt → Prop := fun A a q B =>
  ∃ (g : JFrame) (mk : MethodId) (t : State) (L : List Loc) (E : String) (ce : Cell), B.U.heap = t.heap ∧ B.U.vm = t.vm ∧ XC E (A.U.calling g mk a) t ∧ t.heap[q]? = some ce ∧ ce.vm = .none ∧ A.U.vm.findClass E = some ce.cls ∧ B.locs = A.locs ++ L ∧ (∀ z ∈ L, free z.base) ∧ B.cells = A.cells + mc ∧ B.slots = A.slots + ms
def vx_Back (l : Launch) (R : Room) (p : Program) (e : Env) (below : List Frame) (s : State) (sargs : Array Value) (y : MethodName) (len W9 : Nat)
    (Pre : Pt → Array Value → Prop) (Post : Pt → Array Value → Option Value → Pt → Prop) (PostX : Pt → Array Value → Addr → Pt → Prop) : Prop :=
  ∀ (m : MethodId) (meth : Method) (c : Code) (A : Pt) (g : JFrame) (ig : Instr) (mk : MethodId) (a : Array Value),
    Stand p l e R s m sargs below meth c A.U A.locs A.cells A.slots → g.method = m → g.locals.size = c.maxLocals → decode c.code g.pc = .ok (ig, len) →
    2 * g.monitorRoom + (g.stack.map fun v => v.category).sum ≤ W9 → A.U.methodNamed? y = some mk → Pre A a →
    (∃ (v : Option Value) (B : Pt), Stand p l e R s m sargs below meth c B.U B.locs B.cells B.slots ∧ Post A a v B ∧
      Steps p.tables e below (doInvoke e (A.U.setTop g) [] mk a).1 (B.U.setTop { g with pc := g.pc + len, stack := v.toList ++ g.stack })) ∨
    (∃ (q : Addr) (B : Pt), Stand p l e R s m sargs below meth c B.U B.locs B.cells B.slots ∧ PostX A a q B ∧
      Steps p.tables e below (doInvoke e (A.U.setTop g) [] mk a).1 ((B.U.setTop g).pushFrame (.throwing q)))
section Payer
variable {l : Launch} {R : Room} {p : Program} {e : Env} {below : List Frame} {s : State} {sargs : Array Value} {y : MethodName} {len W9 : Nat}
theorem vx_back {ws : List Cond} {rm : Room} {Pc : Array Value → State → Prop} {Qc : Array Value → State → Outcome → State → Prop} {XC : String → State → State → Prop} {mc ms : Nat} {free : Addr → Prop} {bytes : ByteArray} {maxL : Nat} {ret : Option FieldType}
    (hM : vx_Met l y ws rm Pc Qc XC mc ms free) (hblind : FrameBlind Pc) (hrc : rm.cells = mc) (hrs : rm.slots = ms)
    (hframes : rm.frames + 1 ≤ R.frames) (hlocals : W9 + (maxL + 11) + rm.locals ≤ R.locals)
    (hws : ∀ w ∈ ws, ∀ a' U, s.WarmedH U.vm → w.before a' U = true) (hcode : Cond.code y bytes maxL ret ∈ ws) (hinit : ∀ a' U, s.WarmedH U.vm → (Cond.initialized y.cls).before a' U = true) :
    vx_Back l R p e below s sargs y len W9 (PreOf R mc ms Pc) (PostOf Qc mc ms free) (vx_Post XC mc ms free) := by
  intro m meth c A g ig mk a X hg hsize hdg hW hn hp
  have h1 : (headSpec ws rm).pre.before a A.U = true := atoms_intro fun w hw => hws w hw _ _ X.warmed
  have h2 : (Cond.code y bytes maxL ret).before a A.U = true := hws _ hcode _ _ X.warmed
  have h3 : (Cond.initialized y.cls).before a A.U = true := hinit _ _ X.warmed
  have h4 : A.cells + (headSpec ws rm).room.cells ≤ R.cells := by rw [show (headSpec ws rm).room.cells = mc from hrc]; exact hp.1
  have h5 : A.slots + (headSpec ws rm).room.slots ≤ R.slots := by rw [show (headSpec ws rm).room.slots = ms from hrs]; exact hp.2.1
  have hPc : Pc a (A.U.calling g mk a) := hblind _ _ _ _ hp.2.2
  obtain ⟨U, Ls, c0, s0⟩ := A
  dsimp only [Pt.U, Pt.locs, Pt.cells, Pt.slots] at h1 h2 h3 h4 h5 X hn hPc ⊢
  obtain ⟨methY, cY, hmY, hcY, -, hlY, -, -, -, -⟩ := Cond.code_spec hn h2
  obtain ⟨kY, hkY, -⟩ := className_of_methodNamed hn
  have hinitY : kY.init = .initialized := Cond.initialized_spec (findClass_of_methodNamed hn) hkY h3
  have h : At U g.method c below := by rw [hg]; exact X.here
  have hlocals9 : W9 + (maxL + 11) + (headSpec ws rm).room.locals ≤ R.locals := hlocals
  have happ : (headSpec ws rm).appliesLoose y e.platform (U.calling g mk a) = true :=
    Spec.appliesLoose_calling (g := g) h hdg hn hkY hinitY
      (X.room_calling (g := g) (R' := (headSpec ws rm).room) hsize hmY hcY hframes (by rw [hlY]; omega) h4 h5) h1
  obtain ⟨mid, hmid⟩ := h.above
  have hfr : (U.setTop g).frames = (.java g :: mid) ++ below := by rw [State.frames_setTop' g h.top, hmid]; rfl
  obtain ⟨o, s₂, hsteps, -, hend, hq⟩ := Steps.callFree hM p X.admits X.cas X.clock (acts := []) hfr happ hPc trivial
  have hq' : vx_Q Qc XC mc ms free a (U.calling g mk a) o s₂ := hq
  rw [State.frames_setTop' g h.top] at hend
  obtain ⟨g₀, hg0⟩ := Option.isSome_iff_exists.mp h.top
  obtain ⟨r, hr⟩ := State.topJava?_eq_some.mp hg0
  have hr' : (({ U with heap := s₂.heap, slotsUsed := s₂.slotsUsed } : State).setVm s₂.vm).frames = .java g₀ :: r := hr
  rcases hq' with ⟨hqc, L, hfe, hL⟩ | ⟨q, rfl, E, ce, L, hx, hce, hcv, hcl, hW₂, hsm, hL⟩
  · obtain ⟨⟨v, rfl⟩, hW₂, e2, q2, q3, q4, q5, q6⟩ := id hfe
    have e3 : s₂ = ({ (U.calling g mk a).setFrames s₂.frames with heap := s₂.heap, slotsUsed := s₂.slotsUsed } : State).setVm s₂.vm := by
      have : s₂ = ({ s₂ with vm := (U.calling g mk a).vm } : State).setVm s₂.vm := rfl
      rw [e2] at this
      exact this
    obtain ⟨c₂, i₂, len₂, hc₂, hd₂, hf₂⟩ := hend
    have hW' : U.WarmedH s₂.vm := hW₂
    have hcc : c₂ = c := by
      have h1 : s₂.code? g.method = U.code? g.method := by
        rw [State.code?_eq, State.code?_eq, hW'.alike.method?]
      exact Option.some.inj (hc₂.symm.trans (h1.trans h.code))
    subst hcc
    have hlen : len₂ = len := by rw [hdg] at hd₂; cases hd₂; rfl
    subst hlen
    have hs₂ : s₂ = (({ U with heap := s₂.heap, slotsUsed := s₂.slotsUsed } : State).setVm s₂.vm).setTop { g with pc := g.pc + len₂, stack := v.toList ++ g.stack } := by
      refine e3.trans ?_
      rw [hf₂, State.calling_eq h.top, State.setFrames_setFrames, State.setTop_of_frames _ hr', hr]
      rfl
    have hsame : U.sameButNew ({ U with heap := s₂.heap, slotsUsed := s₂.slotsUsed } : State) L mc ms := by
      refine ⟨?_, q2, q3, q4, q5, q6⟩
      obtain ⟨t, ht, -⟩ := State.frames_cons hr
      show ({ U with heap := s₂.heap, slotsUsed := s₂.slotsUsed } : State) = { U.setFrames U.frames with heap := s₂.heap, slotsUsed := s₂.slotsUsed }
      rw [State.setFrames_self ht]
    subst hg
    refine Or.inl ⟨v, ⟨(({ U with heap := s₂.heap, slotsUsed := s₂.slotsUsed } : State).setVm s₂.vm), Ls ++ L, c0 + mc, s0 + ms⟩,
      ⟨X.admits, X.cas, X.clock, X.frames, X.room, X.hears, X.method, X.code, (X.here.setHeapUsed s₂.heap s₂.slotsUsed).setVm hW'.alike, X.tail, State.WarmedH.trans X.warmed hW', X.limits, X.bytes, X.same.trans (hsame.setVm s.vm)⟩,
      ⟨g, mk, s₂, L, rfl, rfl, hqc, rfl, hL, rfl, rfl⟩, ?_⟩
    show Steps p.tables e below _ ((({ U with heap := s₂.heap, slotsUsed := s₂.slotsUsed } : State).setVm s₂.vm).setTop { g with pc := g.pc + len₂, stack := v.toList ++ g.stack })
    rw [← hs₂]
    exact hsteps
  · obtain ⟨e2, q2, q3, q4, q5, q6⟩ := id hsm
    have e3 : s₂ = ({ (U.calling g mk a).setFrames s₂.frames with heap := s₂.heap, slotsUsed := s₂.slotsUsed } : State).setVm s₂.vm := by
      have : s₂ = ({ s₂ with vm := (U.calling g mk a).vm } : State).setVm s₂.vm := rfl
      rw [e2] at this
      exact this
    have hf₂ : s₂.frames = .throwing q :: .java g :: U.frames.tail := hend
    have hW' : U.WarmedH s₂.vm := hW₂
    have hs₂ : s₂ = ((({ U with heap := s₂.heap, slotsUsed := s₂.slotsUsed } : State).setVm s₂.vm).setTop g).pushFrame (.throwing q) := by
      refine e3.trans ?_
      rw [hf₂, State.calling_eq h.top, State.setFrames_setFrames, State.pushFrame, State.frames_setTop _ hr', State.setTop_of_frames _ hr', State.setFrames_setFrames, hr]
      rfl
    have hsame : U.sameButNew ({ U with heap := s₂.heap, slotsUsed := s₂.slotsUsed } : State) L mc ms := by
      refine ⟨?_, q2, q3, q4, q5, q6⟩
      obtain ⟨t, ht, -⟩ := State.frames_cons hr
      show ({ U with heap := s₂.heap, slotsUsed := s₂.slotsUsed } : State) = { U.setFrames U.frames with heap := s₂.heap, slotsUsed := s₂.slotsUsed }
      rw [State.setFrames_self ht]
    subst hg
    refine Or.inr ⟨q, ⟨(({ U with heap := s₂.heap, slotsUsed := s₂.slotsUsed } : State).setVm s₂.vm), Ls ++ L, c0 + mc, s0 + ms⟩,
      ⟨X.admits, X.cas, X.clock, X.frames, X.room, X.hears, X.method, X.code, (X.here.setHeapUsed s₂.heap s₂.slotsUsed).setVm hW'.alike, X.tail, State.WarmedH.trans X.warmed hW', X.limits, X.bytes, X.same.trans (hsame.setVm s.vm)⟩,
      ⟨g, mk, s₂, L, E, ce, rfl, rfl, hx, hce, hcv, hcl, rfl, hL, rfl, rfl⟩, ?_⟩
    show Steps p.tables e below _ (((({ U with heap := s₂.heap, slotsUsed := s₂.slotsUsed } : State).setVm s₂.vm).setTop g).pushFrame (.throwing q))
    rw [← hs₂]
    exact hsteps
end Payer
section Calls
variable {p : Program} {l : Launch} {e : Env} {R : Room} {s : State} {m : MethodId} {args : Array Value} {below : List Frame} {meth : Method} {c : Code} {T : State} {locs : List Loc} {cells slots : Nat}
theorem vx_callV (X : Stand p l e R s m args below meth c T locs cells slots) (hexec : p.tables.exec = Jvm.exec) {own C : String} {index : Nat} {y : MethodName} {bytes : ByteArray} {maxL : Nat} {ret : Option FieldType}
    (hown : s.vm.findClass own = some m.cls) (hlink : (Cond.methodLink own index y).before args s = true) (hinst : (Cond.instanceMethod y).before args s = true) (hsel : (Cond.selects C y y).before args s = true)
    (hcode : (Cond.code y bytes maxL ret).before args s = true) (hy : y.cls ≠ "java/lang/invoke/MethodHandle" ∧ y.cls ≠ "java/lang/invoke/VarHandle")
    {W9 : Nat} {Pre : Pt → Array Value → Prop} {Post : Pt → Array Value → Option Value → Pt → Prop} {PostX : Pt → Array Value → Addr → Pt → Prop} (hK : vx_Back l R p e below s args y 3 W9 Pre Post PostX)
    {b : Addr} {cellB : Cell} (hcell : T.heap[b]? = some cellB) (hobj : cellB.vm.isStatics = false) (hcls : s.vm.findClass C = some cellB.cls)
    {g : JFrame} (hg : g.method = m) (hsize : g.locals.size = c.maxLocals) {argsL rest : List Value} (hlen : ∀ sig, parseMethodDescriptor y.desc = some sig → argsL.length = sig.parameters.length)
    (hstack : g.stack = argsL.reverse ++ .ref b :: rest) (hW : 2 * g.monitorRoom + (rest.map fun v => v.category).sum ≤ W9) (hdg : decode c.code g.pc = .ok (.invokevirtual index, 3))
    (hpre : ∀ vm₁, s.WarmedH vm₁ → Pre ⟨T.setVm vm₁, locs, cells, slots⟩ (Value.ref b :: argsL).toArray) :
    (∃ (v : Option Value) (vm₁ : Vm) (B : Pt), s.WarmedH vm₁ ∧ Stand p l e R s m args below meth c B.U B.locs B.cells B.slots ∧ Post ⟨T.setVm vm₁, locs, cells, slots⟩ (Value.ref b :: argsL).toArray v B ∧
      ∀ target, Steps p.tables e below (B.U.setTop { g with pc := g.pc + 3, stack := v.toList ++ rest }) target → Steps p.tables e below (T.setTop g) target) ∨
    (∃ (q : Addr) (vm₁ : Vm) (B : Pt), s.WarmedH vm₁ ∧ Stand p l e R s m args below meth c B.U B.locs B.cells B.slots ∧ PostX ⟨T.setVm vm₁, locs, cells, slots⟩ (Value.ref b :: argsL).toArray q B ∧
      Steps p.tables e below (T.setTop g) ((B.U.setTop { g with stack := rest }).pushFrame (.throwing q))) := by
  obtain ⟨mk, methM, hnamed, hmethM, hstM, habM⟩ := Cond.instanceMethod_spec hinst
  obtain ⟨methM', cM, hmethM', -, -, -, -, -, -, hsigM⟩ := Cond.code_spec hnamed hcode
  cases hmethM.symm.trans hmethM'
  obtain ⟨c2, r2, m2, q1, q2, q3, q4, kP, hkP, hkPi⟩ := Cond.selects_spec hsel
  cases hcls.symm.trans q1
  cases (State.methodFound?_of_named hnamed hy).symm.trans q2
  cases hnamed.symm.trans q3
  have hselP : selectMethod e.platform s.vm cellB.cls mk = .method mk := by rw [Launch.admits_selectMethod X.admits]; exact q4
  obtain ⟨vm₁, X₁, hstep₁⟩ := X.invokevirtual hexec hown hlink hnamed hmethM hstM hkP hkPi hy (a := b) (cell := cellB) hcell
    (fun z h => by rw [h] at hobj; cases hobj) hselP hmethM habM hkP hkPi (g := g) hg (argsL := argsL) (rest := rest) (hlen _ hsigM) hstack hdg
  rcases hK m meth c ⟨T.setVm vm₁, locs, cells, slots⟩ { g with stack := rest } (.invokevirtual index) mk (Value.ref b :: argsL).toArray X₁ hg hsize hdg hW (X₁.named hnamed) (hpre vm₁ X₁.warmed) with ⟨v, B, X', hpost, hsteps⟩ | ⟨q, B, X', hpost, hsteps⟩
  · exact Or.inl ⟨v, vm₁, B, X₁.warmed, X', hpost, fun target h => hstep₁ _ fun acts => by rw [doInvoke_state]; exact hsteps.trans h⟩
  · exact Or.inr ⟨q, vm₁, B, X₁.warmed, X', hpost, hstep₁ _ fun acts => by rw [doInvoke_state]; exact hsteps⟩
theorem vx_callS (X : Stand p l e R s m args below meth c T locs cells slots) (hexec : p.tables.exec = Jvm.exec) {own : String} {index : Nat} {y : MethodName} {bytes : ByteArray} {maxL : Nat} {ret : Option FieldType}
    (hown : s.vm.findClass own = some m.cls) (hlink : (Cond.methodLink own index y).before args s = true) (hstat : (Cond.static y).before args s = true) (hinit : (Cond.initialized y.cls).before args s = true)
    (hcode : (Cond.code y bytes maxL ret).before args s = true) (hy : y.cls ≠ "java/lang/invoke/MethodHandle" ∧ y.cls ≠ "java/lang/invoke/VarHandle")
    {W9 : Nat} {Pre : Pt → Array Value → Prop} {Post : Pt → Array Value → Option Value → Pt → Prop} {PostX : Pt → Array Value → Addr → Pt → Prop} (hK : vx_Back l R p e below s args y 3 W9 Pre Post PostX)
    {g : JFrame} (hg : g.method = m) (hsize : g.locals.size = c.maxLocals) {argsL rest : List Value} (hlen : ∀ sig, parseMethodDescriptor y.desc = some sig → argsL.length = sig.parameters.length)
    (hstack : g.stack = argsL.reverse ++ rest) (hW : 2 * g.monitorRoom + (rest.map fun v => v.category).sum ≤ W9) (hdg : decode c.code g.pc = .ok (.invokestatic index, 3))
    (hpre : ∀ vm₁, s.WarmedH vm₁ → Pre ⟨T.setVm vm₁, locs, cells, slots⟩ argsL.toArray) :
    (∃ (v : Option Value) (vm₁ : Vm) (B : Pt), s.WarmedH vm₁ ∧ Stand p l e R s m args below meth c B.U B.locs B.cells B.slots ∧ Post ⟨T.setVm vm₁, locs, cells, slots⟩ argsL.toArray v B ∧
      ∀ target, Steps p.tables e below (B.U.setTop { g with pc := g.pc + 3, stack := v.toList ++ rest }) target → Steps p.tables e below (T.setTop g) target) ∨
    (∃ (q : Addr) (vm₁ : Vm) (B : Pt), s.WarmedH vm₁ ∧ Stand p l e R s m args below meth c B.U B.locs B.cells B.slots ∧ PostX ⟨T.setVm vm₁, locs, cells, slots⟩ argsL.toArray q B ∧
      Steps p.tables e below (T.setTop g) ((B.U.setTop { g with stack := rest }).pushFrame (.throwing q))) := by
  obtain ⟨mk, hnamed⟩ := Cond.code_named hcode
  obtain ⟨methM, cM, hmethM, -, -, -, -, -, -, hsigM⟩ := Cond.code_spec hnamed hcode
  have hstatic : methM.isStatic = true := Cond.static_spec hnamed hmethM hstat
  obtain ⟨kP, hkP, -⟩ := className_of_methodNamed hnamed
  have hinitP : kP.init = .initialized := Cond.initialized_spec (findClass_of_methodNamed hnamed) hkP hinit
  obtain ⟨vm₁, X₁, hstep₁⟩ := X.invokestatic hexec hown hlink hnamed hmethM hstatic hkP hinitP hy (g := g) hg (argsL := argsL) (rest := rest) (hlen _ hsigM) hstack hdg
  rcases hK m meth c ⟨T.setVm vm₁, locs, cells, slots⟩ { g with stack := rest } (.invokestatic index) mk argsL.toArray X₁ hg hsize hdg hW (X₁.named hnamed) (hpre vm₁ X₁.warmed) with ⟨v, B, X', hpost, hsteps⟩ | ⟨q, B, X', hpost, hsteps⟩
  · exact Or.inl ⟨v, vm₁, B, X₁.warmed, X', hpost, fun target h => hstep₁ _ fun acts => by rw [doInvoke_state]; exact hsteps.trans h⟩
  · exact Or.inr ⟨q, vm₁, B, X₁.warmed, X', hpost, hstep₁ _ fun acts => by rw [doInvoke_state]; exact hsteps⟩
end Calls
theorem vx_cls {s : State} {T : State} {vm₁ : Vm} {E : String} {k : ClassId} (hW : s.WarmedH vm₁) (h : (T.setVm vm₁).vm.findClass E = some k) : s.vm.findClass E = some k := by
  have h1 : vm₁.findClass E = some k := h
  rw [hW.alike.findClass] at h1
  exact h1
/-- the method's frame g, with q thrown over it -/
def vx_W (p : Program) (l : Launch) (e : Env) (R : Room) (s : State) (m : MethodId) (args : Array Value) (below : List Frame) (meth : Method) (c : Code) (H : Heap) (locs : List Loc) (cells slots : Nat) (Q : State → Prop) (g : JFrame) (q : Addr) : Prop :=
  ∀ T : State, T.heap = H → Stand p l e R s m args below meth c T locs cells slots → ∃ t, Steps p.tables e below ((T.setTop g).pushFrame (.throwing q)) t ∧ Q t
def vx_Run (p : Program) (l : Launch) (e : Env) (R : Room) (s : State) (m : MethodId) (args : Array Value) (below : List Frame) (meth : Method) (c : Code) (H : Heap) (locs : List Loc) (cells slots mc ms : Nat) (g : JFrame) (rest : List Value) (Qa : State → Outcome → State → Prop) (XC : String → State → State → Prop) (free : Addr → Prop) : Prop :=
  ∀ T : State, T.heap = H → Stand p l e R s m args below meth c T locs cells slots →
    (∃ (v : Option Value) (st₀ t T' : State) (L : List Loc), st₀.heap = H ∧ Stand p l e R s m args below meth c T' (locs ++ L) (cells + mc) (slots + ms) ∧ (∀ q ∈ L, free q.base) ∧ T'.heap = t.heap ∧ T'.vm = t.vm ∧ Qa st₀ (.returned v) t ∧
      Goes p e below T g T' { g with pc := g.pc + 3, stack := v.toList ++ rest }) ∨
    (∃ (q : Addr) (st₀ t T' : State) (L : List Loc) (E : String) (ce : Cell), st₀.heap = H ∧ Stand p l e R s m args below meth c T' (locs ++ L) (cells + mc) (slots + ms) ∧ (∀ z ∈ L, free z.base) ∧ T'.heap = t.heap ∧ T'.vm = t.vm ∧ XC E st₀ t ∧ t.heap[q]? = some ce ∧ ce.vm = .none ∧ s.vm.findClass E = some ce.cls ∧
      Steps p.tables e below (T.setTop g) ((T'.setTop { g with stack := rest }).pushFrame (.throwing q)))
def vx_X {S : Type} (px : S → Prop) (B : String → S → State → Prop) (A : Nat → Prop) : String → State → State → Prop := fun E st t => ∃ u : S, px u ∧ B E u t ∧ va_F A st t
section Runs
variable {p : Program} {l : Launch} {e : Env} {R : Room} {s : State} {m : MethodId} {args : Array Value} {below : List Frame} {meth : Method} {c : Code} {H : Heap} {locs : List Loc} {cells slots : Nat}
variable {y : MethodName} {bytes cc : ByteArray} {maxL nL mc ms n index : Nat} {ret : Option FieldType} {ws : List Cond} {rm : Room} {Pc : Array Value → State → Prop} {Qc : Array Value → State → Outcome → State → Prop} {XC : String → State → State → Prop} {free : Addr → Prop} {Ts : List Cond} {own C : String} {b : Addr} {As rest : List Value} {g : JFrame}
theorem vx_callBack (cb : CallB R s args own index y bytes maxL ret ws rm mc ms n) (hM : vx_Met l y ws rm Pc Qc XC mc ms free) (hbl : FrameBlind Pc) : vx_Back l R p e below s args y 3 8 (PreOf R mc ms Pc) (PostOf Qc mc ms free) (vx_Post XC mc ms free) := by
  obtain ⟨hrc, hrs, hfr, hlo, hws, hcw, -, hini, -⟩ := cb
  exact vx_back (bytes := bytes) (maxL := maxL) (ret := ret) hM hbl hrc hrs hfr hlo hws hcw (fun a' U hW => word_at hW (Or.inl (by first | rfl | simp [Cond.onTables, Cond.keeps, Cond.steady])) hini)
theorem vx_runV (S : CallFix p m c cc nL s args Ts own) (hM : vx_Met l y ws rm Pc Qc XC mc ms free) (cw : CallW R s args own C index y bytes maxL ret ws rm mc ms n) (hp : PreV s H C b Pc As)
    (hg : g.method = m) (hn : As.length = n) (hsize : g.locals.size = nL) (hstack : g.stack = As.reverse ++ .ref b :: rest) (hW : 2 * g.monitorRoom + (rest.map fun v => v.category).sum ≤ 8) (hdg : decode cc g.pc = .ok (.invokevirtual index, 3)) (hf : cells + mc ≤ R.cells ∧ slots + ms ≤ R.slots) :
    vx_Run p l e R s m args below meth c H locs cells slots mc ms g rest (Qc (Value.ref b :: As).toArray) XC free := by
  have hK : vx_Back l R p e below s args y 3 8 (PreOf R mc ms Pc) (PostOf Qc mc ms free) (vx_Post XC mc ms free) := vx_callBack cw.1 hM hp.1
  obtain ⟨⟨-, -, -, -, -, -, hcode, -, hy, hlen, hl⟩, hin, hse⟩ := cw
  obtain ⟨hx, hb, hml, ho, -⟩ := S
  obtain ⟨-, ⟨cellB, hcB, hoB, hclB⟩, hPc⟩ := hp
  intro T hT X
  rcases vx_callV X hx (C := C) (bytes := bytes) (maxL := maxL) (ret := ret) ho hl hin hse hcode hy hK (by rw [hT]; exact hcB) hoB hclB hg (hsize.trans hml.symm) (argsL := As) (rest := rest) (fun sig h => hn.trans (hlen sig h)) hstack hW (by rw [hb]; exact hdg)
    (fun vm₁ hW₁ => ⟨hf.1, hf.2, hPc (T.setVm vm₁) hT hW₁⟩) with ⟨v, vm₁, ⟨U', l2, c2, s2⟩, hW₁, X', ⟨g', mk, t, L, e1, e2, hq, h1, hL, h2, h3⟩, st⟩ | ⟨q, vm₁, ⟨U', l2, c2, s2⟩, hW₁, X', ⟨g', mk, t, L, E, ce, e1, e2, hq, hce, hcv, hcl, h1, hL, h2, h3⟩, st⟩
  · dsimp only [Pt.U, Pt.locs, Pt.cells, Pt.slots] at X' e1 e2 h1 h2 h3 st
    subst h1; subst h2; subst h3
    exact Or.inl ⟨v, (T.setVm vm₁).calling g' mk (Value.ref b :: As).toArray, t, U', L, hT, X', hL, e1, e2, hq, st⟩
  · dsimp only [Pt.U, Pt.locs, Pt.cells, Pt.slots] at X' e1 e2 h1 h2 h3 st hcl
    subst h1; subst h2; subst h3
    exact Or.inr ⟨q, (T.setVm vm₁).calling g' mk (Value.ref b :: As).toArray, t, U', L, E, ce, hT, X', hL, e1, e2, hq, hce, hcv, vx_cls hW₁ hcl, st⟩
theorem vx_runS (S : CallFix p m c cc nL s args Ts own) (hM : vx_Met l y ws rm Pc Qc XC mc ms free) (cw : CallB R s args own index y bytes maxL ret ws rm mc ms n ∧ (Cond.static y).before args s = true) (hp : PreS s H Pc As)
    (hg : g.method = m) (hn : As.length = n) (hsize : g.locals.size = nL) (hstack : g.stack = As.reverse ++ rest) (hW : 2 * g.monitorRoom + (rest.map fun v => v.category).sum ≤ 8) (hdg : decode cc g.pc = .ok (.invokestatic index, 3)) (hf : cells + mc ≤ R.cells ∧ slots + ms ≤ R.slots) :
    vx_Run p l e R s m args below meth c H locs cells slots mc ms g rest (Qc As.toArray) XC free := by
  have hK : vx_Back l R p e below s args y 3 8 (PreOf R mc ms Pc) (PostOf Qc mc ms free) (vx_Post XC mc ms free) := vx_callBack cw.1 hM hp.1
  obtain ⟨⟨-, -, -, -, -, -, hcode, hini, hy, hlen, hl⟩, hstt⟩ := cw
  obtain ⟨hx, hb, hml, ho, -⟩ := S
  intro T hT X
  rcases vx_callS X hx (bytes := bytes) (maxL := maxL) (ret := ret) ho hl hstt hini hcode hy hK hg (hsize.trans hml.symm) (argsL := As) (rest := rest) (fun sig h => hn.trans (hlen sig h)) hstack hW (by rw [hb]; exact hdg)
    (fun vm₁ hW₁ => ⟨hf.1, hf.2, hp.2 (T.setVm vm₁) hT hW₁⟩) with ⟨v, vm₁, ⟨U', l2, c2, s2⟩, hW₁, X', ⟨g', mk, t, L, e1, e2, hq, h1, hL, h2, h3⟩, st⟩ | ⟨q, vm₁, ⟨U', l2, c2, s2⟩, hW₁, X', ⟨g', mk, t, L, E, ce, e1, e2, hq, hce, hcv, hcl, h1, hL, h2, h3⟩, st⟩
  · dsimp only [Pt.U, Pt.locs, Pt.cells, Pt.slots] at X' e1 e2 h1 h2 h3 st
    subst h1; subst h2; subst h3
    exact Or.inl ⟨v, (T.setVm vm₁).calling g' mk As.toArray, t, U', L, hT, X', hL, e1, e2, hq, st⟩
  · dsimp only [Pt.U, Pt.locs, Pt.cells, Pt.slots] at X' e1 e2 h1 h2 h3 st hcl
    subst h1; subst h2; subst h3
    exact Or.inr ⟨q, (T.setVm vm₁).calling g' mk As.toArray, t, U', L, E, ce, hT, X', hL, e1, e2, hq, hce, hcv, vx_cls hW₁ hcl, st⟩
end Runs
section Rows
variable {p : Program} {l : Launch} {e : Env} {R : Room} {s : State} {m : MethodId} {args : Array Value} {below : List Frame} {meth : Method} {c : Code} {H : Heap} {locs : List Loc} {cells slots : Nat} {Q : State → Prop}
variable {mc ms : Nat} {free : Addr → Prop} {A0 A1 : Nat → Prop} {H0 : Heap} {a : Array Value} {pc : Nat} {ls : Array Slot} {st0 rest : List Value}
theorem vx_keep {st₀ t T' : State} {L : List Loc} (h0 : st₀.heap = H) (e1 : T'.heap = t.heap) (hS : va_S A0 H0 H locs) (hA : ∀ q, q < H.size → A1 q → A0 q) (hf : ∀ q, free q → A0 q) (hL : ∀ q ∈ L, free q.base) (hF : va_F A1 st₀ t) :
    H.size ≤ T'.heap.size ∧ (∀ q : Nat, q < H.size → ¬ A1 q → T'.heap[q]? = H[q]?) ∧ va_S A0 H0 T'.heap (locs ++ L) := by
  obtain ⟨hz, hk⟩ := hF
  rw [h0] at hz hk
  exact ⟨by rw [e1]; exact hz, fun q h1 h2 => by rw [e1]; exact hk q h1 h2,
    ⟨Nat.le_trans hS.1 (by rw [e1]; exact hz), fun q h1 h2 => by rw [e1, hk q (Nat.lt_of_lt_of_le h1 hS.1) (fun z => h2 (hA q (Nat.lt_of_lt_of_le h1 hS.1) z))]; exact hS.2.1 q h1 h2, fun q hq => by
      rcases List.mem_append.mp hq with h | h
      · exact hS.2.2 q h
      · exact hf _ (hL q h)⟩⟩
theorem vx_calli {S SX : Type} {post : Int32 → S → Prop} {px : SX → Prop} {B : S → State → Prop} {BX : String → SX → State → Prop} {AX : Nat → Prop} (hr : vx_Run p l e R s m args below meth c H locs cells slots mc ms (F0 m pc ls st0) rest (va_Qi post B A1 a) (vx_X px BX AX) free) (hS : va_S A0 H0 H locs) (hA : ∀ q, q < H.size → A1 q → A0 q) (hf : ∀ q, free q → A0 q) (hAX : ∀ q, q < H.size → AX q → A0 q)
    (kx : ∀ (E : String) (ce : Cell) (q9 : Addr) (u : SX) (t : State) (H1 : Heap) (locs1 : List Loc), t.heap = H1 → s.vm.Alike t.vm → px u → BX E u t → H.size ≤ H1.size → (∀ q : Nat, q < H.size → ¬ AX q → H1[q]? = H[q]?) → va_S A0 H0 H1 locs1 → H1[q9]? = some ce → ce.vm = .none → s.vm.findClass E = some ce.cls → vx_W p l e R s m args below meth c H1 locs1 (cells + mc) (slots + ms) Q (F0 m pc ls rest) q9)
    (kk : ∀ (r : Int32) (u : S) (t : State) (H1 : Heap) (locs1 : List Loc), t.heap = H1 → s.vm.Alike t.vm → post r u → B u t → H.size ≤ H1.size → (∀ q : Nat, q < H.size → ¬ A1 q → H1[q]? = H[q]?) → va_S A0 H0 H1 locs1 → W p l e R s m args below meth c H1 locs1 (cells + mc) (slots + ms) Q (F0 m (pc + 3) ls (.int r :: rest))) : W p l e R s m args below meth c H locs cells slots Q (F0 m pc ls st0) := by
  intro T hT X
  rcases hr T hT X with ⟨v, st₀, t, T', L, h0, X', hL, e1, e2, ⟨⟨r, u, hv, hp, hb⟩, hF⟩, st⟩ | ⟨q, st₀, t, T', L, E, ce, h0, X', hL, e1, e2, ⟨u, hp, hb, hF⟩, hce, hcv, hcl, st⟩
  · cases hv
    obtain ⟨k1, k2, k3⟩ := vx_keep h0 e1 hS hA hf hL hF
    obtain ⟨t2, a1, b1⟩ := kk r u t T'.heap (locs ++ L) e1.symm (by rw [← e2]; exact X'.warmed.alike) hp hb k1 k2 k3 T' rfl X'
    exact ⟨t2, st t2 a1, b1⟩
  · obtain ⟨k1, k2, k3⟩ := vx_keep h0 e1 hS hAX hf hL hF
    obtain ⟨t2, a1, b1⟩ := kx E ce q u t T'.heap (locs ++ L) e1.symm (by rw [← e2]; exact X'.warmed.alike) hp hb k1 k2 k3 (by rw [e1]; exact hce) hcv hcl T' rfl X'
    exact ⟨t2, st.trans a1, b1⟩
theorem vx_calll {S SX : Type} {post : Int64 → S → Prop} {px : SX → Prop} {B : S → State → Prop} {BX : String → SX → State → Prop} {AX : Nat → Prop} (hr : vx_Run p l e R s m args below meth c H locs cells slots mc ms (F0 m pc ls st0) rest (va_Ql post B A1 a) (vx_X px BX AX) free) (hS : va_S A0 H0 H locs) (hA : ∀ q, q < H.size → A1 q → A0 q) (hf : ∀ q, free q → A0 q) (hAX : ∀ q, q < H.size → AX q → A0 q)
    (kx : ∀ (E : String) (ce : Cell) (q9 : Addr) (u : SX) (t : State) (H1 : Heap) (locs1 : List Loc), t.heap = H1 → s.vm.Alike t.vm → px u → BX E u t → H.size ≤ H1.size → (∀ q : Nat, q < H.size → ¬ AX q → H1[q]? = H[q]?) → va_S A0 H0 H1 locs1 → H1[q9]? = some ce → ce.vm = .none → s.vm.findClass E = some ce.cls → vx_W p l e R s m args below meth c H1 locs1 (cells + mc) (slots + ms) Q (F0 m pc ls rest) q9)
    (kk : ∀ (r : Int64) (u : S) (t : State) (H1 : Heap) (locs1 : List Loc), t.heap = H1 → s.vm.Alike t.vm → post r u → B u t → H.size ≤ H1.size → (∀ q : Nat, q < H.size → ¬ A1 q → H1[q]? = H[q]?) → va_S A0 H0 H1 locs1 → W p l e R s m args below meth c H1 locs1 (cells + mc) (slots + ms) Q (F0 m (pc + 3) ls (.long r :: rest))) : W p l e R s m args below meth c H locs cells slots Q (F0 m pc ls st0) := by
  intro T hT X
  rcases hr T hT X with ⟨v, st₀, t, T', L, h0, X', hL, e1, e2, ⟨⟨r, u, hv, hp, hb⟩, hF⟩, st⟩ | ⟨q, st₀, t, T', L, E, ce, h0, X', hL, e1, e2, ⟨u, hp, hb, hF⟩, hce, hcv, hcl, st⟩
  · cases hv
    obtain ⟨k1, k2, k3⟩ := vx_keep h0 e1 hS hA hf hL hF
    obtain ⟨t2, a1, b1⟩ := kk r u t T'.heap (locs ++ L) e1.symm (by rw [← e2]; exact X'.warmed.alike) hp hb k1 k2 k3 T' rfl X'
    exact ⟨t2, st t2 a1, b1⟩
  · obtain ⟨k1, k2, k3⟩ := vx_keep h0 e1 hS hAX hf hL hF
    obtain ⟨t2, a1, b1⟩ := kx E ce q u t T'.heap (locs ++ L) e1.symm (by rw [← e2]; exact X'.warmed.alike) hp hb k1 k2 k3 (by rw [e1]; exact hce) hcv hcl T' rfl X'
    exact ⟨t2, st.trans a1, b1⟩
theorem vx_callf {S SX : Type} {post : UInt32 → S → Prop} {px : SX → Prop} {B : S → State → Prop} {BX : String → SX → State → Prop} {AX : Nat → Prop} (hr : vx_Run p l e R s m args below meth c H locs cells slots mc ms (F0 m pc ls st0) rest (va_Qf post B A1 a) (vx_X px BX AX) free) (hS : va_S A0 H0 H locs) (hA : ∀ q, q < H.size → A1 q → A0 q) (hf : ∀ q, free q → A0 q) (hAX : ∀ q, q < H.size → AX q → A0 q)
    (kx : ∀ (E : String) (ce : Cell) (q9 : Addr) (u : SX) (t : State) (H1 : Heap) (locs1 : List Loc), t.heap = H1 → s.vm.Alike t.vm → px u → BX E u t → H.size ≤ H1.size → (∀ q : Nat, q < H.size → ¬ AX q → H1[q]? = H[q]?) → va_S A0 H0 H1 locs1 → H1[q9]? = some ce → ce.vm = .none → s.vm.findClass E = some ce.cls → vx_W p l e R s m args below meth c H1 locs1 (cells + mc) (slots + ms) Q (F0 m pc ls rest) q9)
    (kk : ∀ (r : UInt32) (u : S) (t : State) (H1 : Heap) (locs1 : List Loc), t.heap = H1 → s.vm.Alike t.vm → post r u → B u t → H.size ≤ H1.size → (∀ q : Nat, q < H.size → ¬ A1 q → H1[q]? = H[q]?) → va_S A0 H0 H1 locs1 → W p l e R s m args below meth c H1 locs1 (cells + mc) (slots + ms) Q (F0 m (pc + 3) ls (.float r :: rest))) : W p l e R s m args below meth c H locs cells slots Q (F0 m pc ls st0) := by
  intro T hT X
  rcases hr T hT X with ⟨v, st₀, t, T', L, h0, X', hL, e1, e2, ⟨⟨r, u, hv, hp, hb⟩, hF⟩, st⟩ | ⟨q, st₀, t, T', L, E, ce, h0, X', hL, e1, e2, ⟨u, hp, hb, hF⟩, hce, hcv, hcl, st⟩
  · cases hv
    obtain ⟨k1, k2, k3⟩ := vx_keep h0 e1 hS hA hf hL hF
    obtain ⟨t2, a1, b1⟩ := kk r u t T'.heap (locs ++ L) e1.symm (by rw [← e2]; exact X'.warmed.alike) hp hb k1 k2 k3 T' rfl X'
    exact ⟨t2, st t2 a1, b1⟩
  · obtain ⟨k1, k2, k3⟩ := vx_keep h0 e1 hS hAX hf hL hF
    obtain ⟨t2, a1, b1⟩ := kx E ce q u t T'.heap (locs ++ L) e1.symm (by rw [← e2]; exact X'.warmed.alike) hp hb k1 k2 k3 (by rw [e1]; exact hce) hcv hcl T' rfl X'
    exact ⟨t2, st.trans a1, b1⟩
theorem vx_calld {S SX : Type} {post : UInt64 → S → Prop} {px : SX → Prop} {B : S → State → Prop} {BX : String → SX → State → Prop} {AX : Nat → Prop} (hr : vx_Run p l e R s m args below meth c H locs cells slots mc ms (F0 m pc ls st0) rest (va_Qd post B A1 a) (vx_X px BX AX) free) (hS : va_S A0 H0 H locs) (hA : ∀ q, q < H.size → A1 q → A0 q) (hf : ∀ q, free q → A0 q) (hAX : ∀ q, q < H.size → AX q → A0 q)
    (kx : ∀ (E : String) (ce : Cell) (q9 : Addr) (u : SX) (t : State) (H1 : Heap) (locs1 : List Loc), t.heap = H1 → s.vm.Alike t.vm → px u → BX E u t → H.size ≤ H1.size → (∀ q : Nat, q < H.size → ¬ AX q → H1[q]? = H[q]?) → va_S A0 H0 H1 locs1 → H1[q9]? = some ce → ce.vm = .none → s.vm.findClass E = some ce.cls → vx_W p l e R s m args below meth c H1 locs1 (cells + mc) (slots + ms) Q (F0 m pc ls rest) q9)
    (kk : ∀ (r : UInt64) (u : S) (t : State) (H1 : Heap) (locs1 : List Loc), t.heap = H1 → s.vm.Alike t.vm → post r u → B u t → H.size ≤ H1.size → (∀ q : Nat, q < H.size → ¬ A1 q → H1[q]? = H[q]?) → va_S A0 H0 H1 locs1 → W p l e R s m args below meth c H1 locs1 (cells + mc) (slots + ms) Q (F0 m (pc + 3) ls (.double r :: rest))) : W p l e R s m args below meth c H locs cells slots Q (F0 m pc ls st0) := by
  intro T hT X
  rcases hr T hT X with ⟨v, st₀, t, T', L, h0, X', hL, e1, e2, ⟨⟨r, u, hv, hp, hb⟩, hF⟩, st⟩ | ⟨q, st₀, t, T', L, E, ce, h0, X', hL, e1, e2, ⟨u, hp, hb, hF⟩, hce, hcv, hcl, st⟩
  · cases hv
    obtain ⟨k1, k2, k3⟩ := vx_keep h0 e1 hS hA hf hL hF
    obtain ⟨t2, a1, b1⟩ := kk r u t T'.heap (locs ++ L) e1.symm (by rw [← e2]; exact X'.warmed.alike) hp hb k1 k2 k3 T' rfl X'
    exact ⟨t2, st t2 a1, b1⟩
  · obtain ⟨k1, k2, k3⟩ := vx_keep h0 e1 hS hAX hf hL hF
    obtain ⟨t2, a1, b1⟩ := kx E ce q u t T'.heap (locs ++ L) e1.symm (by rw [← e2]; exact X'.warmed.alike) hp hb k1 k2 k3 (by rw [e1]; exact hce) hcv hcl T' rfl X'
    exact ⟨t2, st.trans a1, b1⟩
theorem vx_callv {S SX : Type} {post : S → Prop} {px : SX → Prop} {B : S → State → Prop} {BX : String → SX → State → Prop} {AX : Nat → Prop} (hr : vx_Run p l e R s m args below meth c H locs cells slots mc ms (F0 m pc ls st0) rest (va_Qv post B A1 a) (vx_X px BX AX) free) (hS : va_S A0 H0 H locs) (hA : ∀ q, q < H.size → A1 q → A0 q) (hf : ∀ q, free q → A0 q) (hAX : ∀ q, q < H.size → AX q → A0 q)
    (kx : ∀ (E : String) (ce : Cell) (q9 : Addr) (u : SX) (t : State) (H1 : Heap) (locs1 : List Loc), t.heap = H1 → s.vm.Alike t.vm → px u → BX E u t → H.size ≤ H1.size → (∀ q : Nat, q < H.size → ¬ AX q → H1[q]? = H[q]?) → va_S A0 H0 H1 locs1 → H1[q9]? = some ce → ce.vm = .none → s.vm.findClass E = some ce.cls → vx_W p l e R s m args below meth c H1 locs1 (cells + mc) (slots + ms) Q (F0 m pc ls rest) q9)
    (kk : ∀ (u : S) (t : State) (H1 : Heap) (locs1 : List Loc), t.heap = H1 → s.vm.Alike t.vm → post u → B u t → H.size ≤ H1.size → (∀ q : Nat, q < H.size → ¬ A1 q → H1[q]? = H[q]?) → va_S A0 H0 H1 locs1 → W p l e R s m args below meth c H1 locs1 (cells + mc) (slots + ms) Q (F0 m (pc + 3) ls (rest))) : W p l e R s m args below meth c H locs cells slots Q (F0 m pc ls st0) := by
  intro T hT X
  rcases hr T hT X with ⟨v, st₀, t, T', L, h0, X', hL, e1, e2, ⟨⟨u, hv, hp, hb⟩, hF⟩, st⟩ | ⟨q, st₀, t, T', L, E, ce, h0, X', hL, e1, e2, ⟨u, hp, hb, hF⟩, hce, hcv, hcl, st⟩
  · cases hv
    obtain ⟨k1, k2, k3⟩ := vx_keep h0 e1 hS hA hf hL hF
    obtain ⟨t2, a1, b1⟩ := kk u t T'.heap (locs ++ L) e1.symm (by rw [← e2]; exact X'.warmed.alike) hp hb k1 k2 k3 T' rfl X'
    exact ⟨t2, st t2 a1, b1⟩
  · obtain ⟨k1, k2, k3⟩ := vx_keep h0 e1 hS hAX hf hL hF
    obtain ⟨t2, a1, b1⟩ := kx E ce q u t T'.heap (locs ++ L) e1.symm (by rw [← e2]; exact X'.warmed.alike) hp hb k1 k2 k3 (by rw [e1]; exact hce) hcv hcl T' rfl X'
    exact ⟨t2, st.trans a1, b1⟩
/-- caught by the row x of this method's table; the rows ahead don't take it -/
theorem vx_catch {own name : String} {E : String} {ce : Cell} {q : Addr} (hown : s.vm.findClass own = some m.cls) (pre : List ExceptionTableEntry) (x : ExceptionTableEntry) (suf : List ExceptionTableEntry) (hsplit : c.exceptionTable.toList = pre ++ x :: suf)
    (hpass : ∀ z ∈ pre, covers z pc = false ∨ (z.catchType ≠ 0 ∧ ∃ nm : String, (Cond.classLink own z.catchType nm).before args s = true ∧ va_Nc E nm s)) (hx : covers x pc = true) (h0 : x.catchType ≠ 0)
    (hlink : (Cond.classLink own x.catchType name).before args s = true) (hcast : (Cond.castable E name).before args s = true) (hcell : H[q]? = some ce) (hv : ce.vm = .none) (hcl : s.vm.findClass E = some ce.cls)
    (kk : W p l e R s m args below meth c H locs cells slots Q (F0 m x.handlerPc ls [.ref q])) : vx_W p l e R s m args below meth c H locs cells slots Q (F0 m pc ls rest) q := by
  intro T hT X
  have hpl : e.platform.magicAccessors = ({} : Platform).magicAccessors := by rw [X.admits.platform]
  obtain ⟨c3, c4, hc3, hc4, hasg⟩ := Cond.castable_spec hcast
  cases Option.some.inj (hc3.symm.trans hcl)
  obtain ⟨c5, hc5, hcl5⟩ := Cond.classLink_spec hown hlink e.platform hpl
  cases Option.some.inj (hc4.symm.trans hc5)
  obtain ⟨vm', X', st⟩ := X.thenCaughtThrough q (g := F0 m pc ls rest) rfl (Steps.refl _) (by rw [hT]; exact hcell) (by rw [hv]; rfl) (by obtain ⟨k9, h9, -⟩ := Vm.findClass_spec hcl; exact ⟨k9, h9⟩) pre x suf hsplit
    (fun z hz => by
      rcases hpass z hz with h | ⟨hz0, nm, hl1, hn1⟩
      · exact Or.inl h
      · obtain ⟨c6, hc6, hcl6⟩ := Cond.classLink_spec hown hl1 e.platform hpl
        obtain ⟨a8, b8, h1, h2, h3⟩ := hn1
        cases Option.some.inj (h1.symm.trans hcl)
        cases Option.some.inj (h2.symm.trans hc6)
        exact Or.inr ⟨hz0, _, hcl6, h3⟩) hx (Or.inr ⟨h0, c4, hcl5, hasg⟩)
  obtain ⟨t, a1, b1⟩ := kk (T.setVm vm') hT X'
  exact ⟨t, st.trans a1, b1⟩
end Rows
section Ends
variable {p : Program} {l : Launch} {e : Env} {R : Room} {s : State} {m : MethodId} {args : Array Value} {below : List Frame} {meth : Method} {c : Code} {H : Heap} {locs : List Loc} {cells slots : Nat} {Q : State → Prop}
variable {mc ms : Nat} {free : Addr → Prop} {A0 A1 : Nat → Prop} {H0 : Heap} {a : Array Value} {ls : Array Slot} {st0 rest : List Value}
variable {Qc : Array Value → State → Outcome → State → Prop} {XC : String → State → State → Prop}
/-- what a body that may throw owes at its end -/
def vx_MQ (below : List Frame) (Qc : Array Value → State → Outcome → State → Prop) (XC : String → State → State → Prop) (a : Array Value) (s : State) (mc ms : Nat) (free : Addr → Prop) : State → Prop := fun t =>
  ∃ o, t.status = .running ∧ Ended t below o ∧ vx_Q Qc XC mc ms free a s o t
theorem vx_ret {g : JFrame} {mc ms : Nat} (k : W p l e R s m args below meth c H locs cells slots (MQ below Qc args s mc ms free) g) : W p l e R s m args below meth c H locs cells slots (vx_MQ below Qc XC args s mc ms free) g := by
  intro T hT X
  obtain ⟨t, a1, o, b1, b2, b3, b4⟩ := k T hT X
  exact ⟨t, a1, o, b1, b2, Or.inl ⟨b3, b4⟩⟩
/-- not caught here: it goes on to the caller -/
theorem vx_widen {g : JFrame} {q : Addr} {k n : Nat} (h1 : cells ≤ k) (h2 : slots ≤ n) (kk : vx_W p l e R s m args below meth c H locs k n Q g q) : vx_W p l e R s m args below meth c H locs cells slots Q g q := fun T hT X => kk T hT (stand_widen X h1 h2)
theorem vx_out {pc : Nat} {E : String} {ce : Cell} {q : Addr} {mc ms : Nat} (hout : ∀ x ∈ c.exceptionTable.toList, covers x pc = false) (hlocks : meth.locks = false) (hcell : H[q]? = some ce) (hv : ce.vm = .none) (hcl : s.vm.findClass E = some ce.cls)
    (hx : ∀ t : State, t.heap = H → s.vm.Alike t.vm → XC E s t) (hf : ∀ z ∈ locs, free z.base) (hc : cells ≤ mc) (hs : slots ≤ ms) :
    vx_W p l e R s m args below meth c H locs cells slots (vx_MQ below Qc XC args s mc ms free) (F0 m pc ls rest) q := by
  intro T hT X
  obtain ⟨st1, hrun, hend, hW, hsm⟩ := X.leaveThrown q (g := F0 m pc ls rest) rfl rfl rfl hout hlocks
  have hcell9 : (T.setFrames (.throwing q :: below)).heap[q]? = some ce := by
    show T.heap[q]? = some ce
    rw [hT]; exact hcell
  exact ⟨_, st1, .threw q, hrun, hend, Or.inr ⟨q, rfl, E, ce, locs, hx _ hT hW.alike, hcell9, hv, hcl, hW, hsm.mono hc hs, hf⟩⟩
theorem vx_frame {U : State} {k n : Nat} (h : s.sameButNew ({ U with vm := s.vm } : State) locs k n) : s.heap.size ≤ U.heap.size ∧ ∀ q : Nat, q < s.heap.size → (∀ z ∈ locs, z.base ≠ q) → U.heap[q]? = s.heap[q]? := by
  obtain ⟨-, h2, -, -, -, h6⟩ := h
  refine ⟨h2, fun q hq hz => ?_⟩
  obtain ⟨c9, e1, e2, e3, e4⟩ := h6 q _ (Array.getElem?_eq_getElem hq)
  have hs : c9.slots = (s.heap[q]).slots := Array.ext_getElem? fun i => e4 i fun hm => hz _ hm rfl
  have h9 : c9 = s.heap[q] := by
    rw [hs] at e2
    exact e2
  have e5 : U.heap[q]? = some c9 := e1
  rw [e5, h9, Array.getElem?_eq_getElem hq]
/-- the words of a throw but the four that speak of the heap -/
def vx_no (w : Cond) : Bool := decide (w ≠ .isRef (.static Bundle.tN "UNASSIGNED_STACK" Bundle.steD)) && decide (w ≠ .isRef (.static Bundle.tN "SUPPRESSED_SENTINEL" Bundle.listD)) && decide (w ≠ .laysStatic Bundle.tN "UNASSIGNED_STACK" Bundle.steD) && decide (w ≠ .laysStatic Bundle.tN "SUPPRESSED_SENTINEL" Bundle.listD)
def vx_at0 (own : String) (ic : Nat) (X : String) (names : List String) : List Cond := (Bundle.ownAtoms0 own ic X names).filter vx_no
def vx_atS (own : String) (ic : Nat) (X : String) (names : List String) : List Cond := (Bundle.ownAtoms own ic X names).filter vx_no
/-- a word that the tables alone decide, or a good one -/
def vx_ot (w : Cond) : Bool := w.onTables || goodWord w
theorem vx_ot_at {args a' : Array Value} {s U : State} {w : Cond} (hW : s.WarmedH U.vm) (hvm : s.vm = U.vm) (hg : vx_ot w = true) (h : w.before args s = true) : w.before a' U = true := by
  simp only [vx_ot, Bool.or_eq_true] at hg
  rcases hg with hg | hg
  · exact va_tabs hg hvm h
  · exact word_at hW (good_of_word hg) h
/-- a list's words: the good ones out of the method's own list, the others by premises of their own -/
theorem vx_hat {args : Array Value} {s : State} {L B : List Cond} (h1 : ∀ w ∈ L.filter goodWord, w.before args s = true) (h2 : ∀ w ∈ L.filter (fun w => !goodWord w), w ∈ B) (h3 : ∀ w ∈ B, w.before args s = true) : ∀ w ∈ L, w.before args s = true := by
  intro w hw
  by_cases g : goodWord w = true
  · exact h1 w (List.mem_filter.mpr ⟨hw, g⟩)
  · refine h3 w (h2 w (List.mem_filter.mpr ⟨hw, ?_⟩))
    show (!goodWord w) = true
    cases hgw : goodWord w
    · rfl
    · exact absurd hgw g
theorem vx_c {args : Array Value} {s : State} {w : Cond} {B : List Cond} (h : w.before args s = true) (t : ∀ w ∈ B, w.before args s = true) : ∀ w' ∈ w :: B, w'.before args s = true := fun w' h' => (List.mem_cons.mp h').elim (fun e => by rw [e]; exact h) (t w')
theorem vx_n {args : Array Value} {s : State} : ∀ w ∈ ([] : List Cond), w.before args s = true := fun _ h => nomatch h
theorem vx_own {args : Array Value} {s : State} {L : List Cond} (h1 : ∀ w ∈ L.filter vx_no, w.before args s = true)
    (hU : (Cond.isRef (.static Bundle.tN "UNASSIGNED_STACK" Bundle.steD)).before args s = true) (hN : (Cond.isRef (.static Bundle.tN "SUPPRESSED_SENTINEL" Bundle.listD)).before args s = true)
    (lU : (Cond.laysStatic Bundle.tN "UNASSIGNED_STACK" Bundle.steD).before args s = true) (lN : (Cond.laysStatic Bundle.tN "SUPPRESSED_SENTINEL" Bundle.listD).before args s = true) : ∀ w ∈ L, w.before args s = true := by
  intro w hw
  by_cases e1 : w = .isRef (.static Bundle.tN "UNASSIGNED_STACK" Bundle.steD)
  · rw [e1]; exact hU
  · by_cases e2 : w = .isRef (.static Bundle.tN "SUPPRESSED_SENTINEL" Bundle.listD)
    · rw [e2]; exact hN
    · by_cases e3 : w = .laysStatic Bundle.tN "UNASSIGNED_STACK" Bundle.steD
      · rw [e3]; exact lU
      · by_cases e4 : w = .laysStatic Bundle.tN "SUPPRESSED_SENTINEL" Bundle.listD
        · rw [e4]; exact lN
        · exact h1 w (List.mem_filter.mpr ⟨hw, by unfold vx_no; rw [decide_eq_true e1, decide_eq_true e2, decide_eq_true e3, decide_eq_true e4]; rfl⟩)
/-- where a static field lies, its class's statics cell in H -/
def vx_L (C n d : String) (A : Nat → Prop) (U : State) (H : Heap) : Prop := ∃ (c : ClassId) (k : Class) (i : Nat) (f : Field) (a : Nat) (cell : Cell), U.vm.findClass C = some c ∧ U.fieldFound? C n d = some (c, k, i, f) ∧ f.isStatic = true ∧ k.statics = some a ∧ H[a]? = some cell ∧ cell.vm.isStatics = true ∧ cell.cls = c ∧ f.slot < cell.slots.size ∧ k.staticTypes[f.slot]? = some f.type ∧ ¬ A a
theorem vx_L.moved {C n d : String} {A : Nat → Prop} {u U : State} {H : Heap} (hvm : u.vm.Alike U.vm) (h : vx_L C n d A u H) : vx_L C n d A U H := by
  obtain ⟨c, k, i, f, a, cell, h1, h2, h3, h4, h5, h6, h7, h8, h9, h10⟩ := h
  obtain ⟨k', hi', he⟩ := State.fieldFound?_setVm hvm h2
  exact ⟨c, k', i, f, a, cell, by rw [hvm.findClass]; exact h1, hi', h3, by rw [he]; exact h4, h5, h6, h7, h8, by rw [he]; exact h9, h10⟩
theorem vx_L.kept {C n d : String} {A : Nat → Prop} {U : State} {H H1 : Heap} (h : vx_L C n d A U H) (hq : ∀ a : Nat, a < H.size → ¬ A a → H1[a]? = H[a]?) : vx_L C n d A U H1 := by
  obtain ⟨c, k, i, f, a, cell, h1, h2, h3, h4, h5, h6, h7, h8, h9, h10⟩ := h
  exact ⟨c, k, i, f, a, cell, h1, h2, h3, h4, by rw [hq a (Array.getElem?_eq_some_iff.mp h5).1 h10]; exact h5, h6, h7, h8, h9, h10⟩
theorem vx_L.narrow {C n d : String} {A B : Nat → Prop} {U : State} {H : Heap} (h : vx_L C n d A U H) (hAB : ∀ q, B q → A q) : vx_L C n d B U H := by
  obtain ⟨c, k, i, f, a, cell, h1, h2, h3, h4, h5, h6, h7, h8, h9, h10⟩ := h
  exact ⟨c, k, i, f, a, cell, h1, h2, h3, h4, h5, h6, h7, h8, h9, fun z => h10 (hAB _ z)⟩
theorem vx_L.word {C n d : String} {A : Nat → Prop} {s : State} {args : Array Value} (h : vx_L C n d A s s.heap) : (Cond.laysStatic C n d).before args s = true := by
  obtain ⟨c, k, i, f, a, cell, h1, h2, h3, h4, h5, h6, h7, h8, h9, -⟩ := h
  show (Cond.laysStatic C n d).holds args s none s [] = true
  exact Cond.laysStatic_of h1 h2 h3 h4 h5 h6 h7 h8 h9
/-- .. and what it holds: null or some reference -/
def vx_Zq (C n d : String) (A : Nat → Prop) (U : State) (H : Heap) : Prop := va_Zq C n d A U H ∧ vx_L C n d A U H
theorem vx_Zq.moved {C n d : String} {A : Nat → Prop} {u U : State} {H : Heap} (hvm : u.vm.Alike U.vm) (h : vx_Zq C n d A u H) : vx_Zq C n d A U H := ⟨va_Zq.moved hvm h.1, vx_L.moved hvm h.2⟩
theorem vx_Zq.kept {C n d : String} {A : Nat → Prop} {U : State} {H H1 : Heap} (h : vx_Zq C n d A U H) (hq : ∀ a : Nat, a < H.size → ¬ A a → H1[a]? = H[a]?) : vx_Zq C n d A U H1 := ⟨va_Zq.kept h.1 hq, vx_L.kept h.2 hq⟩
theorem vx_Zq.narrow {C n d : String} {A B : Nat → Prop} {U : State} {H : Heap} (h : vx_Zq C n d A U H) (hAB : ∀ q, B q → A q) : vx_Zq C n d B U H := ⟨va_Zq.narrow h.1 hAB, vx_L.narrow h.2 hAB⟩
theorem vx_Zqof {args : Array Value} {s : State} {C n d : String} {A : Nat → Prop} (hl : (Cond.laysStatic C n d).before args s = true) (hini : (Cond.initialized C).before args s = true) (h : (Cond.isRef (.static C n d)).before args s = true) (hA : ∀ a : Nat, a < s.heap.size → ¬ A a) : vx_Zq C n d A s s.heap := by
  refine ⟨va_Zqof hl hini h hA, ?_⟩
  obtain ⟨c, k, i, f, a, cell, h1, h2, h3, h4, h5, h6, h7, h8, h9⟩ := Cond.laysStatic_spec hl
  exact ⟨c, k, i, f, a, cell, h1, h2, h3, h4, h5, h6, h7, h8, h9, hA a (Array.getElem?_eq_some_iff.mp h5).1⟩
theorem vx_isRef {C n d : String} {v : Value} {A : Nat → Prop} {s : State} {args : Array Value} (h : va_Z C n d v A s s.heap) (hv : v.isRef = true) : (Cond.isRef (.static C n d)).before args s = true := by
  obtain ⟨cf, kf, fi, f, a, cell, h1, h2, h3, h4, h5, h6, h7, -⟩ := h
  have he : (Term.static C n d).eval args s none [] s = some v := by
    simp [Term.eval, State.fieldNamed?, h1, h2, h4, h5, h6, h7]
  simp only [Cond.before, Cond.holds, Cond.value, he]
  cases v <;> simp_all [Value.isRef]
theorem vx_isRefq {C n d : String} {A : Nat → Prop} {s : State} {args : Array Value} (h : va_Zq C n d A s s.heap) : (Cond.isRef (.static C n d)).before args s = true := by
  rcases h with h | ⟨t, h⟩
  · exact vx_isRef h rfl
  · exact vx_isRef h rfl
/-- the same frame, seen from here: as if the method were called anew in this heap -/
theorem vx_rebase {T : State} (X : Stand p l e R s m args below meth c T locs cells slots) {R' : Room} (hf : R'.frames ≤ R.frames) (hl : R'.locals ≤ R.locals) (hc : cells + R'.cells ≤ R.cells) (hs : slots + R'.slots ≤ R.slots) :
    Stand p l e R' ((T.setVm s.vm).setFrames (.invoking m args :: below)) m args below meth c T [] 0 0 := by
  have htop : (T.setVm s.vm).topJava?.isSome := X.here.top
  have hF : ((T.setVm s.vm).setFrames (.invoking m args :: below)).frames = .invoking m args :: below := State.frames_setFrames _ (State.cur_lt_of_top htop)
  obtain ⟨g₀, hg0⟩ := Option.isSome_iff_exists.mp htop
  obtain ⟨r, hr⟩ := State.topJava?_eq_some.mp hg0
  have hl9 : e.platform.stackLimits (T.setVm s.vm).me = e.platform.stackLimits s.me := X.limits
  have hb9 : (T.setVm s.vm).me.stackBytes = s.me.stackBytes := X.bytes
  refine ⟨X.admits, X.cas, X.clock, hF, ?_, X.hears, X.method, X.code, X.here, X.tail, X.warmed, ?_, ?_, ?_⟩
  · have h := X.room
    have hU : ((T.setVm s.vm).setFrames (.invoking m args :: below)).localsInUse = s.localsInUse := by
      rw [State.localsInUse_invoking hF (meth := meth) (c := c) X.method X.code, State.localsInUse_invoking X.frames X.method X.code]
    simp only [State.hasRoom, Bool.and_eq_true, decide_eq_true_eq] at h ⊢
    obtain ⟨⟨⟨⟨h1, h2, h3, h4, h5, h6⟩, h7⟩, h8⟩, h9⟩ := h
    rw [X.frames, List.length_cons] at h2 h3
    have q1 := X.heapSize
    have q2 := X.used
    simp only [hF, hU, List.length_cons, State.stackLimits_setFrames, State.stackBytes_setFrames, hl9, hb9]
    refine ⟨⟨⟨⟨by omega, by omega, by omega, by omega, by omega, h6⟩, ?_⟩, ?_⟩, X.book⟩
    · show T.heap.size + R'.cells ≤ e.platform.maxCells
      omega
    · show T.slotsUsed + R'.slots ≤ e.platform.maxSlots
      omega
  · rw [State.stackLimits_setFrames]; rfl
  · rw [State.stackBytes_setFrames]; rfl
  · refine ⟨?_, Nat.le_refl _, Nat.le_refl _, ?_, ?_, fun a c9 h9 => ⟨c9, h9, rfl, rfl, fun _ _ => rfl⟩⟩
    · obtain ⟨t, ht, -⟩ := State.frames_cons hr
      show T.setVm s.vm = { ((T.setVm s.vm).setFrames (.invoking m args :: below)).setFrames (T.setVm s.vm).frames with heap := T.heap, slotsUsed := T.slotsUsed }
      rw [State.setFrames_setFrames, State.setFrames_self ht]
      rfl
    · show T.slotsUsed = T.slotsUsed + ((T.heap.toList.drop T.heap.size).map (·.slots.size)).sum
      rw [List.drop_eq_nil_of_le (Nat.le_of_eq Array.length_toList)]
      rfl
    · show ((T.heap.toList.drop T.heap.size).map (·.slots.size)).sum ≤ 0
      rw [List.drop_eq_nil_of_le (Nat.le_of_eq Array.length_toList)]
      exact Nat.le_refl _
/-- 'throw new E()': new; dup; invokespecial; athrow -/
theorem vx_throw0 {cc : ByteArray} {pc : Nat} (hexec : p.tables.exec = Jvm.exec) (hb : c.code = cc) (hl : l.stackTraces = false) {own cls : String} {names : List String} {ik ic mc ms : Nat} {A : Nat → Prop}
    (hown : s.vm.findClass own = some m.cls) (hcls : Bundle.fit cls = true) (hnames : ∀ n ∈ names, Bundle.fit n = true)
    (hk : (Cond.classLink own ik cls).before args s = true) (hini : (Cond.initialized cls).before args s = true) (hat : ∀ w ∈ vx_at0 own ic cls names, w.before args s = true)
    (hgood : ∀ w ∈ Cond.classLink own ik cls :: Cond.initialized cls :: vx_at0 own ic cls names, vx_ot w = true)
    (hU : vx_Zq Bundle.tN "UNASSIGNED_STACK" Bundle.steD A s s.heap) (hN : vx_Zq Bundle.tN "SUPPRESSED_SENTINEL" Bundle.listD A s s.heap) (hS : va_S A s.heap H locs) (hsize : ls.size = c.maxLocals)
    (d0 : decode cc pc = .ok (.new ik, 3)) (d3 : decode cc (pc + 3) = .ok (.dup, 1)) (d4 : decode cc (pc + 4) = .ok (.invokespecial ic, 3)) (d7 : decode cc (pc + 7) = .ok (.athrow, 1))
    (hout : ∀ x ∈ c.exceptionTable.toList, covers x (pc + 7) = false)
    (hRframes : names.length + 3 < R.frames) (hRlocals : (rest.map fun v => v.category).sum + (13 * (names.length + 1) + 42) ≤ R.locals) (hRcells : cells + 1 ≤ R.cells) (hRslots : slots + 6 ≤ R.slots) (hlocks : meth.locks = false)
    (hx : ∀ t : State, s.vm.Alike t.vm → H.size ≤ t.heap.size → (∀ q : Nat, q < H.size → t.heap[q]? = H[q]?) → XC cls s t)
    (hf : ∀ z ∈ locs, free z.base) (hc : cells + 1 ≤ mc) (hs : slots + 6 ≤ ms) :
    W p l e R s m args below meth c H locs cells slots (vx_MQ below Qc XC args s mc ms free) (F0 m pc ls rest) := by
  intro T hT X
  have htr : e.platform.stackTraces = false := (show e.platform.stackTraces = l.stackTraces by rw [X.admits.platform]).trans hl
  have Y := vx_rebase X (R' := { frames := R.frames, locals := R.locals, cells := 1, slots := 6 }) (Nat.le_refl _) (Nat.le_refl _) hRcells hRslots
  obtain ⟨s', hA⟩ : ∃ z, z = (T.setVm s.vm).setFrames (.invoking m args :: below) := ⟨_, rfl⟩
  rw [← hA] at Y
  have hvm : s'.vm = s.vm := by rw [hA]; rfl
  have hhp : s'.heap = H := by rw [hA]; exact hT
  have hW0 : s.WarmedH s'.vm := by rw [hvm]; exact State.WarmedH.refl s
  have hat' : ∀ w ∈ vx_at0 own ic cls names, w.before args s' = true := fun w hw => vx_ot_at hW0 hvm.symm (hgood w (List.mem_cons_of_mem _ (List.mem_cons_of_mem _ hw))) (hat w hw)
  have hk' : (Cond.classLink own ik cls).before args s' = true := vx_ot_at hW0 hvm.symm (hgood _ List.mem_cons_self) hk
  have hini' : (Cond.initialized cls).before args s' = true := vx_ot_at hW0 hvm.symm (hgood _ (List.mem_cons_of_mem _ List.mem_cons_self)) hini
  have hU' : vx_Zq Bundle.tN "UNASSIGNED_STACK" Bundle.steD A s' s'.heap := by rw [hhp]; exact vx_Zq.moved hW0.alike (hU.kept hS.2.1)
  have hN' : vx_Zq Bundle.tN "SUPPRESSED_SENTINEL" Bundle.listD A s' s'.heap := by rw [hhp]; exact vx_Zq.moved hW0.alike (hN.kept hS.2.1)
  have h : ∀ w ∈ Bundle.ownAtoms0 own ic cls names, w.before args s' = true := vx_own hat' (vx_isRefq hU'.1) (vx_isRefq hN'.1) hU'.2.word hN'.2.word
  have hown' : s'.vm.findClass own = some m.cls := by rw [hvm]; exact hown
  have hins : (Cond.instantiable cls 6).before args s' = true := h _ (by simp [Bundle.ownAtoms0])
  obtain ⟨vm₁, cX, kX, hfX, hkX, -, -, X₁, st1⟩ := Y.newCold hexec (own := own) (C := cls) (index := ik) (n := 6) hown' hk' hins hini'
    (g := F0 m pc ls rest) rfl (by rw [hb]; exact d0) (Nat.le_refl _) (Nat.le_refl _)
  generalize hT1 : (T.setVm vm₁).pushCell { cls := cX, slots := kX.instanceTypes.map defaultValue, vm := .none } = T1 at X₁ st1
  have hcat : (Value.ref T.heap.size).category = 1 := rfl
  have hcellA : T1.heap[T.heap.size]? = some (freshCell cX kX) := by rw [← hT1]; exact State.heap_pushCell_size _ _
  have d3' : decode c.code (pc + 3) = .ok (.dup, 1) := by rw [hb]; exact d3
  obtain ⟨U, hsteps, hrun, hend, hW, hsame, ce, hce, hO⟩ := X₁.ctorThrow0 hexec htr (own := own) (cls := cls) (names := names) (ic := ic) hown' hcls hnames h (fun x hx => nomatch hx) hfX hkX hcellA (by rw [hhp, hT]; exact Nat.le_refl _)
    (g := { method := m, pc := pc + 4, locals := ls, stack := .ref T.heap.size :: .ref T.heap.size :: rest, locked := none }) rfl hsize rfl rfl (rest := rest) rfl
    (by rw [hb]; exact d4) (by rw [hb]; exact d7) hout hRframes (by simp only [List.map_cons, List.sum_cons, hcat]; omega) hlocks
  obtain ⟨f1, f2⟩ := vx_frame hsame
  rw [hhp] at f1 f2
  have hWs : s.WarmedH U.vm := State.WarmedH.trans hW0 hW
  have hcl : s.vm.findClass cls = some ce.cls := by
    have h9 := hO.cls
    rw [hvm] at h9
    exact h9
  have hall : s.sameButNew ({ U with vm := s.vm } : State) locs mc ms := by
    subst hA
    obtain ⟨e1, e2⟩ := hsame
    rw [State.setFrames_setFrames] at e1
    have h2 : (T.setVm s.vm).sameButNew ({ U with vm := s.vm } : State) [] (0 + 1) (0 + 6) := ⟨e1, e2⟩
    have h3 := X.same.trans h2
    rw [List.append_nil] at h3
    exact h3.mono hc hs
  refine ⟨U, ?_, .threw T.heap.size, hrun, hend, Or.inr ⟨T.heap.size, rfl, cls, ce, locs, hx U hWs.alike f1 (fun q hq => f2 q hq (fun z hz => nomatch hz)), hce, hO.vm, hcl, hWs, hall, hf⟩⟩
  refine st1 _ ?_
  show Steps p.tables e below (T1.setTop { method := m, pc := pc + 3, locals := ls, stack := .ref T.heap.size :: rest, locked := none }) _
  jvm_step X₁.here [X₁.here.top, hexec, d3', Value.category]
  exact hsteps
/-- 'throw new E("text")': new; dup; ldc; invokespecial; athrow -/
theorem vx_throwS {cc : ByteArray} {pc : Nat} (hexec : p.tables.exec = Jvm.exec) (hb : c.code = cc) (hl : l.stackTraces = false) {own cls text : String} {names : List String} {ik is ic mc ms sa : Nat} {A : Nat → Prop}
    (hown : s.vm.findClass own = some m.cls) (hcls : Bundle.fit cls = true) (hnames : ∀ n ∈ names, Bundle.fit n = true)
    (hk : (Cond.classLink own ik cls).before args s = true) (hini : (Cond.initialized cls).before args s = true) (hstr : vk_R own is text sa s) (hat : ∀ w ∈ vx_atS own ic cls names, w.before args s = true)
    (hgood : ∀ w ∈ Cond.classLink own ik cls :: Cond.initialized cls :: vx_atS own ic cls names, vx_ot w = true)
    (hU : vx_Zq Bundle.tN "UNASSIGNED_STACK" Bundle.steD A s s.heap) (hN : vx_Zq Bundle.tN "SUPPRESSED_SENTINEL" Bundle.listD A s s.heap) (hS : va_S A s.heap H locs) (hsize : ls.size = c.maxLocals)
    (d0 : decode cc pc = .ok (.new ik, 3)) (d3 : decode cc (pc + 3) = .ok (.dup, 1)) (d4 : decode cc (pc + 4) = .ok (.ldc is, 2)) (d6 : decode cc (pc + 6) = .ok (.invokespecial ic, 3)) (d9 : decode cc (pc + 9) = .ok (.athrow, 1))
    (hout : ∀ x ∈ c.exceptionTable.toList, covers x (pc + 9) = false)
    (hRframes : names.length + 3 < R.frames) (hRlocals : (rest.map fun v => v.category).sum + (13 * (names.length + 1) + 43) ≤ R.locals) (hRcells : cells + 1 ≤ R.cells) (hRslots : slots + 6 ≤ R.slots) (hlocks : meth.locks = false)
    (hx : ∀ t : State, s.vm.Alike t.vm → H.size ≤ t.heap.size → (∀ q : Nat, q < H.size → t.heap[q]? = H[q]?) → XC cls s t)
    (hf : ∀ z ∈ locs, free z.base) (hc : cells + 1 ≤ mc) (hs : slots + 6 ≤ ms) :
    W p l e R s m args below meth c H locs cells slots (vx_MQ below Qc XC args s mc ms free) (F0 m pc ls rest) := by
  intro T hT X
  have htr : e.platform.stackTraces = false := (show e.platform.stackTraces = l.stackTraces by rw [X.admits.platform]).trans hl
  have Y := vx_rebase X (R' := { frames := R.frames, locals := R.locals, cells := 1, slots := 6 }) (Nat.le_refl _) (Nat.le_refl _) hRcells hRslots
  obtain ⟨s', hA⟩ : ∃ z, z = (T.setVm s.vm).setFrames (.invoking m args :: below) := ⟨_, rfl⟩
  rw [← hA] at Y
  have hvm : s'.vm = s.vm := by rw [hA]; rfl
  have hhp : s'.heap = H := by rw [hA]; exact hT
  have hW0 : s.WarmedH s'.vm := by rw [hvm]; exact State.WarmedH.refl s
  have hat' : ∀ w ∈ vx_atS own ic cls names, w.before args s' = true := fun w hw => vx_ot_at hW0 hvm.symm (hgood w (List.mem_cons_of_mem _ (List.mem_cons_of_mem _ hw))) (hat w hw)
  have hk' : (Cond.classLink own ik cls).before args s' = true := vx_ot_at hW0 hvm.symm (hgood _ List.mem_cons_self) hk
  have hini' : (Cond.initialized cls).before args s' = true := vx_ot_at hW0 hvm.symm (hgood _ (List.mem_cons_of_mem _ List.mem_cons_self)) hini
  have hU' : vx_Zq Bundle.tN "UNASSIGNED_STACK" Bundle.steD A s' s'.heap := by rw [hhp]; exact vx_Zq.moved hW0.alike (hU.kept hS.2.1)
  have hN' : vx_Zq Bundle.tN "SUPPRESSED_SENTINEL" Bundle.listD A s' s'.heap := by rw [hhp]; exact vx_Zq.moved hW0.alike (hN.kept hS.2.1)
  have h : ∀ w ∈ Bundle.ownAtoms own ic cls names, w.before args s' = true := vx_own hat' (vx_isRefq hU'.1) (vx_isRefq hN'.1) hU'.2.word hN'.2.word
  have hown' : s'.vm.findClass own = some m.cls := by rw [hvm]; exact hown
  have hins : (Cond.instantiable cls 6).before args s' = true := h _ (by simp [Bundle.ownAtoms])
  obtain ⟨vm₁, cX, kX, hfX, hkX, -, -, X₁, st1⟩ := Y.newCold hexec (own := own) (C := cls) (index := ik) (n := 6) hown' hk' hins hini'
    (g := F0 m pc ls rest) rfl (by rw [hb]; exact d0) (Nat.le_refl _) (Nat.le_refl _)
  generalize hT1 : (T.setVm vm₁).pushCell { cls := cX, slots := kX.instanceTypes.map defaultValue, vm := .none } = T1 at X₁ st1
  have hcat : (Value.ref T.heap.size).category = 1 := rfl
  have hcellA : T1.heap[T.heap.size]? = some (freshCell cX kX) := by rw [← hT1]; exact State.heap_pushCell_size _ _
  have d3' : decode c.code (pc + 3) = .ok (.dup, 1) := by rw [hb]; exact d3
  have d4' : decode c.code (pc + 4) = .ok (.ldc is, 2) := by rw [hb]; exact d4
  have hstr' : vk_R own is text sa s' := vk_R.warm hW0 hstr
  obtain ⟨U, hsteps, hrun, hend, hW, hsame, ce, hce, hO⟩ := X₁.ctorThrowS hexec htr (own := own) (cls := cls) (names := names) (ic := ic) hown' hcls hnames h (fun x hx => nomatch hx) hfX hkX hcellA (by rw [hhp, hT]; exact Nat.le_refl _) (msg := .ref sa) rfl
    (g := { method := m, pc := pc + 6, locals := ls, stack := .ref sa :: .ref T.heap.size :: .ref T.heap.size :: rest, locked := none }) rfl hsize rfl rfl (rest := rest) rfl
    (by rw [hb]; exact d6) (by rw [hb]; exact d9) hout hRframes (by simp only [List.map_cons, List.sum_cons, hcat]; omega) hlocks
  obtain ⟨f1, f2⟩ := vx_frame hsame
  rw [hhp] at f1 f2
  have hWs : s.WarmedH U.vm := State.WarmedH.trans hW0 hW
  have hcl : s.vm.findClass cls = some ce.cls := by
    have h9 := hO.cls
    rw [hvm] at h9
    exact h9
  have hall : s.sameButNew ({ U with vm := s.vm } : State) locs mc ms := by
    subst hA
    obtain ⟨e1, e2⟩ := hsame
    rw [State.setFrames_setFrames] at e1
    have h2 : (T.setVm s.vm).sameButNew ({ U with vm := s.vm } : State) [] (0 + 1) (0 + 6) := ⟨e1, e2⟩
    have h3 := X.same.trans h2
    rw [List.append_nil] at h3
    exact h3.mono hc hs
  refine ⟨U, ?_, .threw T.heap.size, hrun, hend, Or.inr ⟨T.heap.size, rfl, cls, ce, locs, hx U hWs.alike f1 (fun q hq => f2 q hq (fun z hz => nomatch hz)), hce, hO.vm, hcl, hWs, hall, hf⟩⟩
  refine st1 _ ?_
  show Steps p.tables e below (T1.setTop { method := m, pc := pc + 3, locals := ls, stack := .ref T.heap.size :: rest, locked := none }) _
  jvm_step X₁.here [X₁.here.top, hexec, d3', Value.category]
  exact X₁.ldcString hexec (own := own) (text := text) (index := is) (a := sa) hown' hstr'.1 hstr'.2
    (g := { method := m, pc := pc + 4, locals := ls, stack := .ref T.heap.size :: .ref T.heap.size :: rest, locked := none }) rfl d4' _ hsteps
/-- 'throw new E("text")', the text by a wide index -/
theorem vx_throwSW {cc : ByteArray} {pc : Nat} (hexec : p.tables.exec = Jvm.exec) (hb : c.code = cc) (hl : l.stackTraces = false) {own cls text : String} {names : List String} {ik is ic mc ms sa : Nat} {A : Nat → Prop}
    (hown : s.vm.findClass own = some m.cls) (hcls : Bundle.fit cls = true) (hnames : ∀ n ∈ names, Bundle.fit n = true)
    (hk : (Cond.classLink own ik cls).before args s = true) (hini : (Cond.initialized cls).before args s = true) (hstr : vk_R own is text sa s) (hat : ∀ w ∈ vx_atS own ic cls names, w.before args s = true)
    (hgood : ∀ w ∈ Cond.classLink own ik cls :: Cond.initialized cls :: vx_atS own ic cls names, vx_ot w = true)
    (hU : vx_Zq Bundle.tN "UNASSIGNED_STACK" Bundle.steD A s s.heap) (hN : vx_Zq Bundle.tN "SUPPRESSED_SENTINEL" Bundle.listD A s s.heap) (hS : va_S A s.heap H locs) (hsize : ls.size = c.maxLocals)
    (d0 : decode cc pc = .ok (.new ik, 3)) (d3 : decode cc (pc + 3) = .ok (.dup, 1)) (d4 : decode cc (pc + 4) = .ok (.ldc_w is, 3)) (d7 : decode cc (pc + 7) = .ok (.invokespecial ic, 3)) (d10 : decode cc (pc + 10) = .ok (.athrow, 1))
    (hout : ∀ x ∈ c.exceptionTable.toList, covers x (pc + 10) = false)
    (hRframes : names.length + 3 < R.frames) (hRlocals : (rest.map fun v => v.category).sum + (13 * (names.length + 1) + 43) ≤ R.locals) (hRcells : cells + 1 ≤ R.cells) (hRslots : slots + 6 ≤ R.slots) (hlocks : meth.locks = false)
    (hx : ∀ t : State, s.vm.Alike t.vm → H.size ≤ t.heap.size → (∀ q : Nat, q < H.size → t.heap[q]? = H[q]?) → XC cls s t)
    (hf : ∀ z ∈ locs, free z.base) (hc : cells + 1 ≤ mc) (hs : slots + 6 ≤ ms) :
    W p l e R s m args below meth c H locs cells slots (vx_MQ below Qc XC args s mc ms free) (F0 m pc ls rest) := by
  intro T hT X
  have htr : e.platform.stackTraces = false := (show e.platform.stackTraces = l.stackTraces by rw [X.admits.platform]).trans hl
  have Y := vx_rebase X (R' := { frames := R.frames, locals := R.locals, cells := 1, slots := 6 }) (Nat.le_refl _) (Nat.le_refl _) hRcells hRslots
  obtain ⟨s', hA⟩ : ∃ z, z = (T.setVm s.vm).setFrames (.invoking m args :: below) := ⟨_, rfl⟩
  rw [← hA] at Y
  have hvm : s'.vm = s.vm := by rw [hA]; rfl
  have hhp : s'.heap = H := by rw [hA]; exact hT
  have hW0 : s.WarmedH s'.vm := by rw [hvm]; exact State.WarmedH.refl s
  have hat' : ∀ w ∈ vx_atS own ic cls names, w.before args s' = true := fun w hw => vx_ot_at hW0 hvm.symm (hgood w (List.mem_cons_of_mem _ (List.mem_cons_of_mem _ hw))) (hat w hw)
  have hk' : (Cond.classLink own ik cls).before args s' = true := vx_ot_at hW0 hvm.symm (hgood _ List.mem_cons_self) hk
  have hini' : (Cond.initialized cls).before args s' = true := vx_ot_at hW0 hvm.symm (hgood _ (List.mem_cons_of_mem _ List.mem_cons_self)) hini
  have hU' : vx_Zq Bundle.tN "UNASSIGNED_STACK" Bundle.steD A s' s'.heap := by rw [hhp]; exact vx_Zq.moved hW0.alike (hU.kept hS.2.1)
  have hN' : vx_Zq Bundle.tN "SUPPRESSED_SENTINEL" Bundle.listD A s' s'.heap := by rw [hhp]; exact vx_Zq.moved hW0.alike (hN.kept hS.2.1)
  have h : ∀ w ∈ Bundle.ownAtoms own ic cls names, w.before args s' = true := vx_own hat' (vx_isRefq hU'.1) (vx_isRefq hN'.1) hU'.2.word hN'.2.word
  have hown' : s'.vm.findClass own = some m.cls := by rw [hvm]; exact hown
  have hins : (Cond.instantiable cls 6).before args s' = true := h _ (by simp [Bundle.ownAtoms])
  obtain ⟨vm₁, cX, kX, hfX, hkX, -, -, X₁, st1⟩ := Y.newCold hexec (own := own) (C := cls) (index := ik) (n := 6) hown' hk' hins hini'
    (g := F0 m pc ls rest) rfl (by rw [hb]; exact d0) (Nat.le_refl _) (Nat.le_refl _)
  generalize hT1 : (T.setVm vm₁).pushCell { cls := cX, slots := kX.instanceTypes.map defaultValue, vm := .none } = T1 at X₁ st1
  have hcat : (Value.ref T.heap.size).category = 1 := rfl
  have hcellA : T1.heap[T.heap.size]? = some (freshCell cX kX) := by rw [← hT1]; exact State.heap_pushCell_size _ _
  have d3' : decode c.code (pc + 3) = .ok (.dup, 1) := by rw [hb]; exact d3
  have d4' : decode c.code (pc + 4) = .ok (.ldc_w is, 3) := by rw [hb]; exact d4
  have hstr' : vk_R own is text sa s' := vk_R.warm hW0 hstr
  obtain ⟨U, hsteps, hrun, hend, hW, hsame, ce, hce, hO⟩ := X₁.ctorThrowS hexec htr (own := own) (cls := cls) (names := names) (ic := ic) hown' hcls hnames h (fun x hx => nomatch hx) hfX hkX hcellA (by rw [hhp, hT]; exact Nat.le_refl _) (msg := .ref sa) rfl
    (g := { method := m, pc := pc + 7, locals := ls, stack := .ref sa :: .ref T.heap.size :: .ref T.heap.size :: rest, locked := none }) rfl hsize rfl rfl (rest := rest) rfl
    (by rw [hb]; exact d7) (by rw [hb]; exact d10) hout hRframes (by simp only [List.map_cons, List.sum_cons, hcat]; omega) hlocks
  obtain ⟨f1, f2⟩ := vx_frame hsame
  rw [hhp] at f1 f2
  have hWs : s.WarmedH U.vm := State.WarmedH.trans hW0 hW
  have hcl : s.vm.findClass cls = some ce.cls := by
    have h9 := hO.cls
    rw [hvm] at h9
    exact h9
  have hall : s.sameButNew ({ U with vm := s.vm } : State) locs mc ms := by
    subst hA
    obtain ⟨e1, e2⟩ := hsame
    rw [State.setFrames_setFrames] at e1
    have h2 : (T.setVm s.vm).sameButNew ({ U with vm := s.vm } : State) [] (0 + 1) (0 + 6) := ⟨e1, e2⟩
    have h3 := X.same.trans h2
    rw [List.append_nil] at h3
    exact h3.mono hc hs
  refine ⟨U, ?_, .threw T.heap.size, hrun, hend, Or.inr ⟨T.heap.size, rfl, cls, ce, locs, hx U hWs.alike f1 (fun q hq => f2 q hq (fun z hz => nomatch hz)), hce, hO.vm, hcl, hWs, hall, hf⟩⟩
  refine st1 _ ?_
  show Steps p.tables e below (T1.setTop { method := m, pc := pc + 3, locals := ls, stack := .ref T.heap.size :: rest, locked := none }) _
  jvm_step X₁.here [X₁.here.top, hexec, d3', Value.category]
  exact X₁.ldcStringW hexec (own := own) (text := text) (index := is) (a := sa) hown' hstr'.1 hstr'.2
    (g := { method := m, pc := pc + 4, locals := ls, stack := .ref T.heap.size :: .ref T.heap.size :: rest, locked := none }) rfl d4' _ hsteps
end Ends
section Bodies
variable {l : Launch}
theorem vx_ofW {y : MethodName} {ws ws' : List Cond} {rm : Room} {Pc : Array Value → State → Prop} {Qc : Array Value → State → Outcome → State → Prop} {XC : String → State → State → Prop} {mc ms : Nat} {free : Addr → Prop} {cc : ByteArray} {maxL : Nat} {ret : Option FieldType}
    (hy : plainName y.cls = true) (hw : ws = Cond.code y cc maxL ret :: ws')
    (body : ∀ p e s m args below meth c s₁, BodyLoose p l y (headSpec ws rm) cc maxL ret e s m args below meth c s₁ → c.maxLocals = maxL → (∀ x ∈ c.exceptionTable.toList, False) → Pc args s →
      W p l e (headSpec ws rm).room s m args below meth c s.heap [] 0 0 (vx_MQ below Qc XC args s mc ms free) (entryFrame m args maxL)) : vx_Met l y ws rm Pc Qc XC mc ms free := by
  refine MetFree.of_bodyS (code := cc) (maxLocals := maxL) (ret := ret) hy ?_ ?_
  · intro args s m h hn
    obtain ⟨meth, c, h1, h2, h3, h4, h5, h6, -, -⟩ := Cond.code_spec hn (atoms_spec (ws := ws) h _ (by rw [hw]; exact List.mem_cons_self))
    exact ⟨meth, c, h1, h2, h3, h4, h5, h6⟩
  · intro p e s m args below meth c s₁ B hml hP _
    have hh0 : s₁.heap = s.heap := by rw [B.state]; rfl
    have ht : ∀ x ∈ c.exceptionTable.toList, False := by
      obtain ⟨meth9, c9, h1, h2, -, -, -, -, h7, -⟩ := Cond.code_spec B.named (atoms_spec (ws := ws) B.pre _ (by rw [hw]; exact List.mem_cons_self))
      cases Option.some.inj (h1.symm.trans B.method)
      cases Option.some.inj (h2.symm.trans (Stand.of_body B).code)
      intro x hx
      rw [Array.isEmpty_iff.mp h7] at hx
      cases hx
    obtain ⟨t, a1, o, b1, b2, b3⟩ := body p e s m args below meth c s₁ B hml ht hP s₁ hh0 (Stand.of_body B)
    exact ⟨t, o, a1, b1, b2, b3⟩
/-- the table of a body with handlers -/
theorem vx_table {p : Program} {x y : MethodName} {S : Spec} {cc bytes : ByteArray} {maxL maxL' : Nat} {ret ret' : Option FieldType} {e : Env} {s s₁ : State} {m : MethodId} {args : Array Value} {below : List Frame} {meth : Method} {c : Code} {hh : List (Nat × Nat × Nat × Nat)}
    (B : BodyLoose p l y S cc maxL ret e s m args below meth c s₁) (h : (Cond.codeWith y bytes maxL' ret' hh).before args s = true) : c.exceptionTable.toList = tableOf hh := by
  obtain ⟨m9, meth9, c9, hn9, h1, h2, -, -, h6, -⟩ := Cond.codeWith_spec h
  cases Option.some.inj (hn9.symm.trans B.named)
  cases Option.some.inj (h1.symm.trans B.method)
  cases Option.some.inj (h2.symm.trans (Stand.of_body B).code)
  rw [← h6, table_eq]
end Bodies
end VXA
/-! ===== END ===== -/
/-! ===== BEGIN a static call of a method with an exception table ===== -/
section VXS
variable {p : Program} {l : Launch} {e : Env} {R : Room} {s : State} {m : MethodId} {args : Array Value} {below : List Frame} {meth : Method} {c : Code} {T : State} {H : Heap} {locs : List Loc} {cells slots : Nat}
abbrev vx_CSW (R : Room) (s : State) (args : Array Value) (own : String) (index : Nat) (y : MethodName) (bytes : ByteArray) (maxL : Nat) (ret : Option FieldType) (hh : List (Nat × Nat × Nat × Nat)) (ws : List Cond) (rm : Room) (mc ms n : Nat) : Prop :=
  (rm.cells = mc ∧ rm.slots = ms ∧ rm.frames + 1 ≤ R.frames ∧ 8 + (maxL + 11) + rm.locals ≤ R.locals ∧ (∀ w ∈ ws, ∀ (a' : Array Value) (U : State), s.WarmedH U.vm → w.before a' U = true) ∧ Cond.codeWith y bytes maxL ret hh ∈ ws) ∧
  (Cond.codeWith y bytes maxL ret hh).before args s = true ∧ (Cond.initialized y.cls).before args s = true ∧ (y.cls ≠ "java/lang/invoke/MethodHandle" ∧ y.cls ≠ "java/lang/invoke/VarHandle") ∧
  (∀ sig, parseMethodDescriptor y.desc = some sig → n = sig.parameters.length) ∧ (Cond.methodLink own index y).before args s = true ∧ (Cond.static y).before args s = true
theorem vx_cwSW {own : String} {index maxL mc ms : Nat} {y : MethodName} {bytes : ByteArray} {ret : Option FieldType} {hh : List (Nat × Nat × Nat × Nat)} {Ts ws ws' : List Cond} {rm : Room} (n : Nat) (ht : ∀ w ∈ Ts, w.before args s = true) (hT : GoodIn Ts (va_wsS own index y ws)) (hw : ws = Cond.codeWith y bytes maxL ret hh :: ws') (hrc : rm.cells = mc) (hrs : rm.slots = ms)
    (hd : y.cls ≠ "java/lang/invoke/MethodHandle" ∧ y.cls ≠ "java/lang/invoke/VarHandle" ∧ (parseMethodDescriptor y.desc).map (fun d => d.parameters.length) = some n) (hR : rm.frames + 1 ≤ R.frames ∧ 8 + (maxL + 11) + rm.locals ≤ R.locals) :
    vx_CSW R s args own index y bytes maxL ret hh ws rm mc ms n := by
  have ok : ∀ w ∈ va_wsS own index y ws, w.before args s = true := fun w h => ht w (hT w h).1
  have hG : GoodIn Ts ws := fun w h => hT w (by unfold va_wsS; exact List.mem_append_right _ h)
  have hc : Cond.codeWith y bytes maxL ret hh ∈ ws := by rw [hw]; exact List.mem_cons_self
  refine ⟨⟨hrc, hrs, hR.1, hR.2, pay_in ht hG, hc⟩, ht _ (hG _ hc).1, ok _ (by simp [va_wsS]), ⟨hd.1, hd.2.1⟩, fun sig h => ?_, ok _ (by simp [va_wsS]), ok _ (by simp [va_wsS])⟩
  have h2 := hd.2.2
  rw [h] at h2
  exact (Option.some.inj h2).symm
theorem vx_callSW (X : Stand p l e R s m args below meth c T locs cells slots) (hexec : p.tables.exec = Jvm.exec) {own : String} {index : Nat} {y : MethodName} {bytes : ByteArray} {maxL : Nat} {ret : Option FieldType} {hh : List (Nat × Nat × Nat × Nat)}
    (hown : s.vm.findClass own = some m.cls) (hlink : (Cond.methodLink own index y).before args s = true) (hstat : (Cond.static y).before args s = true) (hinit : (Cond.initialized y.cls).before args s = true)
    (hcode : (Cond.codeWith y bytes maxL ret hh).before args s = true) (hy : y.cls ≠ "java/lang/invoke/MethodHandle" ∧ y.cls ≠ "java/lang/invoke/VarHandle")
    {W9 : Nat} {Pre : Pt → Array Value → Prop} {Post : Pt → Array Value → Option Value → Pt → Prop} (hK : Back l R p e below s args y 3 W9 Pre Post)
    {g : JFrame} (hg : g.method = m) (hsize : g.locals.size = c.maxLocals) {argsL rest : List Value} (hlen : ∀ sig, parseMethodDescriptor y.desc = some sig → argsL.length = sig.parameters.length)
    (hstack : g.stack = argsL.reverse ++ rest) (hW : 2 * g.monitorRoom + (rest.map fun v => v.category).sum ≤ W9) (hdg : decode c.code g.pc = .ok (.invokestatic index, 3))
    (hpre : ∀ vm₁, s.WarmedH vm₁ → Pre ⟨T.setVm vm₁, locs, cells, slots⟩ argsL.toArray) :
    ∃ (v : Option Value) (vm₁ : Vm) (B : Pt), s.WarmedH vm₁ ∧ Stand p l e R s m args below meth c B.U B.locs B.cells B.slots ∧ Post ⟨T.setVm vm₁, locs, cells, slots⟩ argsL.toArray v B ∧
      ∀ target, Steps p.tables e below (B.U.setTop { g with pc := g.pc + 3, stack := v.toList ++ rest }) target → Steps p.tables e below (T.setTop g) target := by
  obtain ⟨mk, methM, cM, hnamed, hmethM, -, -, -, -, -, -, hsigM⟩ := Cond.codeWith_spec hcode
  have hstatic : methM.isStatic = true := Cond.static_spec hnamed hmethM hstat
  obtain ⟨kP, hkP, -⟩ := className_of_methodNamed hnamed
  have hinitP : kP.init = .initialized := Cond.initialized_spec (findClass_of_methodNamed hnamed) hkP hinit
  obtain ⟨vm₁, X₁, hstep₁⟩ := X.invokestatic hexec hown hlink hnamed hmethM hstatic hkP hinitP hy (g := g) hg (argsL := argsL) (rest := rest) (hlen _ hsigM) hstack hdg
  obtain ⟨v, B, X', hpost, hsteps⟩ := hK m meth c ⟨T.setVm vm₁, locs, cells, slots⟩ { g with stack := rest } (.invokestatic index) mk argsL.toArray X₁ hg hsize hdg hW (X₁.named hnamed) (hpre vm₁ X₁.warmed)
  exact ⟨v, vm₁, B, X₁.warmed, X', hpost, fun target h => hstep₁ _ fun acts => by rw [doInvoke_state]; exact hsteps.trans h⟩
theorem vx_runSW {y : MethodName} {bytes cc : ByteArray} {maxL nL mc ms n index : Nat} {ret : Option FieldType} {hh : List (Nat × Nat × Nat × Nat)} {ws : List Cond} {rm : Room} {Pc : Array Value → State → Prop} {Qc : Array Value → State → Outcome → State → Prop} {free : Addr → Prop} {Ts : List Cond} {own : String} {As rest : List Value} {g : JFrame}
    (S : CallFix p m c cc nL s args Ts own) (hM : Met l y ws rm Pc Qc mc ms free) (cw : vx_CSW R s args own index y bytes maxL ret hh ws rm mc ms n) (hp : PreS s H Pc As)
    (hg : g.method = m) (hn : As.length = n) (hsize : g.locals.size = nL) (hstack : g.stack = As.reverse ++ rest) (hW : 2 * g.monitorRoom + (rest.map fun v => v.category).sum ≤ 8) (hdg : decode cc g.pc = .ok (.invokestatic index, 3)) (hf : cells + mc ≤ R.cells ∧ slots + ms ≤ R.slots) :
    va_Run p l e R s m args below meth c H locs cells slots mc ms g rest (Qc As.toArray) (free) := by
  obtain ⟨⟨hrc, hrs, hfr, hlo, hws, hcw⟩, hcode, hini, hy, hlen, hl, hstt⟩ := cw
  have hK : Back l R p e below s args y 3 8 (PreOf R mc ms Pc) (PostOf Qc mc ms free) := va_backW (hh := hh) (bytes := bytes) (maxL := maxL) (ret := ret) hM hp.1 hrc hrs hfr hlo hws hcw (fun a' U hW => word_at hW (Or.inl (by first | rfl | simp [Cond.onTables, Cond.keeps, Cond.steady])) hini)
  obtain ⟨hx, hb, hml, ho, -⟩ := S
  intro T hT X
  obtain ⟨v, vm₁, ⟨U', l2, c2, s2⟩, hW₁, X', ⟨g', mk, t, L, e1, e2, hq, h1, hL, h2, h3⟩, st⟩ := vx_callSW X hx (hh := hh) (bytes := bytes) (maxL := maxL) (ret := ret) ho hl hstt hini hcode hy hK hg (hsize.trans hml.symm) (argsL := As) (rest := rest) (fun sig h => hn.trans (hlen sig h)) hstack hW (by rw [hb]; exact hdg)
    (fun vm₁ hW₁ => ⟨hf.1, hf.2, hp.2 (T.setVm vm₁) hT hW₁⟩)
  dsimp only [Pt.U, Pt.locs, Pt.cells, Pt.slots] at X' e1 e2 h1 h2 h3 st
  subst h1; subst h2; subst h3
  exact ⟨v, (T.setVm vm₁).calling g' mk As.toArray, t, U', L, hT, X', hL, e1, e2, hq, st⟩
/-- not caught here, past rows that name other classes: it goes on to the caller -/
theorem vx_outP {p : Program} {l : Launch} {e : Env} {R : Room} {s : State} {m : MethodId} {args : Array Value} {below : List Frame} {meth : Method} {c : Code} {H : Heap} {locs : List Loc} {cells slots : Nat} {free : Addr → Prop} {ls : Array Slot} {rest : List Value} {Qc : Array Value → State → Outcome → State → Prop} {XC : String → State → State → Prop}
    {pc : Nat} {own E : String} {ce : Cell} {q : Addr} {mc ms : Nat} (hown : s.vm.findClass own = some m.cls) (hlocks : meth.locks = false)
    (hpass : ∀ z ∈ c.exceptionTable.toList, covers z pc = false ∨ (z.catchType ≠ 0 ∧ ∃ nm : String, (Cond.classLink own z.catchType nm).before args s = true ∧ va_Nc E nm s)) (hcell : H[q]? = some ce) (hv : ce.vm = .none) (hcl : s.vm.findClass E = some ce.cls)
    (hx : ∀ t : State, t.heap = H → s.vm.Alike t.vm → XC E s t) (hf : ∀ z ∈ locs, free z.base) (hc : cells ≤ mc) (hs : slots ≤ ms) :
    vx_W p l e R s m args below meth c H locs cells slots (vx_MQ below Qc XC args s mc ms free) (F0 m pc ls rest) q := by
  intro T hT X
  have hpl : e.platform.magicAccessors = ({} : Platform).magicAccessors := by rw [X.admits.platform]
  obtain ⟨vm', hW', X', st⟩ := X.outThrough hlocks q (g := F0 m pc ls rest) rfl rfl rfl (cell := ce) (by rw [hT]; exact hcell) (by rw [hv]; rfl)
    (by obtain ⟨k9, h9, -⟩ := Vm.findClass_spec hcl; exact ⟨k9, h9⟩) (fun z hz => by
      rcases hpass z hz with h | ⟨hz0, nm, hl1, hn1⟩
      · exact Or.inl h
      · obtain ⟨c6, hc6, hcl6⟩ := Cond.classLink_spec hown hl1 e.platform hpl
        obtain ⟨a8, b8, h1, h2, h3⟩ := hn1
        cases Option.some.inj (h1.symm.trans hcl)
        cases Option.some.inj (h2.symm.trans hc6)
        exact Or.inr ⟨hz0, _, hcl6, h3⟩)
  obtain ⟨g₀, hfr⟩ := X'.frames_eq
  have hcell9 : ((T.setVm vm').setFrames (.throwing q :: below)).heap[q]? = some ce := by
    show T.heap[q]? = some ce
    rw [hT]; exact hcell
  have hend : Ended ((T.setVm vm').setFrames (.throwing q :: below)) below (.threw q) := State.frames_setFrames _ (State.cur_lt_of_frames hfr)
  refine ⟨(T.setVm vm').setFrames (.throwing q :: below), ?_, .threw q, X'.here.running, hend, Or.inr ⟨q, rfl, E, ce, locs, hx _ hT (X'.ends _).1.alike, hcell9, hv, hcl, (X'.ends _).1, (X'.ends _).2.mono hc hs, hf⟩⟩
  rw [X.pushThrowing_eq]
  exact st
/-- a thing of a world lies in the heap -/
theorem vx_lt {D : va_G} {cl : List vw_C} {ws : va_W} {H1 : Heap} (h : va_P D cl ws H1) {k : Nat} {q : Nat × va_E} (hk : ws[k]? = some q) : q.1 < H1.size := (h k q hk).lt
end VXS
/-! ===== END ===== -/
/-! ===== BEGIN methods with a table of their own: called by a name, returning or throwing ===== -/
section VXH
/-! vx_backW, vx_callVX, vx_callSX, vx_callVW, vx_runVW, vx_runVX, vx_runSX, vx_ofWH follow the same proofs as their sisters above (Free/Laws.lean, Shelf42/LK1.lean); vx_outP calls Shelf42/NT130.lean (outThrough). -/
section
variable {l : Launch} {R : Room} {p : Program} {e : Env} {below : List Frame} {s : State} {sargs : Array Value} {y : MethodName} {len W9 : Nat}
theorem vx_backW {ws : List Cond} {rm : Room} {Pc : Array Value → State → Prop} {Qc : Array Value → State → Outcome → State → Prop} {XC : String → State → State → Prop} {mc ms : Nat} {free : Addr → Prop} {bytes : ByteArray} {maxL : Nat} {ret : Option FieldType} {hh : List (Nat × Nat × Nat × Nat)}
    (hM : vx_Met l y ws rm Pc Qc XC mc ms free) (hblind : FrameBlind Pc) (hrc : rm.cells = mc) (hrs : rm.slots = ms)
    (hframes : rm.frames + 1 ≤ R.frames) (hlocals : W9 + (maxL + 11) + rm.locals ≤ R.locals)
    (hws : ∀ w ∈ ws, ∀ a' U, s.WarmedH U.vm → w.before a' U = true) (hcode : Cond.codeWith y bytes maxL ret hh ∈ ws) (hinit : ∀ a' U, s.WarmedH U.vm → (Cond.initialized y.cls).before a' U = true) :
    vx_Back l R p e below s sargs y len W9 (PreOf R mc ms Pc) (PostOf Qc mc ms free) (vx_Post XC mc ms free) := by
  intro m meth c A g ig mk a X hg hsize hdg hW hn hp
  have h1 : (headSpec ws rm).pre.before a A.U = true := atoms_intro fun w hw => hws w hw _ _ X.warmed
  have h2 : (Cond.codeWith y bytes maxL ret hh).before a A.U = true := hws _ hcode _ _ X.warmed
  have h3 : (Cond.initialized y.cls).before a A.U = true := hinit _ _ X.warmed
  have h4 : A.cells + (headSpec ws rm).room.cells ≤ R.cells := by rw [show (headSpec ws rm).room.cells = mc from hrc]; exact hp.1
  have h5 : A.slots + (headSpec ws rm).room.slots ≤ R.slots := by rw [show (headSpec ws rm).room.slots = ms from hrs]; exact hp.2.1
  have hPc : Pc a (A.U.calling g mk a) := hblind _ _ _ _ hp.2.2
  obtain ⟨U, Ls, c0, s0⟩ := A
  dsimp only [Pt.U, Pt.locs, Pt.cells, Pt.slots] at h1 h2 h3 h4 h5 X hn hPc ⊢
  obtain ⟨m9, methY, cY, hn9, hmY, hcY, -, hlY, -⟩ := Cond.codeWith_spec h2
  cases Option.some.inj (hn9.symm.trans hn)
  obtain ⟨kY, hkY, -⟩ := className_of_methodNamed hn
  have hinitY : kY.init = .initialized := Cond.initialized_spec (findClass_of_methodNamed hn) hkY h3
  have h : At U g.method c below := by rw [hg]; exact X.here
  have hlocals9 : W9 + (maxL + 11) + (headSpec ws rm).room.locals ≤ R.locals := hlocals
  have happ : (headSpec ws rm).appliesLoose y e.platform (U.calling g mk a) = true :=
    Spec.appliesLoose_calling (g := g) h hdg hn hkY hinitY
      (X.room_calling (g := g) (R' := (headSpec ws rm).room) hsize hmY hcY hframes (by rw [hlY]; omega) h4 h5) h1
  obtain ⟨mid, hmid⟩ := h.above
  have hfr : (U.setTop g).frames = (.java g :: mid) ++ below := by rw [State.frames_setTop' g h.top, hmid]; rfl
  obtain ⟨o, s₂, hsteps, -, hend, hq⟩ := Steps.callFree hM p X.admits X.cas X.clock (acts := []) hfr happ hPc trivial
  have hq' : vx_Q Qc XC mc ms free a (U.calling g mk a) o s₂ := hq
  rw [State.frames_setTop' g h.top] at hend
  obtain ⟨g₀, hg0⟩ := Option.isSome_iff_exists.mp h.top
  obtain ⟨r, hr⟩ := State.topJava?_eq_some.mp hg0
  have hr' : (({ U with heap := s₂.heap, slotsUsed := s₂.slotsUsed } : State).setVm s₂.vm).frames = .java g₀ :: r := hr
  rcases hq' with ⟨hqc, L, hfe, hL⟩ | ⟨q, rfl, E, ce, L, hx, hce, hcv, hcl, hW₂, hsm, hL⟩
  · obtain ⟨⟨v, rfl⟩, hW₂, e2, q2, q3, q4, q5, q6⟩ := id hfe
    have e3 : s₂ = ({ (U.calling g mk a).setFrames s₂.frames with heap := s₂.heap, slotsUsed := s₂.slotsUsed } : State).setVm s₂.vm := by
      have : s₂ = ({ s₂ with vm := (U.calling g mk a).vm } : State).setVm s₂.vm := rfl
      rw [e2] at this
      exact this
    obtain ⟨c₂, i₂, len₂, hc₂, hd₂, hf₂⟩ := hend
    have hW' : U.WarmedH s₂.vm := hW₂
    have hcc : c₂ = c := by
      have h1 : s₂.code? g.method = U.code? g.method := by
        rw [State.code?_eq, State.code?_eq, hW'.alike.method?]
      exact Option.some.inj (hc₂.symm.trans (h1.trans h.code))
    subst hcc
    have hlen : len₂ = len := by rw [hdg] at hd₂; cases hd₂; rfl
    subst hlen
    have hs₂ : s₂ = (({ U with heap := s₂.heap, slotsUsed := s₂.slotsUsed } : State).setVm s₂.vm).setTop { g with pc := g.pc + len₂, stack := v.toList ++ g.stack } := by
      refine e3.trans ?_
      rw [hf₂, State.calling_eq h.top, State.setFrames_setFrames, State.setTop_of_frames _ hr', hr]
      rfl
    have hsame : U.sameButNew ({ U with heap := s₂.heap, slotsUsed := s₂.slotsUsed } : State) L mc ms := by
      refine ⟨?_, q2, q3, q4, q5, q6⟩
      obtain ⟨t, ht, -⟩ := State.frames_cons hr
      show ({ U with heap := s₂.heap, slotsUsed := s₂.slotsUsed } : State) = { U.setFrames U.frames with heap := s₂.heap, slotsUsed := s₂.slotsUsed }
      rw [State.setFrames_self ht]
    subst hg
    refine Or.inl ⟨v, ⟨(({ U with heap := s₂.heap, slotsUsed := s₂.slotsUsed } : State).setVm s₂.vm), Ls ++ L, c0 + mc, s0 + ms⟩,
      ⟨X.admits, X.cas, X.clock, X.frames, X.room, X.hears, X.method, X.code, (X.here.setHeapUsed s₂.heap s₂.slotsUsed).setVm hW'.alike, X.tail, State.WarmedH.trans X.warmed hW', X.limits, X.bytes, X.same.trans (hsame.setVm s.vm)⟩,
      ⟨g, mk, s₂, L, rfl, rfl, hqc, rfl, hL, rfl, rfl⟩, ?_⟩
    show Steps p.tables e below _ ((({ U with heap := s₂.heap, slotsUsed := s₂.slotsUsed } : State).setVm s₂.vm).setTop { g with pc := g.pc + len₂, stack := v.toList ++ g.stack })
    rw [← hs₂]
    exact hsteps
  · obtain ⟨e2, q2, q3, q4, q5, q6⟩ := id hsm
    have e3 : s₂ = ({ (U.calling g mk a).setFrames s₂.frames with heap := s₂.heap, slotsUsed := s₂.slotsUsed } : State).setVm s₂.vm := by
      have : s₂ = ({ s₂ with vm := (U.calling g mk a).vm } : State).setVm s₂.vm := rfl
      rw [e2] at this
      exact this
    have hf₂ : s₂.frames = .throwing q :: .java g :: U.frames.tail := hend
    have hW' : U.WarmedH s₂.vm := hW₂
    have hs₂ : s₂ = ((({ U with heap := s₂.heap, slotsUsed := s₂.slotsUsed } : State).setVm s₂.vm).setTop g).pushFrame (.throwing q) := by
      refine e3.trans ?_
      rw [hf₂, State.calling_eq h.top, State.setFrames_setFrames, State.pushFrame, State.frames_setTop _ hr', State.setTop_of_frames _ hr', State.setFrames_setFrames, hr]
      rfl
    have hsame : U.sameButNew ({ U with heap := s₂.heap, slotsUsed := s₂.slotsUsed } : State) L mc ms := by
      refine ⟨?_, q2, q3, q4, q5, q6⟩
      obtain ⟨t, ht, -⟩ := State.frames_cons hr
      show ({ U with heap := s₂.heap, slotsUsed := s₂.slotsUsed } : State) = { U.setFrames U.frames with heap := s₂.heap, slotsUsed := s₂.slotsUsed }
      rw [State.setFrames_self ht]
    subst hg
    refine Or.inr ⟨q, ⟨(({ U with heap := s₂.heap, slotsUsed := s₂.slotsUsed } : State).setVm s₂.vm), Ls ++ L, c0 + mc, s0 + ms⟩,
      ⟨X.admits, X.cas, X.clock, X.frames, X.room, X.hears, X.method, X.code, (X.here.setHeapUsed s₂.heap s₂.slotsUsed).setVm hW'.alike, X.tail, State.WarmedH.trans X.warmed hW', X.limits, X.bytes, X.same.trans (hsame.setVm s.vm)⟩,
      ⟨g, mk, s₂, L, E, ce, rfl, rfl, hx, hce, hcv, hcl, rfl, hL, rfl, rfl⟩, ?_⟩
    show Steps p.tables e below _ (((({ U with heap := s₂.heap, slotsUsed := s₂.slotsUsed } : State).setVm s₂.vm).setTop g).pushFrame (.throwing q))
    rw [← hs₂]
    exact hsteps
end
variable {p : Program} {l : Launch} {e : Env} {R : Room} {s : State} {m : MethodId} {args : Array Value} {below : List Frame} {meth : Method} {c : Code} {T : State} {H : Heap} {locs : List Loc} {cells slots : Nat}
theorem vx_callVX (X : Stand p l e R s m args below meth c T locs cells slots) (hexec : p.tables.exec = Jvm.exec) {own C : String} {index : Nat} {y : MethodName} {bytes : ByteArray} {maxL : Nat} {ret : Option FieldType} {hh : List (Nat × Nat × Nat × Nat)}
    (hown : s.vm.findClass own = some m.cls) (hlink : (Cond.methodLink own index y).before args s = true) (hinst : (Cond.instanceMethod y).before args s = true) (hsel : (Cond.selects C y y).before args s = true)
    (hcode : (Cond.codeWith y bytes maxL ret hh).before args s = true) (hy : y.cls ≠ "java/lang/invoke/MethodHandle" ∧ y.cls ≠ "java/lang/invoke/VarHandle")
    {W9 : Nat} {Pre : Pt → Array Value → Prop} {Post : Pt → Array Value → Option Value → Pt → Prop} {PostX : Pt → Array Value → Addr → Pt → Prop} (hK : vx_Back l R p e below s args y 3 W9 Pre Post PostX)
    {b : Addr} {cellB : Cell} (hcell : T.heap[b]? = some cellB) (hobj : cellB.vm.isStatics = false) (hcls : s.vm.findClass C = some cellB.cls)
    {g : JFrame} (hg : g.method = m) (hsize : g.locals.size = c.maxLocals) {argsL rest : List Value} (hlen : ∀ sig, parseMethodDescriptor y.desc = some sig → argsL.length = sig.parameters.length)
    (hstack : g.stack = argsL.reverse ++ .ref b :: rest) (hW : 2 * g.monitorRoom + (rest.map fun v => v.category).sum ≤ W9) (hdg : decode c.code g.pc = .ok (.invokevirtual index, 3))
    (hpre : ∀ vm₁, s.WarmedH vm₁ → Pre ⟨T.setVm vm₁, locs, cells, slots⟩ (Value.ref b :: argsL).toArray) :
    (∃ (v : Option Value) (vm₁ : Vm) (B : Pt), s.WarmedH vm₁ ∧ Stand p l e R s m args below meth c B.U B.locs B.cells B.slots ∧ Post ⟨T.setVm vm₁, locs, cells, slots⟩ (Value.ref b :: argsL).toArray v B ∧
      ∀ target, Steps p.tables e below (B.U.setTop { g with pc := g.pc + 3, stack := v.toList ++ rest }) target → Steps p.tables e below (T.setTop g) target) ∨
    (∃ (q : Addr) (vm₁ : Vm) (B : Pt), s.WarmedH vm₁ ∧ Stand p l e R s m args below meth c B.U B.locs B.cells B.slots ∧ PostX ⟨T.setVm vm₁, locs, cells, slots⟩ (Value.ref b :: argsL).toArray q B ∧
      Steps p.tables e below (T.setTop g) ((B.U.setTop { g with stack := rest }).pushFrame (.throwing q))) := by
  obtain ⟨mk, methM, hnamed, hmethM, hstM, habM⟩ := Cond.instanceMethod_spec hinst
  obtain ⟨m8, methM', cM, hn8, hmethM', -, -, -, -, -, -, hsigM⟩ := Cond.codeWith_spec hcode
  cases Option.some.inj (hn8.symm.trans hnamed)
  cases hmethM.symm.trans hmethM'
  obtain ⟨c2, r2, m2, q1, q2, q3, q4, kP, hkP, hkPi⟩ := Cond.selects_spec hsel
  cases hcls.symm.trans q1
  cases (State.methodFound?_of_named hnamed hy).symm.trans q2
  cases hnamed.symm.trans q3
  have hselP : selectMethod e.platform s.vm cellB.cls mk = .method mk := by rw [Launch.admits_selectMethod X.admits]; exact q4
  obtain ⟨vm₁, X₁, hstep₁⟩ := X.invokevirtual hexec hown hlink hnamed hmethM hstM hkP hkPi hy (a := b) (cell := cellB) hcell
    (fun z h => by rw [h] at hobj; cases hobj) hselP hmethM habM hkP hkPi (g := g) hg (argsL := argsL) (rest := rest) (hlen _ hsigM) hstack hdg
  rcases hK m meth c ⟨T.setVm vm₁, locs, cells, slots⟩ { g with stack := rest } (.invokevirtual index) mk (Value.ref b :: argsL).toArray X₁ hg hsize hdg hW (X₁.named hnamed) (hpre vm₁ X₁.warmed) with ⟨v, B, X', hpost, hsteps⟩ | ⟨q, B, X', hpost, hsteps⟩
  · exact Or.inl ⟨v, vm₁, B, X₁.warmed, X', hpost, fun target h => hstep₁ _ fun acts => by rw [doInvoke_state]; exact hsteps.trans h⟩
  · exact Or.inr ⟨q, vm₁, B, X₁.warmed, X', hpost, hstep₁ _ fun acts => by rw [doInvoke_state]; exact hsteps⟩
theorem vx_callSX (X : Stand p l e R s m args below meth c T locs cells slots) (hexec : p.tables.exec = Jvm.exec) {own : String} {index : Nat} {y : MethodName} {bytes : ByteArray} {maxL : Nat} {ret : Option FieldType} {hh : List (Nat × Nat × Nat × Nat)}
    (hown : s.vm.findClass own = some m.cls) (hlink : (Cond.methodLink own index y).before args s = true) (hstat : (Cond.static y).before args s = true) (hinit : (Cond.initialized y.cls).before args s = true)
    (hcode : (Cond.codeWith y bytes maxL ret hh).before args s = true) (hy : y.cls ≠ "java/lang/invoke/MethodHandle" ∧ y.cls ≠ "java/lang/invoke/VarHandle")
    {W9 : Nat} {Pre : Pt → Array Value → Prop} {Post : Pt → Array Value → Option Value → Pt → Prop} {PostX : Pt → Array Value → Addr → Pt → Prop} (hK : vx_Back l R p e below s args y 3 W9 Pre Post PostX)
    {g : JFrame} (hg : g.method = m) (hsize : g.locals.size = c.maxLocals) {argsL rest : List Value} (hlen : ∀ sig, parseMethodDescriptor y.desc = some sig → argsL.length = sig.parameters.length)
    (hstack : g.stack = argsL.reverse ++ rest) (hW : 2 * g.monitorRoom + (rest.map fun v => v.category).sum ≤ W9) (hdg : decode c.code g.pc = .ok (.invokestatic index, 3))
    (hpre : ∀ vm₁, s.WarmedH vm₁ → Pre ⟨T.setVm vm₁, locs, cells, slots⟩ argsL.toArray) :
    (∃ (v : Option Value) (vm₁ : Vm) (B : Pt), s.WarmedH vm₁ ∧ Stand p l e R s m args below meth c B.U B.locs B.cells B.slots ∧ Post ⟨T.setVm vm₁, locs, cells, slots⟩ argsL.toArray v B ∧
      ∀ target, Steps p.tables e below (B.U.setTop { g with pc := g.pc + 3, stack := v.toList ++ rest }) target → Steps p.tables e below (T.setTop g) target) ∨
    (∃ (q : Addr) (vm₁ : Vm) (B : Pt), s.WarmedH vm₁ ∧ Stand p l e R s m args below meth c B.U B.locs B.cells B.slots ∧ PostX ⟨T.setVm vm₁, locs, cells, slots⟩ argsL.toArray q B ∧
      Steps p.tables e below (T.setTop g) ((B.U.setTop { g with stack := rest }).pushFrame (.throwing q))) := by
  obtain ⟨mk, methM, cM, hnamed, hmethM, -, -, -, -, -, -, hsigM⟩ := Cond.codeWith_spec hcode
  have hstatic : methM.isStatic = true := Cond.static_spec hnamed hmethM hstat
  obtain ⟨kP, hkP, -⟩ := className_of_methodNamed hnamed
  have hinitP : kP.init = .initialized := Cond.initialized_spec (findClass_of_methodNamed hnamed) hkP hinit
  obtain ⟨vm₁, X₁, hstep₁⟩ := X.invokestatic hexec hown hlink hnamed hmethM hstatic hkP hinitP hy (g := g) hg (argsL := argsL) (rest := rest) (hlen _ hsigM) hstack hdg
  rcases hK m meth c ⟨T.setVm vm₁, locs, cells, slots⟩ { g with stack := rest } (.invokestatic index) mk argsL.toArray X₁ hg hsize hdg hW (X₁.named hnamed) (hpre vm₁ X₁.warmed) with ⟨v, B, X', hpost, hsteps⟩ | ⟨q, B, X', hpost, hsteps⟩
  · exact Or.inl ⟨v, vm₁, B, X₁.warmed, X', hpost, fun target h => hstep₁ _ fun acts => by rw [doInvoke_state]; exact hsteps.trans h⟩
  · exact Or.inr ⟨q, vm₁, B, X₁.warmed, X', hpost, hstep₁ _ fun acts => by rw [doInvoke_state]; exact hsteps⟩
theorem vx_callVW (X : Stand p l e R s m args below meth c T locs cells slots) (hexec : p.tables.exec = Jvm.exec) {own C : String} {index : Nat} {y : MethodName} {bytes : ByteArray} {maxL : Nat} {ret : Option FieldType} {hh : List (Nat × Nat × Nat × Nat)}
    (hown : s.vm.findClass own = some m.cls) (hlink : (Cond.methodLink own index y).before args s = true) (hinst : (Cond.instanceMethod y).before args s = true) (hsel : (Cond.selects C y y).before args s = true)
    (hcode : (Cond.codeWith y bytes maxL ret hh).before args s = true) (hy : y.cls ≠ "java/lang/invoke/MethodHandle" ∧ y.cls ≠ "java/lang/invoke/VarHandle")
    {W9 : Nat} {Pre : Pt → Array Value → Prop} {Post : Pt → Array Value → Option Value → Pt → Prop} (hK : Back l R p e below s args y 3 W9 Pre Post)
    {b : Addr} {cellB : Cell} (hcell : T.heap[b]? = some cellB) (hobj : cellB.vm.isStatics = false) (hcls : s.vm.findClass C = some cellB.cls)
    {g : JFrame} (hg : g.method = m) (hsize : g.locals.size = c.maxLocals) {argsL rest : List Value} (hlen : ∀ sig, parseMethodDescriptor y.desc = some sig → argsL.length = sig.parameters.length)
    (hstack : g.stack = argsL.reverse ++ .ref b :: rest) (hW : 2 * g.monitorRoom + (rest.map fun v => v.category).sum ≤ W9) (hdg : decode c.code g.pc = .ok (.invokevirtual index, 3))
    (hpre : ∀ vm₁, s.WarmedH vm₁ → Pre ⟨T.setVm vm₁, locs, cells, slots⟩ (Value.ref b :: argsL).toArray) :
    ∃ (v : Option Value) (vm₁ : Vm) (B : Pt), s.WarmedH vm₁ ∧ Stand p l e R s m args below meth c B.U B.locs B.cells B.slots ∧ Post ⟨T.setVm vm₁, locs, cells, slots⟩ (Value.ref b :: argsL).toArray v B ∧
      ∀ target, Steps p.tables e below (B.U.setTop { g with pc := g.pc + 3, stack := v.toList ++ rest }) target → Steps p.tables e below (T.setTop g) target := by
  obtain ⟨mk, methM, hnamed, hmethM, hstM, habM⟩ := Cond.instanceMethod_spec hinst
  obtain ⟨m8, methM', cM, hn8, hmethM', -, -, -, -, -, -, hsigM⟩ := Cond.codeWith_spec hcode
  cases Option.some.inj (hn8.symm.trans hnamed)
  cases hmethM.symm.trans hmethM'
  obtain ⟨c2, r2, m2, q1, q2, q3, q4, kP, hkP, hkPi⟩ := Cond.selects_spec hsel
  cases hcls.symm.trans q1
  cases (State.methodFound?_of_named hnamed hy).symm.trans q2
  cases hnamed.symm.trans q3
  have hselP : selectMethod e.platform s.vm cellB.cls mk = .method mk := by rw [Launch.admits_selectMethod X.admits]; exact q4
  obtain ⟨vm₁, X₁, hstep₁⟩ := X.invokevirtual hexec hown hlink hnamed hmethM hstM hkP hkPi hy (a := b) (cell := cellB) hcell
    (fun z h => by rw [h] at hobj; cases hobj) hselP hmethM habM hkP hkPi (g := g) hg (argsL := argsL) (rest := rest) (hlen _ hsigM) hstack hdg
  obtain ⟨v, B, X', hpost, hsteps⟩ := hK m meth c ⟨T.setVm vm₁, locs, cells, slots⟩ { g with stack := rest } (.invokevirtual index) mk (Value.ref b :: argsL).toArray X₁ hg hsize hdg hW (X₁.named hnamed) (hpre vm₁ X₁.warmed)
  exact ⟨v, vm₁, B, X₁.warmed, X', hpost, fun target h => hstep₁ _ fun acts => by rw [doInvoke_state]; exact hsteps.trans h⟩
abbrev vx_CVW (R : Room) (s : State) (args : Array Value) (own C : String) (index : Nat) (y : MethodName) (bytes : ByteArray) (maxL : Nat) (ret : Option FieldType) (hh : List (Nat × Nat × Nat × Nat)) (ws : List Cond) (rm : Room) (mc ms n : Nat) : Prop :=
  (rm.cells = mc ∧ rm.slots = ms ∧ rm.frames + 1 ≤ R.frames ∧ 8 + (maxL + 11) + rm.locals ≤ R.locals ∧ (∀ w ∈ ws, ∀ (a' : Array Value) (U : State), s.WarmedH U.vm → w.before a' U = true) ∧ Cond.codeWith y bytes maxL ret hh ∈ ws) ∧
  (Cond.codeWith y bytes maxL ret hh).before args s = true ∧ (Cond.initialized y.cls).before args s = true ∧ (y.cls ≠ "java/lang/invoke/MethodHandle" ∧ y.cls ≠ "java/lang/invoke/VarHandle") ∧
  (∀ sig, parseMethodDescriptor y.desc = some sig → n = sig.parameters.length) ∧ (Cond.methodLink own index y).before args s = true ∧ (Cond.instanceMethod y).before args s = true ∧ (Cond.selects C y y).before args s = true
theorem vx_cwVW {own C : String} {index maxL mc ms : Nat} {y : MethodName} {bytes : ByteArray} {ret : Option FieldType} {hh : List (Nat × Nat × Nat × Nat)} {Ts ws ws' : List Cond} {rm : Room} (n : Nat) (ht : ∀ w ∈ Ts, w.before args s = true) (hT : GoodIn Ts (wsV own index C y ws)) (hw : ws = Cond.codeWith y bytes maxL ret hh :: ws') (hrc : rm.cells = mc) (hrs : rm.slots = ms)
    (hd : y.cls = C ∧ y.cls ≠ "java/lang/invoke/MethodHandle" ∧ y.cls ≠ "java/lang/invoke/VarHandle" ∧ (parseMethodDescriptor y.desc).map (fun d => d.parameters.length) = some n) (hR : rm.frames + 1 ≤ R.frames ∧ 8 + (maxL + 11) + rm.locals ≤ R.locals) :
    vx_CVW R s args own C index y bytes maxL ret hh ws rm mc ms n := by
  obtain ⟨hC, hd⟩ := hd
  subst hC
  have ok : ∀ w ∈ wsV own index y.cls y ws, w.before args s = true := fun w h => ht w (hT w h).1
  have hG : GoodIn Ts ws := fun w h => hT w (by unfold wsV; exact List.mem_append_right _ h)
  have hc : Cond.codeWith y bytes maxL ret hh ∈ ws := by rw [hw]; exact List.mem_cons_self
  refine ⟨⟨hrc, hrs, hR.1, hR.2, pay_in ht hG, hc⟩, ht _ (hG _ hc).1, ok _ (by simp [wsV]), ⟨hd.1, hd.2.1⟩, fun sig h => ?_, ok _ (by simp [wsV]), ok _ (by simp [wsV]), ok _ (by simp [wsV])⟩
  have h2 := hd.2.2
  rw [h] at h2
  exact (Option.some.inj h2).symm
theorem vx_runVW {y : MethodName} {bytes cc : ByteArray} {maxL nL mc ms n index : Nat} {ret : Option FieldType} {hh : List (Nat × Nat × Nat × Nat)} {ws : List Cond} {rm : Room} {Pc : Array Value → State → Prop} {Qc : Array Value → State → Outcome → State → Prop} {free : Addr → Prop} {Ts : List Cond} {own C : String} {b : Addr} {As rest : List Value} {g : JFrame}
    (S : CallFix p m c cc nL s args Ts own) (hM : Met l y ws rm Pc Qc mc ms free) (cw : vx_CVW R s args own C index y bytes maxL ret hh ws rm mc ms n) (hp : PreV s H C b Pc As)
    (hg : g.method = m) (hn : As.length = n) (hsize : g.locals.size = nL) (hstack : g.stack = As.reverse ++ .ref b :: rest) (hW : 2 * g.monitorRoom + (rest.map fun v => v.category).sum ≤ 8) (hdg : decode cc g.pc = .ok (.invokevirtual index, 3)) (hf : cells + mc ≤ R.cells ∧ slots + ms ≤ R.slots) :
    va_Run p l e R s m args below meth c H locs cells slots mc ms g rest (Qc (Value.ref b :: As).toArray) free := by
  obtain ⟨⟨hrc, hrs, hfr, hlo, hws, hcw⟩, hcode, hini, hy, hlen, hl, hin, hse⟩ := cw
  have hK : Back l R p e below s args y 3 8 (PreOf R mc ms Pc) (PostOf Qc mc ms free) := va_backW (hh := hh) (bytes := bytes) (maxL := maxL) (ret := ret) hM hp.1 hrc hrs hfr hlo hws hcw (fun a' U hW => word_at hW (Or.inl (by first | rfl | simp [Cond.onTables, Cond.keeps, Cond.steady])) hini)
  obtain ⟨hx, hb, hml, ho, -⟩ := S
  obtain ⟨-, ⟨cellB, hcB, hoB, hclB⟩, hPc⟩ := hp
  intro T hT X
  obtain ⟨v, vm₁, ⟨U', l2, c2, s2⟩, hW₁, X', ⟨g', mk, t, L, e1, e2, hq, h1, hL, h2, h3⟩, st⟩ := vx_callVW X hx (C := C) (hh := hh) (bytes := bytes) (maxL := maxL) (ret := ret) ho hl hin hse hcode hy hK (by rw [hT]; exact hcB) hoB hclB hg (hsize.trans hml.symm) (argsL := As) (rest := rest) (fun sig h => hn.trans (hlen sig h)) hstack hW (by rw [hb]; exact hdg)
    (fun vm₁ hW₁ => ⟨hf.1, hf.2, hPc (T.setVm vm₁) hT hW₁⟩)
  dsimp only [Pt.U, Pt.locs, Pt.cells, Pt.slots] at X' e1 e2 h1 h2 h3 st
  subst h1; subst h2; subst h3
  exact ⟨v, (T.setVm vm₁).calling g' mk (Value.ref b :: As).toArray, t, U', L, hT, X', hL, e1, e2, hq, st⟩
section
variable {y : MethodName} {bytes cc : ByteArray} {maxL nL mc ms n index : Nat} {ret : Option FieldType} {ws : List Cond} {rm : Room} {Pc : Array Value → State → Prop} {Qc : Array Value → State → Outcome → State → Prop} {XC : String → State → State → Prop} {free : Addr → Prop} {Ts : List Cond} {own C : String} {b : Addr} {As rest : List Value} {g : JFrame}
theorem vx_runVX {hh : List (Nat × Nat × Nat × Nat)} (S : CallFix p m c cc nL s args Ts own) (hM : vx_Met l y ws rm Pc Qc XC mc ms free) (cw : vx_CVW R s args own C index y bytes maxL ret hh ws rm mc ms n) (hp : PreV s H C b Pc As)
    (hg : g.method = m) (hn : As.length = n) (hsize : g.locals.size = nL) (hstack : g.stack = As.reverse ++ .ref b :: rest) (hW : 2 * g.monitorRoom + (rest.map fun v => v.category).sum ≤ 8) (hdg : decode cc g.pc = .ok (.invokevirtual index, 3)) (hf : cells + mc ≤ R.cells ∧ slots + ms ≤ R.slots) :
    vx_Run p l e R s m args below meth c H locs cells slots mc ms g rest (Qc (Value.ref b :: As).toArray) XC free := by
  obtain ⟨⟨hrc, hrs, hfr, hlo, hws, hcw⟩, hcode, hini, hy, hlen, hl, hin, hse⟩ := cw
  have hK : vx_Back l R p e below s args y 3 8 (PreOf R mc ms Pc) (PostOf Qc mc ms free) (vx_Post XC mc ms free) := vx_backW (hh := hh) (bytes := bytes) (maxL := maxL) (ret := ret) hM hp.1 hrc hrs hfr hlo hws hcw (fun a' U hW => word_at hW (Or.inl (by first | rfl | simp [Cond.onTables, Cond.keeps, Cond.steady])) hini)
  obtain ⟨hx, hb, hml, ho, -⟩ := S
  obtain ⟨-, ⟨cellB, hcB, hoB, hclB⟩, hPc⟩ := hp
  intro T hT X
  rcases vx_callVX X hx (C := C) (hh := hh) (bytes := bytes) (maxL := maxL) (ret := ret) ho hl hin hse hcode hy hK (by rw [hT]; exact hcB) hoB hclB hg (hsize.trans hml.symm) (argsL := As) (rest := rest) (fun sig h => hn.trans (hlen sig h)) hstack hW (by rw [hb]; exact hdg)
    (fun vm₁ hW₁ => ⟨hf.1, hf.2, hPc (T.setVm vm₁) hT hW₁⟩) with ⟨v, vm₁, ⟨U', l2, c2, s2⟩, hW₁, X', ⟨g', mk, t, L, e1, e2, hq, h1, hL, h2, h3⟩, st⟩ | ⟨q, vm₁, ⟨U', l2, c2, s2⟩, hW₁, X', ⟨g', mk, t, L, E, ce, e1, e2, hq, hce, hcv, hcl, h1, hL, h2, h3⟩, st⟩
  · dsimp only [Pt.U, Pt.locs, Pt.cells, Pt.slots] at X' e1 e2 h1 h2 h3 st
    subst h1; subst h2; subst h3
    exact Or.inl ⟨v, (T.setVm vm₁).calling g' mk (Value.ref b :: As).toArray, t, U', L, hT, X', hL, e1, e2, hq, st⟩
  · dsimp only [Pt.U, Pt.locs, Pt.cells, Pt.slots] at X' e1 e2 h1 h2 h3 st hcl
    subst h1; subst h2; subst h3
    exact Or.inr ⟨q, (T.setVm vm₁).calling g' mk (Value.ref b :: As).toArray, t, U', L, E, ce, hT, X', hL, e1, e2, hq, hce, hcv, vx_cls hW₁ hcl, st⟩
theorem vx_runSX {hh : List (Nat × Nat × Nat × Nat)} (S : CallFix p m c cc nL s args Ts own) (hM : vx_Met l y ws rm Pc Qc XC mc ms free) (cw : vx_CSW R s args own index y bytes maxL ret hh ws rm mc ms n) (hp : PreS s H Pc As)
    (hg : g.method = m) (hn : As.length = n) (hsize : g.locals.size = nL) (hstack : g.stack = As.reverse ++ rest) (hW : 2 * g.monitorRoom + (rest.map fun v => v.category).sum ≤ 8) (hdg : decode cc g.pc = .ok (.invokestatic index, 3)) (hf : cells + mc ≤ R.cells ∧ slots + ms ≤ R.slots) :
    vx_Run p l e R s m args below meth c H locs cells slots mc ms g rest (Qc As.toArray) XC free := by
  obtain ⟨⟨hrc, hrs, hfr, hlo, hws, hcw⟩, hcode, hini, hy, hlen, hl, hstt⟩ := cw
  have hK : vx_Back l R p e below s args y 3 8 (PreOf R mc ms Pc) (PostOf Qc mc ms free) (vx_Post XC mc ms free) := vx_backW (hh := hh) (bytes := bytes) (maxL := maxL) (ret := ret) hM hp.1 hrc hrs hfr hlo hws hcw (fun a' U hW => word_at hW (Or.inl (by first | rfl | simp [Cond.onTables, Cond.keeps, Cond.steady])) hini)
  obtain ⟨hx, hb, hml, ho, -⟩ := S
  intro T hT X
  rcases vx_callSX X hx (hh := hh) (bytes := bytes) (maxL := maxL) (ret := ret) ho hl hstt hini hcode hy hK hg (hsize.trans hml.symm) (argsL := As) (rest := rest) (fun sig h => hn.trans (hlen sig h)) hstack hW (by rw [hb]; exact hdg)
    (fun vm₁ hW₁ => ⟨hf.1, hf.2, hp.2 (T.setVm vm₁) hT hW₁⟩) with ⟨v, vm₁, ⟨U', l2, c2, s2⟩, hW₁, X', ⟨g', mk, t, L, e1, e2, hq, h1, hL, h2, h3⟩, st⟩ | ⟨q, vm₁, ⟨U', l2, c2, s2⟩, hW₁, X', ⟨g', mk, t, L, E, ce, e1, e2, hq, hce, hcv, hcl, h1, hL, h2, h3⟩, st⟩
  · dsimp only [Pt.U, Pt.locs, Pt.cells, Pt.slots] at X' e1 e2 h1 h2 h3 st
    subst h1; subst h2; subst h3
    exact Or.inl ⟨v, (T.setVm vm₁).calling g' mk As.toArray, t, U', L, hT, X', hL, e1, e2, hq, st⟩
  · dsimp only [Pt.U, Pt.locs, Pt.cells, Pt.slots] at X' e1 e2 h1 h2 h3 st hcl
    subst h1; subst h2; subst h3
    exact Or.inr ⟨q, (T.setVm vm₁).calling g' mk As.toArray, t, U', L, E, ce, hT, X', hL, e1, e2, hq, hce, hcv, vx_cls hW₁ hcl, st⟩
end
end VXH
theorem vx_ofWH {l : Launch} {y : MethodName} {ws ws' : List Cond} {rm : Room} {Pc : Array Value → State → Prop} {Qc : Array Value → State → Outcome → State → Prop} {XC : String → State → State → Prop} {mc ms : Nat} {free : Addr → Prop} {cc : ByteArray} {maxL : Nat} {ret : Option FieldType} {hh : List (Nat × Nat × Nat × Nat)}
    (hy : plainName y.cls = true) (hw : ws = Cond.codeWith y cc maxL ret hh :: ws')
    (body : ∀ p e s m args below meth c s₁, BodyLoose p l y (headSpec ws rm) cc maxL ret e s m args below meth c s₁ → c.maxLocals = maxL → Pc args s →
      W p l e (headSpec ws rm).room s m args below meth c s.heap [] 0 0 (vx_MQ below Qc XC args s mc ms free) (entryFrame m args maxL)) : vx_Met l y ws rm Pc Qc XC mc ms free := by
  refine MetFree.of_bodyS (code := cc) (maxLocals := maxL) (ret := ret) hy ?_ ?_
  · intro args s m h hn
    obtain ⟨m9, meth, c, hn9, h1, h2, h3, h4, -, h5, h6, -⟩ := Cond.codeWith_spec (atoms_spec (ws := ws) h _ (by rw [hw]; exact List.mem_cons_self))
    cases hn.symm.trans hn9
    exact ⟨meth, c, h1, h2, h3, h4, h5, h6⟩
  · intro p e s m args below meth c s₁ B hml hP _
    have hh0 : s₁.heap = s.heap := by rw [B.state]; rfl
    obtain ⟨t, a1, o, b1, b2, b3⟩ := body p e s m args below meth c s₁ B hml hP s₁ hh0 (Stand.of_body B)
    exact ⟨t, o, a1, b1, b2, b3⟩
/-! ===== END ===== -/
/-! ===== BEGIN what the machine throws by itself, no traces kept ===== -/
section VXM
set_option maxHeartbeats 1000000 in
/-- the machine throws cls with the message text, no traces kept: from its note over the frame g to 'throwing' over the same frame (follows the proofs of Stand.vmThrowsMessage, Shelf/KitTracedVmS.lean, and Stand.throwsMessageColdBareV, StandMessageColdV.lean, without the step out of the frame) -/
theorem vx_vmAt {p : Program} {l : Launch} {e : Env} {R : Room} {s : State} {m₀ : MethodId} {args : Array Value} {below : List Frame} {meth : Method} {c : Code} {W : State} {locs : List Loc} {cells slots : Nat}
    (X : Stand p l e R s m₀ args below meth c W locs cells slots) (hexec : p.tables.exec = Jvm.exec) (htr : e.platform.stackTraces = false) {cls : String} {names : List String} {text : String}
    (hcls : Bundle.fit cls = true) (hnames : ∀ n ∈ names, Bundle.fit n = true) (hsoe : (cls == "java/lang/StackOverflowError") = false) (hoom : (cls == "java/lang/OutOfMemoryError") = false)
    (h : ∀ a ∈ Bundle.messageArmAtoms cls names, a.before args s = true)
    (hlocs : ∀ x ∈ locs, ∀ cell, s.heap[x.base]? = some cell → cell.vm.isStatics = false)
    (htext : (text == notModelled) = false) (hlimit : ¬ (stringBytes (stringToUtf16 text)).size > e.platform.arrayLengthLimit) (hheap : ¬ (stringBytes (stringToUtf16 text)).size * componentBytes .byte > e.platform.maxHeapBytes)
    {g : JFrame} (hg : g.method = m₀) (hsize : g.locals.size = c.maxLocals)
    (hRframes : names.length + 4 < R.frames) (hRlocals : 2 * g.monitorRoom + (g.stack.map fun v => v.category).sum + 10240 ≤ R.locals) (hshort : 13 * names.length + 55 ≤ 10240)
    (hRcells : cells + 3 ≤ R.cells) (hRslots : slots + ((stringBytes (stringToUtf16 text)).size + 4 + 6) ≤ R.slots) (hlocks : meth.locks = false) :
    ∃ (S : State) (q : Addr) (ce : Cell), (∀ target, Steps p.tables e below ((S.setTop g).pushFrame (.throwing q)) target → Steps p.tables e below ((W.setTop g).pushFrame (.throwNew cls (some text) none)) target) ∧
      Stand p l e R s m₀ args below meth c S locs (cells + 3) (slots + ((stringBytes (stringToUtf16 text)).size + 4 + 6)) ∧ S.heap[q]? = some ce ∧ s.vm.findClass cls = some ce.cls ∧ ce.vm = .none := by
  have howns : e.platform.frameOwnsMonitors = true := by rw [X.admits.platform]
  have hfin : e.platform.finalization = false := by rw [X.admits.platform]
  have hpl : e.platform.magicAccessors = ({} : Platform).magicAccessors := by rw [X.admits.platform]
  have a : ∀ x, x ∈ Bundle.messageArmAtoms cls names → x.holds args s none s [] = true := fun x hx => h x hx
  obtain ⟨T, Z0, L, -, Y⟩ := ThrowableC.of_atoms (args := args) howns hfin hpl (fun x hx => h x (by simp [Bundle.messageArmAtoms, hx]))
  obtain ⟨Z, M, LZ, LM, hnZ⟩ := Init0T.ofS_atoms (args := args) hpl L Y (fun x hx => h x (by simp [Bundle.messageArmAtoms, hx]))
  obtain ⟨P1, Ps, hlen, L1, hL, hP1m, hlink1, hlink⟩ := Bundle.chainS (args := args) hpl hnZ names cls hcls hnames (fun x hx => h x (by simp [Bundle.messageArmAtoms, hx]))
  obtain ⟨Zs, LZs, hn4, hfitv, hfitc⟩ := StringT.of_atoms (args := args) (fun x hx => h x (by simp [Bundle.messageArmAtoms, hx]))
  have hfound : s.vm.findClass cls = some P1.m.cls := findClass_of_methodNamed hP1m
  obtain ⟨c1, kX, hc1, hk, hord, -, -, hn6⟩ := Cond.instantiable_spec (a (.instantiable cls 6) (by simp [Bundle.messageArmAtoms]))
  cases Option.some.inj (hc1.symm.trans hfound)
  have hinit := Cond.initialized_spec hfound hk (a (.initialized cls) (by simp [Bundle.messageArmAtoms]))
  have hctor : kX.findMethod "<init>" "(Ljava/lang/String;)V" = some P1.m.idx := findMethod_of_methodNamed hP1m hk
  have hsel0 : selectMethod e.platform s.vm P1.m.cls T.fill0 = .method T.fill0 := by
    obtain ⟨c2, r2, m2, q1, q2, q3, q4, -⟩ := Cond.selects_spec (a (.selects cls Bundle.tFill0 Bundle.tFill0) (by simp [Bundle.messageArmAtoms]))
    cases Option.some.inj (q1.symm.trans hfound)
    cases Option.some.inj (q2.symm.trans (State.methodFound?_of_named Y.fill0 (by decide)))
    cases Option.some.inj (q3.symm.trans Y.fill0)
    rw [Launch.admits_selectMethod X.admits]; exact q4
  have hselF : selectMethod e.platform s.vm P1.m.cls T.fill = .method T.fill := by
    obtain ⟨c2, r2, m2, q1, q2, q3, q4, -⟩ := Cond.selects_spec (a (.selects cls Bundle.tFill Bundle.tFill) (by simp [Bundle.messageArmAtoms]))
    cases Option.some.inj (q1.symm.trans hfound)
    cases Option.some.inj (q2.symm.trans (State.methodFound?_of_named Y.fill (by decide)))
    cases Option.some.inj (q3.symm.trans Y.fill)
    rw [Launch.admits_selectMethod X.admits]; exact q4
  obtain ⟨cellS0, hcS0, hiss⟩ := Y.statics
  obtain ⟨u0, hu0⟩ := Cond.staticRefV Y.unassigned L.unassignedStatic L.statics hcS0 hiss (a (.isRef (.static Bundle.tN "UNASSIGNED_STACK" Bundle.steD)) (by simp [Bundle.messageArmAtoms]))
  obtain ⟨sen, hsen⟩ := Cond.staticRefV Y.sentinel L.sentinelStatic L.statics hcS0 hiss (a (.isRef (.static Bundle.tN "SUPPRESSED_SENTINEL" Bundle.listD)) (by simp [Bundle.messageArmAtoms]))
  obtain ⟨ci198, i198, fB, hk198, hg198, ha198, hsB, -, hnB, htB, hffB⟩ := Cond.ownField (t := .object "java/lang/Object") Y.found L.cls (by decide +kernel) (a (.fieldLink Bundle.tN 198 Bundle.tN "backtrace" "Ljava/lang/Object;") (by simp [Bundle.messageArmAtoms])) (a (.lays Bundle.tN Bundle.tN "backtrace" "Ljava/lang/Object;") (by simp [Bundle.messageArmAtoms])) e.platform hpl
  obtain ⟨cellS, hcS', heS, -, hkeep⟩ := X.same.2.2.2.2.2 T.aS cellS0 hcS0
  have hcellS : W.heap[T.aS]? = some cellS := hcS'
  have hout' : ∀ i, (⟨T.aS, i⟩ : Loc) ∉ locs := fun i hmem => by
    have := hlocs _ hmem cellS0 hcS0
    rw [hiss] at this; cases this
  have hknownS : cellS.vm ≠ .unknown := by
    rw [heS]; intro hu
    rw [show cellS0.vm = .unknown from hu] at hiss
    cases hiss
  have hvU : cellS.slots[T.fUnassigned.slot]? = some u0.v := by rw [hkeep _ (hout' _)]; exact hu0
  have hvSen : cellS.slots[T.fSentinel.slot]? = some sen.v := by rw [hkeep _ (hout' _)]; exact hsen
  obtain ⟨iM, hffM⟩ := Y.msg
  obtain ⟨tyC, dC, hdC, hdnC⟩ := Cond.laysAt hfound hk Y.cause (a (.lays cls Bundle.tN "cause" "Ljava/lang/Throwable;") (by simp [Bundle.messageArmAtoms]))
  obtain ⟨tyS, dS, hdS, hdnS⟩ := Cond.laysAt hfound hk Y.stack (a (.lays cls Bundle.tN "stackTrace" Bundle.steD) (by simp [Bundle.messageArmAtoms]))
  obtain ⟨tyP, dP, hdP, hdnP⟩ := Cond.laysAt hfound hk Y.supp (a (.lays cls Bundle.tN "suppressedExceptions" Bundle.listD) (by simp [Bundle.messageArmAtoms]))
  obtain ⟨tyM, dM, hdM, hdnM⟩ := Cond.laysAt hfound hk hffM (a (.lays cls Bundle.tN "detailMessage" "Ljava/lang/String;") (by simp [Bundle.messageArmAtoms]))
  obtain ⟨tyB, dB, hdB, hdnB⟩ := Cond.laysAt hfound hk hffB (a (.lays cls Bundle.tN "backtrace" "Ljava/lang/Object;") (by simp [Bundle.messageArmAtoms]))
  have bC := Cond.laysApart hdB hdC hdnB hdnC (by rw [hnB, Y.causeName]; decide)
  have bS := Cond.laysApart hdB hdS hdnB hdnS (by rw [hnB, Y.stackName]; decide)
  have bP := Cond.laysApart hdB hdP hdnB hdnP (by rw [hnB, Y.suppName]; decide)
  have hbk : ((preparedCellV T.toThrowableT (freshCell P1.m.cls kX) (W.heap.size + 2) u0 sen).withEntry W.cur).slots[fB.slot]? = some .null := by
    have := fresh_default (c := P1.m.cls) tyB
    rw [htB] at this
    simpa [preparedCellV, Cell.setSlot, Cell.withEntry, Array.getElem?_setIfInBounds, bC, bS, bP, bC.symm, bS.symm, bP.symm, defaultValue] using this
  have tkC := Takes.of_laid (v := .ref (W.heap.size + 2)) hk hord tyC (by rw [Y.causeType]; rfl)
  have tkS := Takes.of_laid (v := u0.v) hk hord tyS (by rw [Y.stackType]; exact fits_refV_array _ u0)
  have tkP := Takes.of_laid (v := sen.v) hk hord tyP (by rw [Y.suppType]; exact fits_refV_object _ sen)
  have tkM := Takes.of_laid (v := .ref (W.heap.size + 1)) hk hord tyM (by rw [Y.msgType]; rfl)
  have hskip : SkipFacts T e.platform s (fun u => u) u0 ((preparedCellV T.toThrowableT (freshCell P1.m.cls kX) (W.heap.size + 2) u0 sen).withEntry W.cur) := ⟨{ ci198 := ci198, i198 := i198, fBack := fB }, ⟨hk198, hg198, ha198, hsB⟩, hbk, fun _ _ => rfl⟩
  have h0 : At W g.method c below := by rw [hg]; exact X.here
  obtain ⟨hbeyond, hfreeW⟩ := X.vmMayThrow hsize (.throwNew cls (some text) none) (fun f hf => by cases hf) rfl hRlocals
  have hfr' : W.frames.length + Ps.length + 4 < (e.platform.stackLimits W.me).1 := by have := X.framesAbove hRframes; omega
  have hwd' : (stackUse (.java g :: W.frames.tail)).2 + 13 * Ps.length + 55 ≤ (e.platform.stackLimits W.me).2 := by have := X.stackAbove hsize (K := 13 * Ps.length + 55) (by omega); omega
  have hslots : W.slotsUsed + (stringBytes (stringToUtf16 text)).size + Zs.kS.instanceTypes.size + kX.instanceTypes.size ≤ e.platform.maxSlots := by
    have := X.slotsAbove hRslots
    rw [hn4, hn6]
    omega
  obtain ⟨vm', hW', st⟩ := Steps.vmThrowsMessageColdByV p (s₀ := s) (S := W) (g := g) h0 hexec T L Z LZ M LM X.warmed (t := W.cur) rfl Zs LZs P1 L1 Ps hL hlink1 hlink hsoe hoom hfound hk hinit hord hctor
    (Launch.admits_hotImplicitExceptions X.admits) hbeyond hfreeW htext hlimit hheap (X.cellsAbove hRcells) hslots (hfitv _) (hfitc _)
    (Nn := fun u => u) heapOnly_id (fun _ _ => rfl) (fun _ => rfl) (fun u x y => setCell_twice _ _ _ _) (fun _ => Nat.le_refl _) (cN := ((preparedCellV T.toThrowableT (freshCell P1.m.cls kX) (W.heap.size + 2) u0 sen).withEntry W.cur))
    hsel0 hcellS hknownS hvU tkS (fun _ hu => hu) (fun _ hu => hu) rfl rfl rfl (by simp [preparedCellV, Cell.setSlot, Cell.withEntry]) hskip (fun _ _ hA hW _ hroom _ hrest => L.nativeOff p htr hA hW hroom hrest) hselF hvSen tkC tkP tkM Y.objLocals rfl hfr' hwd'
  rw [plainBareV_eq T.toThrowableT (W.heap.size + 2) u0 sen (.ref (W.heap.size + 1)) W.cur rfl rfl] at st
  obtain ⟨-, -, w3, w4, -, -, -⟩ := withThrown_facts e.platform W Zs text P1.m.cls kX
  have X3 := ((X.pushed (bytesOf Zs.cB (stringToUtf16 text))).pushed (stringAt Zs.cS Zs.kS Zs.fv Zs.fc (stringToUtf16 text) W.heap.size)).pushed (freshCell P1.m.cls kX)
  rw [← withString_eq] at X3
  have X4 := X3.noted hW'
  have ha : (W.heap.size + 2) < ((withThrown W Zs text P1.m.cls kX).setVm vm').heap.size := by show _ < (withThrown W Zs text P1.m.cls kX).heap.size; rw [w3]; omega
  have hcell : ((withThrown W Zs text P1.m.cls kX).setVm vm').heap[(W.heap.size + 2)]? = some (freshCell P1.m.cls kX) := w4
  have X5 := ((((X4.stored hcell T.fCause.slot (.ref (W.heap.size + 2))).storedAgain ha T.fStack.slot u0.v).storedAgain ha T.fSupp.slot sen.v).storedAgain ha T.fStack.slot u0.v).storedAgain ha T.fMsg.slot (.ref (W.heap.size + 1))
  obtain ⟨g₁, hfrM⟩ := X5.frames_eq
  have hU : ((((withThrown W Zs text P1.m.cls kX).setVm vm').setCell (W.heap.size + 2) (plainBareV T.toThrowableT (freshCell P1.m.cls kX) (W.heap.size + 2) u0 sen (.ref (W.heap.size + 1)))).setTop g).pushFrame (.throwing (W.heap.size + 2)) = (((withThrown W Zs text P1.m.cls kX).setVm vm').setCell (W.heap.size + 2) (plainBareV T.toThrowableT (freshCell P1.m.cls kX) (W.heap.size + 2) u0 sen (.ref (W.heap.size + 1)))).setFrames (.throwing (W.heap.size + 2) :: .java g :: below) := by
    rw [State.pushFrame, State.frames_setTop _ hfrM, State.setTop_of_frames _ hfrM, State.setFrames_setFrames]
  have b1 : (bytesOf Zs.cB (stringToUtf16 text)).slots.size = (stringBytes (stringToUtf16 text)).size := by
    rw [(Cell.writeAll_facts _ _).2.2]; simp [bytes0]
  have b2 : (stringAt Zs.cS Zs.kS Zs.fv Zs.fc (stringToUtf16 text) W.heap.size).slots.size = 4 := by simp [string0, Cell.setSlot, hn4]
  have b3 : (freshCell P1.m.cls kX).slots.size = 6 := by simp [hn6]
  rw [b1, b2, b3] at X5
  have e9 : slots + (stringBytes (stringToUtf16 text)).size + 4 + 6 = slots + ((stringBytes (stringToUtf16 text)).size + 4 + 6) := by omega
  rw [e9] at X5
  simp only [List.append_assoc, List.cons_append, List.nil_append] at X5
  refine ⟨((withThrown W Zs text P1.m.cls kX).setVm vm').setCell (W.heap.size + 2) (plainBareV T.toThrowableT (freshCell P1.m.cls kX) (W.heap.size + 2) u0 sen (.ref (W.heap.size + 1))), W.heap.size + 2, _, fun target ht => st _ (by rw [X.tail, ← hU]; exact ht),
    X5.forget (fun y hy => ?_), heapAt_setCell_self _ ha, hfound, rfl⟩
  simp only [List.mem_cons, List.not_mem_nil, or_false] at hy
  have hge : s.heap.size ≤ W.heap.size := X.same.2.1
  rcases hy with rfl | rfl | rfl | rfl | rfl <;> exact Nat.le_trans hge (Nat.le_add_right _ 2)
set_option maxHeartbeats 1000000 in
/-- the machine throws NullPointerException, no traces kept: from its note over the frame g to 'throwing' over the same frame (follows the proof of Stand.vmThrowsNpe, Shelf42/KT2.lean; throwsNpeColdBareVAt, Shelf42/NT91.lean, called) -/
theorem vx_npeAt {p : Program} {l : Launch} {e : Env} {R : Room} {s : State} {m₀ : MethodId} {args : Array Value} {below : List Frame} {meth : Method} {c : Code} {W : State} {locs : List Loc} {cells slots : Nat}
    (X : Stand p l e R s m₀ args below meth c W locs cells slots) (hexec : p.tables.exec = Jvm.exec) (htr : e.platform.stackTraces = false) {n : Nat}
    (h : ∀ a ∈ Bundle.npeArmAtoms n, a.before args s = true)
    (hlocs : ∀ x ∈ locs, ∀ cell, s.heap[x.base]? = some cell → cell.vm.isStatics = false)
    {g : JFrame} (hg : g.method = m₀) (hsize : g.locals.size = c.maxLocals)
    (hRframes : 7 < R.frames) (hRlocals : 2 * g.monitorRoom + (g.stack.map fun v => v.category).sum + 10240 ≤ R.locals)
    (hRcells : cells + 1 ≤ R.cells) (hRslots : slots + n ≤ R.slots) (hlocks : meth.locks = false) :
    ∃ (S : State) (q : Addr) (ce : Cell), (∀ target, Steps p.tables e below ((S.setTop g).pushFrame (.throwing q)) target → Steps p.tables e below ((W.setTop g).pushFrame (.throwNew "java/lang/NullPointerException" none none)) target) ∧
      Stand p l e R s m₀ args below meth c S locs (cells + 1) (slots + n) ∧ S.heap[q]? = some ce ∧ s.vm.findClass "java/lang/NullPointerException" = some ce.cls ∧ ce.vm = .none := by
  have howns : e.platform.frameOwnsMonitors = true := by rw [X.admits.platform]
  have hfin : e.platform.finalization = false := by rw [X.admits.platform]
  have hpl : e.platform.magicAccessors = ({} : Platform).magicAccessors := by rw [X.admits.platform]
  have hpl2 : e.platform.arrayCloneIsPublic = true := by rw [X.admits.platform]
  have a' : ∀ x, x ∈ Bundle.npeArmAtoms n → x.holds args s none s [] = true := fun x hx => h x hx
  obtain ⟨T, Z, L, LZ, Y⟩ := ThrowableC.of_atoms (args := args) howns hfin hpl (fun x hx => h x (by simp [Bundle.npeArmAtoms, hx]))
  obtain ⟨N, LN, hcN, hnNF, hordN, hffS⟩ := NpeC.of_atoms (args := args) hpl hpl2 L Y (fun x hx => h x (by simp [Bundle.npeArmAtoms, hx]))
  obtain ⟨P1, L1, hP1m, hP1s⟩ := PassC.of_atoms (args := args) (s := s) hpl (X := Bundle.nN) (Y := Bundle.rN) (by decide) (by decide) LibCode.NullPointerException.Init0.at_0 LibCode.NullPointerException.Init0.at_1 LibCode.NullPointerException.Init0.at_4 (fun x hx => h x (by simp [Bundle.npeArmAtoms, hx]))
  obtain ⟨PR, LR, hPRm, hPRs⟩ := PassC.of_atoms (args := args) (s := s) hpl (X := Bundle.rN) (Y := Bundle.eN) (by decide) (by decide) LibCode.RuntimeException.Init0.at_0 LibCode.RuntimeException.Init0.at_1 LibCode.RuntimeException.Init0.at_4 (fun x hx => h x (by simp [Bundle.npeArmAtoms, hx]))
  obtain ⟨PE, LEx, hPEm, hPEs⟩ := PassC.of_atoms (args := args) (s := s) hpl (X := Bundle.eN) (Y := Bundle.tN) (by decide) (by decide) LibCode.Exception.Init0.at_0 LibCode.Exception.Init0.at_1 LibCode.Exception.Init0.at_4 (fun x hx => h x (by simp [Bundle.npeArmAtoms, hx]))
  have hfound : s.vm.findClass Bundle.nN = some P1.m.cls := findClass_of_methodNamed hP1m
  have ecls : N.cN = P1.m.cls := Option.some.inj (hcN.symm.trans hfound)
  have hk : s.vm.classes[P1.m.cls]? = some N.kN := by rw [← ecls]; exact LN.cls
  have hinit := Cond.initialized_spec hfound hk (a' (.initialized Bundle.nN) (by simp [Bundle.npeArmAtoms]))
  have hctor : N.kN.findMethod "<init>" "()V" = some P1.m.idx := findMethod_of_methodNamed hP1m hk
  obtain ⟨c1, k1, hc1, hk1, -, -, -, hn⟩ := Cond.instantiable_spec (a' (.instantiable Bundle.nN n) (by simp [Bundle.npeArmAtoms]))
  cases Option.some.inj (hc1.symm.trans hfound)
  cases Option.some.inj (hk1.symm.trans hk)
  have hfsz : (freshCell P1.m.cls N.kN).slots.size = n := by simp [hn]
  have hlink1 : P1.sup = PR.m := Option.some.inj (hP1s.symm.trans hPRm)
  have hlinkR : PR.sup = PE.m := Option.some.inj (hPRs.symm.trans hPEm)
  have hlinkE : PE.sup = Z.m T.toThrowableT := Option.some.inj (hPEs.symm.trans Y.init0)
  have hLs : ∀ P, P ∈ [PR, PE] → P.Links0 e.platform s := fun P hP => by
    simp only [List.mem_cons, List.not_mem_nil, or_false] at hP
    rcases hP with rfl | rfl
    · exact LR
    · exact LEx
  have hsel0 : selectMethod e.platform s.vm P1.m.cls T.fill0 = .method T.fill0 := by
    obtain ⟨c2, r2, m2, q1, q2, q3, q4, -⟩ := Cond.selects_spec (a' (.selects Bundle.nN Bundle.tFill0 Bundle.tFill0) (by simp [Bundle.npeArmAtoms]))
    cases Option.some.inj (q1.symm.trans hfound)
    cases Option.some.inj (q2.symm.trans (State.methodFound?_of_named Y.fill0 (by decide)))
    cases Option.some.inj (q3.symm.trans Y.fill0)
    rw [Launch.admits_selectMethod X.admits]; exact q4
  have hselF : selectMethod e.platform s.vm P1.m.cls T.fill = .method N.fill := by
    obtain ⟨c2, r2, m2, q1, q2, q3, q4, -⟩ := Cond.selects_spec (a' (.selects Bundle.nN Bundle.tFill Bundle.nFill) (by simp [Bundle.npeArmAtoms]))
    cases Option.some.inj (q1.symm.trans hfound)
    cases Option.some.inj (q2.symm.trans (State.methodFound?_of_named Y.fill (by decide)))
    cases Option.some.inj (q3.symm.trans hnNF)
    rw [Launch.admits_selectMethod X.admits]; exact q4
  obtain ⟨cellS0, hcS0, hiss⟩ := Y.statics
  obtain ⟨u0, hu0⟩ := Cond.staticRefV Y.unassigned L.unassignedStatic L.statics hcS0 hiss (a' (.isRef (.static Bundle.tN "UNASSIGNED_STACK" Bundle.steD)) (by simp [Bundle.npeArmAtoms]))
  obtain ⟨sen, hsen⟩ := Cond.staticRefV Y.sentinel L.sentinelStatic L.statics hcS0 hiss (a' (.isRef (.static Bundle.tN "SUPPRESSED_SENTINEL" Bundle.listD)) (by simp [Bundle.npeArmAtoms]))
  obtain ⟨ci198, i198, fB, hk198, hg198, ha198, hsB, -, hnB, htB, hffB⟩ := Cond.ownField (t := .object "java/lang/Object") Y.found L.cls (by decide +kernel) (a' (.fieldLink Bundle.tN 198 Bundle.tN "backtrace" Bundle.objD) (by simp [Bundle.npeArmAtoms])) (a' (.lays Bundle.tN Bundle.tN "backtrace" Bundle.objD) (by simp [Bundle.npeArmAtoms])) e.platform hpl
  obtain ⟨cellS, hcS', heS, -, hkeep⟩ := X.same.2.2.2.2.2 T.aS cellS0 hcS0
  have hcellS : W.heap[T.aS]? = some cellS := hcS'
  have hout' : ∀ i, (⟨T.aS, i⟩ : Loc) ∉ locs := fun i hmem => by
    have := hlocs _ hmem cellS0 hcS0
    rw [hiss] at this; cases this
  have hknownS : cellS.vm ≠ .unknown := by
    rw [heS]; intro hu
    rw [show cellS0.vm = .unknown from hu] at hiss
    cases hiss
  have hvU : cellS.slots[T.fUnassigned.slot]? = some u0.v := by rw [hkeep _ (hout' _)]; exact hu0
  have hvSen : cellS.slots[T.fSentinel.slot]? = some sen.v := by rw [hkeep _ (hout' _)]; exact hsen
  obtain ⟨tyC, dC, hdC, hdnC⟩ := Cond.laysAt hfound hk Y.cause (a' (.lays Bundle.nN Bundle.tN "cause" "Ljava/lang/Throwable;") (by simp [Bundle.npeArmAtoms]))
  obtain ⟨tyS, dS, hdS, hdnS⟩ := Cond.laysAt hfound hk Y.stack (a' (.lays Bundle.nN Bundle.tN "stackTrace" Bundle.steD) (by simp [Bundle.npeArmAtoms]))
  obtain ⟨tyP, dP, hdP, hdnP⟩ := Cond.laysAt hfound hk Y.supp (a' (.lays Bundle.nN Bundle.tN "suppressedExceptions" Bundle.listD) (by simp [Bundle.npeArmAtoms]))
  obtain ⟨tyX, dX, hdX, hdnX⟩ := Cond.laysAt hfound hk hffS (a' (.lays Bundle.nN Bundle.nN "extendedMessageState" "I") (by simp [Bundle.npeArmAtoms, Bundle.npeAtoms]))
  obtain ⟨hnX, htX⟩ := State.fieldFound?_type hffS (t := .int) (by decide +kernel)
  have xC := Cond.laysApart hdC hdX hdnC hdnX (by rw [hnX, Y.causeName]; decide)
  have xS := Cond.laysApart hdS hdX hdnS hdnX (by rw [hnX, Y.stackName]; decide)
  have xP := Cond.laysApart hdP hdX hdnP hdnX (by rw [hnX, Y.suppName]; decide)
  have hv0 : (freshCell P1.m.cls N.kN).slots[N.fState.slot]? = some (.int 0) := by
    have := fresh_default (c := P1.m.cls) tyX
    rw [htX] at this; exact this
  obtain ⟨tyB, dB, hdB, hdnB⟩ := Cond.laysAt hfound hk hffB (a' (.lays Bundle.nN Bundle.tN "backtrace" Bundle.objD) (by simp [Bundle.npeArmAtoms]))
  have bC := Cond.laysApart hdB hdC hdnB hdnC (by rw [hnB, Y.causeName]; decide)
  have bS := Cond.laysApart hdB hdS hdnB hdnS (by rw [hnB, Y.stackName]; decide)
  have bP := Cond.laysApart hdB hdP hdnB hdnP (by rw [hnB, Y.suppName]; decide)
  have bX := Cond.laysApart hdB hdX hdnB hdnX (by rw [hnB, hnX]; decide)
  have hbk : ((npeCell N.toNpeT (preparedCellV T.toThrowableT (freshCell P1.m.cls N.kN) W.heap.size u0 sen) W.cur).withEntry W.cur).slots[fB.slot]? = some .null := by
    have := fresh_default (c := P1.m.cls) tyB
    rw [htB] at this
    simpa [npeCell, preparedCellV, Cell.setSlot, Cell.withEntry, Array.getElem?_setIfInBounds, bC, bS, bP, bX, bC.symm, bS.symm, bP.symm, bX.symm, defaultValue] using this
  have tkC := Takes.of_laid (v := .ref W.heap.size) hk hordN tyC (by rw [Y.causeType]; rfl)
  have tkS := Takes.of_laid (v := u0.v) hk hordN tyS (by rw [Y.stackType]; exact fits_refV_array _ u0)
  have tkP := Takes.of_laid (v := sen.v) hk hordN tyP (by rw [Y.suppType]; exact fits_refV_object _ sen)
  have tkX := Takes.of_laid (v := .int 1) hk hordN tyX (by rw [htX]; rfl)
  have hskip : SkipFacts T e.platform s (fun u => u) u0 ((npeCell N.toNpeT (preparedCellV T.toThrowableT (freshCell P1.m.cls N.kN) W.heap.size u0 sen) W.cur).withEntry W.cur) := ⟨{ ci198 := ci198, i198 := i198, fBack := fB }, ⟨hk198, hg198, ha198, hsB⟩, hbk, fun _ _ => rfl⟩
  obtain ⟨vm', X3, st, -⟩ := X.throwsNpeColdBareVAt hexec hg hsize T L Z LZ N LN P1 L1 [PR, PE] hLs hlink1 ⟨hlinkR, hlinkE, trivial⟩ hfound hk hinit hordN hctor hsel0 hselF hcellS hknownS hvU hvSen
    hv0 xC xS xP tkC tkS tkP tkX Y.objLocals hskip (fun _ _ hA hW _ hroom _ hrest => L.nativeOff p htr hA hW hroom hrest) (by simpa using hRframes) hRlocals (by simp) hRcells (by rw [hn]; exact hRslots)
  have hlt : W.heap.size < ((W.pushCell (freshCell P1.m.cls N.kN)).setVm vm').heap.size := by
    show W.heap.size < (W.pushCell (freshCell P1.m.cls N.kN)).heap.size
    rw [State.heap_size_pushCell]; omega
  rw [hfsz] at X3
  obtain ⟨g₁, hfrM⟩ := X3.frames_eq
  have hU : ((((W.pushCell (freshCell P1.m.cls N.kN)).setVm vm').setCell W.heap.size (npeBareV T.toThrowableT N.toNpeT (freshCell P1.m.cls N.kN) W.heap.size u0 sen)).setTop g).pushFrame (.throwing W.heap.size) = (((W.pushCell (freshCell P1.m.cls N.kN)).setVm vm').setCell W.heap.size (npeBareV T.toThrowableT N.toNpeT (freshCell P1.m.cls N.kN) W.heap.size u0 sen)).setFrames (.throwing W.heap.size :: .java g :: below) := by
    rw [State.pushFrame, State.frames_setTop _ hfrM, State.setTop_of_frames _ hfrM, State.setFrames_setFrames]
  refine ⟨_, W.heap.size, _, fun target ht => st.trans (by rw [← hU]; exact ht), X3.forget (fun y hy => ?_), heapAt_setCell_self _ hlt, hfound, rfl⟩
  simp only [List.mem_cons, List.not_mem_nil, or_false] at hy
  have hge : s.heap.size ≤ W.heap.size := X.same.2.1
  rcases hy with rfl | rfl | rfl | rfl | rfl <;> exact hge
/-- the words of a machine's NullPointerException, but the four that speak of the heap -/
def vx_atN (n : Nat) : List Cond := (Bundle.npeArmAtoms n).filter vx_no
/-- the words of a machine's throw with a message, but the four that speak of the heap -/
def vx_atM (X : String) (names : List String) : List Cond := (Bundle.messageArmAtoms X names).filter vx_no
section
variable {p : Program} {l : Launch} {e : Env} {R : Room} {s : State} {m : MethodId} {args : Array Value} {below : List Frame} {meth : Method} {c : Code} {H : Heap} {locs : List Loc} {cells slots : Nat}
/-- a frame seen from a rebased start, seen from the first start again -/
theorem vx_back9 {T S : State} {R' : Room} {k n : Nat} (X : Stand p l e R s m args below meth c T locs cells slots) (Y : Stand p l e R' ((T.setVm s.vm).setFrames (.invoking m args :: below)) m args below meth c T [] 0 0) (Z : Stand p l e R' ((T.setVm s.vm).setFrames (.invoking m args :: below)) m args below meth c S [] k n) :
    Stand p l e R s m args below meth c S locs (cells + k) (slots + n) := by
  have hW0 : s.WarmedH ((T.setVm s.vm).setFrames (.invoking m args :: below)).vm := State.WarmedH.refl s
  refine { admits := X.admits, cas := X.cas, clock := X.clock, frames := X.frames, room := X.room, hears := X.hears, method := X.method, code := X.code, here := Z.here, tail := Z.tail, warmed := State.WarmedH.trans hW0 Z.warmed, limits := Z.limits.trans (Y.limits.symm.trans X.limits), bytes := Z.bytes.trans (Y.bytes.symm.trans X.bytes), same := ?_ }
  obtain ⟨e1, e2⟩ := Z.same
  rw [State.setFrames_setFrames] at e1
  have h2 : (T.setVm s.vm).sameButNew (S.setVm s.vm) [] k n := ⟨e1, e2⟩
  have h3 := X.same.trans h2
  rw [List.append_nil] at h3
  exact h3
/-- from the machine's note that E is thrown here with this text -/
def vx_Note (p : Program) (l : Launch) (e : Env) (R : Room) (s : State) (m : MethodId) (args : Array Value) (below : List Frame) (meth : Method) (c : Code) (H : Heap) (locs : List Loc) (cells slots : Nat) (Q : State → Prop) (g : JFrame) (E text : String) : Prop :=
  ∀ T : State, T.heap = H → Stand p l e R s m args below meth c T locs cells slots → ∃ t, Steps p.tables e below ((T.setTop g).pushFrame (.throwNew E (some text) none)) t ∧ Q t
theorem vx_vm {pc : Nat} {ls : Array Slot} {rest : List Value} {Q : State → Prop} (hexec : p.tables.exec = Jvm.exec) (hl : l.stackTraces = false) {cls text : String} {names : List String} {nb : Nat} {A : Nat → Prop}
    (hcls : Bundle.fit cls = true) (hnames : ∀ n ∈ names, Bundle.fit n = true) (hsoe : (cls == "java/lang/StackOverflowError") = false) (hoom : (cls == "java/lang/OutOfMemoryError") = false)
    (hat : ∀ w ∈ vx_atM cls names, w.before args s = true) (hgood : ∀ w ∈ vx_atM cls names, vx_ot w = true)
    (hU : vx_Zq Bundle.tN "UNASSIGNED_STACK" Bundle.steD A s s.heap) (hN : vx_Zq Bundle.tN "SUPPRESSED_SENTINEL" Bundle.listD A s s.heap) (hS : va_S A s.heap H locs) (hsize : ls.size = c.maxLocals)
    (htext : (text == notModelled) = false) (hnb : (stringBytes (stringToUtf16 text)).size ≤ nb) (hnb1 : nb ≤ 1000)
    (hRframes : names.length + 4 < R.frames) (hRlocals : (rest.map fun v => v.category).sum + 10240 ≤ R.locals) (hshort : 13 * names.length + 55 ≤ 10240) (hRcells : cells + 3 ≤ R.cells) (hRslots : slots + (nb + 10) ≤ R.slots) (hlocks : meth.locks = false)
    (k : ∀ (H1 : Heap) (q9 : Addr) (ce : Cell), H.size ≤ H1.size → (∀ q : Nat, q < H.size → H1[q]? = H[q]?) → va_S A s.heap H1 locs → H1[q9]? = some ce → ce.vm = .none → s.vm.findClass cls = some ce.cls → vx_W p l e R s m args below meth c H1 locs (cells + 3) (slots + (nb + 10)) Q (F0 m pc ls rest) q9) :
    vx_Note p l e R s m args below meth c H locs cells slots Q (F0 m pc ls rest) cls text := by
  intro T hT X
  have htr : e.platform.stackTraces = false := (show e.platform.stackTraces = l.stackTraces by rw [X.admits.platform]).trans hl
  have Y := vx_rebase X (R' := { frames := R.frames, locals := R.locals, cells := 3, slots := nb + 10 }) (Nat.le_refl _) (Nat.le_refl _) hRcells hRslots
  have hhp : ((T.setVm s.vm).setFrames (.invoking m args :: below)).heap = H := hT
  have hW0 : s.WarmedH ((T.setVm s.vm).setFrames (.invoking m args :: below)).vm := State.WarmedH.refl s
  have hat' : ∀ w ∈ vx_atM cls names, w.before args ((T.setVm s.vm).setFrames (.invoking m args :: below)) = true := fun w hw => vx_ot_at hW0 rfl (hgood w hw) (hat w hw)
  have hU' : vx_Zq Bundle.tN "UNASSIGNED_STACK" Bundle.steD A ((T.setVm s.vm).setFrames (.invoking m args :: below)) ((T.setVm s.vm).setFrames (.invoking m args :: below)).heap := by rw [hhp]; exact vx_Zq.moved hW0.alike (hU.kept hS.2.1)
  have hN' : vx_Zq Bundle.tN "SUPPRESSED_SENTINEL" Bundle.listD A ((T.setVm s.vm).setFrames (.invoking m args :: below)) ((T.setVm s.vm).setFrames (.invoking m args :: below)).heap := by rw [hhp]; exact vx_Zq.moved hW0.alike (hN.kept hS.2.1)
  obtain ⟨S, q, ce, st, Z, hce, hcl', hv⟩ := vx_vmAt Y hexec htr (cls := cls) (names := names) (text := text) hcls hnames hsoe hoom (vx_own hat' (vx_isRefq hU'.1) (vx_isRefq hN'.1) hU'.2.word hN'.2.word) (fun x hx => nomatch hx) htext
    (by rw [Launch.admits_arrayLengthLimit X.admits]; omega) (by rw [Launch.admits_maxHeapBytes X.admits]; simp only [componentBytes]; omega)
    (g := F0 m pc ls rest) rfl hsize hRframes (by show 2 * 0 + (rest.map fun v => v.category).sum + 10240 ≤ R.locals; omega) hshort (by show 0 + 3 ≤ 3; omega) (by show 0 + (_ + 4 + 6) ≤ nb + 10; omega) hlocks
  obtain ⟨f1, f2⟩ := vx_frame Z.same
  have f1' : H.size ≤ S.heap.size := by rw [← hT]; exact f1
  have f2' : ∀ q : Nat, q < H.size → S.heap[q]? = H[q]? := fun q hq => by
    rw [← hT]
    exact f2 q (by rw [← hT] at hq; exact hq) (fun z hz => nomatch hz)
  have X5 := vx_back9 X Y Z
  have X6 : Stand p l e R s m args below meth c S locs (cells + 3) (slots + (nb + 10)) := { X5 with same := X5.same.mono (by omega) (by omega) }
  obtain ⟨t, a1, b1⟩ := k S.heap q ce f1' f2' ⟨Nat.le_trans hS.1 f1', fun q h1 h2 => (f2' q (Nat.lt_of_lt_of_le h1 hS.1)).trans (hS.2.1 q h1 h2), hS.2.2⟩ hce hv hcl' S rfl X6
  exact ⟨t, st t a1, b1⟩
/-- from the machine's note that NullPointerException is thrown here -/
def vx_NoteN (p : Program) (l : Launch) (e : Env) (R : Room) (s : State) (m : MethodId) (args : Array Value) (below : List Frame) (meth : Method) (c : Code) (H : Heap) (locs : List Loc) (cells slots : Nat) (Q : State → Prop) (g : JFrame) : Prop :=
  ∀ T : State, T.heap = H → Stand p l e R s m args below meth c T locs cells slots → ∃ t, Steps p.tables e below ((T.setTop g).pushFrame (.throwNew "java/lang/NullPointerException" none none)) t ∧ Q t
theorem vx_npe {pc : Nat} {ls : Array Slot} {rest : List Value} {Q : State → Prop} (hexec : p.tables.exec = Jvm.exec) (hl : l.stackTraces = false) {nb : Nat} {A : Nat → Prop}
    (hat : ∀ w ∈ vx_atN nb, w.before args s = true) (hgood : ∀ w ∈ vx_atN nb, vx_ot w = true)
    (hU : vx_Zq Bundle.tN "UNASSIGNED_STACK" Bundle.steD A s s.heap) (hN : vx_Zq Bundle.tN "SUPPRESSED_SENTINEL" Bundle.listD A s s.heap) (hS : va_S A s.heap H locs) (hsize : ls.size = c.maxLocals)
    (hRframes : 7 < R.frames) (hRlocals : (rest.map fun v => v.category).sum + 10240 ≤ R.locals) (hRcells : cells + 1 ≤ R.cells) (hRslots : slots + nb ≤ R.slots) (hlocks : meth.locks = false)
    (k : ∀ (H1 : Heap) (q9 : Addr) (ce : Cell), H.size ≤ H1.size → (∀ q : Nat, q < H.size → H1[q]? = H[q]?) → va_S A s.heap H1 locs → H1[q9]? = some ce → ce.vm = .none → s.vm.findClass "java/lang/NullPointerException" = some ce.cls → vx_W p l e R s m args below meth c H1 locs (cells + 1) (slots + nb) Q (F0 m pc ls rest) q9) :
    vx_NoteN p l e R s m args below meth c H locs cells slots Q (F0 m pc ls rest) := by
  intro T hT X
  have htr : e.platform.stackTraces = false := (show e.platform.stackTraces = l.stackTraces by rw [X.admits.platform]).trans hl
  have Y := vx_rebase X (R' := { frames := R.frames, locals := R.locals, cells := 1, slots := nb }) (Nat.le_refl _) (Nat.le_refl _) hRcells hRslots
  have hhp : ((T.setVm s.vm).setFrames (.invoking m args :: below)).heap = H := hT
  have hW0 : s.WarmedH ((T.setVm s.vm).setFrames (.invoking m args :: below)).vm := State.WarmedH.refl s
  have hat' : ∀ w ∈ vx_atN nb, w.before args ((T.setVm s.vm).setFrames (.invoking m args :: below)) = true := fun w hw => vx_ot_at hW0 rfl (hgood w hw) (hat w hw)
  have hU' : vx_Zq Bundle.tN "UNASSIGNED_STACK" Bundle.steD A ((T.setVm s.vm).setFrames (.invoking m args :: below)) ((T.setVm s.vm).setFrames (.invoking m args :: below)).heap := by rw [hhp]; exact vx_Zq.moved hW0.alike (hU.kept hS.2.1)
  have hN' : vx_Zq Bundle.tN "SUPPRESSED_SENTINEL" Bundle.listD A ((T.setVm s.vm).setFrames (.invoking m args :: below)) ((T.setVm s.vm).setFrames (.invoking m args :: below)).heap := by rw [hhp]; exact vx_Zq.moved hW0.alike (hN.kept hS.2.1)
  obtain ⟨S, q, ce, st, Z, hce, hcl', hv⟩ := vx_npeAt Y hexec htr (n := nb) (vx_own hat' (vx_isRefq hU'.1) (vx_isRefq hN'.1) hU'.2.word hN'.2.word) (fun x hx => nomatch hx)
    (g := F0 m pc ls rest) rfl hsize hRframes (by show 2 * 0 + (rest.map fun v => v.category).sum + 10240 ≤ R.locals; omega) (by show 0 + 1 ≤ 1; omega) (by show 0 + nb ≤ nb; omega) hlocks
  obtain ⟨f1, f2⟩ := vx_frame Z.same
  have f1' : H.size ≤ S.heap.size := by rw [← hT]; exact f1
  have f2' : ∀ q : Nat, q < H.size → S.heap[q]? = H[q]? := fun q hq => by
    rw [← hT]
    exact f2 q (by rw [← hT] at hq; exact hq) (fun z hz => nomatch hz)
  have X5 := vx_back9 X Y Z
  have X6 : Stand p l e R s m args below meth c S locs (cells + 1) (slots + nb) := { X5 with same := X5.same.mono (by omega) (by omega) }
  obtain ⟨t, a1, b1⟩ := k S.heap q ce f1' f2' ⟨Nat.le_trans hS.1 f1', fun q h1 h2 => (f2' q (Nat.lt_of_lt_of_le h1 hS.1)).trans (hS.2.1 q h1 h2), hS.2.2⟩ hce hv hcl' S rfl X6
  exact ⟨t, st t a1, b1⟩
variable {Q : State → Prop} {cc : ByteArray} {pc : Nat} {ls : Array Slot} {rest : List Value}
theorem vx_idivZ (hexec : p.tables.exec = Jvm.exec) (hb : c.code = cc) {a b : Int32} (h0 : b = 0) (d : decode cc pc = .ok (.idiv, 1)) (k : vx_Note p l e R s m args below meth c H locs cells slots Q (F0 m pc ls rest) "java/lang/ArithmeticException" "/ by zero") :
    W p l e R s m args below meth c H locs cells slots Q (F0 m pc ls (.int b :: .int a :: rest)) := by
  intro T hT X
  obtain ⟨t, st, q⟩ := k T hT X
  exact ⟨t, X.idivZero hexec (g := F0 m pc ls (.int b :: .int a :: rest)) rfl (a := a) (rest := rest) (by rw [h0]) (by rw [hb]; exact d) t st, q⟩
theorem vx_iremZ (hexec : p.tables.exec = Jvm.exec) (hb : c.code = cc) {a b : Int32} (h0 : b = 0) (d : decode cc pc = .ok (.irem, 1)) (k : vx_Note p l e R s m args below meth c H locs cells slots Q (F0 m pc ls rest) "java/lang/ArithmeticException" "/ by zero") :
    W p l e R s m args below meth c H locs cells slots Q (F0 m pc ls (.int b :: .int a :: rest)) := by
  intro T hT X
  obtain ⟨t, st, q⟩ := k T hT X
  exact ⟨t, X.iremZero hexec (g := F0 m pc ls (.int b :: .int a :: rest)) rfl (a := a) (rest := rest) (by rw [h0]) (by rw [hb]; exact d) t st, q⟩
theorem vx_ldivZ (hexec : p.tables.exec = Jvm.exec) (hb : c.code = cc) {a b : Int64} (h0 : b = 0) (d : decode cc pc = .ok (.ldiv, 1)) (k : vx_Note p l e R s m args below meth c H locs cells slots Q (F0 m pc ls rest) "java/lang/ArithmeticException" "/ by zero") :
    W p l e R s m args below meth c H locs cells slots Q (F0 m pc ls (.long b :: .long a :: rest)) := by
  intro T hT X
  obtain ⟨t, st, q⟩ := k T hT X
  exact ⟨t, X.ldivZero hexec (g := F0 m pc ls (.long b :: .long a :: rest)) rfl (a := a) (rest := rest) (by rw [h0]) (by rw [hb]; exact d) t st, q⟩
theorem vx_lremZ (hexec : p.tables.exec = Jvm.exec) (hb : c.code = cc) {a b : Int64} (h0 : b = 0) (d : decode cc pc = .ok (.lrem, 1)) (k : vx_Note p l e R s m args below meth c H locs cells slots Q (F0 m pc ls rest) "java/lang/ArithmeticException" "/ by zero") :
    W p l e R s m args below meth c H locs cells slots Q (F0 m pc ls (.long b :: .long a :: rest)) := by
  intro T hT X
  obtain ⟨t, st, q⟩ := k T hT X
  exact ⟨t, X.lremZero hexec (g := F0 m pc ls (.long b :: .long a :: rest)) rfl (a := a) (rest := rest) (by rw [h0]) (by rw [hb]; exact d) t st, q⟩
theorem vx_ialdZ {D : va_G} {cl : List vw_C} {ws : va_W} {tys : List (ClassId × FieldType)} {a : Nat} (hexec : p.tables.exec = Jvm.exec) (hb : c.code = cc) (hK : va_K D cl tys s) (hP : va_P D cl ws H) (q0 t0 : Nat) {cA : ClassId} {n : Nat} {f : Nat → Int32} (ha : ws[q0]? = some (a, .inl (cA, n, .inl f))) (ht : tys[t0]? = some (cA, .int)) {i : Int32} (hout : ¬ vp_in i n) (hdg : decode cc pc = .ok (.iaload, 1))
    (k : ∀ tx : String, tx = (toString "Index " ++ toString i ++ toString " out of bounds for length " ++ toString n : String) → vx_Note p l e R s m args below meth c H locs cells slots Q (F0 m pc ls rest) "java/lang/ArrayIndexOutOfBoundsException" tx) : W p l e R s m args below meth c H locs cells slots Q (F0 m pc ls (.int i :: .ref a :: rest)) := by
  intro T hT X
  obtain ⟨t, st, q⟩ := k _ rfl T hT X
  refine ⟨t, ?_, q⟩
  have h1 := X.ialoadOut hexec (by rw [hT]; exact hP q0 _ ha) ((hK.2 t0 _ ht).1 n (fun j => .int (f j))) (j := i) (by show (i < 0 ∨ (arrV _ _ _).slots.size ≤ _); rw [arrV_size]; exact Classical.byContradiction hout) (g := F0 m pc ls (.int i :: .ref a :: rest)) rfl (rest := rest) rfl (by rw [hb]; exact hdg) t
  simp only [arrV_size] at h1
  exact h1 st
theorem vx_iastZ {D : va_G} {cl : List vw_C} {ws : va_W} {tys : List (ClassId × FieldType)} {a : Nat} (hexec : p.tables.exec = Jvm.exec) (hb : c.code = cc) (hK : va_K D cl tys s) (hP : va_P D cl ws H) (q0 t0 : Nat) {cA : ClassId} {n : Nat} {f : Nat → Int32} (ha : ws[q0]? = some (a, .inl (cA, n, .inl f))) (ht : tys[t0]? = some (cA, .int)) {i : Int32} {x : Int32} (hout : ¬ vp_in i n) (hdg : decode cc pc = .ok (.iastore, 1))
    (k : ∀ tx : String, tx = (toString "Index " ++ toString i ++ toString " out of bounds for length " ++ toString n : String) → vx_Note p l e R s m args below meth c H locs cells slots Q (F0 m pc ls rest) "java/lang/ArrayIndexOutOfBoundsException" tx) : W p l e R s m args below meth c H locs cells slots Q (F0 m pc ls (.int x :: .int i :: .ref a :: rest)) := by
  intro T hT X
  obtain ⟨t, st, q⟩ := k _ rfl T hT X
  refine ⟨t, ?_, q⟩
  have h1 := X.iastoreOut hexec (by rw [hT]; exact hP q0 _ ha) ((hK.2 t0 _ ht).1 n (fun j => .int (f j))) (j := i) (by show (i < 0 ∨ (arrV _ _ _).slots.size ≤ _); rw [arrV_size]; exact Classical.byContradiction hout) (g := F0 m pc ls (.int x :: .int i :: .ref a :: rest)) rfl (rest := rest) rfl (by rw [hb]; exact hdg) t
  simp only [arrV_size] at h1
  exact h1 st
theorem vx_baldZ {D : va_G} {cl : List vw_C} {ws : va_W} {tys : List (ClassId × FieldType)} {a : Nat} (hexec : p.tables.exec = Jvm.exec) (hb : c.code = cc) (hK : va_K D cl tys s) (hP : va_P D cl ws H) (q0 t0 : Nat) {cA : ClassId} {n : Nat} {f : Nat → Int32} (ha : ws[q0]? = some (a, .inl (cA, n, .inl f))) (ht : tys[t0]? = some (cA, .byte)) {i : Int32} (hout : ¬ vp_in i n) (hdg : decode cc pc = .ok (.baload, 1))
    (k : ∀ tx : String, tx = (toString "Index " ++ toString i ++ toString " out of bounds for length " ++ toString n : String) → vx_Note p l e R s m args below meth c H locs cells slots Q (F0 m pc ls rest) "java/lang/ArrayIndexOutOfBoundsException" tx) : W p l e R s m args below meth c H locs cells slots Q (F0 m pc ls (.int i :: .ref a :: rest)) := by
  intro T hT X
  obtain ⟨t, st, q⟩ := k _ rfl T hT X
  refine ⟨t, ?_, q⟩
  have h1 := X.baloadOut hexec (by rw [hT]; exact hP q0 _ ha) ((hK.2 t0 _ ht).1 n (fun j => .int (f j))) (j := i) (by show (i < 0 ∨ (arrV _ _ _).slots.size ≤ _); rw [arrV_size]; exact Classical.byContradiction hout) (g := F0 m pc ls (.int i :: .ref a :: rest)) rfl (rest := rest) rfl (by rw [hb]; exact hdg) t
  simp only [arrV_size] at h1
  exact h1 st
theorem vx_bastZ {D : va_G} {cl : List vw_C} {ws : va_W} {tys : List (ClassId × FieldType)} {a : Nat} (hexec : p.tables.exec = Jvm.exec) (hb : c.code = cc) (hK : va_K D cl tys s) (hP : va_P D cl ws H) (q0 t0 : Nat) {cA : ClassId} {n : Nat} {f : Nat → Int32} (ha : ws[q0]? = some (a, .inl (cA, n, .inl f))) (ht : tys[t0]? = some (cA, .byte)) {i : Int32} {x : Int32} (hout : ¬ vp_in i n) (hdg : decode cc pc = .ok (.bastore, 1))
    (k : ∀ tx : String, tx = (toString "Index " ++ toString i ++ toString " out of bounds for length " ++ toString n : String) → vx_Note p l e R s m args below meth c H locs cells slots Q (F0 m pc ls rest) "java/lang/ArrayIndexOutOfBoundsException" tx) : W p l e R s m args below meth c H locs cells slots Q (F0 m pc ls (.int x :: .int i :: .ref a :: rest)) := by
  intro T hT X
  obtain ⟨t, st, q⟩ := k _ rfl T hT X
  refine ⟨t, ?_, q⟩
  have h1 := X.bastoreOut hexec (by rw [hT]; exact hP q0 _ ha) ((hK.2 t0 _ ht).1 n (fun j => .int (f j))) (j := i) (by show (i < 0 ∨ (arrV _ _ _).slots.size ≤ _); rw [arrV_size]; exact Classical.byContradiction hout) (g := F0 m pc ls (.int x :: .int i :: .ref a :: rest)) rfl (rest := rest) rfl (by rw [hb]; exact hdg) t
  simp only [arrV_size] at h1
  exact h1 st
theorem vx_zaldZ {D : va_G} {cl : List vw_C} {ws : va_W} {tys : List (ClassId × FieldType)} {a : Nat} (hexec : p.tables.exec = Jvm.exec) (hb : c.code = cc) (hK : va_K D cl tys s) (hP : va_P D cl ws H) (q0 t0 : Nat) {cA : ClassId} {n : Nat} {f : Nat → Int32} (ha : ws[q0]? = some (a, .inl (cA, n, .inl f))) (ht : tys[t0]? = some (cA, .boolean)) {i : Int32} (hout : ¬ vp_in i n) (hdg : decode cc pc = .ok (.baload, 1))
    (k : ∀ tx : String, tx = (toString "Index " ++ toString i ++ toString " out of bounds for length " ++ toString n : String) → vx_Note p l e R s m args below meth c H locs cells slots Q (F0 m pc ls rest) "java/lang/ArrayIndexOutOfBoundsException" tx) : W p l e R s m args below meth c H locs cells slots Q (F0 m pc ls (.int i :: .ref a :: rest)) := by
  intro T hT X
  obtain ⟨t, st, q⟩ := k _ rfl T hT X
  refine ⟨t, ?_, q⟩
  have h1 := X.baloadOut hexec (by rw [hT]; exact hP q0 _ ha) ((hK.2 t0 _ ht).1 n (fun j => .int (f j))) (j := i) (by show (i < 0 ∨ (arrV _ _ _).slots.size ≤ _); rw [arrV_size]; exact Classical.byContradiction hout) (g := F0 m pc ls (.int i :: .ref a :: rest)) rfl (rest := rest) rfl (by rw [hb]; exact hdg) t
  simp only [arrV_size] at h1
  exact h1 st
theorem vx_zastZ {D : va_G} {cl : List vw_C} {ws : va_W} {tys : List (ClassId × FieldType)} {a : Nat} (hexec : p.tables.exec = Jvm.exec) (hb : c.code = cc) (hK : va_K D cl tys s) (hP : va_P D cl ws H) (q0 t0 : Nat) {cA : ClassId} {n : Nat} {f : Nat → Int32} (ha : ws[q0]? = some (a, .inl (cA, n, .inl f))) (ht : tys[t0]? = some (cA, .boolean)) {i : Int32} {x : Int32} (hout : ¬ vp_in i n) (hdg : decode cc pc = .ok (.bastore, 1))
    (k : ∀ tx : String, tx = (toString "Index " ++ toString i ++ toString " out of bounds for length " ++ toString n : String) → vx_Note p l e R s m args below meth c H locs cells slots Q (F0 m pc ls rest) "java/lang/ArrayIndexOutOfBoundsException" tx) : W p l e R s m args below meth c H locs cells slots Q (F0 m pc ls (.int x :: .int i :: .ref a :: rest)) := by
  intro T hT X
  obtain ⟨t, st, q⟩ := k _ rfl T hT X
  refine ⟨t, ?_, q⟩
  have h1 := X.bastoreOut hexec (by rw [hT]; exact hP q0 _ ha) ((hK.2 t0 _ ht).1 n (fun j => .int (f j))) (j := i) (by show (i < 0 ∨ (arrV _ _ _).slots.size ≤ _); rw [arrV_size]; exact Classical.byContradiction hout) (g := F0 m pc ls (.int x :: .int i :: .ref a :: rest)) rfl (rest := rest) rfl (by rw [hb]; exact hdg) t
  simp only [arrV_size] at h1
  exact h1 st
theorem vx_caldZ {D : va_G} {cl : List vw_C} {ws : va_W} {tys : List (ClassId × FieldType)} {a : Nat} (hexec : p.tables.exec = Jvm.exec) (hb : c.code = cc) (hK : va_K D cl tys s) (hP : va_P D cl ws H) (q0 t0 : Nat) {cA : ClassId} {n : Nat} {f : Nat → Int32} (ha : ws[q0]? = some (a, .inl (cA, n, .inl f))) (ht : tys[t0]? = some (cA, .char)) {i : Int32} (hout : ¬ vp_in i n) (hdg : decode cc pc = .ok (.caload, 1))
    (k : ∀ tx : String, tx = (toString "Index " ++ toString i ++ toString " out of bounds for length " ++ toString n : String) → vx_Note p l e R s m args below meth c H locs cells slots Q (F0 m pc ls rest) "java/lang/ArrayIndexOutOfBoundsException" tx) : W p l e R s m args below meth c H locs cells slots Q (F0 m pc ls (.int i :: .ref a :: rest)) := by
  intro T hT X
  obtain ⟨t, st, q⟩ := k _ rfl T hT X
  refine ⟨t, ?_, q⟩
  have h1 := X.caloadOut hexec (by rw [hT]; exact hP q0 _ ha) ((hK.2 t0 _ ht).1 n (fun j => .int (f j))) (j := i) (by show (i < 0 ∨ (arrV _ _ _).slots.size ≤ _); rw [arrV_size]; exact Classical.byContradiction hout) (g := F0 m pc ls (.int i :: .ref a :: rest)) rfl (rest := rest) rfl (by rw [hb]; exact hdg) t
  simp only [arrV_size] at h1
  exact h1 st
theorem vx_castZ {D : va_G} {cl : List vw_C} {ws : va_W} {tys : List (ClassId × FieldType)} {a : Nat} (hexec : p.tables.exec = Jvm.exec) (hb : c.code = cc) (hK : va_K D cl tys s) (hP : va_P D cl ws H) (q0 t0 : Nat) {cA : ClassId} {n : Nat} {f : Nat → Int32} (ha : ws[q0]? = some (a, .inl (cA, n, .inl f))) (ht : tys[t0]? = some (cA, .char)) {i : Int32} {x : Int32} (hout : ¬ vp_in i n) (hdg : decode cc pc = .ok (.castore, 1))
    (k : ∀ tx : String, tx = (toString "Index " ++ toString i ++ toString " out of bounds for length " ++ toString n : String) → vx_Note p l e R s m args below meth c H locs cells slots Q (F0 m pc ls rest) "java/lang/ArrayIndexOutOfBoundsException" tx) : W p l e R s m args below meth c H locs cells slots Q (F0 m pc ls (.int x :: .int i :: .ref a :: rest)) := by
  intro T hT X
  obtain ⟨t, st, q⟩ := k _ rfl T hT X
  refine ⟨t, ?_, q⟩
  have h1 := X.castoreOut hexec (by rw [hT]; exact hP q0 _ ha) ((hK.2 t0 _ ht).1 n (fun j => .int (f j))) (j := i) (by show (i < 0 ∨ (arrV _ _ _).slots.size ≤ _); rw [arrV_size]; exact Classical.byContradiction hout) (g := F0 m pc ls (.int x :: .int i :: .ref a :: rest)) rfl (rest := rest) rfl (by rw [hb]; exact hdg) t
  simp only [arrV_size] at h1
  exact h1 st
theorem vx_saldZ {D : va_G} {cl : List vw_C} {ws : va_W} {tys : List (ClassId × FieldType)} {a : Nat} (hexec : p.tables.exec = Jvm.exec) (hb : c.code = cc) (hK : va_K D cl tys s) (hP : va_P D cl ws H) (q0 t0 : Nat) {cA : ClassId} {n : Nat} {f : Nat → Int32} (ha : ws[q0]? = some (a, .inl (cA, n, .inl f))) (ht : tys[t0]? = some (cA, .short)) {i : Int32} (hout : ¬ vp_in i n) (hdg : decode cc pc = .ok (.saload, 1))
    (k : ∀ tx : String, tx = (toString "Index " ++ toString i ++ toString " out of bounds for length " ++ toString n : String) → vx_Note p l e R s m args below meth c H locs cells slots Q (F0 m pc ls rest) "java/lang/ArrayIndexOutOfBoundsException" tx) : W p l e R s m args below meth c H locs cells slots Q (F0 m pc ls (.int i :: .ref a :: rest)) := by
  intro T hT X
  obtain ⟨t, st, q⟩ := k _ rfl T hT X
  refine ⟨t, ?_, q⟩
  have h1 := X.saloadOut hexec (by rw [hT]; exact hP q0 _ ha) ((hK.2 t0 _ ht).1 n (fun j => .int (f j))) (j := i) (by show (i < 0 ∨ (arrV _ _ _).slots.size ≤ _); rw [arrV_size]; exact Classical.byContradiction hout) (g := F0 m pc ls (.int i :: .ref a :: rest)) rfl (rest := rest) rfl (by rw [hb]; exact hdg) t
  simp only [arrV_size] at h1
  exact h1 st
theorem vx_sastZ {D : va_G} {cl : List vw_C} {ws : va_W} {tys : List (ClassId × FieldType)} {a : Nat} (hexec : p.tables.exec = Jvm.exec) (hb : c.code = cc) (hK : va_K D cl tys s) (hP : va_P D cl ws H) (q0 t0 : Nat) {cA : ClassId} {n : Nat} {f : Nat → Int32} (ha : ws[q0]? = some (a, .inl (cA, n, .inl f))) (ht : tys[t0]? = some (cA, .short)) {i : Int32} {x : Int32} (hout : ¬ vp_in i n) (hdg : decode cc pc = .ok (.sastore, 1))
    (k : ∀ tx : String, tx = (toString "Index " ++ toString i ++ toString " out of bounds for length " ++ toString n : String) → vx_Note p l e R s m args below meth c H locs cells slots Q (F0 m pc ls rest) "java/lang/ArrayIndexOutOfBoundsException" tx) : W p l e R s m args below meth c H locs cells slots Q (F0 m pc ls (.int x :: .int i :: .ref a :: rest)) := by
  intro T hT X
  obtain ⟨t, st, q⟩ := k _ rfl T hT X
  refine ⟨t, ?_, q⟩
  have h1 := X.sastoreOut hexec (by rw [hT]; exact hP q0 _ ha) ((hK.2 t0 _ ht).1 n (fun j => .int (f j))) (j := i) (by show (i < 0 ∨ (arrV _ _ _).slots.size ≤ _); rw [arrV_size]; exact Classical.byContradiction hout) (g := F0 m pc ls (.int x :: .int i :: .ref a :: rest)) rfl (rest := rest) rfl (by rw [hb]; exact hdg) t
  simp only [arrV_size] at h1
  exact h1 st
theorem vx_laldZ {D : va_G} {cl : List vw_C} {ws : va_W} {tys : List (ClassId × FieldType)} {a : Nat} (hexec : p.tables.exec = Jvm.exec) (hb : c.code = cc) (hK : va_K D cl tys s) (hP : va_P D cl ws H) (q0 t0 : Nat) {cA : ClassId} {n : Nat} {f : Nat → Int64} (ha : ws[q0]? = some (a, .inl (cA, n, .inr (.inl f)))) (ht : tys[t0]? = some (cA, .long)) {i : Int32} (hout : ¬ vp_in i n) (hdg : decode cc pc = .ok (.laload, 1))
    (k : ∀ tx : String, tx = (toString "Index " ++ toString i ++ toString " out of bounds for length " ++ toString n : String) → vx_Note p l e R s m args below meth c H locs cells slots Q (F0 m pc ls rest) "java/lang/ArrayIndexOutOfBoundsException" tx) : W p l e R s m args below meth c H locs cells slots Q (F0 m pc ls (.int i :: .ref a :: rest)) := by
  intro T hT X
  obtain ⟨t, st, q⟩ := k _ rfl T hT X
  refine ⟨t, ?_, q⟩
  have h1 := X.laloadOut hexec (by rw [hT]; exact hP q0 _ ha) ((hK.2 t0 _ ht).1 n (fun j => .long (f j))) (j := i) (by show (i < 0 ∨ (arrV _ _ _).slots.size ≤ _); rw [arrV_size]; exact Classical.byContradiction hout) (g := F0 m pc ls (.int i :: .ref a :: rest)) rfl (rest := rest) rfl (by rw [hb]; exact hdg) t
  simp only [arrV_size] at h1
  exact h1 st
theorem vx_lastZ {D : va_G} {cl : List vw_C} {ws : va_W} {tys : List (ClassId × FieldType)} {a : Nat} (hexec : p.tables.exec = Jvm.exec) (hb : c.code = cc) (hK : va_K D cl tys s) (hP : va_P D cl ws H) (q0 t0 : Nat) {cA : ClassId} {n : Nat} {f : Nat → Int64} (ha : ws[q0]? = some (a, .inl (cA, n, .inr (.inl f)))) (ht : tys[t0]? = some (cA, .long)) {i : Int32} {x : Int64} (hout : ¬ vp_in i n) (hdg : decode cc pc = .ok (.lastore, 1))
    (k : ∀ tx : String, tx = (toString "Index " ++ toString i ++ toString " out of bounds for length " ++ toString n : String) → vx_Note p l e R s m args below meth c H locs cells slots Q (F0 m pc ls rest) "java/lang/ArrayIndexOutOfBoundsException" tx) : W p l e R s m args below meth c H locs cells slots Q (F0 m pc ls (.long x :: .int i :: .ref a :: rest)) := by
  intro T hT X
  obtain ⟨t, st, q⟩ := k _ rfl T hT X
  refine ⟨t, ?_, q⟩
  have h1 := X.lastoreOut hexec (by rw [hT]; exact hP q0 _ ha) ((hK.2 t0 _ ht).1 n (fun j => .long (f j))) (j := i) (by show (i < 0 ∨ (arrV _ _ _).slots.size ≤ _); rw [arrV_size]; exact Classical.byContradiction hout) (g := F0 m pc ls (.long x :: .int i :: .ref a :: rest)) rfl (rest := rest) rfl (by rw [hb]; exact hdg) t
  simp only [arrV_size] at h1
  exact h1 st
theorem vx_faldZ {D : va_G} {cl : List vw_C} {ws : va_W} {tys : List (ClassId × FieldType)} {a : Nat} (hexec : p.tables.exec = Jvm.exec) (hb : c.code = cc) (hK : va_K D cl tys s) (hP : va_P D cl ws H) (q0 t0 : Nat) {cA : ClassId} {n : Nat} {f : Nat → UInt32} (ha : ws[q0]? = some (a, .inl (cA, n, .inr (.inr (.inl f))))) (ht : tys[t0]? = some (cA, .float)) {i : Int32} (hout : ¬ vp_in i n) (hdg : decode cc pc = .ok (.faload, 1))
    (k : ∀ tx : String, tx = (toString "Index " ++ toString i ++ toString " out of bounds for length " ++ toString n : String) → vx_Note p l e R s m args below meth c H locs cells slots Q (F0 m pc ls rest) "java/lang/ArrayIndexOutOfBoundsException" tx) : W p l e R s m args below meth c H locs cells slots Q (F0 m pc ls (.int i :: .ref a :: rest)) := by
  intro T hT X
  obtain ⟨t, st, q⟩ := k _ rfl T hT X
  refine ⟨t, ?_, q⟩
  have h1 := X.faloadOut hexec (by rw [hT]; exact hP q0 _ ha) ((hK.2 t0 _ ht).1 n (fun j => .float (f j))) (j := i) (by show (i < 0 ∨ (arrV _ _ _).slots.size ≤ _); rw [arrV_size]; exact Classical.byContradiction hout) (g := F0 m pc ls (.int i :: .ref a :: rest)) rfl (rest := rest) rfl (by rw [hb]; exact hdg) t
  simp only [arrV_size] at h1
  exact h1 st
theorem vx_fastZ {D : va_G} {cl : List vw_C} {ws : va_W} {tys : List (ClassId × FieldType)} {a : Nat} (hexec : p.tables.exec = Jvm.exec) (hb : c.code = cc) (hK : va_K D cl tys s) (hP : va_P D cl ws H) (q0 t0 : Nat) {cA : ClassId} {n : Nat} {f : Nat → UInt32} (ha : ws[q0]? = some (a, .inl (cA, n, .inr (.inr (.inl f))))) (ht : tys[t0]? = some (cA, .float)) {i : Int32} {x : UInt32} (hout : ¬ vp_in i n) (hdg : decode cc pc = .ok (.fastore, 1))
    (k : ∀ tx : String, tx = (toString "Index " ++ toString i ++ toString " out of bounds for length " ++ toString n : String) → vx_Note p l e R s m args below meth c H locs cells slots Q (F0 m pc ls rest) "java/lang/ArrayIndexOutOfBoundsException" tx) : W p l e R s m args below meth c H locs cells slots Q (F0 m pc ls (.float x :: .int i :: .ref a :: rest)) := by
  intro T hT X
  obtain ⟨t, st, q⟩ := k _ rfl T hT X
  refine ⟨t, ?_, q⟩
  have h1 := X.fastoreOut hexec (by rw [hT]; exact hP q0 _ ha) ((hK.2 t0 _ ht).1 n (fun j => .float (f j))) (j := i) (by show (i < 0 ∨ (arrV _ _ _).slots.size ≤ _); rw [arrV_size]; exact Classical.byContradiction hout) (g := F0 m pc ls (.float x :: .int i :: .ref a :: rest)) rfl (rest := rest) rfl (by rw [hb]; exact hdg) t
  simp only [arrV_size] at h1
  exact h1 st
theorem vx_daldZ {D : va_G} {cl : List vw_C} {ws : va_W} {tys : List (ClassId × FieldType)} {a : Nat} (hexec : p.tables.exec = Jvm.exec) (hb : c.code = cc) (hK : va_K D cl tys s) (hP : va_P D cl ws H) (q0 t0 : Nat) {cA : ClassId} {n : Nat} {f : Nat → UInt64} (ha : ws[q0]? = some (a, .inl (cA, n, .inr (.inr (.inr (.inl f)))))) (ht : tys[t0]? = some (cA, .double)) {i : Int32} (hout : ¬ vp_in i n) (hdg : decode cc pc = .ok (.daload, 1))
    (k : ∀ tx : String, tx = (toString "Index " ++ toString i ++ toString " out of bounds for length " ++ toString n : String) → vx_Note p l e R s m args below meth c H locs cells slots Q (F0 m pc ls rest) "java/lang/ArrayIndexOutOfBoundsException" tx) : W p l e R s m args below meth c H locs cells slots Q (F0 m pc ls (.int i :: .ref a :: rest)) := by
  intro T hT X
  obtain ⟨t, st, q⟩ := k _ rfl T hT X
  refine ⟨t, ?_, q⟩
  have h1 := X.daloadOut hexec (by rw [hT]; exact hP q0 _ ha) ((hK.2 t0 _ ht).1 n (fun j => .double (f j))) (j := i) (by show (i < 0 ∨ (arrV _ _ _).slots.size ≤ _); rw [arrV_size]; exact Classical.byContradiction hout) (g := F0 m pc ls (.int i :: .ref a :: rest)) rfl (rest := rest) rfl (by rw [hb]; exact hdg) t
  simp only [arrV_size] at h1
  exact h1 st
theorem vx_dastZ {D : va_G} {cl : List vw_C} {ws : va_W} {tys : List (ClassId × FieldType)} {a : Nat} (hexec : p.tables.exec = Jvm.exec) (hb : c.code = cc) (hK : va_K D cl tys s) (hP : va_P D cl ws H) (q0 t0 : Nat) {cA : ClassId} {n : Nat} {f : Nat → UInt64} (ha : ws[q0]? = some (a, .inl (cA, n, .inr (.inr (.inr (.inl f)))))) (ht : tys[t0]? = some (cA, .double)) {i : Int32} {x : UInt64} (hout : ¬ vp_in i n) (hdg : decode cc pc = .ok (.dastore, 1))
    (k : ∀ tx : String, tx = (toString "Index " ++ toString i ++ toString " out of bounds for length " ++ toString n : String) → vx_Note p l e R s m args below meth c H locs cells slots Q (F0 m pc ls rest) "java/lang/ArrayIndexOutOfBoundsException" tx) : W p l e R s m args below meth c H locs cells slots Q (F0 m pc ls (.double x :: .int i :: .ref a :: rest)) := by
  intro T hT X
  obtain ⟨t, st, q⟩ := k _ rfl T hT X
  refine ⟨t, ?_, q⟩
  have h1 := X.dastoreOut hexec (by rw [hT]; exact hP q0 _ ha) ((hK.2 t0 _ ht).1 n (fun j => .double (f j))) (j := i) (by show (i < 0 ∨ (arrV _ _ _).slots.size ≤ _); rw [arrV_size]; exact Classical.byContradiction hout) (g := F0 m pc ls (.double x :: .int i :: .ref a :: rest)) rfl (rest := rest) rfl (by rw [hb]; exact hdg) t
  simp only [arrV_size] at h1
  exact h1 st
theorem vx_arraylengthN (hexec : p.tables.exec = Jvm.exec) (hb : c.code = cc) (hdg : decode cc pc = .ok (.arraylength, 1)) (k : vx_NoteN p l e R s m args below meth c H locs cells slots Q (F0 m pc ls rest)) : W p l e R s m args below meth c H locs cells slots Q (F0 m pc ls (.null :: rest)) := by
  intro T hT X
  obtain ⟨t, st, q⟩ := k T hT X
  exact ⟨t, X.arraylengthNull hexec (g := F0 m pc ls (.null :: rest)) rfl (rest := rest) rfl (by rw [hb]; exact hdg) t st, q⟩
theorem vx_ialoadN (hexec : p.tables.exec = Jvm.exec) (hb : c.code = cc) {i : Int32} (hdg : decode cc pc = .ok (.iaload, 1)) (k : vx_NoteN p l e R s m args below meth c H locs cells slots Q (F0 m pc ls rest)) : W p l e R s m args below meth c H locs cells slots Q (F0 m pc ls (.int i :: .null :: rest)) := by
  intro T hT X
  obtain ⟨t, st, q⟩ := k T hT X
  exact ⟨t, X.ialoadNull hexec (g := F0 m pc ls (.int i :: .null :: rest)) rfl (rest := rest) rfl (by rw [hb]; exact hdg) t st, q⟩
theorem vx_laloadN (hexec : p.tables.exec = Jvm.exec) (hb : c.code = cc) {i : Int32} (hdg : decode cc pc = .ok (.laload, 1)) (k : vx_NoteN p l e R s m args below meth c H locs cells slots Q (F0 m pc ls rest)) : W p l e R s m args below meth c H locs cells slots Q (F0 m pc ls (.int i :: .null :: rest)) := by
  intro T hT X
  obtain ⟨t, st, q⟩ := k T hT X
  exact ⟨t, X.laloadNull hexec (g := F0 m pc ls (.int i :: .null :: rest)) rfl (rest := rest) rfl (by rw [hb]; exact hdg) t st, q⟩
theorem vx_faloadN (hexec : p.tables.exec = Jvm.exec) (hb : c.code = cc) {i : Int32} (hdg : decode cc pc = .ok (.faload, 1)) (k : vx_NoteN p l e R s m args below meth c H locs cells slots Q (F0 m pc ls rest)) : W p l e R s m args below meth c H locs cells slots Q (F0 m pc ls (.int i :: .null :: rest)) := by
  intro T hT X
  obtain ⟨t, st, q⟩ := k T hT X
  exact ⟨t, X.faloadNull hexec (g := F0 m pc ls (.int i :: .null :: rest)) rfl (rest := rest) rfl (by rw [hb]; exact hdg) t st, q⟩
theorem vx_daloadN (hexec : p.tables.exec = Jvm.exec) (hb : c.code = cc) {i : Int32} (hdg : decode cc pc = .ok (.daload, 1)) (k : vx_NoteN p l e R s m args below meth c H locs cells slots Q (F0 m pc ls rest)) : W p l e R s m args below meth c H locs cells slots Q (F0 m pc ls (.int i :: .null :: rest)) := by
  intro T hT X
  obtain ⟨t, st, q⟩ := k T hT X
  exact ⟨t, X.daloadNull hexec (g := F0 m pc ls (.int i :: .null :: rest)) rfl (rest := rest) rfl (by rw [hb]; exact hdg) t st, q⟩
theorem vx_aaloadN (hexec : p.tables.exec = Jvm.exec) (hb : c.code = cc) {i : Int32} (hdg : decode cc pc = .ok (.aaload, 1)) (k : vx_NoteN p l e R s m args below meth c H locs cells slots Q (F0 m pc ls rest)) : W p l e R s m args below meth c H locs cells slots Q (F0 m pc ls (.int i :: .null :: rest)) := by
  intro T hT X
  obtain ⟨t, st, q⟩ := k T hT X
  exact ⟨t, X.aaloadNull hexec (g := F0 m pc ls (.int i :: .null :: rest)) rfl (rest := rest) rfl (by rw [hb]; exact hdg) t st, q⟩
theorem vx_baloadN (hexec : p.tables.exec = Jvm.exec) (hb : c.code = cc) {i : Int32} (hdg : decode cc pc = .ok (.baload, 1)) (k : vx_NoteN p l e R s m args below meth c H locs cells slots Q (F0 m pc ls rest)) : W p l e R s m args below meth c H locs cells slots Q (F0 m pc ls (.int i :: .null :: rest)) := by
  intro T hT X
  obtain ⟨t, st, q⟩ := k T hT X
  exact ⟨t, X.baloadNull hexec (g := F0 m pc ls (.int i :: .null :: rest)) rfl (rest := rest) rfl (by rw [hb]; exact hdg) t st, q⟩
theorem vx_caloadN (hexec : p.tables.exec = Jvm.exec) (hb : c.code = cc) {i : Int32} (hdg : decode cc pc = .ok (.caload, 1)) (k : vx_NoteN p l e R s m args below meth c H locs cells slots Q (F0 m pc ls rest)) : W p l e R s m args below meth c H locs cells slots Q (F0 m pc ls (.int i :: .null :: rest)) := by
  intro T hT X
  obtain ⟨t, st, q⟩ := k T hT X
  exact ⟨t, X.caloadNull hexec (g := F0 m pc ls (.int i :: .null :: rest)) rfl (rest := rest) rfl (by rw [hb]; exact hdg) t st, q⟩
theorem vx_saloadN (hexec : p.tables.exec = Jvm.exec) (hb : c.code = cc) {i : Int32} (hdg : decode cc pc = .ok (.saload, 1)) (k : vx_NoteN p l e R s m args below meth c H locs cells slots Q (F0 m pc ls rest)) : W p l e R s m args below meth c H locs cells slots Q (F0 m pc ls (.int i :: .null :: rest)) := by
  intro T hT X
  obtain ⟨t, st, q⟩ := k T hT X
  exact ⟨t, X.saloadNull hexec (g := F0 m pc ls (.int i :: .null :: rest)) rfl (rest := rest) rfl (by rw [hb]; exact hdg) t st, q⟩
theorem vx_iastoreN (hexec : p.tables.exec = Jvm.exec) (hb : c.code = cc) {x : Int32} {i : Int32} (hdg : decode cc pc = .ok (.iastore, 1)) (k : vx_NoteN p l e R s m args below meth c H locs cells slots Q (F0 m pc ls rest)) : W p l e R s m args below meth c H locs cells slots Q (F0 m pc ls (.int x :: .int i :: .null :: rest)) := by
  intro T hT X
  obtain ⟨t, st, q⟩ := k T hT X
  exact ⟨t, X.iastoreNull hexec (g := F0 m pc ls (.int x :: .int i :: .null :: rest)) rfl (rest := rest) rfl (by rw [hb]; exact hdg) t st, q⟩
theorem vx_lastoreN (hexec : p.tables.exec = Jvm.exec) (hb : c.code = cc) {x : Int64} {i : Int32} (hdg : decode cc pc = .ok (.lastore, 1)) (k : vx_NoteN p l e R s m args below meth c H locs cells slots Q (F0 m pc ls rest)) : W p l e R s m args below meth c H locs cells slots Q (F0 m pc ls (.long x :: .int i :: .null :: rest)) := by
  intro T hT X
  obtain ⟨t, st, q⟩ := k T hT X
  exact ⟨t, X.lastoreNull hexec (g := F0 m pc ls (.long x :: .int i :: .null :: rest)) rfl (rest := rest) rfl (by rw [hb]; exact hdg) t st, q⟩
theorem vx_fastoreN (hexec : p.tables.exec = Jvm.exec) (hb : c.code = cc) {x : UInt32} {i : Int32} (hdg : decode cc pc = .ok (.fastore, 1)) (k : vx_NoteN p l e R s m args below meth c H locs cells slots Q (F0 m pc ls rest)) : W p l e R s m args below meth c H locs cells slots Q (F0 m pc ls (.float x :: .int i :: .null :: rest)) := by
  intro T hT X
  obtain ⟨t, st, q⟩ := k T hT X
  exact ⟨t, X.fastoreNull hexec (g := F0 m pc ls (.float x :: .int i :: .null :: rest)) rfl (rest := rest) rfl (by rw [hb]; exact hdg) t st, q⟩
theorem vx_dastoreN (hexec : p.tables.exec = Jvm.exec) (hb : c.code = cc) {x : UInt64} {i : Int32} (hdg : decode cc pc = .ok (.dastore, 1)) (k : vx_NoteN p l e R s m args below meth c H locs cells slots Q (F0 m pc ls rest)) : W p l e R s m args below meth c H locs cells slots Q (F0 m pc ls (.double x :: .int i :: .null :: rest)) := by
  intro T hT X
  obtain ⟨t, st, q⟩ := k T hT X
  exact ⟨t, X.dastoreNull hexec (g := F0 m pc ls (.double x :: .int i :: .null :: rest)) rfl (rest := rest) rfl (by rw [hb]; exact hdg) t st, q⟩
theorem vx_bastoreN (hexec : p.tables.exec = Jvm.exec) (hb : c.code = cc) {x : Int32} {i : Int32} (hdg : decode cc pc = .ok (.bastore, 1)) (k : vx_NoteN p l e R s m args below meth c H locs cells slots Q (F0 m pc ls rest)) : W p l e R s m args below meth c H locs cells slots Q (F0 m pc ls (.int x :: .int i :: .null :: rest)) := by
  intro T hT X
  obtain ⟨t, st, q⟩ := k T hT X
  exact ⟨t, X.bastoreNull hexec (g := F0 m pc ls (.int x :: .int i :: .null :: rest)) rfl (rest := rest) rfl (by rw [hb]; exact hdg) t st, q⟩
theorem vx_castoreN (hexec : p.tables.exec = Jvm.exec) (hb : c.code = cc) {x : Int32} {i : Int32} (hdg : decode cc pc = .ok (.castore, 1)) (k : vx_NoteN p l e R s m args below meth c H locs cells slots Q (F0 m pc ls rest)) : W p l e R s m args below meth c H locs cells slots Q (F0 m pc ls (.int x :: .int i :: .null :: rest)) := by
  intro T hT X
  obtain ⟨t, st, q⟩ := k T hT X
  exact ⟨t, X.castoreNull hexec (g := F0 m pc ls (.int x :: .int i :: .null :: rest)) rfl (rest := rest) rfl (by rw [hb]; exact hdg) t st, q⟩
theorem vx_sastoreN (hexec : p.tables.exec = Jvm.exec) (hb : c.code = cc) {x : Int32} {i : Int32} (hdg : decode cc pc = .ok (.sastore, 1)) (k : vx_NoteN p l e R s m args below meth c H locs cells slots Q (F0 m pc ls rest)) : W p l e R s m args below meth c H locs cells slots Q (F0 m pc ls (.int x :: .int i :: .null :: rest)) := by
  intro T hT X
  obtain ⟨t, st, q⟩ := k T hT X
  exact ⟨t, X.sastoreNull hexec (g := F0 m pc ls (.int x :: .int i :: .null :: rest)) rfl (rest := rest) rfl (by rw [hb]; exact hdg) t st, q⟩
theorem vx_invokeN {own C : String} {index maxL : Nat} {y : MethodName} {bytes : ByteArray} {ret : Option FieldType} (hexec : p.tables.exec = Jvm.exec) (hb : c.code = cc) (hown : s.vm.findClass own = some m.cls) (hlink : (Cond.methodLink own index y).before args s = true) (hinst : (Cond.instanceMethod y).before args s = true) (hcode : (Cond.code y bytes maxL ret).before args s = true) (hsel : (Cond.selects C y y).before args s = true)
    (hx : y.cls ≠ "java/lang/invoke/MethodHandle" ∧ y.cls ≠ "java/lang/invoke/VarHandle") {As : List Value} (hlen : (parseMethodDescriptor y.desc).map (fun d => d.parameters.length) = some As.length) (hdg : decode cc pc = .ok (.invokevirtual index, 3))
    (k : vx_NoteN p l e R s m args below meth c H locs cells slots Q (F0 m pc ls rest)) {st0 : List Value} (hst : st0 = As.reverse ++ .null :: rest) : W p l e R s m args below meth c H locs cells slots Q (F0 m pc ls st0) := by
  intro T hT X
  obtain ⟨r0, r, hn, hrm, hstR, hsigR⟩ := va_Decl.of hinst hcode
  obtain ⟨c2, r2, m2, q1, q2, q3, q4, kP, hkP, hkPi⟩ := Cond.selects_spec hsel
  cases hn.symm.trans q3
  have hl9 : As.length = r.sig.parameters.length := by
    rw [hsigR] at hlen
    exact (Option.some.inj hlen).symm
  obtain ⟨vm', X1, st1⟩ := X.invokevirtualNull hexec hown hlink hn hrm hstR hkP hkPi hx (g := F0 m pc ls st0) rfl (argsL := As) (rest := rest) hl9 hst (by rw [hb]; exact hdg)
  obtain ⟨t, st, q⟩ := k (T.setVm vm') hT X1
  exact ⟨t, st1 t st, q⟩
theorem vx_newarrayZ {atype : ArrayType} (hexec : p.tables.exec = Jvm.exec) (hb : c.code = cc) {n : Int32} (h0 : n < 0) (hdg : decode cc pc = .ok (.newarray atype, 2)) (k : ∀ tx : String, tx = toString n → vx_Note p l e R s m args below meth c H locs cells slots Q (F0 m pc ls rest) "java/lang/NegativeArraySizeException" tx) : W p l e R s m args below meth c H locs cells slots Q (F0 m pc ls (.int n :: rest)) := by
  intro T hT X
  obtain ⟨t, st, q⟩ := k _ rfl T hT X
  exact ⟨t, X.newarrayNegative hexec (g := F0 m pc ls (.int n :: rest)) rfl h0 (rest := rest) rfl (by rw [hb]; exact hdg) t st, q⟩
end
end VXM
/-! ===== END ===== -/
/-! ===== BEGIN an exception as an object: made, kept, thrown later (no traces kept) ===== -/
section VXK
variable {p : Program} {l : Launch} {e : Env} {R : Room} {s : State} {m₀ : MethodId} {args : Array Value} {below : List Frame} {meth : Method} {c : Code} {W : State} {locs : List Loc} {cells slots : Nat}
set_option maxHeartbeats 1000000 in
theorem vx_ctorMadeS (X : Stand p l e R s m₀ args below meth c W locs cells slots) (hexec : p.tables.exec = Jvm.exec) (htr : e.platform.stackTraces = false) {own cls : String} {names : List String} {ic : Nat}
    (hown : s.vm.findClass own = some m₀.cls) (hcls : Bundle.fit cls = true) (hnames : ∀ n ∈ names, Bundle.fit n = true)
    (h : ∀ a ∈ Bundle.ownAtoms own ic cls names, a.before args s = true)
    (hlocs : ∀ x ∈ locs, ∀ cell, s.heap[x.base]? = some cell → cell.vm.isStatics = false)
    {a : Addr} {cX : ClassId} {kX : Class} (hfoundX : s.vm.findClass cls = some cX) (hkX : s.vm.classes[cX]? = some kX) (hcell : W.heap[a]? = some (freshCell cX kX)) (hnew : s.heap.size ≤ a)
    {msg : Value} (hmsg : msg.isRef = true)
    {g : JFrame} (hg : g.method = m₀) (hsize : g.locals.size = c.maxLocals) {rest : List Value} (hstack : g.stack = msg :: .ref a :: .ref a :: rest)
    (hd6 : decode c.code g.pc = .ok (.invokespecial ic, 3))
    (hRframes : names.length + 3 < R.frames) (hRlocals : 2 * g.monitorRoom + ((Value.ref a :: rest).map fun v => v.category).sum + (13 * (names.length + 1) + 42) ≤ R.locals) :
    ∃ (V : State) (ce : Cell) (L : List Loc), Stand p l e R s m₀ args below meth c (V.setCell a ce) (locs ++ L) cells slots ∧ (∀ y ∈ L, y.base = a) ∧ a < V.heap.size ∧ ce.cls = cX ∧ ce.vm = .none ∧
      ∀ target, Steps p.tables e below ((V.setCell a ce).setTop { g with stack := .ref a :: rest, pc := g.pc + 3 }) target → Steps p.tables e below (W.setTop g) target := by
  have howns : e.platform.frameOwnsMonitors = true := by rw [X.admits.platform]
  have hfin : e.platform.finalization = false := by rw [X.admits.platform]
  have hpl : e.platform.magicAccessors = ({} : Platform).magicAccessors := by rw [X.admits.platform]
  have a' : ∀ x, x ∈ Bundle.ownAtoms own ic cls names → x.holds args s none s [] = true := fun x hx => h x hx
  obtain ⟨T, Z0, L, -, Y⟩ := ThrowableC.of_atoms (args := args) howns hfin hpl (fun x hx => h x (by simp [Bundle.ownAtoms, hx]))
  obtain ⟨Z, M, LZ, LM, hnZ⟩ := Init0T.ofS_atoms (args := args) hpl L Y (fun x hx => h x (by simp [Bundle.ownAtoms, hx]))
  obtain ⟨P1, Ps, hlen, L1, hL, hP1m, hlink1, hlink⟩ := Bundle.chainS (args := args) hpl hnZ names cls hcls hnames (fun x hx => h x (by simp [Bundle.ownAtoms, hx]))
  have hfound : s.vm.findClass cls = some P1.m.cls := findClass_of_methodNamed hP1m
  cases Option.some.inj (hfoundX.symm.trans hfound)
  obtain ⟨c1, kX', hc1, hk, hord, -, -, hn6⟩ := Cond.instantiable_spec (a' (.instantiable cls 6) (by simp [Bundle.ownAtoms]))
  cases Option.some.inj (hc1.symm.trans hfound)
  cases Option.some.inj (hkX.symm.trans hk)
  have hsel0 : selectMethod e.platform s.vm P1.m.cls T.fill0 = .method T.fill0 := by
    obtain ⟨c2, r2, m2, q1, q2, q3, q4, -⟩ := Cond.selects_spec (a' (.selects cls Bundle.tFill0 Bundle.tFill0) (by simp [Bundle.ownAtoms]))
    cases Option.some.inj (q1.symm.trans hfound)
    cases Option.some.inj (q2.symm.trans (State.methodFound?_of_named Y.fill0 (by decide)))
    cases Option.some.inj (q3.symm.trans Y.fill0)
    rw [Launch.admits_selectMethod X.admits]; exact q4
  have hselF : selectMethod e.platform s.vm P1.m.cls T.fill = .method T.fill := by
    obtain ⟨c2, r2, m2, q1, q2, q3, q4, -⟩ := Cond.selects_spec (a' (.selects cls Bundle.tFill Bundle.tFill) (by simp [Bundle.ownAtoms]))
    cases Option.some.inj (q1.symm.trans hfound)
    cases Option.some.inj (q2.symm.trans (State.methodFound?_of_named Y.fill (by decide)))
    cases Option.some.inj (q3.symm.trans Y.fill)
    rw [Launch.admits_selectMethod X.admits]; exact q4
  obtain ⟨cellS0, hcS0, hiss⟩ := Y.statics
  obtain ⟨u0, hu0⟩ := Cond.staticRefV Y.unassigned L.unassignedStatic L.statics hcS0 hiss (a' (.isRef (.static Bundle.tN "UNASSIGNED_STACK" Bundle.steD)) (by simp [Bundle.ownAtoms]))
  obtain ⟨sen, hsen⟩ := Cond.staticRefV Y.sentinel L.sentinelStatic L.statics hcS0 hiss (a' (.isRef (.static Bundle.tN "SUPPRESSED_SENTINEL" Bundle.listD)) (by simp [Bundle.ownAtoms]))
  obtain ⟨ci198, i198, fB, hk198, hg198, ha198, hsB, -, hnB, htB, hffB⟩ := Cond.ownField (t := .object "java/lang/Object") Y.found L.cls (by decide +kernel) (a' (.fieldLink Bundle.tN 198 Bundle.tN "backtrace" "Ljava/lang/Object;") (by simp [Bundle.ownAtoms])) (a' (.lays Bundle.tN Bundle.tN "backtrace" "Ljava/lang/Object;") (by simp [Bundle.ownAtoms])) e.platform hpl
  obtain ⟨cellS, hcS', heS, -, hkeep⟩ := X.same.2.2.2.2.2 T.aS cellS0 hcS0
  have hcellS : W.heap[T.aS]? = some cellS := hcS'
  have hout' : ∀ i, (⟨T.aS, i⟩ : Loc) ∉ locs := fun i hmem => by
    have := hlocs _ hmem cellS0 hcS0
    rw [hiss] at this; cases this
  have hknownS : cellS.vm ≠ .unknown := by
    rw [heS]; intro hu
    rw [show cellS0.vm = .unknown from hu] at hiss
    cases hiss
  have hneS : T.aS ≠ a := Nat.ne_of_lt (Nat.lt_of_lt_of_le (Array.getElem?_eq_some_iff.mp hcS0).1 hnew)
  obtain ⟨iM, hffM⟩ := Y.msg
  obtain ⟨tyC, dC, hdC, hdnC⟩ := Cond.laysAt hfound hk Y.cause (a' (.lays cls Bundle.tN "cause" "Ljava/lang/Throwable;") (by simp [Bundle.ownAtoms]))
  obtain ⟨tyS, dS, hdS, hdnS⟩ := Cond.laysAt hfound hk Y.stack (a' (.lays cls Bundle.tN "stackTrace" Bundle.steD) (by simp [Bundle.ownAtoms]))
  obtain ⟨tyP, dP, hdP, hdnP⟩ := Cond.laysAt hfound hk Y.supp (a' (.lays cls Bundle.tN "suppressedExceptions" Bundle.listD) (by simp [Bundle.ownAtoms]))
  obtain ⟨tyM, dM, hdM, hdnM⟩ := Cond.laysAt hfound hk hffM (a' (.lays cls Bundle.tN "detailMessage" "Ljava/lang/String;") (by simp [Bundle.ownAtoms]))
  obtain ⟨tyB, dB, hdB, hdnB⟩ := Cond.laysAt hfound hk hffB (a' (.lays cls Bundle.tN "backtrace" "Ljava/lang/Object;") (by simp [Bundle.ownAtoms]))
  have bC := Cond.laysApart hdB hdC hdnB hdnC (by rw [hnB, Y.causeName]; decide)
  have bS := Cond.laysApart hdB hdS hdnB hdnS (by rw [hnB, Y.stackName]; decide)
  have bP := Cond.laysApart hdB hdP hdnB hdnP (by rw [hnB, Y.suppName]; decide)
  have hskip : SkipFacts T e.platform s (fun u => u) u0 ((preparedCellV T.toThrowableT (freshCell P1.m.cls kX) a u0 sen).withEntry W.cur) :=
    ⟨{ ci198 := ci198, i198 := i198, fBack := fB }, ⟨hk198, hg198, ha198, hsB⟩, by
      have := fresh_default (c := P1.m.cls) tyB
      rw [htB] at this
      simpa [preparedCellV, Cell.setSlot, Cell.withEntry, Array.getElem?_setIfInBounds, bC, bS, bP, bC.symm, bS.symm, bP.symm, defaultValue] using this, fun _ _ => rfl⟩
  obtain ⟨tm, methC, cdC, kC, vm₁, hnC, -, -, -, -, -, -, -, hW₁, st1⟩ := Steps.initColdS (tb := p.tables) (e := e) (below := below) (s := s) (U := W) X.here hexec X.warmed hpl hown (t := Bundle.initS cls) rfl rfl (Bundle.fit_spec hcls).2
    (a' (.methodLink own ic (Bundle.initS cls)) (by simp [Bundle.ownAtoms])) (h (.instanceMethod (Bundle.initS cls)) (by cases names <;> simp [Bundle.ownAtoms, Bundle.chainSAtoms, Bundle.passSAtoms])) (bytes := Bundle.six) (maxL := 2) (h (.code (Bundle.initS cls) Bundle.six 2 none) (by cases names <;> simp [Bundle.ownAtoms, Bundle.chainSAtoms, Bundle.passSAtoms]))
    (f := g) hg (a := a) (msg := msg) (rest := .ref a :: rest) hstack hd6
  cases Option.some.inj (hnC.symm.trans hP1m)
  have X₁ := X.noted hW₁
  obtain ⟨vm₂, X₂, st2⟩ := X₁.ctorMessageOffV hexec (g := { g with stack := .ref a :: rest }) hg hsize T L Z LZ M LM (P1 :: Ps)
    (fun P hP => by rcases List.mem_cons.mp hP with rfl | hP; exact L1; exact hL P hP) ⟨hlink1, hlink⟩ (u0 := u0) (sen := sen) (self := a) hmsg (cell := freshCell P1.m.cls kX) (cellS := cellS)
    hcell (fun _ => by simp) (by simp) rfl rfl hsel0 hselF hcellS hneS hknownS (by rw [hkeep _ (hout' _)]; exact hu0) (by rw [hkeep _ (hout' _)]; exact hsen)
    (Takes.of_laid hk hord tyC (by rw [Y.causeType]; rfl)) (Takes.of_laid hk hord tyS (by rw [Y.stackType]; exact fits_refV_array _ u0)) (Takes.of_laid hk hord tyP (by rw [Y.suppType]; exact fits_refV_object _ sen))
    (Takes.of_laid hk hord tyM (by rw [Y.msgType]; exact fits_refV_object _ ⟨msg, hmsg⟩)) Y.objLocals hskip htr [] hd6
    (by simp only [List.length_cons, hlen]; omega) (by simp only [List.length_cons, hlen]; exact hRlocals)
  have hlt : a < ((W.setVm vm₁).setVm vm₂).heap.size := (Array.getElem?_eq_some_iff.mp hcell).1
  refine ⟨(W.setVm vm₁).setVm vm₂, _, _, X₂, fun y hy => ?_, hlt, rfl, rfl, fun target hwalk => st1 _ (fun acts => ?_)⟩
  · simp only [List.mem_cons, List.not_mem_nil, or_false] at hy
    rcases hy with rfl | rfl | rfl | rfl | rfl <;> rfl
  · rw [doInvoke_state]
    exact st2 _ hwalk
set_option maxHeartbeats 1000000 in
theorem vx_ctorMade0 (X : Stand p l e R s m₀ args below meth c W locs cells slots) (hexec : p.tables.exec = Jvm.exec) (htr : e.platform.stackTraces = false) {own cls : String} {names : List String} {ic : Nat}
    (hown : s.vm.findClass own = some m₀.cls) (hcls : Bundle.fit cls = true) (hnames : ∀ n ∈ names, Bundle.fit n = true)
    (h : ∀ a ∈ Bundle.ownAtoms0 own ic cls names, a.before args s = true)
    (hlocs : ∀ x ∈ locs, ∀ cell, s.heap[x.base]? = some cell → cell.vm.isStatics = false)
    {a : Addr} {cX : ClassId} {kX : Class} (hfoundX : s.vm.findClass cls = some cX) (hkX : s.vm.classes[cX]? = some kX) (hcell : W.heap[a]? = some (freshCell cX kX)) (hnew : s.heap.size ≤ a)
    {g : JFrame} (hg : g.method = m₀) (hsize : g.locals.size = c.maxLocals) {rest : List Value} (hstack : g.stack = .ref a :: .ref a :: rest)
    (hd6 : decode c.code g.pc = .ok (.invokespecial ic, 3))
    (hRframes : names.length + 3 < R.frames) (hRlocals : 2 * g.monitorRoom + ((Value.ref a :: rest).map fun v => v.category).sum + (13 * (names.length + 1) + 41) ≤ R.locals) :
    ∃ (V : State) (ce : Cell) (L : List Loc), Stand p l e R s m₀ args below meth c (V.setCell a ce) (locs ++ L) cells slots ∧ (∀ y ∈ L, y.base = a) ∧ a < V.heap.size ∧ ce.cls = cX ∧ ce.vm = .none ∧
      ∀ target, Steps p.tables e below ((V.setCell a ce).setTop { g with stack := .ref a :: rest, pc := g.pc + 3 }) target → Steps p.tables e below (W.setTop g) target := by
  have howns : e.platform.frameOwnsMonitors = true := by rw [X.admits.platform]
  have hfin : e.platform.finalization = false := by rw [X.admits.platform]
  have hpl : e.platform.magicAccessors = ({} : Platform).magicAccessors := by rw [X.admits.platform]
  have a' : ∀ x, x ∈ Bundle.ownAtoms0 own ic cls names → x.holds args s none s [] = true := fun x hx => h x hx
  obtain ⟨T, Z, L, LZ, Y⟩ := ThrowableC.of_atoms (args := args) howns hfin hpl (fun x hx => h x (by simp [Bundle.ownAtoms0, hx]))
  obtain ⟨P1, Ps, hlen, L1, hL, hP1m, hlink1, hlink⟩ := Bundle.chain0 (args := args) hpl Y.init0 names cls hcls hnames (fun x hx => h x (by simp [Bundle.ownAtoms0, hx]))
  have hfound : s.vm.findClass cls = some P1.m.cls := findClass_of_methodNamed hP1m
  cases Option.some.inj (hfoundX.symm.trans hfound)
  obtain ⟨c1, kX', hc1, hk, hord, -, -, hn6⟩ := Cond.instantiable_spec (a' (.instantiable cls 6) (by simp [Bundle.ownAtoms0]))
  cases Option.some.inj (hc1.symm.trans hfound)
  cases Option.some.inj (hkX.symm.trans hk)
  have hsel0 : selectMethod e.platform s.vm P1.m.cls T.fill0 = .method T.fill0 := by
    obtain ⟨c2, r2, m2, q1, q2, q3, q4, -⟩ := Cond.selects_spec (a' (.selects cls Bundle.tFill0 Bundle.tFill0) (by simp [Bundle.ownAtoms0]))
    cases Option.some.inj (q1.symm.trans hfound)
    cases Option.some.inj (q2.symm.trans (State.methodFound?_of_named Y.fill0 (by decide)))
    cases Option.some.inj (q3.symm.trans Y.fill0)
    rw [Launch.admits_selectMethod X.admits]; exact q4
  have hselF : selectMethod e.platform s.vm P1.m.cls T.fill = .method T.fill := by
    obtain ⟨c2, r2, m2, q1, q2, q3, q4, -⟩ := Cond.selects_spec (a' (.selects cls Bundle.tFill Bundle.tFill) (by simp [Bundle.ownAtoms0]))
    cases Option.some.inj (q1.symm.trans hfound)
    cases Option.some.inj (q2.symm.trans (State.methodFound?_of_named Y.fill (by decide)))
    cases Option.some.inj (q3.symm.trans Y.fill)
    rw [Launch.admits_selectMethod X.admits]; exact q4
  obtain ⟨cellS0, hcS0, hiss⟩ := Y.statics
  obtain ⟨u0, hu0⟩ := Cond.staticRefV Y.unassigned L.unassignedStatic L.statics hcS0 hiss (a' (.isRef (.static Bundle.tN "UNASSIGNED_STACK" Bundle.steD)) (by simp [Bundle.ownAtoms0]))
  obtain ⟨sen, hsen⟩ := Cond.staticRefV Y.sentinel L.sentinelStatic L.statics hcS0 hiss (a' (.isRef (.static Bundle.tN "SUPPRESSED_SENTINEL" Bundle.listD)) (by simp [Bundle.ownAtoms0]))
  obtain ⟨ci198, i198, fB, hk198, hg198, ha198, hsB, -, hnB, htB, hffB⟩ := Cond.ownField (t := .object "java/lang/Object") Y.found L.cls (by decide +kernel) (a' (.fieldLink Bundle.tN 198 Bundle.tN "backtrace" "Ljava/lang/Object;") (by simp [Bundle.ownAtoms0])) (a' (.lays Bundle.tN Bundle.tN "backtrace" "Ljava/lang/Object;") (by simp [Bundle.ownAtoms0])) e.platform hpl
  obtain ⟨cellS, hcS', heS, -, hkeep⟩ := X.same.2.2.2.2.2 T.aS cellS0 hcS0
  have hcellS : W.heap[T.aS]? = some cellS := hcS'
  have hout' : ∀ i, (⟨T.aS, i⟩ : Loc) ∉ locs := fun i hmem => by
    have := hlocs _ hmem cellS0 hcS0
    rw [hiss] at this; cases this
  have hknownS : cellS.vm ≠ .unknown := by
    rw [heS]; intro hu
    rw [show cellS0.vm = .unknown from hu] at hiss
    cases hiss
  have hneS : T.aS ≠ a := Nat.ne_of_lt (Nat.lt_of_lt_of_le (Array.getElem?_eq_some_iff.mp hcS0).1 hnew)
  obtain ⟨iM, hffM⟩ := Y.msg
  obtain ⟨tyC, dC, hdC, hdnC⟩ := Cond.laysAt hfound hk Y.cause (a' (.lays cls Bundle.tN "cause" "Ljava/lang/Throwable;") (by simp [Bundle.ownAtoms0]))
  obtain ⟨tyS, dS, hdS, hdnS⟩ := Cond.laysAt hfound hk Y.stack (a' (.lays cls Bundle.tN "stackTrace" Bundle.steD) (by simp [Bundle.ownAtoms0]))
  obtain ⟨tyP, dP, hdP, hdnP⟩ := Cond.laysAt hfound hk Y.supp (a' (.lays cls Bundle.tN "suppressedExceptions" Bundle.listD) (by simp [Bundle.ownAtoms0]))
  obtain ⟨tyM, dM, hdM, hdnM⟩ := Cond.laysAt hfound hk hffM (a' (.lays cls Bundle.tN "detailMessage" "Ljava/lang/String;") (by simp [Bundle.ownAtoms0]))
  obtain ⟨tyB, dB, hdB, hdnB⟩ := Cond.laysAt hfound hk hffB (a' (.lays cls Bundle.tN "backtrace" "Ljava/lang/Object;") (by simp [Bundle.ownAtoms0]))
  have bC := Cond.laysApart hdB hdC hdnB hdnC (by rw [hnB, Y.causeName]; decide)
  have bS := Cond.laysApart hdB hdS hdnB hdnS (by rw [hnB, Y.stackName]; decide)
  have bP := Cond.laysApart hdB hdP hdnB hdnP (by rw [hnB, Y.suppName]; decide)
  have hskip : SkipFacts T e.platform s (fun u => u) u0 ((preparedCellV T.toThrowableT (freshCell P1.m.cls kX) a u0 sen).withEntry W.cur) :=
    ⟨{ ci198 := ci198, i198 := i198, fBack := fB }, ⟨hk198, hg198, ha198, hsB⟩, by
      have := fresh_default (c := P1.m.cls) tyB
      rw [htB] at this
      simpa [preparedCellV, Cell.setSlot, Cell.withEntry, Array.getElem?_setIfInBounds, bC, bS, bP, bC.symm, bS.symm, bP.symm, defaultValue] using this, fun _ _ => rfl⟩
  obtain ⟨tm, methC, cdC, kC, vm₁, hnC, -, -, -, -, -, -, -, hW₁, st1⟩ := Steps.initCold (tb := p.tables) (e := e) (below := below) (s := s) (U := W) X.here hexec X.warmed hpl hown (t := Bundle.init0 cls) rfl rfl (Bundle.fit_spec hcls).2
    (a' (.methodLink own ic (Bundle.init0 cls)) (by simp [Bundle.ownAtoms0])) (h (.instanceMethod (Bundle.init0 cls)) (by cases names <;> simp [Bundle.ownAtoms0, Bundle.chain0Atoms, Bundle.passAtoms])) (bytes := Bundle.five) (maxL := 1) (h (.code (Bundle.init0 cls) Bundle.five 1 none) (by cases names <;> simp [Bundle.ownAtoms0, Bundle.chain0Atoms, Bundle.passAtoms]))
    (f := g) hg (a := a) (rest := .ref a :: rest) hstack hd6
  cases Option.some.inj (hnC.symm.trans hP1m)
  have X₁ := X.noted hW₁
  obtain ⟨vm₂, X₂, st2⟩ := X₁.ctorPlainOffV hexec (g := { g with stack := .ref a :: rest }) hg hsize T L Z LZ (P1 :: Ps)
    (fun P hP => by rcases List.mem_cons.mp hP with rfl | hP; exact L1; exact hL P hP) ⟨hlink1, hlink⟩ (u0 := u0) (sen := sen) (self := a) (cell := freshCell P1.m.cls kX) (cellS := cellS)
    hcell (fun _ => by simp) (by simp) rfl rfl hsel0 hselF hcellS hneS hknownS (by rw [hkeep _ (hout' _)]; exact hu0) (by rw [hkeep _ (hout' _)]; exact hsen)
    (Takes.of_laid hk hord tyC (by rw [Y.causeType]; rfl)) (Takes.of_laid hk hord tyS (by rw [Y.stackType]; exact fits_refV_array _ u0)) (Takes.of_laid hk hord tyP (by rw [Y.suppType]; exact fits_refV_object _ sen)) Y.objLocals hskip htr [] hd6
    (by simp only [List.length_cons, hlen]; omega) (by simp only [List.length_cons, hlen]; exact hRlocals)
  have hlt : a < ((W.setVm vm₁).setVm vm₂).heap.size := (Array.getElem?_eq_some_iff.mp hcell).1
  refine ⟨(W.setVm vm₁).setVm vm₂, _, _, X₂, fun y hy => ?_, hlt, rfl, rfl, fun target hwalk => st1 _ (fun acts => ?_)⟩
  · simp only [List.mem_cons, List.not_mem_nil, or_false] at hy
    rcases hy with rfl | rfl | rfl | rfl <;> rfl
  · rw [doInvoke_state]
    exact st2 _ hwalk
end VXK
section VXK2
variable {p : Program} {l : Launch} {e : Env} {R : Room} {s : State} {m : MethodId} {args : Array Value} {below : List Frame} {meth : Method} {c : Code} {H : Heap} {locs : List Loc} {cells slots : Nat} {Q : State → Prop}
variable {ls : Array Slot} {rest : List Value} {D : va_G} {cl : List vw_C} {tys : List (ClassId × FieldType)} {ws : va_W}
/-- 'new E("text")' that isn't thrown at once: the object goes on the stack -/
theorem vx_makeS {cc : ByteArray} {pc : Nat} (hexec : p.tables.exec = Jvm.exec) (hb : c.code = cc) (hl : l.stackTraces = false) {own cls text : String} {names : List String} {ik is ic sa ci : Nat} {A : Nat → Prop} {T0 : u_T}
    (hown : s.vm.findClass own = some m.cls) (hcls : Bundle.fit cls = true) (hnames : ∀ n ∈ names, Bundle.fit n = true)
    (hk : (Cond.classLink own ik cls).before args s = true) (hini : (Cond.initialized cls).before args s = true) (hstr : vk_R own is text sa s) (hat : ∀ w ∈ vx_atS own ic cls names, w.before args s = true)
    (hgood : ∀ w ∈ Cond.classLink own ik cls :: Cond.initialized cls :: vx_atS own ic cls names, vx_ot w = true)
    (hU : vx_Zq Bundle.tN "UNASSIGNED_STACK" Bundle.steD A s s.heap) (hN : vx_Zq Bundle.tN "SUPPRESSED_SENTINEL" Bundle.listD A s s.heap) (hS : va_S A s.heap H locs) (hsize : ls.size = c.maxLocals)
    (d0 : decode cc pc = .ok (.new ik, 3)) (d3 : decode cc (pc + 3) = .ok (.dup, 1)) (d4 : decode cc (pc + 4) = .ok (.ldc is, 2)) (d6 : decode cc (pc + 6) = .ok (.invokespecial ic, 3))
    (hK : va_K D cl tys s) (hP : va_P D cl ws H) (hD : va_D A ws) (hA : ∀ q, s.heap.size ≤ q → A q) (hc : cl[ci]? = some (cls, T0, 0))
    (hRframes : names.length + 3 < R.frames) (hRlocals : (rest.map fun v => v.category).sum + (13 * (names.length + 1) + 43) ≤ R.locals) (hRcells : cells + 1 ≤ R.cells) (hRslots : slots + 6 ≤ R.slots)
    (kk : ∀ (q : Nat) (H1 : Heap), va_P D cl (ws ++ [(q, .inr (ci, []))]) H1 → va_D A (ws ++ [(q, .inr (ci, []))]) → va_S A s.heap H1 locs → W p l e R s m args below meth c H1 locs (cells + 1) (slots + 6) Q (F0 m (pc + 9) ls (.ref q :: rest))) :
    W p l e R s m args below meth c H locs cells slots Q (F0 m pc ls rest) := by
  intro T hT X
  subst hT
  have htr : e.platform.stackTraces = false := (show e.platform.stackTraces = l.stackTraces by rw [X.admits.platform]).trans hl
  have Y := vx_rebase X (R' := { frames := R.frames, locals := R.locals, cells := 1, slots := 6 }) (Nat.le_refl _) (Nat.le_refl _) hRcells hRslots
  obtain ⟨s', hA'⟩ : ∃ z, z = (T.setVm s.vm).setFrames (.invoking m args :: below) := ⟨_, rfl⟩
  rw [← hA'] at Y
  have hvm : s'.vm = s.vm := by rw [hA']; rfl
  have hhp : s'.heap = T.heap := by rw [hA']; rfl
  have hW0 : s.WarmedH s'.vm := by rw [hvm]; exact State.WarmedH.refl s
  have hat' : ∀ w ∈ vx_atS own ic cls names, w.before args s' = true := fun w hw => vx_ot_at hW0 hvm.symm (hgood w (List.mem_cons_of_mem _ (List.mem_cons_of_mem _ hw))) (hat w hw)
  have hk' : (Cond.classLink own ik cls).before args s' = true := vx_ot_at hW0 hvm.symm (hgood _ List.mem_cons_self) hk
  have hini' : (Cond.initialized cls).before args s' = true := vx_ot_at hW0 hvm.symm (hgood _ (List.mem_cons_of_mem _ List.mem_cons_self)) hini
  have hU' : vx_Zq Bundle.tN "UNASSIGNED_STACK" Bundle.steD A s' s'.heap := by rw [hhp]; exact vx_Zq.moved hW0.alike (hU.kept hS.2.1)
  have hN' : vx_Zq Bundle.tN "SUPPRESSED_SENTINEL" Bundle.listD A s' s'.heap := by rw [hhp]; exact vx_Zq.moved hW0.alike (hN.kept hS.2.1)
  have h : ∀ w ∈ Bundle.ownAtoms own ic cls names, w.before args s' = true := vx_own hat' (vx_isRefq hU'.1) (vx_isRefq hN'.1) hU'.2.word hN'.2.word
  have hown' : s'.vm.findClass own = some m.cls := by rw [hvm]; exact hown
  have hins : (Cond.instantiable cls 6).before args s' = true := h _ (by simp [Bundle.ownAtoms])
  obtain ⟨vm₁, cX, kX, hfX, hkX, -, -, X₁, st1⟩ := Y.newCold hexec (own := own) (C := cls) (index := ik) (n := 6) hown' hk' hins hini'
    (g := F0 m pc ls rest) rfl (by rw [hb]; exact d0) (Nat.le_refl _) (Nat.le_refl _)
  generalize hT1 : (T.setVm vm₁).pushCell { cls := cX, slots := kX.instanceTypes.map defaultValue, vm := .none } = T1 at X₁ st1
  have hcat : (Value.ref T.heap.size).category = 1 := rfl
  have hcellA : T1.heap[T.heap.size]? = some (freshCell cX kX) := by rw [← hT1]; exact State.heap_pushCell_size _ _
  have d3' : decode c.code (pc + 3) = .ok (.dup, 1) := by rw [hb]; exact d3
  have d4' : decode c.code (pc + 4) = .ok (.ldc is, 2) := by rw [hb]; exact d4
  have hstr' : vk_R own is text sa s' := vk_R.warm hW0 hstr
  obtain ⟨V, ce, L, Z, hL, hlt, hcl9, hvm9, st⟩ := vx_ctorMadeS X₁ hexec htr (own := own) (cls := cls) (names := names) (ic := ic) hown' hcls hnames h (fun x hx => nomatch hx) hfX hkX hcellA (by rw [hhp]; exact Nat.le_refl _) (msg := .ref sa) rfl
    (g := { method := m, pc := pc + 6, locals := ls, stack := .ref sa :: .ref T.heap.size :: .ref T.heap.size :: rest, locked := none }) rfl hsize (rest := rest) rfl
    (by rw [hb]; exact d6) hRframes (by simp only [List.map_cons, List.sum_cons, hcat]; omega)
  have Z0 := Stand.forget (locs := []) Z (fun y hy => by rw [hL y hy, hhp]; exact Nat.le_refl _)
  obtain ⟨f1, f2⟩ := vx_frame Z0.same
  rw [hhp] at f1 f2
  have hcid : ce.cls = D.1 ci := by
    rw [hcl9]
    have h1 := (hK.1 ci _ hc).2.1
    rw [hvm] at hfX
    exact Option.some.inj (hfX.symm.trans h1)
  have hh : (V.setCell T.heap.size ce).heap[T.heap.size]? = some ce := heapAt_setCell_self (s := V) ce hlt
  subst hA'
  have X5 := vx_back9 X Y Z0
  have X6 : Stand p l e R s m args below meth c (V.setCell T.heap.size ce) locs (cells + 1) (slots + 6) := { X5 with same := X5.same.mono (by omega) (by omega) }
  have hk9 : ∀ (k : Nat) (x : Nat × va_E), ws[k]? = some x → (V.setCell T.heap.size ce).heap[x.1]? = T.heap[x.1]? := fun k x hx => f2 x.1 ((hP k x hx).lt) (fun z hz => nomatch hz)
  obtain ⟨t, a1, b1⟩ := kk T.heap.size (V.setCell T.heap.size ce).heap ((hP.kept hk9).app (fun k x hx => by
      have hz : k < 1 := (List.getElem?_eq_some_iff.mp hx).1
      rw [show k = 0 by omega] at hx
      cases hx
      exact ⟨_, hc, ce, hh, hcid, hvm9, fun k hk => absurd hk (Nat.not_lt_zero k)⟩)) (hD.push hP rfl (hA _ hS.1)) ⟨Nat.le_trans hS.1 f1, fun q h1 h2 => (f2 q (Nat.lt_of_lt_of_le h1 hS.1) (fun z hz => nomatch hz)).trans (hS.2.1 q h1 h2), hS.2.2⟩ _ rfl X6
  refine ⟨t, st1 _ ?_, b1⟩
  show Steps p.tables e below (T1.setTop { method := m, pc := pc + 3, locals := ls, stack := .ref T.heap.size :: rest, locked := none }) _
  jvm_step X₁.here [X₁.here.top, hexec, d3', Value.category]
  exact X₁.ldcString hexec (own := own) (text := text) (index := is) (a := sa) hown' hstr'.1 hstr'.2
    (g := { method := m, pc := pc + 4, locals := ls, stack := .ref T.heap.size :: .ref T.heap.size :: rest, locked := none }) rfl d4' _ (st _ a1)
/-- 'new E()' that isn't thrown at once: the object goes on the stack -/
theorem vx_make0 {cc : ByteArray} {pc : Nat} (hexec : p.tables.exec = Jvm.exec) (hb : c.code = cc) (hl : l.stackTraces = false) {own cls : String} {names : List String} {ik ic ci : Nat} {A : Nat → Prop} {T0 : u_T}
    (hown : s.vm.findClass own = some m.cls) (hcls : Bundle.fit cls = true) (hnames : ∀ n ∈ names, Bundle.fit n = true)
    (hk : (Cond.classLink own ik cls).before args s = true) (hini : (Cond.initialized cls).before args s = true) (hat : ∀ w ∈ vx_at0 own ic cls names, w.before args s = true)
    (hgood : ∀ w ∈ Cond.classLink own ik cls :: Cond.initialized cls :: vx_at0 own ic cls names, vx_ot w = true)
    (hU : vx_Zq Bundle.tN "UNASSIGNED_STACK" Bundle.steD A s s.heap) (hN : vx_Zq Bundle.tN "SUPPRESSED_SENTINEL" Bundle.listD A s s.heap) (hS : va_S A s.heap H locs) (hsize : ls.size = c.maxLocals)
    (d0 : decode cc pc = .ok (.new ik, 3)) (d3 : decode cc (pc + 3) = .ok (.dup, 1)) (d4 : decode cc (pc + 4) = .ok (.invokespecial ic, 3))
    (hK : va_K D cl tys s) (hP : va_P D cl ws H) (hD : va_D A ws) (hA : ∀ q, s.heap.size ≤ q → A q) (hc : cl[ci]? = some (cls, T0, 0))
    (hRframes : names.length + 3 < R.frames) (hRlocals : (rest.map fun v => v.category).sum + (13 * (names.length + 1) + 42) ≤ R.locals) (hRcells : cells + 1 ≤ R.cells) (hRslots : slots + 6 ≤ R.slots)
    (kk : ∀ (q : Nat) (H1 : Heap), va_P D cl (ws ++ [(q, .inr (ci, []))]) H1 → va_D A (ws ++ [(q, .inr (ci, []))]) → va_S A s.heap H1 locs → W p l e R s m args below meth c H1 locs (cells + 1) (slots + 6) Q (F0 m (pc + 7) ls (.ref q :: rest))) :
    W p l e R s m args below meth c H locs cells slots Q (F0 m pc ls rest) := by
  intro T hT X
  subst hT
  have htr : e.platform.stackTraces = false := (show e.platform.stackTraces = l.stackTraces by rw [X.admits.platform]).trans hl
  have Y := vx_rebase X (R' := { frames := R.frames, locals := R.locals, cells := 1, slots := 6 }) (Nat.le_refl _) (Nat.le_refl _) hRcells hRslots
  obtain ⟨s', hA'⟩ : ∃ z, z = (T.setVm s.vm).setFrames (.invoking m args :: below) := ⟨_, rfl⟩
  rw [← hA'] at Y
  have hvm : s'.vm = s.vm := by rw [hA']; rfl
  have hhp : s'.heap = T.heap := by rw [hA']; rfl
  have hW0 : s.WarmedH s'.vm := by rw [hvm]; exact State.WarmedH.refl s
  have hat' : ∀ w ∈ vx_at0 own ic cls names, w.before args s' = true := fun w hw => vx_ot_at hW0 hvm.symm (hgood w (List.mem_cons_of_mem _ (List.mem_cons_of_mem _ hw))) (hat w hw)
  have hk' : (Cond.classLink own ik cls).before args s' = true := vx_ot_at hW0 hvm.symm (hgood _ List.mem_cons_self) hk
  have hini' : (Cond.initialized cls).before args s' = true := vx_ot_at hW0 hvm.symm (hgood _ (List.mem_cons_of_mem _ List.mem_cons_self)) hini
  have hU' : vx_Zq Bundle.tN "UNASSIGNED_STACK" Bundle.steD A s' s'.heap := by rw [hhp]; exact vx_Zq.moved hW0.alike (hU.kept hS.2.1)
  have hN' : vx_Zq Bundle.tN "SUPPRESSED_SENTINEL" Bundle.listD A s' s'.heap := by rw [hhp]; exact vx_Zq.moved hW0.alike (hN.kept hS.2.1)
  have h : ∀ w ∈ Bundle.ownAtoms0 own ic cls names, w.before args s' = true := vx_own hat' (vx_isRefq hU'.1) (vx_isRefq hN'.1) hU'.2.word hN'.2.word
  have hown' : s'.vm.findClass own = some m.cls := by rw [hvm]; exact hown
  have hins : (Cond.instantiable cls 6).before args s' = true := h _ (by simp [Bundle.ownAtoms0])
  obtain ⟨vm₁, cX, kX, hfX, hkX, -, -, X₁, st1⟩ := Y.newCold hexec (own := own) (C := cls) (index := ik) (n := 6) hown' hk' hins hini'
    (g := F0 m pc ls rest) rfl (by rw [hb]; exact d0) (Nat.le_refl _) (Nat.le_refl _)
  generalize hT1 : (T.setVm vm₁).pushCell { cls := cX, slots := kX.instanceTypes.map defaultValue, vm := .none } = T1 at X₁ st1
  have hcat : (Value.ref T.heap.size).category = 1 := rfl
  have hcellA : T1.heap[T.heap.size]? = some (freshCell cX kX) := by rw [← hT1]; exact State.heap_pushCell_size _ _
  have d3' : decode c.code (pc + 3) = .ok (.dup, 1) := by rw [hb]; exact d3
  obtain ⟨V, ce, L, Z, hL, hlt, hcl9, hvm9, st⟩ := vx_ctorMade0 X₁ hexec htr (own := own) (cls := cls) (names := names) (ic := ic) hown' hcls hnames h (fun x hx => nomatch hx) hfX hkX hcellA (by rw [hhp]; exact Nat.le_refl _)
    (g := { method := m, pc := pc + 4, locals := ls, stack := .ref T.heap.size :: .ref T.heap.size :: rest, locked := none }) rfl hsize (rest := rest) rfl
    (by rw [hb]; exact d4) hRframes (by simp only [List.map_cons, List.sum_cons, hcat]; omega)
  have Z0 := Stand.forget (locs := []) Z (fun y hy => by rw [hL y hy, hhp]; exact Nat.le_refl _)
  obtain ⟨f1, f2⟩ := vx_frame Z0.same
  rw [hhp] at f1 f2
  have hcid : ce.cls = D.1 ci := by
    rw [hcl9]
    have h1 := (hK.1 ci _ hc).2.1
    rw [hvm] at hfX
    exact Option.some.inj (hfX.symm.trans h1)
  have hh : (V.setCell T.heap.size ce).heap[T.heap.size]? = some ce := heapAt_setCell_self (s := V) ce hlt
  subst hA'
  have X5 := vx_back9 X Y Z0
  have X6 : Stand p l e R s m args below meth c (V.setCell T.heap.size ce) locs (cells + 1) (slots + 6) := { X5 with same := X5.same.mono (by omega) (by omega) }
  have hk9 : ∀ (k : Nat) (x : Nat × va_E), ws[k]? = some x → (V.setCell T.heap.size ce).heap[x.1]? = T.heap[x.1]? := fun k x hx => f2 x.1 ((hP k x hx).lt) (fun z hz => nomatch hz)
  obtain ⟨t, a1, b1⟩ := kk T.heap.size (V.setCell T.heap.size ce).heap ((hP.kept hk9).app (fun k x hx => by
      have hz : k < 1 := (List.getElem?_eq_some_iff.mp hx).1
      rw [show k = 0 by omega] at hx
      cases hx
      exact ⟨_, hc, ce, hh, hcid, hvm9, fun k hk => absurd hk (Nat.not_lt_zero k)⟩)) (hD.push hP rfl (hA _ hS.1)) ⟨Nat.le_trans hS.1 f1, fun q h1 h2 => (f2 q (Nat.lt_of_lt_of_le h1 hS.1) (fun z hz => nomatch hz)).trans (hS.2.1 q h1 h2), hS.2.2⟩ _ rfl X6
  refine ⟨t, st1 _ ?_, b1⟩
  show Steps p.tables e below (T1.setTop { method := m, pc := pc + 3, locals := ls, stack := .ref T.heap.size :: rest, locked := none }) _
  jvm_step X₁.here [X₁.here.top, hexec, d3', Value.category]
  exact st _ a1
/-- 'throw x' of an object that was made before -/
theorem vx_athrow {cc : ByteArray} {pc : Nat} (hexec : p.tables.exec = Jvm.exec) (hb : c.code = cc) {q : Addr} (hdg : decode cc pc = .ok (.athrow, 1)) (k : vx_W p l e R s m args below meth c H locs cells slots Q (F0 m pc ls rest) q) : W p l e R s m args below meth c H locs cells slots Q (F0 m pc ls (.ref q :: rest)) := by
  intro T hT X
  obtain ⟨t, st, hq⟩ := k T hT X
  refine ⟨t, ?_, hq⟩
  have hdg' : decode c.code pc = .ok (.athrow, 1) := by rw [hb]; exact hdg
  jvm_step X.here [X.here.top, hexec, hdg', athrow.wp_sem]
  exact st
end VXK2
/-! ===== END ===== -/
/-! ===== BEGIN a constructor that throws (launches without stack traces) ===== -/
section VXIA
variable {p : Program} {l : Launch} {e : Env} {R : Room} {s : State} {m : MethodId} {args : Array Value} {below : List Frame} {meth : Method} {c : Code} {T : State} {locs : List Loc} {cells slots : Nat}
theorem vx_callI (X : Stand p l e R s m args below meth c T locs cells slots) (hexec : p.tables.exec = Jvm.exec) {own : String} {index : Nat} {y : MethodName} {bytes : ByteArray} {maxL : Nat}
    (hown : s.vm.findClass own = some m.cls) (hy1 : y.name = "<init>") (hlink : (Cond.methodLink own index y).before args s = true) (hinst : (Cond.instanceMethod y).before args s = true)
    (hcode : (Cond.code y bytes maxL none).before args s = true) (hy : y.cls ≠ "java/lang/invoke/MethodHandle" ∧ y.cls ≠ "java/lang/invoke/VarHandle")
    {W9 : Nat} {Pre : Pt → Array Value → Prop} {Post : Pt → Array Value → Option Value → Pt → Prop} {PostX : Pt → Array Value → Addr → Pt → Prop} (hK : vx_Back l R p e below s args y 3 W9 Pre Post PostX)
    {g : JFrame} (hg : g.method = m) (hsize : g.locals.size = c.maxLocals) {a : Addr} {argsL rest : List Value} (hlen : ∀ sig, parseMethodDescriptor y.desc = some sig → argsL.length = sig.parameters.length)
    (hstack : g.stack = argsL.reverse ++ .ref a :: rest) (hW : 2 * g.monitorRoom + (rest.map fun v => v.category).sum ≤ W9) (hdg : decode c.code g.pc = .ok (.invokespecial index, 3))
    (hpre : ∀ vm₁, s.WarmedH vm₁ → Pre ⟨T.setVm vm₁, locs, cells, slots⟩ (Value.ref a :: argsL).toArray) :
    (∃ (v : Option Value) (vm₁ : Vm) (B : Pt), s.WarmedH vm₁ ∧ Stand p l e R s m args below meth c B.U B.locs B.cells B.slots ∧ Post ⟨T.setVm vm₁, locs, cells, slots⟩ (Value.ref a :: argsL).toArray v B ∧
      ∀ target, Steps p.tables e below (B.U.setTop { g with pc := g.pc + 3, stack := v.toList ++ rest }) target → Steps p.tables e below (T.setTop g) target) ∨
    (∃ (q : Addr) (vm₁ : Vm) (B : Pt), s.WarmedH vm₁ ∧ Stand p l e R s m args below meth c B.U B.locs B.cells B.slots ∧ PostX ⟨T.setVm vm₁, locs, cells, slots⟩ (Value.ref a :: argsL).toArray q B ∧
      Steps p.tables e below (T.setTop g) ((B.U.setTop { g with stack := rest }).pushFrame (.throwing q))) := by
  subst hg
  have hpl : e.platform.magicAccessors = ({} : Platform).magicAccessors := by rw [X.admits.platform]
  obtain ⟨mk, methM, cM, kP, vm₁, hnamed, hmethM, hcodeM, -, hlocalsM, -, hkP, -, hW₁, hstep₁⟩ := Steps.initColdArgs (e := e) X.here hexec X.warmed hpl hown hy1 hy hlink hinst hcode (f := g) rfl hlen hstack hdg
  have X₁ := X.noted hW₁
  rcases hK g.method meth c ⟨T.setVm vm₁, locs, cells, slots⟩ { g with stack := rest } (.invokespecial index) mk (Value.ref a :: argsL).toArray X₁ rfl hsize hdg hW (X₁.named hnamed) (hpre vm₁ X₁.warmed) with ⟨v, B, X', hpost, hsteps⟩ | ⟨q, B, X', hpost, hsteps⟩
  · exact Or.inl ⟨v, vm₁, B, X₁.warmed, X', hpost, fun target h => hstep₁ _ fun acts => by rw [doInvoke_state]; exact hsteps.trans h⟩
  · exact Or.inr ⟨q, vm₁, B, X₁.warmed, X', hpost, hstep₁ _ fun acts => by rw [doInvoke_state]; exact hsteps⟩
end VXIA
section VXIB
variable {p : Program} {l : Launch} {e : Env} {R : Room} {s : State} {m : MethodId} {args : Array Value} {below : List Frame} {meth : Method} {c : Code} {H : Heap} {locs : List Loc} {cells slots : Nat}
variable {y : MethodName} {bytes cc : ByteArray} {maxL nL mc ms n index : Nat} {ret : Option FieldType} {ws : List Cond} {rm : Room} {Pc : Array Value → State → Prop} {Qc : Array Value → State → Outcome → State → Prop} {XC : String → State → State → Prop} {free : Addr → Prop} {Ts : List Cond} {own C : String} {b : Addr} {As rest : List Value} {g : JFrame}
theorem vx_runI (S : CallFix p m c cc nL s args Ts own) (hM : vx_Met l y ws rm Pc Qc XC mc ms free) (cw : CallB R s args own index y bytes maxL none ws rm mc ms n ∧ y.name = "<init>" ∧ (Cond.instanceMethod y).before args s = true) (hp : PreS s H Pc (.ref b :: As))
    (hg : g.method = m) (hn : As.length = n) (hsize : g.locals.size = nL) (hstack : g.stack = As.reverse ++ .ref b :: rest) (hW : 2 * g.monitorRoom + (rest.map fun v => v.category).sum ≤ 8) (hdg : decode cc g.pc = .ok (.invokespecial index, 3)) (hf : cells + mc ≤ R.cells ∧ slots + ms ≤ R.slots) :
    vx_Run p l e R s m args below meth c H locs cells slots mc ms g rest (Qc (Value.ref b :: As).toArray) XC free := by
  have hK : vx_Back l R p e below s args y 3 8 (PreOf R mc ms Pc) (PostOf Qc mc ms free) (vx_Post XC mc ms free) := vx_callBack cw.1 hM hp.1
  obtain ⟨⟨-, -, -, -, -, -, hcode, -, hy, hlen, hl⟩, hy1, hin⟩ := cw
  obtain ⟨hx, hb, hml, ho, -⟩ := S
  have hPc := hp.2
  intro T hT X
  rcases vx_callI X hx (bytes := bytes) (maxL := maxL) ho hy1 hl hin hcode hy hK hg (hsize.trans hml.symm) (a := b) (argsL := As) (rest := rest) (fun sig h => hn.trans (hlen sig h)) hstack hW (by rw [hb]; exact hdg)
    (fun vm₁ hW₁ => ⟨hf.1, hf.2, hPc (T.setVm vm₁) hT hW₁⟩) with ⟨v, vm₁, ⟨U', l2, c2, s2⟩, hW₁, X', ⟨g', mk, t, L, e1, e2, hq, h1, hL, h2, h3⟩, st⟩ | ⟨q, vm₁, ⟨U', l2, c2, s2⟩, hW₁, X', ⟨g', mk, t, L, E, ce, e1, e2, hq, hce, hcv, hcl, h1, hL, h2, h3⟩, st⟩
  · dsimp only [Pt.U, Pt.locs, Pt.cells, Pt.slots] at X' e1 e2 h1 h2 h3 st
    subst h1; subst h2; subst h3
    exact Or.inl ⟨v, (T.setVm vm₁).calling g' mk (Value.ref b :: As).toArray, t, U', L, hT, X', hL, e1, e2, hq, st⟩
  · dsimp only [Pt.U, Pt.locs, Pt.cells, Pt.slots] at X' e1 e2 h1 h2 h3 st hcl
    subst h1; subst h2; subst h3
    exact Or.inr ⟨q, (T.setVm vm₁).calling g' mk (Value.ref b :: As).toArray, t, U', L, E, ce, hT, X', hL, e1, e2, hq, hce, hcv, vx_cls hW₁ hcl, st⟩
end VXIB
/-! ===== END ===== -/
/-! ===== BEGIN a private constructor of a nest mate that throws ===== -/
section VXIC
variable {p : Program} {l : Launch} {e : Env} {R : Room} {s : State} {m : MethodId} {args : Array Value} {below : List Frame} {meth : Method} {c : Code} {T : State} {locs : List Loc} {cells slots : Nat}
theorem vx_callIN (X : Stand p l e R s m args below meth c T locs cells slots) (hexec : p.tables.exec = Jvm.exec) {own : String} {index : Nat} {host : String} {y : MethodName} {bytes : ByteArray} {maxL : Nat}
    (hown : s.vm.findClass own = some m.cls) (hy1 : y.name = "<init>") (hlink : (Cond.methodLinkNest own index y host).before args s = true) (hinst : (Cond.instanceMethod y).before args s = true)
    (hcode : (Cond.code y bytes maxL none).before args s = true) (hy : y.cls ≠ "java/lang/invoke/MethodHandle" ∧ y.cls ≠ "java/lang/invoke/VarHandle")
    {W9 : Nat} {Pre : Pt → Array Value → Prop} {Post : Pt → Array Value → Option Value → Pt → Prop} {PostX : Pt → Array Value → Addr → Pt → Prop} (hK : vx_Back l R p e below s args y 3 W9 Pre Post PostX)
    {g : JFrame} (hg : g.method = m) (hsize : g.locals.size = c.maxLocals) {a : Addr} {argsL rest : List Value} (hlen : ∀ sig, parseMethodDescriptor y.desc = some sig → argsL.length = sig.parameters.length)
    (hstack : g.stack = argsL.reverse ++ .ref a :: rest) (hW : 2 * g.monitorRoom + (rest.map fun v => v.category).sum ≤ W9) (hdg : decode c.code g.pc = .ok (.invokespecial index, 3))
    (hpre : ∀ vm₁, s.WarmedH vm₁ → Pre ⟨T.setVm vm₁, locs, cells, slots⟩ (Value.ref a :: argsL).toArray) :
    (∃ (v : Option Value) (vm₁ : Vm) (B : Pt), s.WarmedH vm₁ ∧ Stand p l e R s m args below meth c B.U B.locs B.cells B.slots ∧ Post ⟨T.setVm vm₁, locs, cells, slots⟩ (Value.ref a :: argsL).toArray v B ∧
      ∀ target, Steps p.tables e below (B.U.setTop { g with pc := g.pc + 3, stack := v.toList ++ rest }) target → Steps p.tables e below (T.setTop g) target) ∨
    (∃ (q : Addr) (vm₁ : Vm) (B : Pt), s.WarmedH vm₁ ∧ Stand p l e R s m args below meth c B.U B.locs B.cells B.slots ∧ PostX ⟨T.setVm vm₁, locs, cells, slots⟩ (Value.ref a :: argsL).toArray q B ∧
      Steps p.tables e below (T.setTop g) ((B.U.setTop { g with stack := rest }).pushFrame (.throwing q))) := by
  subst hg
  have hpl : e.platform.magicAccessors = ({} : Platform).magicAccessors := by rw [X.admits.platform]
  obtain ⟨mk, methM, cM, kP, vm₁, hnamed, hmethM, hcodeM, -, hlocalsM, -, hkP, -, hW₁, hstep₁⟩ := Steps.initColdArgsNest (e := e) X.here hexec X.warmed hpl hown hy1 hy hlink hinst hcode (f := g) rfl hlen hstack hdg
  have X₁ := X.noted hW₁
  rcases hK g.method meth c ⟨T.setVm vm₁, locs, cells, slots⟩ { g with stack := rest } (.invokespecial index) mk (Value.ref a :: argsL).toArray X₁ rfl hsize hdg hW (X₁.named hnamed) (hpre vm₁ X₁.warmed) with ⟨v, B, X', hpost, hsteps⟩ | ⟨q, B, X', hpost, hsteps⟩
  · exact Or.inl ⟨v, vm₁, B, X₁.warmed, X', hpost, fun target h => hstep₁ _ fun acts => by rw [doInvoke_state]; exact hsteps.trans h⟩
  · exact Or.inr ⟨q, vm₁, B, X₁.warmed, X', hpost, hstep₁ _ fun acts => by rw [doInvoke_state]; exact hsteps⟩
end VXIC
section VXID
variable {p : Program} {l : Launch} {e : Env} {R : Room} {s : State} {m : MethodId} {args : Array Value} {below : List Frame} {meth : Method} {c : Code} {H : Heap} {locs : List Loc} {cells slots : Nat}
theorem vx_runIN {y : MethodName} {bytes cc : ByteArray} {maxL nL mc ms n index : Nat} {ws : List Cond} {rm : Room} {Pc : Array Value → State → Prop} {Qc : Array Value → State → Outcome → State → Prop} {XC : String → State → State → Prop} {free : Addr → Prop} {Ts : List Cond} {own host : String} {b : Addr} {As rest : List Value} {g : JFrame}
    (S : CallFix p m c cc nL s args Ts own) (hM : vx_Met l y ws rm Pc Qc XC mc ms free) (cw : va_CN R s args own index y host bytes maxL none ws rm mc ms n ∧ y.name = "<init>" ∧ (Cond.instanceMethod y).before args s = true) (hp : PreS s H Pc (.ref b :: As))
    (hg : g.method = m) (hn : As.length = n) (hsize : g.locals.size = nL) (hstack : g.stack = As.reverse ++ .ref b :: rest) (hW : 2 * g.monitorRoom + (rest.map fun v => v.category).sum ≤ 8) (hdg : decode cc g.pc = .ok (.invokespecial index, 3)) (hf : cells + mc ≤ R.cells ∧ slots + ms ≤ R.slots) :
    vx_Run p l e R s m args below meth c H locs cells slots mc ms g rest (Qc (Value.ref b :: As).toArray) XC free := by
  obtain ⟨⟨⟨hrc, hrs, hfr, hlo, hws, hcw⟩, hcode, hini, hy, hlen, hl⟩, hx1, hx2⟩ := cw
  have hK : vx_Back l R p e below s args y 3 8 (PreOf R mc ms Pc) (PostOf Qc mc ms free) (vx_Post XC mc ms free) := vx_back (bytes := bytes) (maxL := maxL) (ret := none) hM hp.1 hrc hrs hfr hlo hws hcw (fun a' U hW => word_at hW (Or.inl (by first | rfl | simp [Cond.onTables, Cond.keeps, Cond.steady])) hini)
  obtain ⟨hx, hb, hml, ho, -⟩ := S
  have hPc := hp.2
  intro T hT X
  rcases vx_callIN X hx (bytes := bytes) (maxL := maxL) ho hx1 hl hx2 hcode hy hK hg (hsize.trans hml.symm) (a := b) (argsL := As) (rest := rest) (fun sig h => hn.trans (hlen sig h)) hstack hW (by rw [hb]; exact hdg)
    (fun vm₁ hW₁ => ⟨hf.1, hf.2, hPc (T.setVm vm₁) hT hW₁⟩) with ⟨v, vm₁, ⟨U', l2, c2, s2⟩, hW₁, X', ⟨g', mk, t, L, e1, e2, hq, h1, hL, h2, h3⟩, st⟩ | ⟨q, vm₁, ⟨U', l2, c2, s2⟩, hW₁, X', ⟨g', mk, t, L, E, ce, e1, e2, hq, hce, hcv, hcl, h1, hL, h2, h3⟩, st⟩
  · dsimp only [Pt.U, Pt.locs, Pt.cells, Pt.slots] at X' e1 e2 h1 h2 h3 st
    subst h1; subst h2; subst h3
    exact Or.inl ⟨v, (T.setVm vm₁).calling g' mk (Value.ref b :: As).toArray, t, U', L, hT, X', hL, e1, e2, hq, st⟩
  · dsimp only [Pt.U, Pt.locs, Pt.cells, Pt.slots] at X' e1 e2 h1 h2 h3 st hcl
    subst h1; subst h2; subst h3
    exact Or.inr ⟨q, (T.setVm vm₁).calling g' mk (Value.ref b :: As).toArray, t, U', L, E, ce, hT, X', hL, e1, e2, hq, hce, hcv, vx_cls hW₁ hcl, st⟩
end VXID
/-! ===== END ===== -/
/-! ===== BEGIN a method of a class above, found by the receiver, that may throw (follows va_callVU, va_runU of this kit) ===== -/
section
variable {p : Program} {l : Launch} {e : Env} {R : Room} {s : State} {m : MethodId} {args : Array Value} {below : List Frame} {meth : Method} {c : Code} {H : Heap} {locs : List Loc} {cells slots : Nat}
theorem vx_callVU {T : State} {locs : List Loc} {cells slots : Nat} (X : Stand p l e R s m args below meth c T locs cells slots) (hexec : p.tables.exec = Jvm.exec) {own C owner : String} {index : Nat} {x y : MethodName} {bytes : ByteArray} {maxL : Nat} {ret : Option FieldType}
    (hown : s.vm.findClass own = some m.cls) (hlink : (Cond.methodLink own index x).before args s = true) (hsame : (Cond.sameMethod x.cls owner x.name x.desc).before args s = true)
    (hd0 : va_Decl s ⟨owner, x.name, x.desc⟩) (howner : owner ≠ "java/lang/invoke/MethodHandle" ∧ owner ≠ "java/lang/invoke/VarHandle")
    (hsel : (Cond.selects C x y).before args s = true) (hinst : (Cond.instanceMethod y).before args s = true) (hcode : (Cond.code y bytes maxL ret).before args s = true)
    {W : Nat} {Pre : Pt → Array Value → Prop} {Post : Pt → Array Value → Option Value → Pt → Prop} {PostX : Pt → Array Value → Addr → Pt → Prop} (hK : vx_Back l R p e below s args y 3 W Pre Post PostX)
    {b : Addr} {cellB : Cell} (hcell : T.heap[b]? = some cellB) (hobj : cellB.vm.isStatics = false) (hcls : s.vm.findClass C = some cellB.cls)
    {g : JFrame} (hg : g.method = m) (hsize : g.locals.size = c.maxLocals) {argsL rest : List Value} (hlen : ∀ sig, parseMethodDescriptor x.desc = some sig → argsL.length = sig.parameters.length)
    (hstack : g.stack = argsL.reverse ++ .ref b :: rest) (hW : 2 * g.monitorRoom + (rest.map fun v => v.category).sum ≤ W) (hdg : decode c.code g.pc = .ok (.invokevirtual index, 3))
    (hpre : ∀ vm₁, s.WarmedH vm₁ → Pre ⟨T.setVm vm₁, locs, cells, slots⟩ (Value.ref b :: argsL).toArray) :
    (∃ (v : Option Value) (vm₁ : Vm) (B : Pt), s.WarmedH vm₁ ∧ Stand p l e R s m args below meth c B.U B.locs B.cells B.slots ∧ Post ⟨T.setVm vm₁, locs, cells, slots⟩ (Value.ref b :: argsL).toArray v B ∧
      ∀ target, Steps p.tables e below (B.U.setTop { g with pc := g.pc + 3, stack := v.toList ++ rest }) target → Steps p.tables e below (T.setTop g) target) ∨
    (∃ (q : Addr) (vm₁ : Vm) (B : Pt), s.WarmedH vm₁ ∧ Stand p l e R s m args below meth c B.U B.locs B.cells B.slots ∧ PostX ⟨T.setVm vm₁, locs, cells, slots⟩ (Value.ref b :: argsL).toArray q B ∧
      Steps p.tables e below (T.setTop g) ((B.U.setTop { g with stack := rest }).pushFrame (.throwing q))) := by
  obtain ⟨r0, r, hn, hrm, hstR, hsigR⟩ := hd0
  obtain ⟨cn, ck, r1, hcn, hck, hni, hf, hn1⟩ := Cond.sameMethod_found hsame
  cases hn.symm.trans hn1
  obtain ⟨mk, methM, hnamed, hmethM, -, habM⟩ := Cond.instanceMethod_spec hinst
  obtain ⟨c2, r2, m2, q1, q2, q3, q4, kP, hkP, hkPi⟩ := Cond.selects_spec hsel
  cases hcls.symm.trans q1
  cases hf.symm.trans q2
  cases hnamed.symm.trans q3
  have hselP : selectMethod e.platform s.vm cellB.cls r0 = .method mk := by rw [Launch.admits_selectMethod X.admits]; exact q4
  obtain ⟨vm₁, X₁, hstep₁⟩ := X.invokevirtualUp hexec hown hlink hsame howner hn hrm hstR (a := b) (cell := cellB) hcell
    (fun z h => by rw [h] at hobj; cases hobj) hselP hmethM habM hkP hkPi (g := g) hg (argsL := argsL) (rest := rest) (hlen _ hsigR) hstack hdg
  rcases hK m meth c ⟨T.setVm vm₁, locs, cells, slots⟩ { g with stack := rest } (.invokevirtual index) mk (Value.ref b :: argsL).toArray X₁ hg hsize hdg hW (X₁.named hnamed) (hpre vm₁ X₁.warmed) with ⟨v, B, X', hpost, hsteps⟩ | ⟨q, B, X', hpost, hsteps⟩
  · exact Or.inl ⟨v, vm₁, B, X₁.warmed, X', hpost, fun target h => hstep₁ _ fun acts => by rw [doInvoke_state]; exact hsteps.trans h⟩
  · exact Or.inr ⟨q, vm₁, B, X₁.warmed, X', hpost, hstep₁ _ fun acts => by rw [doInvoke_state]; exact hsteps⟩
theorem vx_runU {x y : MethodName} {bytes cc : ByteArray} {maxL nL mc ms n index : Nat} {ret : Option FieldType} {ws : List Cond} {rm : Room} {Pc : Array Value → State → Prop} {Qc : Array Value → State → Outcome → State → Prop} {XC : String → State → State → Prop} {free : Addr → Prop} {Ts : List Cond} {own C owner : String} {b : Addr} {As rest : List Value} {g : JFrame}
    (S : CallFix p m c cc nL s args Ts own) (hM : vx_Met l y ws rm Pc Qc XC mc ms free) (cw : va_CU R s args own C owner index x y bytes maxL ret ws rm mc ms n) (hp : PreV s H C b Pc As)
    (hg : g.method = m) (hn : As.length = n) (hsize : g.locals.size = nL) (hstack : g.stack = As.reverse ++ .ref b :: rest) (hW : 2 * g.monitorRoom + (rest.map fun v => v.category).sum ≤ 8) (hdg : decode cc g.pc = .ok (.invokevirtual index, 3)) (hf : cells + mc ≤ R.cells ∧ slots + ms ≤ R.slots) :
    vx_Run p l e R s m args below meth c H locs cells slots mc ms g rest (Qc (Value.ref b :: As).toArray) XC free := by
  obtain ⟨hrc, hrs, hfr, hlo, hws, hcw⟩ := cw.back
  have hini := cw.init
  have hK : vx_Back l R p e below s args y 3 8 (PreOf R mc ms Pc) (PostOf Qc mc ms free) (vx_Post XC mc ms free) := vx_back (bytes := bytes) (maxL := maxL) (ret := ret) hM hp.1 hrc hrs hfr hlo hws hcw (fun a' U hW => word_at hW (Or.inl (by first | rfl | simp [Cond.onTables, Cond.keeps, Cond.steady])) hini)
  obtain ⟨hx, hb, hml, ho, -⟩ := S
  obtain ⟨-, ⟨cellB, hcB, hoB, hclB⟩, hPc⟩ := hp
  intro T hT X
  rcases vx_callVU X hx (C := C) (owner := owner) (bytes := bytes) (maxL := maxL) (ret := ret) ho cw.link cw.same cw.decl cw.notMH cw.sel cw.inst cw.code hK (by rw [hT]; exact hcB) hoB hclB hg (hsize.trans hml.symm) (argsL := As) (rest := rest) (fun sig h => hn.trans (cw.len sig h)) hstack hW (by rw [hb]; exact hdg)
    (fun vm₁ hW₁ => ⟨hf.1, hf.2, hPc (T.setVm vm₁) hT hW₁⟩) with ⟨v, vm₁, ⟨U', l2, c2, s2⟩, hW₁, X', ⟨g', mk, t, L, e1, e2, hq, h1, hL, h2, h3⟩, st⟩ | ⟨q, vm₁, ⟨U', l2, c2, s2⟩, hW₁, X', ⟨g', mk, t, L, E, ce, e1, e2, hq, hce, hcv, hcl, h1, hL, h2, h3⟩, st⟩
  · dsimp only [Pt.U, Pt.locs, Pt.cells, Pt.slots] at X' e1 e2 h1 h2 h3 st
    subst h1; subst h2; subst h3
    exact Or.inl ⟨v, (T.setVm vm₁).calling g' mk (Value.ref b :: As).toArray, t, U', L, hT, X', hL, e1, e2, hq, st⟩
  · dsimp only [Pt.U, Pt.locs, Pt.cells, Pt.slots] at X' e1 e2 h1 h2 h3 st hcl
    subst h1; subst h2; subst h3
    exact Or.inr ⟨q, (T.setVm vm₁).calling g' mk (Value.ref b :: As).toArray, t, U', L, E, ce, hT, X', hL, e1, e2, hq, hce, hcv, vx_cls hW₁ hcl, st⟩
end
/-! ===== END ===== -/
/-! ===== BEGIN super.m(..) that may throw (follows va_callSU, va_runSU) ===== -/
section
variable {p : Program} {l : Launch} {e : Env} {R : Room} {s : State} {m : MethodId} {args : Array Value} {below : List Frame} {meth : Method} {c : Code} {H : Heap} {locs : List Loc} {cells slots : Nat}
theorem vx_callSU {T : State} {locs : List Loc} {cells slots : Nat} (X : Stand p l e R s m args below meth c T locs cells slots) (hexec : p.tables.exec = Jvm.exec) {own : String} {index : Nat} {y : MethodName} {bytes : ByteArray} {maxL : Nat} {ret : Option FieldType}
    (hown : s.vm.findClass own = some m.cls) (hlink : (Cond.methodLink own index y).before args s = true) (hsame : (Cond.sameMethod y.cls y.cls y.name y.desc).before args s = true) (hsup : (Cond.superclass own y.cls).before args s = true)
    (hinst : (Cond.instanceMethod y).before args s = true) (hcode : (Cond.code y bytes maxL ret).before args s = true) (hno : y.name ≠ "<init>")
    {W : Nat} {Pre : Pt → Array Value → Prop} {Post : Pt → Array Value → Option Value → Pt → Prop} {PostX : Pt → Array Value → Addr → Pt → Prop} (hK : vx_Back l R p e below s args y 3 W Pre Post PostX)
    {b : Addr} {cellB : Cell} {kB : Class} (hcell : T.heap[b]? = some cellB) (hobj : cellB.vm.isStatics = false) (hkB : s.vm.classes[cellB.cls]? = some kB)
    {g : JFrame} (hg : g.method = m) (hsize : g.locals.size = c.maxLocals) {argsL rest : List Value} (hlen : ∀ sig, parseMethodDescriptor y.desc = some sig → argsL.length = sig.parameters.length)
    (hstack : g.stack = argsL.reverse ++ .ref b :: rest) (hW : 2 * g.monitorRoom + (rest.map fun v => v.category).sum ≤ W) (hdg : decode c.code g.pc = .ok (.invokespecial index, 3))
    (hpre : ∀ vm₁, s.WarmedH vm₁ → Pre ⟨T.setVm vm₁, locs, cells, slots⟩ (Value.ref b :: argsL).toArray) :
    (∃ (v : Option Value) (vm₁ : Vm) (B : Pt), s.WarmedH vm₁ ∧ Stand p l e R s m args below meth c B.U B.locs B.cells B.slots ∧ Post ⟨T.setVm vm₁, locs, cells, slots⟩ (Value.ref b :: argsL).toArray v B ∧
      ∀ target, Steps p.tables e below (B.U.setTop { g with pc := g.pc + 3, stack := v.toList ++ rest }) target → Steps p.tables e below (T.setTop g) target) ∨
    (∃ (q : Addr) (vm₁ : Vm) (B : Pt), s.WarmedH vm₁ ∧ Stand p l e R s m args below meth c B.U B.locs B.cells B.slots ∧ PostX ⟨T.setVm vm₁, locs, cells, slots⟩ (Value.ref b :: argsL).toArray q B ∧
      Steps p.tables e below (T.setTop g) ((B.U.setTop { g with stack := rest }).pushFrame (.throwing q))) := by
  obtain ⟨mk, methM, hnamed, hmethM, hstM, habM⟩ := Cond.instanceMethod_spec hinst
  obtain ⟨methM', cM, hmethM', -, -, -, -, -, -, hsigM⟩ := Cond.code_spec hnamed hcode
  cases hmethM.symm.trans hmethM'
  obtain ⟨ps, dk, kp, hps, hdk, hkp, hsuper, -, -, hnid⟩ := Cond.superclass_spec hown hsup
  have hn : s.methodNamed? ⟨y.cls, y.name, y.desc⟩ = some mk := hnamed
  have hpm : ps = mk.cls := Option.some.inj (hps.symm.trans (findClass_of_methodNamed hnamed))
  have hsub : s.vm.isSubclass ps mk.cls = true := by rw [hpm]; simp [Vm.isSubclass, Vm.isSubclassAux]
  obtain ⟨vm₁, X₁, hstep₁⟩ := X.invokespecialUp hexec hown hlink hsame hn hmethM hstM habM hno hdk hnid hps hsuper hsub (a := b) (cell := cellB) hcell
    (fun z h => by rw [h] at hobj; cases hobj) hkB (g := g) hg (argsL := argsL) (rest := rest) (hlen _ hsigM) hstack hdg
  rcases hK m meth c ⟨T.setVm vm₁, locs, cells, slots⟩ { g with stack := rest } (.invokespecial index) mk (Value.ref b :: argsL).toArray X₁ hg hsize hdg hW (X₁.named hnamed) (hpre vm₁ X₁.warmed) with ⟨v, B, X', hpost, hsteps⟩ | ⟨q, B, X', hpost, hsteps⟩
  · exact Or.inl ⟨v, vm₁, B, X₁.warmed, X', hpost, fun target h => hstep₁ _ (by rw [doInvoke_state]; exact hsteps.trans h)⟩
  · exact Or.inr ⟨q, vm₁, B, X₁.warmed, X', hpost, hstep₁ _ (by rw [doInvoke_state]; exact hsteps)⟩
theorem vx_runSU {y : MethodName} {bytes cc : ByteArray} {maxL nL mc ms n index : Nat} {ret : Option FieldType} {ws : List Cond} {rm : Room} {Pc : Array Value → State → Prop} {Qc : Array Value → State → Outcome → State → Prop} {XC : String → State → State → Prop} {free : Addr → Prop} {Ts : List Cond} {own C : String} {cC : ClassId} {b : Addr} {As rest : List Value} {g : JFrame}
    (hat : ClassAt s C cC) (S : CallFix p m c cc nL s args Ts own) (hM : vx_Met l y ws rm Pc Qc XC mc ms free) (cw : va_CS R s args own index y bytes maxL ret ws rm mc ms n) (hp : PreV s H C b Pc As)
    (hg : g.method = m) (hn : As.length = n) (hsize : g.locals.size = nL) (hstack : g.stack = As.reverse ++ .ref b :: rest) (hW : 2 * g.monitorRoom + (rest.map fun v => v.category).sum ≤ 8) (hdg : decode cc g.pc = .ok (.invokespecial index, 3)) (hf : cells + mc ≤ R.cells ∧ slots + ms ≤ R.slots) :
    vx_Run p l e R s m args below meth c H locs cells slots mc ms g rest (Qc (Value.ref b :: As).toArray) XC free := by
  obtain ⟨⟨hrc, hrs, hfr, hlo, hws, hcw⟩, hl1, hl2, hl3, hl4, hini, hcode, hno, hlen⟩ := cw
  have hK : vx_Back l R p e below s args y 3 8 (PreOf R mc ms Pc) (PostOf Qc mc ms free) (vx_Post XC mc ms free) := vx_back (bytes := bytes) (maxL := maxL) (ret := ret) hM hp.1 hrc hrs hfr hlo hws hcw (fun a' U hW => word_at hW (Or.inl (by first | rfl | simp [Cond.onTables, Cond.keeps, Cond.steady])) hini)
  obtain ⟨hx, hb, hml, ho, -⟩ := S
  obtain ⟨-, ⟨cellB, hcB, hoB, hclB⟩, hPc⟩ := hp
  obtain ⟨hfc, kB, hkB, -⟩ := hat
  cases hfc.symm.trans hclB
  intro T hT X
  rcases vx_callSU X hx (bytes := bytes) (maxL := maxL) (ret := ret) ho hl1 hl2 hl3 hl4 hcode hno hK (by rw [hT]; exact hcB) hoB hkB hg (hsize.trans hml.symm) (argsL := As) (rest := rest) (fun sig h => hn.trans (hlen sig h)) hstack hW (by rw [hb]; exact hdg)
    (fun vm₁ hW₁ => ⟨hf.1, hf.2, hPc (T.setVm vm₁) hT hW₁⟩) with ⟨v, vm₁, ⟨U', l2, c2, s2⟩, hW₁, X', ⟨g', mk, t, L, e1, e2, hq, h1, hL, h2, h3⟩, st⟩ | ⟨q, vm₁, ⟨U', l2, c2, s2⟩, hW₁, X', ⟨g', mk, t, L, E, ce, e1, e2, hq, hce, hcv, hcl, h1, hL, h2, h3⟩, st⟩
  · dsimp only [Pt.U, Pt.locs, Pt.cells, Pt.slots] at X' e1 e2 h1 h2 h3 st
    subst h1; subst h2; subst h3
    exact Or.inl ⟨v, (T.setVm vm₁).calling g' mk (Value.ref b :: As).toArray, t, U', L, hT, X', hL, e1, e2, hq, st⟩
  · dsimp only [Pt.U, Pt.locs, Pt.cells, Pt.slots] at X' e1 e2 h1 h2 h3 st hcl
    subst h1; subst h2; subst h3
    exact Or.inr ⟨q, (T.setVm vm₁).calling g' mk (Value.ref b :: As).toArray, t, U', L, E, ce, hT, X', hL, e1, e2, hq, hce, hcv, vx_cls hW₁ hcl, st⟩
end
/-! ===== END ===== -/
/-! ===== BEGIN a private method of a nest mate that may throw (follows va_callVN, va_callSN, va_runVN, va_runSN) ===== -/
section
variable {p : Program} {l : Launch} {e : Env} {R : Room} {s : State} {m : MethodId} {args : Array Value} {below : List Frame} {meth : Method} {c : Code} {H : Heap} {locs : List Loc} {cells slots : Nat}
variable {T : State}
theorem vx_callVN (X : Stand p l e R s m args below meth c T locs cells slots) (hexec : p.tables.exec = Jvm.exec) {own C : String} {index : Nat} {host : String} {y : MethodName} {bytes : ByteArray} {maxL : Nat} {ret : Option FieldType}
    (hown : s.vm.findClass own = some m.cls) (hlink : (Cond.methodLinkNest own index y host).before args s = true) (hinst : (Cond.instanceMethod y).before args s = true) (hsel : (Cond.selects C y y).before args s = true)
    (hcode : (Cond.code y bytes maxL ret).before args s = true) (hy : y.cls ≠ "java/lang/invoke/MethodHandle" ∧ y.cls ≠ "java/lang/invoke/VarHandle")
    {W : Nat} {Pre : Pt → Array Value → Prop} {Post : Pt → Array Value → Option Value → Pt → Prop} {PostX : Pt → Array Value → Addr → Pt → Prop} (hK : vx_Back l R p e below s args y 3 W Pre Post PostX)
    {b : Addr} {cellB : Cell} (hcell : T.heap[b]? = some cellB) (hobj : cellB.vm.isStatics = false) (hcls : s.vm.findClass C = some cellB.cls)
    {g : JFrame} (hg : g.method = m) (hsize : g.locals.size = c.maxLocals) {argsL rest : List Value} (hlen : ∀ sig, parseMethodDescriptor y.desc = some sig → argsL.length = sig.parameters.length)
    (hstack : g.stack = argsL.reverse ++ .ref b :: rest) (hW : 2 * g.monitorRoom + (rest.map fun v => v.category).sum ≤ W) (hdg : decode c.code g.pc = .ok (.invokevirtual index, 3))
    (hpre : ∀ vm₁, s.WarmedH vm₁ → Pre ⟨T.setVm vm₁, locs, cells, slots⟩ (Value.ref b :: argsL).toArray) :
    (∃ (v : Option Value) (vm₁ : Vm) (B : Pt), s.WarmedH vm₁ ∧ Stand p l e R s m args below meth c B.U B.locs B.cells B.slots ∧ Post ⟨T.setVm vm₁, locs, cells, slots⟩ (Value.ref b :: argsL).toArray v B ∧
      ∀ target, Steps p.tables e below (B.U.setTop { g with pc := g.pc + 3, stack := v.toList ++ rest }) target → Steps p.tables e below (T.setTop g) target) ∨
    (∃ (q : Addr) (vm₁ : Vm) (B : Pt), s.WarmedH vm₁ ∧ Stand p l e R s m args below meth c B.U B.locs B.cells B.slots ∧ PostX ⟨T.setVm vm₁, locs, cells, slots⟩ (Value.ref b :: argsL).toArray q B ∧
      Steps p.tables e below (T.setTop g) ((B.U.setTop { g with stack := rest }).pushFrame (.throwing q))) := by
  obtain ⟨mk, methM, hnamed, hmethM, hstM, habM⟩ := Cond.instanceMethod_spec hinst
  obtain ⟨methM', cM, hmethM', -, -, -, -, -, -, hsigM⟩ := Cond.code_spec hnamed hcode
  cases hmethM.symm.trans hmethM'
  obtain ⟨c2, r2, m2, q1, q2, q3, q4, kP, hkP, hkPi⟩ := Cond.selects_spec hsel
  cases hcls.symm.trans q1
  cases (State.methodFound?_of_named hnamed hy).symm.trans q2
  cases hnamed.symm.trans q3
  have hselP : selectMethod e.platform s.vm cellB.cls mk = .method mk := by rw [Launch.admits_selectMethod X.admits]; exact q4
  obtain ⟨vm₁, X₁, hstep₁⟩ := X.invokevirtualNest hexec hown hlink hnamed hmethM hstM hkP hkPi hy (a := b) (cell := cellB) hcell
    (fun z h => by rw [h] at hobj; cases hobj) hselP hmethM habM hkP hkPi (g := g) hg (argsL := argsL) (rest := rest) (hlen _ hsigM) hstack hdg
  rcases hK m meth c ⟨T.setVm vm₁, locs, cells, slots⟩ { g with stack := rest } (.invokevirtual index) mk (Value.ref b :: argsL).toArray X₁ hg hsize hdg hW (X₁.named hnamed) (hpre vm₁ X₁.warmed) with ⟨v, B, X', hpost, hsteps⟩ | ⟨q, B, X', hpost, hsteps⟩
  · exact Or.inl ⟨v, vm₁, B, X₁.warmed, X', hpost, fun target h => hstep₁ _ fun acts => by rw [doInvoke_state]; exact hsteps.trans h⟩
  · exact Or.inr ⟨q, vm₁, B, X₁.warmed, X', hpost, hstep₁ _ fun acts => by rw [doInvoke_state]; exact hsteps⟩
theorem vx_callSN (X : Stand p l e R s m args below meth c T locs cells slots) (hexec : p.tables.exec = Jvm.exec) {own : String} {index : Nat} {host : String} {y : MethodName} {bytes : ByteArray} {maxL : Nat} {ret : Option FieldType}
    (hown : s.vm.findClass own = some m.cls) (hlink : (Cond.methodLinkNest own index y host).before args s = true) (hstat : (Cond.static y).before args s = true) (hinit : (Cond.initialized y.cls).before args s = true)
    (hcode : (Cond.code y bytes maxL ret).before args s = true) (hy : y.cls ≠ "java/lang/invoke/MethodHandle" ∧ y.cls ≠ "java/lang/invoke/VarHandle")
    {W : Nat} {Pre : Pt → Array Value → Prop} {Post : Pt → Array Value → Option Value → Pt → Prop} {PostX : Pt → Array Value → Addr → Pt → Prop} (hK : vx_Back l R p e below s args y 3 W Pre Post PostX)
    {g : JFrame} (hg : g.method = m) (hsize : g.locals.size = c.maxLocals) {argsL rest : List Value} (hlen : ∀ sig, parseMethodDescriptor y.desc = some sig → argsL.length = sig.parameters.length)
    (hstack : g.stack = argsL.reverse ++ rest) (hW : 2 * g.monitorRoom + (rest.map fun v => v.category).sum ≤ W) (hdg : decode c.code g.pc = .ok (.invokestatic index, 3))
    (hpre : ∀ vm₁, s.WarmedH vm₁ → Pre ⟨T.setVm vm₁, locs, cells, slots⟩ argsL.toArray) :
    (∃ (v : Option Value) (vm₁ : Vm) (B : Pt), s.WarmedH vm₁ ∧ Stand p l e R s m args below meth c B.U B.locs B.cells B.slots ∧ Post ⟨T.setVm vm₁, locs, cells, slots⟩ argsL.toArray v B ∧
      ∀ target, Steps p.tables e below (B.U.setTop { g with pc := g.pc + 3, stack := v.toList ++ rest }) target → Steps p.tables e below (T.setTop g) target) ∨
    (∃ (q : Addr) (vm₁ : Vm) (B : Pt), s.WarmedH vm₁ ∧ Stand p l e R s m args below meth c B.U B.locs B.cells B.slots ∧ PostX ⟨T.setVm vm₁, locs, cells, slots⟩ argsL.toArray q B ∧
      Steps p.tables e below (T.setTop g) ((B.U.setTop { g with stack := rest }).pushFrame (.throwing q))) := by
  obtain ⟨mk, hnamed⟩ := Cond.code_named hcode
  obtain ⟨methM, cM, hmethM, -, -, -, -, -, -, hsigM⟩ := Cond.code_spec hnamed hcode
  have hstatic : methM.isStatic = true := Cond.static_spec hnamed hmethM hstat
  obtain ⟨kP, hkP, -⟩ := className_of_methodNamed hnamed
  have hinitP : kP.init = .initialized := Cond.initialized_spec (findClass_of_methodNamed hnamed) hkP hinit
  obtain ⟨vm₁, X₁, hstep₁⟩ := X.invokestaticNest hexec hown hlink hnamed hmethM hstatic hkP hinitP hy (g := g) hg (argsL := argsL) (rest := rest) (hlen _ hsigM) hstack hdg
  rcases hK m meth c ⟨T.setVm vm₁, locs, cells, slots⟩ { g with stack := rest } (.invokestatic index) mk argsL.toArray X₁ hg hsize hdg hW (X₁.named hnamed) (hpre vm₁ X₁.warmed) with ⟨v, B, X', hpost, hsteps⟩ | ⟨q, B, X', hpost, hsteps⟩
  · exact Or.inl ⟨v, vm₁, B, X₁.warmed, X', hpost, fun target h => hstep₁ _ fun acts => by rw [doInvoke_state]; exact hsteps.trans h⟩
  · exact Or.inr ⟨q, vm₁, B, X₁.warmed, X', hpost, hstep₁ _ fun acts => by rw [doInvoke_state]; exact hsteps⟩
theorem vx_runVN {y : MethodName} {bytes cc : ByteArray} {maxL nL mc ms n index : Nat} {ret : Option FieldType} {ws : List Cond} {rm : Room} {Pc : Array Value → State → Prop} {Qc : Array Value → State → Outcome → State → Prop} {XC : String → State → State → Prop} {free : Addr → Prop} {Ts : List Cond} {own C host : String} {b : Addr} {As rest : List Value} {g : JFrame}
    (S : CallFix p m c cc nL s args Ts own) (hM : vx_Met l y ws rm Pc Qc XC mc ms free) (cw : va_CN R s args own index y host bytes maxL ret ws rm mc ms n ∧ (Cond.instanceMethod y).before args s = true ∧ (Cond.selects C y y).before args s = true) (hp : PreV s H C b Pc As)
    (hg : g.method = m) (hn : As.length = n) (hsize : g.locals.size = nL) (hstack : g.stack = As.reverse ++ .ref b :: rest) (hW : 2 * g.monitorRoom + (rest.map fun v => v.category).sum ≤ 8) (hdg : decode cc g.pc = .ok (.invokevirtual index, 3)) (hf : cells + mc ≤ R.cells ∧ slots + ms ≤ R.slots) :
    vx_Run p l e R s m args below meth c H locs cells slots mc ms g rest (Qc (Value.ref b :: As).toArray) XC free := by
  obtain ⟨⟨⟨hrc, hrs, hfr, hlo, hws, hcw⟩, hcode, hini, hy, hlen, hl⟩, hx1, hx2⟩ := cw
  have hK : vx_Back l R p e below s args y 3 8 (PreOf R mc ms Pc) (PostOf Qc mc ms free) (vx_Post XC mc ms free) := vx_back (bytes := bytes) (maxL := maxL) (ret := ret) hM hp.1 hrc hrs hfr hlo hws hcw (fun a' U hW => word_at hW (Or.inl (by first | rfl | simp [Cond.onTables, Cond.keeps, Cond.steady])) hini)
  obtain ⟨hx, hb, hml, ho, -⟩ := S
  obtain ⟨-, ⟨cellB, hcB, hoB, hclB⟩, hPc⟩ := hp
  intro T hT X
  rcases vx_callVN X hx (C := C) (bytes := bytes) (maxL := maxL) (ret := ret) ho hl hx1 hx2 hcode hy hK (by rw [hT]; exact hcB) hoB hclB hg (hsize.trans hml.symm) (argsL := As) (rest := rest) (fun sig h => hn.trans (hlen sig h)) hstack hW (by rw [hb]; exact hdg)
    (fun vm₁ hW₁ => ⟨hf.1, hf.2, hPc (T.setVm vm₁) hT hW₁⟩) with ⟨v, vm₁, ⟨U', l2, c2, s2⟩, hW₁, X', ⟨g', mk, t, L, e1, e2, hq, h1, hL, h2, h3⟩, st⟩ | ⟨q, vm₁, ⟨U', l2, c2, s2⟩, hW₁, X', ⟨g', mk, t, L, E, ce, e1, e2, hq, hce, hcv, hcl, h1, hL, h2, h3⟩, st⟩
  · dsimp only [Pt.U, Pt.locs, Pt.cells, Pt.slots] at X' e1 e2 h1 h2 h3 st
    subst h1; subst h2; subst h3
    exact Or.inl ⟨v, (T.setVm vm₁).calling g' mk (Value.ref b :: As).toArray, t, U', L, hT, X', hL, e1, e2, hq, st⟩
  · dsimp only [Pt.U, Pt.locs, Pt.cells, Pt.slots] at X' e1 e2 h1 h2 h3 st hcl
    subst h1; subst h2; subst h3
    exact Or.inr ⟨q, (T.setVm vm₁).calling g' mk (Value.ref b :: As).toArray, t, U', L, E, ce, hT, X', hL, e1, e2, hq, hce, hcv, vx_cls hW₁ hcl, st⟩
theorem vx_runSN {y : MethodName} {bytes cc : ByteArray} {maxL nL mc ms n index : Nat} {ret : Option FieldType} {ws : List Cond} {rm : Room} {Pc : Array Value → State → Prop} {Qc : Array Value → State → Outcome → State → Prop} {XC : String → State → State → Prop} {free : Addr → Prop} {Ts : List Cond} {own host : String} {As rest : List Value} {g : JFrame}
    (S : CallFix p m c cc nL s args Ts own) (hM : vx_Met l y ws rm Pc Qc XC mc ms free) (cw : va_CN R s args own index y host bytes maxL ret ws rm mc ms n ∧ (Cond.static y).before args s = true ∧ True) (hp : PreS s H Pc As)
    (hg : g.method = m) (hn : As.length = n) (hsize : g.locals.size = nL) (hstack : g.stack = As.reverse ++ rest) (hW : 2 * g.monitorRoom + (rest.map fun v => v.category).sum ≤ 8) (hdg : decode cc g.pc = .ok (.invokestatic index, 3)) (hf : cells + mc ≤ R.cells ∧ slots + ms ≤ R.slots) :
    vx_Run p l e R s m args below meth c H locs cells slots mc ms g rest (Qc As.toArray) XC free := by
  obtain ⟨⟨⟨hrc, hrs, hfr, hlo, hws, hcw⟩, hcode, hini, hy, hlen, hl⟩, hx1, hx2⟩ := cw
  have hK : vx_Back l R p e below s args y 3 8 (PreOf R mc ms Pc) (PostOf Qc mc ms free) (vx_Post XC mc ms free) := vx_back (bytes := bytes) (maxL := maxL) (ret := ret) hM hp.1 hrc hrs hfr hlo hws hcw (fun a' U hW => word_at hW (Or.inl (by first | rfl | simp [Cond.onTables, Cond.keeps, Cond.steady])) hini)
  obtain ⟨hx, hb, hml, ho, -⟩ := S
  have hPc := hp.2
  intro T hT X
  rcases vx_callSN X hx (bytes := bytes) (maxL := maxL) (ret := ret) ho hl hx1 hini hcode hy hK hg (hsize.trans hml.symm) (argsL := As) (rest := rest) (fun sig h => hn.trans (hlen sig h)) hstack hW (by rw [hb]; exact hdg)
    (fun vm₁ hW₁ => ⟨hf.1, hf.2, hPc (T.setVm vm₁) hT hW₁⟩) with ⟨v, vm₁, ⟨U', l2, c2, s2⟩, hW₁, X', ⟨g', mk, t, L, e1, e2, hq, h1, hL, h2, h3⟩, st⟩ | ⟨q, vm₁, ⟨U', l2, c2, s2⟩, hW₁, X', ⟨g', mk, t, L, E, ce, e1, e2, hq, hce, hcv, hcl, h1, hL, h2, h3⟩, st⟩
  · dsimp only [Pt.U, Pt.locs, Pt.cells, Pt.slots] at X' e1 e2 h1 h2 h3 st
    subst h1; subst h2; subst h3
    exact Or.inl ⟨v, (T.setVm vm₁).calling g' mk As.toArray, t, U', L, hT, X', hL, e1, e2, hq, st⟩
  · dsimp only [Pt.U, Pt.locs, Pt.cells, Pt.slots] at X' e1 e2 h1 h2 h3 st hcl
    subst h1; subst h2; subst h3
    exact Or.inr ⟨q, (T.setVm vm₁).calling g' mk As.toArray, t, U', L, E, ce, hT, X', hL, e1, e2, hq, hce, hcv, vx_cls hW₁ hcl, st⟩
end
/-! ===== END ===== -/
/-! ===== BEGIN calls by an interface of methods that may throw (vx_callIF, vx_runF follow va_callIF, va_runF of this kit) ===== -/
section
variable {p : Program} {l : Launch} {e : Env} {R : Room} {s : State} {m : MethodId} {args : Array Value} {below : List Frame} {meth : Method} {c : Code} {H : Heap} {locs : List Loc} {cells slots : Nat} {Q : State → Prop}
variable {mc ms : Nat} {free : Addr → Prop} {A0 A1 : Nat → Prop} {H0 : Heap} {a : Array Value} {pc : Nat} {ls : Array Slot} {st0 rest : List Value}
def vx_Run5 (p : Program) (l : Launch) (e : Env) (R : Room) (s : State) (m : MethodId) (args : Array Value) (below : List Frame) (meth : Method) (c : Code) (H : Heap) (locs : List Loc) (cells slots mc ms : Nat) (g : JFrame) (rest : List Value) (Qa : State → Outcome → State → Prop) (XC : String → State → State → Prop) (free : Addr → Prop) : Prop :=
  ∀ T : State, T.heap = H → Stand p l e R s m args below meth c T locs cells slots →
    (∃ (v : Option Value) (st₀ t T' : State) (L : List Loc), st₀.heap = H ∧ Stand p l e R s m args below meth c T' (locs ++ L) (cells + mc) (slots + ms) ∧ (∀ q ∈ L, free q.base) ∧ T'.heap = t.heap ∧ T'.vm = t.vm ∧ Qa st₀ (.returned v) t ∧
      Goes p e below T g T' { g with pc := g.pc + 5, stack := v.toList ++ rest }) ∨
    (∃ (q : Addr) (st₀ t T' : State) (L : List Loc) (E : String) (ce : Cell), st₀.heap = H ∧ Stand p l e R s m args below meth c T' (locs ++ L) (cells + mc) (slots + ms) ∧ (∀ z ∈ L, free z.base) ∧ T'.heap = t.heap ∧ T'.vm = t.vm ∧ XC E st₀ t ∧ t.heap[q]? = some ce ∧ ce.vm = .none ∧ s.vm.findClass E = some ce.cls ∧
      Steps p.tables e below (T.setTop g) ((T'.setTop { g with stack := rest }).pushFrame (.throwing q)))
theorem vx_callIF {T : State} (X : Stand p l e R s m args below meth c T locs cells slots) (hexec : p.tables.exec = Jvm.exec) {own C : String} {index count : Nat} {x y : MethodName} {bytes : ByteArray} {maxL : Nat} {ret : Option FieldType}
    (hown : s.vm.findClass own = some m.cls) (hlink : (Cond.methodLink own index x).before args s = true) (hdecl : (Cond.declares x).before args s = true) (hface : (Cond.interfaceMethod x.cls x.cls x.name x.desc).before args s = true)
    (hsel : (Cond.selects C x y).before args s = true) (hinst : (Cond.instanceMethod y).before args s = true) (hpub : (Cond.publicMethod y).before args s = true) (hunh : (Cond.unhidden C x.name x.desc).before args s = true)
    (hcast : (Cond.castable C x.cls).before args s = true) (hcode : (Cond.code y bytes maxL ret).before args s = true) (hx : x.cls ≠ "java/lang/invoke/MethodHandle" ∧ x.cls ≠ "java/lang/invoke/VarHandle")
    {W9 : Nat} {Pre : Pt → Array Value → Prop} {Post : Pt → Array Value → Option Value → Pt → Prop} {PostX : Pt → Array Value → Addr → Pt → Prop} (hK : vx_Back l R p e below s args y 5 W9 Pre Post PostX)
    {b : Addr} {cellB : Cell} {kB : Class} (hcell : T.heap[b]? = some cellB) (hobj : cellB.vm.isStatics = false) (hcls : s.vm.findClass C = some cellB.cls) (hkB : s.vm.classes[cellB.cls]? = some kB)
    {g : JFrame} (hg : g.method = m) (hsize : g.locals.size = c.maxLocals) {argsL rest : List Value} (hlen : ∀ sig, parseMethodDescriptor x.desc = some sig → argsL.length = sig.parameters.length)
    (hstack : g.stack = argsL.reverse ++ .ref b :: rest) (hW : 2 * g.monitorRoom + (rest.map fun v => v.category).sum ≤ W9) (hdg : decode c.code g.pc = .ok (.invokeinterface index count, 5))
    (hpre : ∀ vm₁, s.WarmedH vm₁ → Pre ⟨T.setVm vm₁, locs, cells, slots⟩ (Value.ref b :: argsL).toArray) :
    (∃ (v : Option Value) (vm₁ : Vm) (B : Pt), s.WarmedH vm₁ ∧ Stand p l e R s m args below meth c B.U B.locs B.cells B.slots ∧ Post ⟨T.setVm vm₁, locs, cells, slots⟩ (Value.ref b :: argsL).toArray v B ∧
      ∀ target, Steps p.tables e below (B.U.setTop { g with pc := g.pc + 5, stack := v.toList ++ rest }) target → Steps p.tables e below (T.setTop g) target) ∨
    (∃ (q : Addr) (vm₁ : Vm) (B : Pt), s.WarmedH vm₁ ∧ Stand p l e R s m args below meth c B.U B.locs B.cells B.slots ∧ PostX ⟨T.setVm vm₁, locs, cells, slots⟩ (Value.ref b :: argsL).toArray q B ∧
      Steps p.tables e below (T.setTop g) ((B.U.setTop { g with stack := rest }).pushFrame (.throwing q))) := by
  obtain ⟨r0, r, hn, hrm, hstR, hsigR⟩ := Cond.declares_spec hdecl
  obtain ⟨cL, kL, r1, hcL, hkL, hiL, hfoundL, hn1⟩ := Cond.interfaceMethod_spec hface
  cases hn.symm.trans hn1
  have hr0cls : r0.cls = cL := Option.some.inj ((findClass_of_methodNamed hn).symm.trans hcL)
  obtain ⟨hnameR, hdescR⟩ := name_of_methodNamed hn hrm
  obtain ⟨mk, methM, hnamed, hmethM, -, habM⟩ := Cond.instanceMethod_spec hinst
  obtain ⟨c2, r2, m2, q1, q2, q3, q4, -⟩ := Cond.selects_spec hsel
  cases hcls.symm.trans q1
  cases hfoundL.symm.trans q2
  cases hnamed.symm.trans q3
  have hselP : selectMethod e.platform s.vm cellB.cls r0 = .method mk := by rw [Launch.admits_selectMethod X.admits]; exact q4
  have hpubM : hasFlag methM.accessFlags Acc.public_ = true := Cond.publicMethod_spec hnamed hmethM hpub
  have hway : ((cellB.cls :: s.vm.superclasses cellB.cls).any fun k => (declaredIn s.vm r.name r.desc k).any fun (_, z) => z.isPrivate || z.isStatic) = false := by
    rw [hnameR, hdescR]; exact Cond.unhidden_spec hcls hunh
  obtain ⟨c3, t3, w1, w2, w3⟩ := Cond.castable_spec hcast
  cases hcls.symm.trans w1
  cases hcL.symm.trans w2
  obtain ⟨vm₁, X₁, hstep₁⟩ := X.invokeinterface hexec hown hlink hn hrm hstR (by rw [hr0cls]; exact hkL) hiL hx (a := b) (cell := cellB) (kcell := kB) hcell
    (fun z h => by rw [h] at hobj; cases hobj) hkB (by rw [hr0cls]; exact w3) hselP hmethM hway hpubM habM (g := g) hg (argsL := argsL) (rest := rest) (hlen _ hsigR) hstack hdg
  rcases hK m meth c ⟨T.setVm vm₁, locs, cells, slots⟩ { g with stack := rest } (.invokeinterface index count) mk (Value.ref b :: argsL).toArray X₁ hg hsize hdg hW (X₁.named hnamed) (hpre vm₁ X₁.warmed) with ⟨v, B, X', hpost, hsteps⟩ | ⟨q, B, X', hpost, hsteps⟩
  · exact Or.inl ⟨v, vm₁, B, X₁.warmed, X', hpost, fun target h => hstep₁ _ fun acts => by rw [doInvoke_state]; exact hsteps.trans h⟩
  · exact Or.inr ⟨q, vm₁, B, X₁.warmed, X', hpost, hstep₁ _ fun acts => by rw [doInvoke_state]; exact hsteps⟩
theorem vx_runF {x y : MethodName} {bytes cc : ByteArray} {maxL nL mc ms n index count : Nat} {ret : Option FieldType} {ws : List Cond} {rm : Room} {Pc : Array Value → State → Prop} {Qc : Array Value → State → Outcome → State → Prop} {XC : String → State → State → Prop} {free : Addr → Prop} {Ts : List Cond} {own C : String} {cC : ClassId} {b : Addr} {As rest : List Value} {g : JFrame}
    (hat : ClassAt s C cC) (S : CallFix p m c cc nL s args Ts own) (hM : vx_Met l y ws rm Pc Qc XC mc ms free) (cw : va_CI R s args own C index x y bytes maxL ret ws rm mc ms n) (hp : PreV s H C b Pc As)
    (hg : g.method = m) (hn : As.length = n) (hsize : g.locals.size = nL) (hstack : g.stack = As.reverse ++ .ref b :: rest) (hW : 2 * g.monitorRoom + (rest.map fun v => v.category).sum ≤ 8) (hdg : decode cc g.pc = .ok (.invokeinterface index count, 5)) (hf : cells + mc ≤ R.cells ∧ slots + ms ≤ R.slots) :
    vx_Run5 p l e R s m args below meth c H locs cells slots mc ms g rest (Qc (Value.ref b :: As).toArray) XC free := by
  obtain ⟨hrc, hrs, hfr, hlo, hws, hcw⟩ := cw.back
  have hini := cw.init
  have hK : vx_Back l R p e below s args y 5 8 (PreOf R mc ms Pc) (PostOf Qc mc ms free) (vx_Post XC mc ms free) := vx_back (bytes := bytes) (maxL := maxL) (ret := ret) hM hp.1 hrc hrs hfr hlo hws hcw (fun a' U hW => word_at hW (Or.inl (by first | rfl | simp [Cond.onTables, Cond.keeps, Cond.steady])) hini)
  obtain ⟨hx, hb, hml, ho, -⟩ := S
  obtain ⟨-, ⟨cellB, hcB, hoB, hclB⟩, hPc⟩ := hp
  obtain ⟨hfc, kB, hkB, -⟩ := hat
  cases hfc.symm.trans hclB
  intro T hT X
  rcases vx_callIF X hx (C := C) (bytes := bytes) (maxL := maxL) (ret := ret) ho cw.link cw.decl cw.face cw.sel cw.inst cw.pub cw.unh cw.cast cw.code cw.notMH hK (by rw [hT]; exact hcB) hoB hclB hkB hg (hsize.trans hml.symm) (argsL := As) (rest := rest) (fun sig h => hn.trans (cw.len sig h)) hstack hW (by rw [hb]; exact hdg)
    (fun vm₁ hW₁ => ⟨hf.1, hf.2, hPc (T.setVm vm₁) hT hW₁⟩) with ⟨v, vm₁, ⟨U', l2, c2, s2⟩, hW₁, X', ⟨g', mk, t, L, e1, e2, hq, h1, hL, h2, h3⟩, st⟩ | ⟨q, vm₁, ⟨U', l2, c2, s2⟩, hW₁, X', ⟨g', mk, t, L, E, ce, e1, e2, hq, hce, hcv, hcl, h1, hL, h2, h3⟩, st⟩
  · dsimp only [Pt.U, Pt.locs, Pt.cells, Pt.slots] at X' e1 e2 h1 h2 h3 st
    subst h1; subst h2; subst h3
    exact Or.inl ⟨v, (T.setVm vm₁).calling g' mk (Value.ref b :: As).toArray, t, U', L, hT, X', hL, e1, e2, hq, st⟩
  · dsimp only [Pt.U, Pt.locs, Pt.cells, Pt.slots] at X' e1 e2 h1 h2 h3 st hcl
    subst h1; subst h2; subst h3
    exact Or.inr ⟨q, (T.setVm vm₁).calling g' mk (Value.ref b :: As).toArray, t, U', L, E, ce, hT, X', hL, e1, e2, hq, hce, hcv, vx_cls hW₁ hcl, st⟩
theorem vx_callFv {S SX : Type} {post : S → Prop} {px : SX → Prop} {B : S → State → Prop} {BX : String → SX → State → Prop} {AX : Nat → Prop} (hr : vx_Run5 p l e R s m args below meth c H locs cells slots mc ms (F0 m pc ls st0) rest (va_Qv post B A1 a) (vx_X px BX AX) free) (hS : va_S A0 H0 H locs) (hA : ∀ q, q < H.size → A1 q → A0 q) (hf : ∀ q, free q → A0 q) (hAX : ∀ q, q < H.size → AX q → A0 q)
    (kx : ∀ (E : String) (ce : Cell) (q9 : Addr) (u : SX) (t : State) (H1 : Heap) (locs1 : List Loc), t.heap = H1 → s.vm.Alike t.vm → px u → BX E u t → H.size ≤ H1.size → (∀ q : Nat, q < H.size → ¬ AX q → H1[q]? = H[q]?) → va_S A0 H0 H1 locs1 → H1[q9]? = some ce → ce.vm = .none → s.vm.findClass E = some ce.cls → vx_W p l e R s m args below meth c H1 locs1 (cells + mc) (slots + ms) Q (F0 m pc ls rest) q9)
    (kk : ∀ (u : S) (t : State) (H1 : Heap) (locs1 : List Loc), t.heap = H1 → s.vm.Alike t.vm → post u → B u t → H.size ≤ H1.size → (∀ q : Nat, q < H.size → ¬ A1 q → H1[q]? = H[q]?) → va_S A0 H0 H1 locs1 → W p l e R s m args below meth c H1 locs1 (cells + mc) (slots + ms) Q (F0 m (pc + 5) ls (rest))) : W p l e R s m args below meth c H locs cells slots Q (F0 m pc ls st0) := by
  intro T hT X
  rcases hr T hT X with ⟨v, st₀, t, T', L, h0, X', hL, e1, e2, ⟨⟨u, hv, hp, hb⟩, hF⟩, st⟩ | ⟨q, st₀, t, T', L, E, ce, h0, X', hL, e1, e2, ⟨u, hp, hb, hF⟩, hce, hcv, hcl, st⟩
  · cases hv
    obtain ⟨k1, k2, k3⟩ := vx_keep h0 e1 hS hA hf hL hF
    obtain ⟨t2, a1, b1⟩ := kk u t T'.heap (locs ++ L) e1.symm (by rw [← e2]; exact X'.warmed.alike) hp hb k1 k2 k3 T' rfl X'
    exact ⟨t2, st t2 a1, b1⟩
  · obtain ⟨k1, k2, k3⟩ := vx_keep h0 e1 hS hAX hf hL hF
    obtain ⟨t2, a1, b1⟩ := kx E ce q u t T'.heap (locs ++ L) e1.symm (by rw [← e2]; exact X'.warmed.alike) hp hb k1 k2 k3 (by rw [e1]; exact hce) hcv hcl T' rfl X'
    exact ⟨t2, st.trans a1, b1⟩
theorem vx_callFi {S SX : Type} {post : Int32 → S → Prop} {px : SX → Prop} {B : S → State → Prop} {BX : String → SX → State → Prop} {AX : Nat → Prop} (hr : vx_Run5 p l e R s m args below meth c H locs cells slots mc ms (F0 m pc ls st0) rest (va_Qi post B A1 a) (vx_X px BX AX) free) (hS : va_S A0 H0 H locs) (hA : ∀ q, q < H.size → A1 q → A0 q) (hf : ∀ q, free q → A0 q) (hAX : ∀ q, q < H.size → AX q → A0 q)
    (kx : ∀ (E : String) (ce : Cell) (q9 : Addr) (u : SX) (t : State) (H1 : Heap) (locs1 : List Loc), t.heap = H1 → s.vm.Alike t.vm → px u → BX E u t → H.size ≤ H1.size → (∀ q : Nat, q < H.size → ¬ AX q → H1[q]? = H[q]?) → va_S A0 H0 H1 locs1 → H1[q9]? = some ce → ce.vm = .none → s.vm.findClass E = some ce.cls → vx_W p l e R s m args below meth c H1 locs1 (cells + mc) (slots + ms) Q (F0 m pc ls rest) q9)
    (kk : ∀ (r : Int32) (u : S) (t : State) (H1 : Heap) (locs1 : List Loc), t.heap = H1 → s.vm.Alike t.vm → post r u → B u t → H.size ≤ H1.size → (∀ q : Nat, q < H.size → ¬ A1 q → H1[q]? = H[q]?) → va_S A0 H0 H1 locs1 → W p l e R s m args below meth c H1 locs1 (cells + mc) (slots + ms) Q (F0 m (pc + 5) ls (.int r :: rest))) : W p l e R s m args below meth c H locs cells slots Q (F0 m pc ls st0) := by
  intro T hT X
  rcases hr T hT X with ⟨v, st₀, t, T', L, h0, X', hL, e1, e2, ⟨⟨r, u, hv, hp, hb⟩, hF⟩, st⟩ | ⟨q, st₀, t, T', L, E, ce, h0, X', hL, e1, e2, ⟨u, hp, hb, hF⟩, hce, hcv, hcl, st⟩
  · cases hv
    obtain ⟨k1, k2, k3⟩ := vx_keep h0 e1 hS hA hf hL hF
    obtain ⟨t2, a1, b1⟩ := kk r u t T'.heap (locs ++ L) e1.symm (by rw [← e2]; exact X'.warmed.alike) hp hb k1 k2 k3 T' rfl X'
    exact ⟨t2, st t2 a1, b1⟩
  · obtain ⟨k1, k2, k3⟩ := vx_keep h0 e1 hS hAX hf hL hF
    obtain ⟨t2, a1, b1⟩ := kx E ce q u t T'.heap (locs ++ L) e1.symm (by rw [← e2]; exact X'.warmed.alike) hp hb k1 k2 k3 (by rw [e1]; exact hce) hcv hcl T' rfl X'
    exact ⟨t2, st.trans a1, b1⟩
theorem vx_callFl {S SX : Type} {post : Int64 → S → Prop} {px : SX → Prop} {B : S → State → Prop} {BX : String → SX → State → Prop} {AX : Nat → Prop} (hr : vx_Run5 p l e R s m args below meth c H locs cells slots mc ms (F0 m pc ls st0) rest (va_Ql post B A1 a) (vx_X px BX AX) free) (hS : va_S A0 H0 H locs) (hA : ∀ q, q < H.size → A1 q → A0 q) (hf : ∀ q, free q → A0 q) (hAX : ∀ q, q < H.size → AX q → A0 q)
    (kx : ∀ (E : String) (ce : Cell) (q9 : Addr) (u : SX) (t : State) (H1 : Heap) (locs1 : List Loc), t.heap = H1 → s.vm.Alike t.vm → px u → BX E u t → H.size ≤ H1.size → (∀ q : Nat, q < H.size → ¬ AX q → H1[q]? = H[q]?) → va_S A0 H0 H1 locs1 → H1[q9]? = some ce → ce.vm = .none → s.vm.findClass E = some ce.cls → vx_W p l e R s m args below meth c H1 locs1 (cells + mc) (slots + ms) Q (F0 m pc ls rest) q9)
    (kk : ∀ (r : Int64) (u : S) (t : State) (H1 : Heap) (locs1 : List Loc), t.heap = H1 → s.vm.Alike t.vm → post r u → B u t → H.size ≤ H1.size → (∀ q : Nat, q < H.size → ¬ A1 q → H1[q]? = H[q]?) → va_S A0 H0 H1 locs1 → W p l e R s m args below meth c H1 locs1 (cells + mc) (slots + ms) Q (F0 m (pc + 5) ls (.long r :: rest))) : W p l e R s m args below meth c H locs cells slots Q (F0 m pc ls st0) := by
  intro T hT X
  rcases hr T hT X with ⟨v, st₀, t, T', L, h0, X', hL, e1, e2, ⟨⟨r, u, hv, hp, hb⟩, hF⟩, st⟩ | ⟨q, st₀, t, T', L, E, ce, h0, X', hL, e1, e2, ⟨u, hp, hb, hF⟩, hce, hcv, hcl, st⟩
  · cases hv
    obtain ⟨k1, k2, k3⟩ := vx_keep h0 e1 hS hA hf hL hF
    obtain ⟨t2, a1, b1⟩ := kk r u t T'.heap (locs ++ L) e1.symm (by rw [← e2]; exact X'.warmed.alike) hp hb k1 k2 k3 T' rfl X'
    exact ⟨t2, st t2 a1, b1⟩
  · obtain ⟨k1, k2, k3⟩ := vx_keep h0 e1 hS hAX hf hL hF
    obtain ⟨t2, a1, b1⟩ := kx E ce q u t T'.heap (locs ++ L) e1.symm (by rw [← e2]; exact X'.warmed.alike) hp hb k1 k2 k3 (by rw [e1]; exact hce) hcv hcl T' rfl X'
    exact ⟨t2, st.trans a1, b1⟩
theorem vx_callFf {S SX : Type} {post : UInt32 → S → Prop} {px : SX → Prop} {B : S → State → Prop} {BX : String → SX → State → Prop} {AX : Nat → Prop} (hr : vx_Run5 p l e R s m args below meth c H locs cells slots mc ms (F0 m pc ls st0) rest (va_Qf post B A1 a) (vx_X px BX AX) free) (hS : va_S A0 H0 H locs) (hA : ∀ q, q < H.size → A1 q → A0 q) (hf : ∀ q, free q → A0 q) (hAX : ∀ q, q < H.size → AX q → A0 q)
    (kx : ∀ (E : String) (ce : Cell) (q9 : Addr) (u : SX) (t : State) (H1 : Heap) (locs1 : List Loc), t.heap = H1 → s.vm.Alike t.vm → px u → BX E u t → H.size ≤ H1.size → (∀ q : Nat, q < H.size → ¬ AX q → H1[q]? = H[q]?) → va_S A0 H0 H1 locs1 → H1[q9]? = some ce → ce.vm = .none → s.vm.findClass E = some ce.cls → vx_W p l e R s m args below meth c H1 locs1 (cells + mc) (slots + ms) Q (F0 m pc ls rest) q9)
    (kk : ∀ (r : UInt32) (u : S) (t : State) (H1 : Heap) (locs1 : List Loc), t.heap = H1 → s.vm.Alike t.vm → post r u → B u t → H.size ≤ H1.size → (∀ q : Nat, q < H.size → ¬ A1 q → H1[q]? = H[q]?) → va_S A0 H0 H1 locs1 → W p l e R s m args below meth c H1 locs1 (cells + mc) (slots + ms) Q (F0 m (pc + 5) ls (.float r :: rest))) : W p l e R s m args below meth c H locs cells slots Q (F0 m pc ls st0) := by
  intro T hT X
  rcases hr T hT X with ⟨v, st₀, t, T', L, h0, X', hL, e1, e2, ⟨⟨r, u, hv, hp, hb⟩, hF⟩, st⟩ | ⟨q, st₀, t, T', L, E, ce, h0, X', hL, e1, e2, ⟨u, hp, hb, hF⟩, hce, hcv, hcl, st⟩
  · cases hv
    obtain ⟨k1, k2, k3⟩ := vx_keep h0 e1 hS hA hf hL hF
    obtain ⟨t2, a1, b1⟩ := kk r u t T'.heap (locs ++ L) e1.symm (by rw [← e2]; exact X'.warmed.alike) hp hb k1 k2 k3 T' rfl X'
    exact ⟨t2, st t2 a1, b1⟩
  · obtain ⟨k1, k2, k3⟩ := vx_keep h0 e1 hS hAX hf hL hF
    obtain ⟨t2, a1, b1⟩ := kx E ce q u t T'.heap (locs ++ L) e1.symm (by rw [← e2]; exact X'.warmed.alike) hp hb k1 k2 k3 (by rw [e1]; exact hce) hcv hcl T' rfl X'
    exact ⟨t2, st.trans a1, b1⟩
theorem vx_callFd {S SX : Type} {post : UInt64 → S → Prop} {px : SX → Prop} {B : S → State → Prop} {BX : String → SX → State → Prop} {AX : Nat → Prop} (hr : vx_Run5 p l e R s m args below meth c H locs cells slots mc ms (F0 m pc ls st0) rest (va_Qd post B A1 a) (vx_X px BX AX) free) (hS : va_S A0 H0 H locs) (hA : ∀ q, q < H.size → A1 q → A0 q) (hf : ∀ q, free q → A0 q) (hAX : ∀ q, q < H.size → AX q → A0 q)
    (kx : ∀ (E : String) (ce : Cell) (q9 : Addr) (u : SX) (t : State) (H1 : Heap) (locs1 : List Loc), t.heap = H1 → s.vm.Alike t.vm → px u → BX E u t → H.size ≤ H1.size → (∀ q : Nat, q < H.size → ¬ AX q → H1[q]? = H[q]?) → va_S A0 H0 H1 locs1 → H1[q9]? = some ce → ce.vm = .none → s.vm.findClass E = some ce.cls → vx_W p l e R s m args below meth c H1 locs1 (cells + mc) (slots + ms) Q (F0 m pc ls rest) q9)
    (kk : ∀ (r : UInt64) (u : S) (t : State) (H1 : Heap) (locs1 : List Loc), t.heap = H1 → s.vm.Alike t.vm → post r u → B u t → H.size ≤ H1.size → (∀ q : Nat, q < H.size → ¬ A1 q → H1[q]? = H[q]?) → va_S A0 H0 H1 locs1 → W p l e R s m args below meth c H1 locs1 (cells + mc) (slots + ms) Q (F0 m (pc + 5) ls (.double r :: rest))) : W p l e R s m args below meth c H locs cells slots Q (F0 m pc ls st0) := by
  intro T hT X
  rcases hr T hT X with ⟨v, st₀, t, T', L, h0, X', hL, e1, e2, ⟨⟨r, u, hv, hp, hb⟩, hF⟩, st⟩ | ⟨q, st₀, t, T', L, E, ce, h0, X', hL, e1, e2, ⟨u, hp, hb, hF⟩, hce, hcv, hcl, st⟩
  · cases hv
    obtain ⟨k1, k2, k3⟩ := vx_keep h0 e1 hS hA hf hL hF
    obtain ⟨t2, a1, b1⟩ := kk r u t T'.heap (locs ++ L) e1.symm (by rw [← e2]; exact X'.warmed.alike) hp hb k1 k2 k3 T' rfl X'
    exact ⟨t2, st t2 a1, b1⟩
  · obtain ⟨k1, k2, k3⟩ := vx_keep h0 e1 hS hAX hf hL hF
    obtain ⟨t2, a1, b1⟩ := kx E ce q u t T'.heap (locs ++ L) e1.symm (by rw [← e2]; exact X'.warmed.alike) hp hb k1 k2 k3 (by rw [e1]; exact hce) hcv hcl T' rfl X'
    exact ⟨t2, st.trans a1, b1⟩
end
/-! ===== END ===== -/
/-! ===== BEGIN by an interface, a method with a table of its own that may throw (follows va_callIFW, va_runFW) ===== -/
section
variable {p : Program} {l : Launch} {e : Env} {R : Room} {s : State} {m : MethodId} {args : Array Value} {below : List Frame} {meth : Method} {c : Code} {H : Heap} {locs : List Loc} {cells slots : Nat}
theorem vx_callIFW {T : State} (X : Stand p l e R s m args below meth c T locs cells slots) (hexec : p.tables.exec = Jvm.exec) {own C : String} {index count : Nat} {x y : MethodName} {bytes : ByteArray} {maxL : Nat} {ret : Option FieldType} {hh : List (Nat × Nat × Nat × Nat)}
    (hown : s.vm.findClass own = some m.cls) (hlink : (Cond.methodLink own index x).before args s = true) (hdecl : (Cond.declares x).before args s = true) (hface : (Cond.interfaceMethod x.cls x.cls x.name x.desc).before args s = true)
    (hsel : (Cond.selects C x y).before args s = true) (hinst : (Cond.instanceMethod y).before args s = true) (hpub : (Cond.publicMethod y).before args s = true) (hunh : (Cond.unhidden C x.name x.desc).before args s = true)
    (hcast : (Cond.castable C x.cls).before args s = true) (hcode : (Cond.codeWith y bytes maxL ret hh).before args s = true) (hx : x.cls ≠ "java/lang/invoke/MethodHandle" ∧ x.cls ≠ "java/lang/invoke/VarHandle")
    {W : Nat} {Pre : Pt → Array Value → Prop} {Post : Pt → Array Value → Option Value → Pt → Prop} {PostX : Pt → Array Value → Addr → Pt → Prop} (hK : vx_Back l R p e below s args y 5 W Pre Post PostX)
    {b : Addr} {cellB : Cell} {kB : Class} (hcell : T.heap[b]? = some cellB) (hobj : cellB.vm.isStatics = false) (hcls : s.vm.findClass C = some cellB.cls) (hkB : s.vm.classes[cellB.cls]? = some kB)
    {g : JFrame} (hg : g.method = m) (hsize : g.locals.size = c.maxLocals) {argsL rest : List Value} (hlen : ∀ sig, parseMethodDescriptor x.desc = some sig → argsL.length = sig.parameters.length)
    (hstack : g.stack = argsL.reverse ++ .ref b :: rest) (hW : 2 * g.monitorRoom + (rest.map fun v => v.category).sum ≤ W) (hdg : decode c.code g.pc = .ok (.invokeinterface index count, 5))
    (hpre : ∀ vm₁, s.WarmedH vm₁ → Pre ⟨T.setVm vm₁, locs, cells, slots⟩ (Value.ref b :: argsL).toArray) :
    (∃ (v : Option Value) (vm₁ : Vm) (B : Pt), s.WarmedH vm₁ ∧ Stand p l e R s m args below meth c B.U B.locs B.cells B.slots ∧ Post ⟨T.setVm vm₁, locs, cells, slots⟩ (Value.ref b :: argsL).toArray v B ∧
      ∀ target, Steps p.tables e below (B.U.setTop { g with pc := g.pc + 5, stack := v.toList ++ rest }) target → Steps p.tables e below (T.setTop g) target) ∨
    (∃ (q : Addr) (vm₁ : Vm) (B : Pt), s.WarmedH vm₁ ∧ Stand p l e R s m args below meth c B.U B.locs B.cells B.slots ∧ PostX ⟨T.setVm vm₁, locs, cells, slots⟩ (Value.ref b :: argsL).toArray q B ∧
      Steps p.tables e below (T.setTop g) ((B.U.setTop { g with stack := rest }).pushFrame (.throwing q))) := by
  obtain ⟨r0, r, hn, hrm, hstR, hsigR⟩ := Cond.declares_spec hdecl
  obtain ⟨cL, kL, r1, hcL, hkL, hiL, hfoundL, hn1⟩ := Cond.interfaceMethod_spec hface
  cases hn.symm.trans hn1
  have hr0cls : r0.cls = cL := Option.some.inj ((findClass_of_methodNamed hn).symm.trans hcL)
  obtain ⟨hnameR, hdescR⟩ := name_of_methodNamed hn hrm
  obtain ⟨mk, methM, hnamed, hmethM, -, habM⟩ := Cond.instanceMethod_spec hinst
  obtain ⟨c2, r2, m2, q1, q2, q3, q4, -⟩ := Cond.selects_spec hsel
  cases hcls.symm.trans q1
  cases hfoundL.symm.trans q2
  cases hnamed.symm.trans q3
  have hselP : selectMethod e.platform s.vm cellB.cls r0 = .method mk := by rw [Launch.admits_selectMethod X.admits]; exact q4
  have hpubM : hasFlag methM.accessFlags Acc.public_ = true := Cond.publicMethod_spec hnamed hmethM hpub
  have hway : ((cellB.cls :: s.vm.superclasses cellB.cls).any fun k => (declaredIn s.vm r.name r.desc k).any fun (_, z) => z.isPrivate || z.isStatic) = false := by
    rw [hnameR, hdescR]; exact Cond.unhidden_spec hcls hunh
  obtain ⟨c3, t3, w1, w2, w3⟩ := Cond.castable_spec hcast
  cases hcls.symm.trans w1
  cases hcL.symm.trans w2
  obtain ⟨vm₁, X₁, hstep₁⟩ := X.invokeinterface hexec hown hlink hn hrm hstR (by rw [hr0cls]; exact hkL) hiL hx (a := b) (cell := cellB) (kcell := kB) hcell
    (fun z h => by rw [h] at hobj; cases hobj) hkB (by rw [hr0cls]; exact w3) hselP hmethM hway hpubM habM (g := g) hg (argsL := argsL) (rest := rest) (hlen _ hsigR) hstack hdg
  rcases hK m meth c ⟨T.setVm vm₁, locs, cells, slots⟩ { g with stack := rest } (.invokeinterface index count) mk (Value.ref b :: argsL).toArray X₁ hg hsize hdg hW (X₁.named hnamed) (hpre vm₁ X₁.warmed) with ⟨v, B, X', hpost, hsteps⟩ | ⟨q, B, X', hpost, hsteps⟩
  · exact Or.inl ⟨v, vm₁, B, X₁.warmed, X', hpost, fun target h => hstep₁ _ fun acts => by rw [doInvoke_state]; exact hsteps.trans h⟩
  · exact Or.inr ⟨q, vm₁, B, X₁.warmed, X', hpost, hstep₁ _ fun acts => by rw [doInvoke_state]; exact hsteps⟩
theorem vx_runFW {x y : MethodName} {bytes cc : ByteArray} {maxL nL mc ms n index count : Nat} {ret : Option FieldType} {hh : List (Nat × Nat × Nat × Nat)} {ws : List Cond} {rm : Room} {Pc : Array Value → State → Prop} {Qc : Array Value → State → Outcome → State → Prop} {XC : String → State → State → Prop} {free : Addr → Prop} {Ts : List Cond} {own C : String} {cC : ClassId} {b : Addr} {As rest : List Value} {g : JFrame}
    (hat : ClassAt s C cC) (S : CallFix p m c cc nL s args Ts own) (hM : vx_Met l y ws rm Pc Qc XC mc ms free) (cw : va_CIW R s args own C index x y bytes maxL ret hh ws rm mc ms n) (hp : PreV s H C b Pc As)
    (hg : g.method = m) (hn : As.length = n) (hsize : g.locals.size = nL) (hstack : g.stack = As.reverse ++ .ref b :: rest) (hW : 2 * g.monitorRoom + (rest.map fun v => v.category).sum ≤ 8) (hdg : decode cc g.pc = .ok (.invokeinterface index count, 5)) (hf : cells + mc ≤ R.cells ∧ slots + ms ≤ R.slots) :
    vx_Run5 p l e R s m args below meth c H locs cells slots mc ms g rest (Qc (Value.ref b :: As).toArray) XC free := by
  obtain ⟨hrc, hrs, hfr, hlo, hws, hcw⟩ := cw.back
  have hini := cw.init
  have hK : vx_Back l R p e below s args y 5 8 (PreOf R mc ms Pc) (PostOf Qc mc ms free) (vx_Post XC mc ms free) := vx_backW (hh := hh) (bytes := bytes) (maxL := maxL) (ret := ret) hM hp.1 hrc hrs hfr hlo hws hcw (fun a' U hW => word_at hW (Or.inl (by first | rfl | simp [Cond.onTables, Cond.keeps, Cond.steady])) hini)
  obtain ⟨hx, hb, hml, ho, -⟩ := S
  obtain ⟨-, ⟨cellB, hcB, hoB, hclB⟩, hPc⟩ := hp
  obtain ⟨hfc, kB, hkB, -⟩ := hat
  cases hfc.symm.trans hclB
  intro T hT X
  rcases vx_callIFW X hx (C := C) (hh := hh) (bytes := bytes) (maxL := maxL) (ret := ret) ho cw.link cw.decl cw.face cw.sel cw.inst cw.pub cw.unh cw.cast cw.code cw.notMH hK (by rw [hT]; exact hcB) hoB hclB hkB hg (hsize.trans hml.symm) (argsL := As) (rest := rest) (fun sig h => hn.trans (cw.len sig h)) hstack hW (by rw [hb]; exact hdg)
    (fun vm₁ hW₁ => ⟨hf.1, hf.2, hPc (T.setVm vm₁) hT hW₁⟩) with ⟨v, vm₁, ⟨U', l2, c2, s2⟩, hW₁, X', ⟨g', mk, t, L, e1, e2, hq, h1, hL, h2, h3⟩, st⟩ | ⟨q, vm₁, ⟨U', l2, c2, s2⟩, hW₁, X', ⟨g', mk, t, L, E, ce, e1, e2, hq, hce, hcv, hcl, h1, hL, h2, h3⟩, st⟩
  · dsimp only [Pt.U, Pt.locs, Pt.cells, Pt.slots] at X' e1 e2 h1 h2 h3 st
    subst h1; subst h2; subst h3
    exact Or.inl ⟨v, (T.setVm vm₁).calling g' mk (Value.ref b :: As).toArray, t, U', L, hT, X', hL, e1, e2, hq, st⟩
  · dsimp only [Pt.U, Pt.locs, Pt.cells, Pt.slots] at X' e1 e2 h1 h2 h3 st hcl
    subst h1; subst h2; subst h3
    exact Or.inr ⟨q, (T.setVm vm₁).calling g' mk (Value.ref b :: As).toArray, t, U', L, E, ce, hT, X', hL, e1, e2, hq, hce, hcv, vx_cls hW₁ hcl, st⟩
end
/-! ===== END ===== -/
/-! ===== BEGIN .. of methods that hand back an object of the pool ===== -/
section
variable {p : Program} {l : Launch} {e : Env} {R : Room} {s : State} {m : MethodId} {args : Array Value} {below : List Frame} {meth : Method} {c : Code} {H : Heap} {locs : List Loc} {cells slots : Nat} {Q : State → Prop}
variable {mc ms : Nat} {free : Addr → Prop} {A0 A1 : Nat → Prop} {H0 : Heap} {a : Array Value} {pc : Nat} {ls : Array Slot} {st0 rest : List Value}
theorem vx_callq {S SX : Type} {post : Option Nat → S → Prop} {px : SX → Prop} {B : S → State → Prop} {BX : String → SX → State → Prop} {AX : Nat → Prop} (hr : vx_Run p l e R s m args below meth c H locs cells slots mc ms (F0 m pc ls st0) rest (va_Qq post B A1 a) (vx_X px BX AX) free) (hS : va_S A0 H0 H locs) (hA : ∀ q, q < H.size → A1 q → A0 q) (hf : ∀ q, free q → A0 q) (hAX : ∀ q, q < H.size → AX q → A0 q)
    (kx : ∀ (E : String) (ce : Cell) (q9 : Addr) (u : SX) (t : State) (H1 : Heap) (locs1 : List Loc), t.heap = H1 → s.vm.Alike t.vm → px u → BX E u t → H.size ≤ H1.size → (∀ q : Nat, q < H.size → ¬ AX q → H1[q]? = H[q]?) → va_S A0 H0 H1 locs1 → H1[q9]? = some ce → ce.vm = .none → s.vm.findClass E = some ce.cls → vx_W p l e R s m args below meth c H1 locs1 (cells + mc) (slots + ms) Q (F0 m pc ls rest) q9)
    (kk : ∀ (r : Option Nat) (u : S) (t : State) (H1 : Heap) (locs1 : List Loc), t.heap = H1 → s.vm.Alike t.vm → post r u → B u t → H.size ≤ H1.size → (∀ q : Nat, q < H.size → ¬ A1 q → H1[q]? = H[q]?) → va_S A0 H0 H1 locs1 → W p l e R s m args below meth c H1 locs1 (cells + mc) (slots + ms) Q (F0 m (pc + 3) ls (va_rf r :: rest))) : W p l e R s m args below meth c H locs cells slots Q (F0 m pc ls st0) := by
  intro T hT X
  rcases hr T hT X with ⟨v, st₀, t, T', L, h0, X', hL, e1, e2, ⟨⟨r, u, hv, hp, hb⟩, hF⟩, st⟩ | ⟨q, st₀, t, T', L, E, ce, h0, X', hL, e1, e2, ⟨u, hp, hb, hF⟩, hce, hcv, hcl, st⟩
  · cases hv
    obtain ⟨k1, k2, k3⟩ := vx_keep h0 e1 hS hA hf hL hF
    obtain ⟨t2, a1, b1⟩ := kk r u t T'.heap (locs ++ L) e1.symm (by rw [← e2]; exact X'.warmed.alike) hp hb k1 k2 k3 T' rfl X'
    exact ⟨t2, st t2 a1, b1⟩
  · obtain ⟨k1, k2, k3⟩ := vx_keep h0 e1 hS hAX hf hL hF
    obtain ⟨t2, a1, b1⟩ := kx E ce q u t T'.heap (locs ++ L) e1.symm (by rw [← e2]; exact X'.warmed.alike) hp hb k1 k2 k3 (by rw [e1]; exact hce) hcv hcl T' rfl X'
    exact ⟨t2, st.trans a1, b1⟩
end
/-! ===== END ===== -/
/-! ===== BEGIN .. a constant ===== -/
section
variable {p : Program} {l : Launch} {e : Env} {R : Room} {s : State} {m : MethodId} {args : Array Value} {below : List Frame} {meth : Method} {c : Code} {H : Heap} {locs : List Loc} {cells slots : Nat} {Q : State → Prop}
variable {mc ms : Nat} {free : Addr → Prop} {A0 A1 : Nat → Prop} {H0 : Heap} {a : Array Value} {pc : Nat} {ls : Array Slot} {st0 rest : List Value}
theorem vx_calle {ad : Nat → Nat} {S SX : Type} {post : Option Nat → S → Prop} {px : SX → Prop} {B : S → State → Prop} {BX : String → SX → State → Prop} {AX : Nat → Prop} (hr : vx_Run p l e R s m args below meth c H locs cells slots mc ms (F0 m pc ls st0) rest (va_Qe ad post B A1 a) (vx_X px BX AX) free) (hS : va_S A0 H0 H locs) (hA : ∀ q, q < H.size → A1 q → A0 q) (hf : ∀ q, free q → A0 q) (hAX : ∀ q, q < H.size → AX q → A0 q)
    (kx : ∀ (E : String) (ce : Cell) (q9 : Addr) (u : SX) (t : State) (H1 : Heap) (locs1 : List Loc), t.heap = H1 → s.vm.Alike t.vm → px u → BX E u t → H.size ≤ H1.size → (∀ q : Nat, q < H.size → ¬ AX q → H1[q]? = H[q]?) → va_S A0 H0 H1 locs1 → H1[q9]? = some ce → ce.vm = .none → s.vm.findClass E = some ce.cls → vx_W p l e R s m args below meth c H1 locs1 (cells + mc) (slots + ms) Q (F0 m pc ls rest) q9)
    (kk : ∀ (r : Option Nat) (u : S) (t : State) (H1 : Heap) (locs1 : List Loc), t.heap = H1 → s.vm.Alike t.vm → post r u → B u t → H.size ≤ H1.size → (∀ q : Nat, q < H.size → ¬ A1 q → H1[q]? = H[q]?) → va_S A0 H0 H1 locs1 → W p l e R s m args below meth c H1 locs1 (cells + mc) (slots + ms) Q (F0 m (pc + 3) ls (va_re ad r :: rest))) : W p l e R s m args below meth c H locs cells slots Q (F0 m pc ls st0) := by
  intro T hT X
  rcases hr T hT X with ⟨v, st₀, t, T', L, h0, X', hL, e1, e2, ⟨⟨r, u, hv, hp, hb⟩, hF⟩, st⟩ | ⟨q, st₀, t, T', L, E, ce, h0, X', hL, e1, e2, ⟨u, hp, hb, hF⟩, hce, hcv, hcl, st⟩
  · cases hv
    obtain ⟨k1, k2, k3⟩ := vx_keep h0 e1 hS hA hf hL hF
    obtain ⟨t2, a1, b1⟩ := kk r u t T'.heap (locs ++ L) e1.symm (by rw [← e2]; exact X'.warmed.alike) hp hb k1 k2 k3 T' rfl X'
    exact ⟨t2, st t2 a1, b1⟩
  · obtain ⟨k1, k2, k3⟩ := vx_keep h0 e1 hS hAX hf hL hF
    obtain ⟨t2, a1, b1⟩ := kx E ce q u t T'.heap (locs ++ L) e1.symm (by rw [← e2]; exact X'.warmed.alike) hp hb k1 k2 k3 (by rw [e1]; exact hce) hcv hcl T' rfl X'
    exact ⟨t2, st.trans a1, b1⟩
end
/-! ===== END ===== -/
/-! ===== BEGIN .. by an interface, an object ===== -/
section
variable {p : Program} {l : Launch} {e : Env} {R : Room} {s : State} {m : MethodId} {args : Array Value} {below : List Frame} {meth : Method} {c : Code} {H : Heap} {locs : List Loc} {cells slots : Nat} {Q : State → Prop}
variable {mc ms : Nat} {free : Addr → Prop} {A0 A1 : Nat → Prop} {H0 : Heap} {a : Array Value} {pc : Nat} {ls : Array Slot} {st0 rest : List Value}
theorem vx_callFq {S SX : Type} {post : Option Nat → S → Prop} {px : SX → Prop} {B : S → State → Prop} {BX : String → SX → State → Prop} {AX : Nat → Prop} (hr : vx_Run5 p l e R s m args below meth c H locs cells slots mc ms (F0 m pc ls st0) rest (va_Qq post B A1 a) (vx_X px BX AX) free) (hS : va_S A0 H0 H locs) (hA : ∀ q, q < H.size → A1 q → A0 q) (hf : ∀ q, free q → A0 q) (hAX : ∀ q, q < H.size → AX q → A0 q)
    (kx : ∀ (E : String) (ce : Cell) (q9 : Addr) (u : SX) (t : State) (H1 : Heap) (locs1 : List Loc), t.heap = H1 → s.vm.Alike t.vm → px u → BX E u t → H.size ≤ H1.size → (∀ q : Nat, q < H.size → ¬ AX q → H1[q]? = H[q]?) → va_S A0 H0 H1 locs1 → H1[q9]? = some ce → ce.vm = .none → s.vm.findClass E = some ce.cls → vx_W p l e R s m args below meth c H1 locs1 (cells + mc) (slots + ms) Q (F0 m pc ls rest) q9)
    (kk : ∀ (r : Option Nat) (u : S) (t : State) (H1 : Heap) (locs1 : List Loc), t.heap = H1 → s.vm.Alike t.vm → post r u → B u t → H.size ≤ H1.size → (∀ q : Nat, q < H.size → ¬ A1 q → H1[q]? = H[q]?) → va_S A0 H0 H1 locs1 → W p l e R s m args below meth c H1 locs1 (cells + mc) (slots + ms) Q (F0 m (pc + 5) ls (va_rf r :: rest))) : W p l e R s m args below meth c H locs cells slots Q (F0 m pc ls st0) := by
  intro T hT X
  rcases hr T hT X with ⟨v, st₀, t, T', L, h0, X', hL, e1, e2, ⟨⟨r, u, hv, hp, hb⟩, hF⟩, st⟩ | ⟨q, st₀, t, T', L, E, ce, h0, X', hL, e1, e2, ⟨u, hp, hb, hF⟩, hce, hcv, hcl, st⟩
  · cases hv
    obtain ⟨k1, k2, k3⟩ := vx_keep h0 e1 hS hA hf hL hF
    obtain ⟨t2, a1, b1⟩ := kk r u t T'.heap (locs ++ L) e1.symm (by rw [← e2]; exact X'.warmed.alike) hp hb k1 k2 k3 T' rfl X'
    exact ⟨t2, st t2 a1, b1⟩
  · obtain ⟨k1, k2, k3⟩ := vx_keep h0 e1 hS hAX hf hL hF
    obtain ⟨t2, a1, b1⟩ := kx E ce q u t T'.heap (locs ++ L) e1.symm (by rw [← e2]; exact X'.warmed.alike) hp hb k1 k2 k3 (by rw [e1]; exact hce) hcv hcl T' rfl X'
    exact ⟨t2, st.trans a1, b1⟩
end
/-! ===== END ===== -/
/-! ===== BEGIN .. by an interface, a constant ===== -/
section
variable {p : Program} {l : Launch} {e : Env} {R : Room} {s : State} {m : MethodId} {args : Array Value} {below : List Frame} {meth : Method} {c : Code} {H : Heap} {locs : List Loc} {cells slots : Nat} {Q : State → Prop}
variable {mc ms : Nat} {free : Addr → Prop} {A0 A1 : Nat → Prop} {H0 : Heap} {a : Array Value} {pc : Nat} {ls : Array Slot} {st0 rest : List Value}
theorem vx_callFe {ad : Nat → Nat} {S SX : Type} {post : Option Nat → S → Prop} {px : SX → Prop} {B : S → State → Prop} {BX : String → SX → State → Prop} {AX : Nat → Prop} (hr : vx_Run5 p l e R s m args below meth c H locs cells slots mc ms (F0 m pc ls st0) rest (va_Qe ad post B A1 a) (vx_X px BX AX) free) (hS : va_S A0 H0 H locs) (hA : ∀ q, q < H.size → A1 q → A0 q) (hf : ∀ q, free q → A0 q) (hAX : ∀ q, q < H.size → AX q → A0 q)
    (kx : ∀ (E : String) (ce : Cell) (q9 : Addr) (u : SX) (t : State) (H1 : Heap) (locs1 : List Loc), t.heap = H1 → s.vm.Alike t.vm → px u → BX E u t → H.size ≤ H1.size → (∀ q : Nat, q < H.size → ¬ AX q → H1[q]? = H[q]?) → va_S A0 H0 H1 locs1 → H1[q9]? = some ce → ce.vm = .none → s.vm.findClass E = some ce.cls → vx_W p l e R s m args below meth c H1 locs1 (cells + mc) (slots + ms) Q (F0 m pc ls rest) q9)
    (kk : ∀ (r : Option Nat) (u : S) (t : State) (H1 : Heap) (locs1 : List Loc), t.heap = H1 → s.vm.Alike t.vm → post r u → B u t → H.size ≤ H1.size → (∀ q : Nat, q < H.size → ¬ A1 q → H1[q]? = H[q]?) → va_S A0 H0 H1 locs1 → W p l e R s m args below meth c H1 locs1 (cells + mc) (slots + ms) Q (F0 m (pc + 5) ls (va_re ad r :: rest))) : W p l e R s m args below meth c H locs cells slots Q (F0 m pc ls st0) := by
  intro T hT X
  rcases hr T hT X with ⟨v, st₀, t, T', L, h0, X', hL, e1, e2, ⟨⟨r, u, hv, hp, hb⟩, hF⟩, st⟩ | ⟨q, st₀, t, T', L, E, ce, h0, X', hL, e1, e2, ⟨u, hp, hb, hF⟩, hce, hcv, hcl, st⟩
  · cases hv
    obtain ⟨k1, k2, k3⟩ := vx_keep h0 e1 hS hA hf hL hF
    obtain ⟨t2, a1, b1⟩ := kk r u t T'.heap (locs ++ L) e1.symm (by rw [← e2]; exact X'.warmed.alike) hp hb k1 k2 k3 T' rfl X'
    exact ⟨t2, st t2 a1, b1⟩
  · obtain ⟨k1, k2, k3⟩ := vx_keep h0 e1 hS hAX hf hL hF
    obtain ⟨t2, a1, b1⟩ := kx E ce q u t T'.heap (locs ++ L) e1.symm (by rw [← e2]; exact X'.warmed.alike) hp hb k1 k2 k3 (by rw [e1]; exact hce) hcv hcl T' rfl X'
    exact ⟨t2, st.trans a1, b1⟩
end
/-! ===== END ===== -/
/-! ===== BEGIN what the machine throws by itself: null at a field, at athrow ===== -/
section VXM2
variable {p : Program} {l : Launch} {e : Env} {R : Room} {s : State} {m : MethodId} {args : Array Value} {below : List Frame} {meth : Method} {c : Code} {H : Heap} {locs : List Loc} {cells slots : Nat}
variable {Q : State → Prop} {cc : ByteArray} {pc : Nat} {ls : Array Slot} {rest : List Value}
theorem vx_getfN {D cl tys} {own ref C : String} {T : u_T} {N ci index : Nat} {Ts : List Cond} (hexec : p.tables.exec = Jvm.exec) (hb : c.code = cc) (hts : ∀ w ∈ Ts, w.before args s = true) (hin : ∀ w ∈ u_ws C T N, w ∈ Ts) (hown : s.vm.findClass own = some m.cls) (hK : va_K D cl tys s) (hc : cl[ci]? = some (C, T, N)) (k : Nat) (hk : k < N) (hlink : (Cond.fieldLink own index ref (T k).2.1 (T k).2.2.1).before args s = true) (hsame : ∀ x, s.fieldFound? (T k).1 (T k).2.1 (T k).2.2.1 = some x → s.fieldFound? ref (T k).2.1 (T k).2.2.1 = some x) (hdg : decode cc pc = .ok (.getfield index, 3)) (kk : vx_NoteN p l e R s m args below meth c H locs cells slots Q (F0 m pc ls rest)) : W p l e R s m args below meth c H locs cells slots Q (F0 m pc ls (.null :: rest)) := by
  obtain ⟨hS, hfc, kC, hkC, -⟩ := hK.1 ci _ hc
  obtain ⟨cf, kf, fi, f, hi, -⟩ := hS k hk
  intro U hU X
  obtain ⟨vm', X1, st1⟩ := X.getfieldNull hexec hown hlink (hsame _ hi) (u_facts hfc hkC (u_lays hts hin hk) hi).1 (g := F0 m pc ls (.null :: rest)) rfl (rest := rest) rfl (by rw [hb]; exact hdg)
  obtain ⟨t, st, q⟩ := kk (U.setVm vm') hU X1
  exact ⟨t, st1 t st, q⟩
theorem vx_getfNN {D cl tys} {own ref C host : String} {T : u_T} {N ci index : Nat} {Ts : List Cond} (hexec : p.tables.exec = Jvm.exec) (hb : c.code = cc) (hts : ∀ w ∈ Ts, w.before args s = true) (hin : ∀ w ∈ u_ws C T N, w ∈ Ts) (hown : s.vm.findClass own = some m.cls) (hK : va_K D cl tys s) (hc : cl[ci]? = some (C, T, N)) (k : Nat) (hk : k < N) (hlink : (Cond.fieldLinkNest own index ref (T k).2.1 (T k).2.2.1 host).before args s = true) (hsame : ∀ x, s.fieldFound? (T k).1 (T k).2.1 (T k).2.2.1 = some x → s.fieldFound? ref (T k).2.1 (T k).2.2.1 = some x) (hdg : decode cc pc = .ok (.getfield index, 3)) (kk : vx_NoteN p l e R s m args below meth c H locs cells slots Q (F0 m pc ls rest)) : W p l e R s m args below meth c H locs cells slots Q (F0 m pc ls (.null :: rest)) := by
  obtain ⟨hS, hfc, kC, hkC, -⟩ := hK.1 ci _ hc
  obtain ⟨cf, kf, fi, f, hi, -⟩ := hS k hk
  intro U hU X
  obtain ⟨vm', X1, st1⟩ := X.getfieldNullNest hexec hown hlink (hsame _ hi) (u_facts hfc hkC (u_lays hts hin hk) hi).1 (g := F0 m pc ls (.null :: rest)) rfl (rest := rest) rfl (by rw [hb]; exact hdg)
  obtain ⟨t, st, q⟩ := kk (U.setVm vm') hU X1
  exact ⟨t, st1 t st, q⟩
theorem vx_putfN {D cl tys} {own ref C : String} {T : u_T} {N ci index : Nat} {Ts : List Cond} (hexec : p.tables.exec = Jvm.exec) (hb : c.code = cc) (hts : ∀ w ∈ Ts, w.before args s = true) (hin : ∀ w ∈ u_ws C T N, w ∈ Ts) (hown : s.vm.findClass own = some m.cls) (hK : va_K D cl tys s) (hc : cl[ci]? = some (C, T, N)) (k : Nat) (hk : k < N) (hlink : (Cond.fieldLink own index ref (T k).2.1 (T k).2.2.1).before args s = true) (hsame : ∀ x, s.fieldFound? (T k).1 (T k).2.1 (T k).2.2.1 = some x → s.fieldFound? ref (T k).2.1 (T k).2.2.1 = some x) (hfin : (T k).2.2.2 = false) {v : Value} (hdg : decode cc pc = .ok (.putfield index, 3)) (kk : vx_NoteN p l e R s m args below meth c H locs cells slots Q (F0 m pc ls rest)) : W p l e R s m args below meth c H locs cells slots Q (F0 m pc ls (v :: .null :: rest)) := by
  obtain ⟨hS, hfc, kC, hkC, -⟩ := hK.1 ci _ hc
  obtain ⟨cf, kf, fi, f, hi, -⟩ := hS k hk
  have hlay := hts _ (hin _ (u_in_lay hk))
  unfold u_lay at hlay
  rw [if_neg (by rw [hfin]; decide)] at hlay
  obtain ⟨c9, k9, cf9, kf9, fi9, f9, -, -, hi9, hst9, hnf9, -⟩ := Cond.lays_spec hlay
  cases hi.symm.trans hi9
  intro U hU X
  obtain ⟨vm', X1, st1⟩ := X.putfieldNull hexec hown hlink (hsame _ hi) hst9 hnf9 (g := F0 m pc ls (v :: .null :: rest)) rfl (v := v) (rest := rest) rfl (by rw [hb]; exact hdg)
  obtain ⟨t, st, q⟩ := kk (U.setVm vm') hU X1
  exact ⟨t, st1 t st, q⟩
theorem vx_putfNN {D cl tys} {own ref C host : String} {T : u_T} {N ci index : Nat} {Ts : List Cond} (hexec : p.tables.exec = Jvm.exec) (hb : c.code = cc) (hts : ∀ w ∈ Ts, w.before args s = true) (hin : ∀ w ∈ u_ws C T N, w ∈ Ts) (hown : s.vm.findClass own = some m.cls) (hK : va_K D cl tys s) (hc : cl[ci]? = some (C, T, N)) (k : Nat) (hk : k < N) (hlink : (Cond.fieldLinkNest own index ref (T k).2.1 (T k).2.2.1 host).before args s = true) (hsame : ∀ x, s.fieldFound? (T k).1 (T k).2.1 (T k).2.2.1 = some x → s.fieldFound? ref (T k).2.1 (T k).2.2.1 = some x) (hfin : (T k).2.2.2 = false) {v : Value} (hdg : decode cc pc = .ok (.putfield index, 3)) (kk : vx_NoteN p l e R s m args below meth c H locs cells slots Q (F0 m pc ls rest)) : W p l e R s m args below meth c H locs cells slots Q (F0 m pc ls (v :: .null :: rest)) := by
  obtain ⟨hS, hfc, kC, hkC, -⟩ := hK.1 ci _ hc
  obtain ⟨cf, kf, fi, f, hi, -⟩ := hS k hk
  have hlay := hts _ (hin _ (u_in_lay hk))
  unfold u_lay at hlay
  rw [if_neg (by rw [hfin]; decide)] at hlay
  obtain ⟨c9, k9, cf9, kf9, fi9, f9, -, -, hi9, hst9, hnf9, -⟩ := Cond.lays_spec hlay
  cases hi.symm.trans hi9
  intro U hU X
  obtain ⟨vm', X1, st1⟩ := X.putfieldNullNest hexec hown hlink (hsame _ hi) hst9 hnf9 (g := F0 m pc ls (v :: .null :: rest)) rfl (v := v) (rest := rest) rfl (by rw [hb]; exact hdg)
  obtain ⟨t, st, q⟩ := kk (U.setVm vm') hU X1
  exact ⟨t, st1 t st, q⟩
theorem vx_athrowN (hexec : p.tables.exec = Jvm.exec) (hb : c.code = cc) (hdg : decode cc pc = .ok (.athrow, 1)) (k : vx_NoteN p l e R s m args below meth c H locs cells slots Q (F0 m pc ls rest)) : W p l e R s m args below meth c H locs cells slots Q (F0 m pc ls (.null :: rest)) := by
  intro T hT X
  obtain ⟨t, st, q⟩ := k T hT X
  exact ⟨t, X.athrowNull hexec (g := F0 m pc ls (.null :: rest)) rfl (rest := rest) rfl (by rw [hb]; exact hdg) t st, q⟩
end VXM2
/-! ===== END ===== -/
end
section
/-! ===== THE LOGIC, part 1: an abstract heap over whole numbers; what holds of a state that it pictures ===== -/
abbrev AV : Type := Int ⊕ (Option Nat ⊕ (Int ⊕ UInt64))
abbrev vI (n : Int) : AV := Sum.inl n
abbrev vR (r : Option Nat) : AV := Sum.inr (Sum.inl r)
abbrev vL (n : Int) : AV := Sum.inr (Sum.inr (Sum.inl n))
abbrev vD (b : UInt64) : AV := Sum.inr (Sum.inr (Sum.inr b))
def conc : AV → Value := fun v => match v with
  | Sum.inl n => .int (Int32.ofInt n)
  | Sum.inr (Sum.inl r) => va_rf r
  | Sum.inr (Sum.inr (Sum.inl n)) => .long (Int64.ofInt n)
  | Sum.inr (Sum.inr (Sum.inr b)) => .double b
def cat2 : AV → Bool := fun v => match v with
  | Sum.inr (Sum.inr _) => true
  | _ => false
theorem conc_cat (v : AV) : (conc v).category = if cat2 v = true then 2 else 1 := by
  match v with
  | Sum.inl n => rfl
  | Sum.inr (Sum.inl none) => rfl
  | Sum.inr (Sum.inl (some a)) => rfl
  | Sum.inr (Sum.inr (Sum.inl n)) => rfl
  | Sum.inr (Sum.inr (Sum.inr b)) => rfl
/-- kinds, lengths, whole numbers, references, longs, the next address, slots in use, the two bounds -/
abbrev Hp : Type := (Nat → Nat) × (Nat → Int) × (Nat → Int → Int) × (Nat → Int → Option Nat) × (Nat → Int → Int) × Nat × Nat × Nat × Nat
def kd (h : Hp) : Nat → Nat := h.1
def ln (h : Hp) : Nat → Int := h.2.1
def hi (h : Hp) : Nat → Int → Int := h.2.2.1
def hr (h : Hp) : Nat → Int → Option Nat := h.2.2.2.1
def hl (h : Hp) : Nat → Int → Int := h.2.2.2.2.1
def nx (h : Hp) : Nat := h.2.2.2.2.2.1
def us (h : Hp) : Nat := h.2.2.2.2.2.2.1
def cn (h : Hp) : Nat := h.2.2.2.2.2.2.2.1
def cs (h : Hp) : Nat := h.2.2.2.2.2.2.2.2
def up2 {α : Type} (f : Nat → Int → α) (a : Nat) (k : Int) (v : α) : Nat → Int → α := fun b j => if b = a ∧ j = k then v else f b j
def up1 {α : Type} (f : Nat → α) (a : Nat) (v : α) : Nat → α := fun b => if b = a then v else f b
def setI (h : Hp) (a : Nat) (k v : Int) : Hp := (kd h, ln h, up2 (hi h) a k v, hr h, hl h, nx h, us h, cn h, cs h)
def setR (h : Hp) (a : Nat) (k : Int) (v : Option Nat) : Hp := (kd h, ln h, hi h, up2 (hr h) a k v, hl h, nx h, us h, cn h, cs h)
def setL (h : Hp) (a : Nat) (k v : Int) : Hp := (kd h, ln h, hi h, hr h, up2 (hl h) a k v, nx h, us h, cn h, cs h)
/-- a new cell of kind K, n slots -/
def mkO (h : Hp) (K : Nat) (n : Int) : Hp := (up1 (kd h) (nx h) K, up1 (ln h) (nx h) n, up1 (hi h) (nx h) (fun _ => 0), up1 (hr h) (nx h) (fun _ => none), up1 (hl h) (nx h) (fun _ => 0), nx h + 1, us h + n.toNat, cn h, cs h)
/-- a cell that nothing tells of -/
def mkG (h : Hp) (n : Nat) : Hp := (kd h, ln h, hi h, hr h, hl h, nx h + 1, us h + n, cn h, cs h)
theorem up2_same {α : Type} (f : Nat → Int → α) (a : Nat) (k : Int) (v : α) : up2 f a k v a k = v := by simp [up2]
theorem up2_ne {α : Type} (f : Nat → Int → α) {a b : Nat} {k j : Int} (v : α) (h : ¬ (b = a ∧ j = k)) : up2 f a k v b j = f b j := by simp only [up2, if_neg h]
theorem up1_same {α : Type} (f : Nat → α) (a : Nat) (v : α) : up1 f a v a = v := by simp [up1]
theorem up1_ne {α : Type} (f : Nat → α) {a b : Nat} (v : α) (h : ¬ b = a) : up1 f a v b = f b := by simp only [up1, if_neg h]
theorem kd_setI (h : Hp) (a : Nat) (k v : Int) : kd (setI h a k v) = kd h := rfl
theorem ln_setI (h : Hp) (a : Nat) (k v : Int) : ln (setI h a k v) = ln h := rfl
theorem hi_setI (h : Hp) (a : Nat) (k v : Int) : hi (setI h a k v) = up2 (hi h) a k v := rfl
theorem hr_setI (h : Hp) (a : Nat) (k v : Int) : hr (setI h a k v) = hr h := rfl
theorem hl_setI (h : Hp) (a : Nat) (k v : Int) : hl (setI h a k v) = hl h := rfl
theorem nx_setI (h : Hp) (a : Nat) (k v : Int) : nx (setI h a k v) = nx h := rfl
theorem us_setI (h : Hp) (a : Nat) (k v : Int) : us (setI h a k v) = us h := rfl
theorem cn_setI (h : Hp) (a : Nat) (k v : Int) : cn (setI h a k v) = cn h := rfl
theorem cs_setI (h : Hp) (a : Nat) (k v : Int) : cs (setI h a k v) = cs h := rfl
theorem kd_setR (h : Hp) (a : Nat) (k : Int) (v : Option Nat) : kd (setR h a k v) = kd h := rfl
theorem ln_setR (h : Hp) (a : Nat) (k : Int) (v : Option Nat) : ln (setR h a k v) = ln h := rfl
theorem hi_setR (h : Hp) (a : Nat) (k : Int) (v : Option Nat) : hi (setR h a k v) = hi h := rfl
theorem hr_setR (h : Hp) (a : Nat) (k : Int) (v : Option Nat) : hr (setR h a k v) = up2 (hr h) a k v := rfl
theorem hl_setR (h : Hp) (a : Nat) (k : Int) (v : Option Nat) : hl (setR h a k v) = hl h := rfl
theorem nx_setR (h : Hp) (a : Nat) (k : Int) (v : Option Nat) : nx (setR h a k v) = nx h := rfl
theorem us_setR (h : Hp) (a : Nat) (k : Int) (v : Option Nat) : us (setR h a k v) = us h := rfl
theorem cn_setR (h : Hp) (a : Nat) (k : Int) (v : Option Nat) : cn (setR h a k v) = cn h := rfl
theorem cs_setR (h : Hp) (a : Nat) (k : Int) (v : Option Nat) : cs (setR h a k v) = cs h := rfl
theorem kd_setL (h : Hp) (a : Nat) (k v : Int) : kd (setL h a k v) = kd h := rfl
theorem ln_setL (h : Hp) (a : Nat) (k v : Int) : ln (setL h a k v) = ln h := rfl
theorem hi_setL (h : Hp) (a : Nat) (k v : Int) : hi (setL h a k v) = hi h := rfl
theorem hr_setL (h : Hp) (a : Nat) (k v : Int) : hr (setL h a k v) = hr h := rfl
theorem hl_setL (h : Hp) (a : Nat) (k v : Int) : hl (setL h a k v) = up2 (hl h) a k v := rfl
theorem nx_setL (h : Hp) (a : Nat) (k v : Int) : nx (setL h a k v) = nx h := rfl
theorem us_setL (h : Hp) (a : Nat) (k v : Int) : us (setL h a k v) = us h := rfl
theorem cn_setL (h : Hp) (a : Nat) (k v : Int) : cn (setL h a k v) = cn h := rfl
theorem cs_setL (h : Hp) (a : Nat) (k v : Int) : cs (setL h a k v) = cs h := rfl
theorem kd_mkO (h : Hp) (K : Nat) (n : Int) : kd (mkO h K n) = up1 (kd h) (nx h) K := rfl
theorem ln_mkO (h : Hp) (K : Nat) (n : Int) : ln (mkO h K n) = up1 (ln h) (nx h) n := rfl
theorem hi_mkO (h : Hp) (K : Nat) (n : Int) : hi (mkO h K n) = up1 (hi h) (nx h) (fun _ => 0) := rfl
theorem hr_mkO (h : Hp) (K : Nat) (n : Int) : hr (mkO h K n) = up1 (hr h) (nx h) (fun _ => none) := rfl
theorem hl_mkO (h : Hp) (K : Nat) (n : Int) : hl (mkO h K n) = up1 (hl h) (nx h) (fun _ => 0) := rfl
theorem nx_mkO (h : Hp) (K : Nat) (n : Int) : nx (mkO h K n) = nx h + 1 := rfl
theorem us_mkO (h : Hp) (K : Nat) (n : Int) : us (mkO h K n) = us h + n.toNat := rfl
theorem cn_mkO (h : Hp) (K : Nat) (n : Int) : cn (mkO h K n) = cn h := rfl
theorem cs_mkO (h : Hp) (K : Nat) (n : Int) : cs (mkO h K n) = cs h := rfl
theorem kd_mkG (h : Hp) (n : Nat) : kd (mkG h n) = kd h := rfl
theorem ln_mkG (h : Hp) (n : Nat) : ln (mkG h n) = ln h := rfl
theorem hi_mkG (h : Hp) (n : Nat) : hi (mkG h n) = hi h := rfl
theorem hr_mkG (h : Hp) (n : Nat) : hr (mkG h n) = hr h := rfl
theorem hl_mkG (h : Hp) (n : Nat) : hl (mkG h n) = hl h := rfl
theorem nx_mkG (h : Hp) (n : Nat) : nx (mkG h n) = nx h + 1 := rfl
theorem us_mkG (h : Hp) (n : Nat) : us (mkG h n) = us h + n := rfl
theorem cn_mkG (h : Hp) (n : Nat) : cn (mkG h n) = cn h := rfl
theorem cs_mkG (h : Hp) (n : Nat) : cs (mkG h n) = cs h := rfl
abbrev inR (x : Int) : Prop := -2147483648 ≤ x ∧ x ≤ 2147483647
theorem i_toInt {x : Int} (h : inR x) : (Int32.ofInt x).toInt = x := Int32.toInt_ofInt_of_le (by omega) (by omega)
theorem i_lt {x y : Int} (hx : inR x) (hy : inR y) : Int32.ofInt x < Int32.ofInt y ↔ x < y := by rw [Int32.lt_iff_toInt_lt, i_toInt hx, i_toInt hy]
theorem i_le {x y : Int} (hx : inR x) (hy : inR y) : Int32.ofInt x ≤ Int32.ofInt y ↔ x ≤ y := by rw [Int32.le_iff_toInt_le, i_toInt hx, i_toInt hy]
theorem i_eq {x y : Int} (hx : inR x) (hy : inR y) : Int32.ofInt x = Int32.ofInt y ↔ x = y := by rw [← Int32.toInt_inj, i_toInt hx, i_toInt hy]
theorem i_clamp {x : Int} (h : inR x) : (Int32.ofInt x).toNatClampNeg = x.toNat := by
  show (Int32.ofInt x).toInt.toNat = x.toNat
  rw [i_toInt h]
theorem i_neg {x : Int} (h : inR x) : Int32.ofInt x < 0 ↔ x < 0 := i_lt h (y := 0) (by decide)
/-- a slot's value, by its type -/
def vOf (ty : FieldType) (i : Int) (r : Option Nat) (l : Int) : Value := match ty with
  | .int => .int (Int32.ofInt i)
  | .boolean => .int (Int32.ofInt i)
  | .long => .long (Int64.ofInt l)
  | _ => va_rf r
def sv (ty : FieldType) (h : Hp) (a : Nat) (k : Int) : Value := vOf ty (hi h a k) (hr h a k) (hl h a k)
def okTy (ty : FieldType) : Bool := match ty with
  | .int => true
  | .boolean => true
  | .long => true
  | .object _ => true
  | .array _ => true
  | _ => false
theorem vOf_default {ty : FieldType} (h : okTy ty = true) : defaultValue ty = vOf ty 0 none 0 := by
  cases ty <;> first | rfl | cases h
def ssum (H : Heap) : Nat := (H.toList.map (fun c => c.slots.size)).sum
/-- what the tables say of an array class of that element type -/
def arrF (s : State) (cA : ClassId) (ty : FieldType) : Prop := ArrOfT s cA ty ∧ ∃ (kA : Class) (comp : ClassId), s.vm.classes[cA]? = some kA ∧ kA.kind = .array comp ty ∧ s.vm.findClass ("[" ++ ty.toString) = some cA ∧ (∀ C, ty = .object C → s.vm.findClass C = some comp) ∧ (∀ t, ty = .array t → s.vm.findClass (FieldType.array t).toString = some comp)
theorem arrF.moved {u U : State} (hvm : u.vm.Alike U.vm) {cA : ClassId} {ty : FieldType} (h : arrF u cA ty) : arrF U cA ty := by
  obtain ⟨h0, kA, comp, h1, h2, h3, h4, h5⟩ := h
  obtain ⟨k', hk', he⟩ := hvm.2.2 _ _ h1
  exact ⟨arrOfT_moved hvm h0, k', comp, hk', by rw [he]; exact h2, by rw [hvm.findClass]; exact h3, fun C e => by rw [hvm.findClass]; exact h4 C e, fun t e => by rw [hvm.findClass]; exact h5 t e⟩
/-- a's cell is as the picture tells -/
def okAt (D : va_G) (DA : Nat → ClassId) (s : State) (H : Heap) (h : Hp) (a : Nat) : Prop :=
  (kd h a < 100 ∧ ∃ q, CL[kd h a - 1]? = some q ∧ t_OB a (D.1 (kd h a - 1)) q.2.2 (D.2 (kd h a - 1)) H (fun k => sv (cT (kd h a) k) h a k)) ∨
  (kd h a = 200 ∧ inR (ln h a) ∧ ∃ cell : Cell, H[a]? = some cell ∧ s.isArrayOf cell .int ∧ cell.vm ≠ .unknown ∧ (cell.slots.size : Int) = ln h a ∧ ∀ j : Nat, j < cell.slots.size → cell.slots[j]? = some (.int (Int32.ofInt (hi h a j)))) ∨
  (kd h a ∈ KA ∧ 0 ≤ ln h a ∧ inR (ln h a) ∧ H[a]? = some (arrV (DA (kd h a)) (ln h a).toNat (fun j => sv (AT (kd h a)) h a j)))
def rep (D : va_G) (DA : Nat → ClassId) (B0 CN CS : Nat) (s : State) (H : Heap) (h : Hp) : Prop :=
  H.size = nx h ∧ ssum H = us h ∧ cn h = CN ∧ cs h = CS ∧ nx h ≤ CN ∧ us h ≤ CS ∧ B0 ≤ nx h ∧ (∀ a k, inR (hi h a k)) ∧ ∀ a, kd h a ≠ 0 → (kd h a = 200 ∨ B0 ≤ a) ∧ okAt D DA s H h a
theorem okAt.lt {D : va_G} {DA : Nat → ClassId} {s : State} {H : Heap} {h : Hp} {a : Nat} (k : okAt D DA s H h a) : a < H.size := by
  rcases k with ⟨-, q, -, cell, e, -⟩ | ⟨-, -, cell, e, -⟩ | ⟨-, -, -, e⟩ <;> exact (Array.getElem?_eq_some_iff.mp e).1
theorem okAt.kept {D : va_G} {DA : Nat → ClassId} {s : State} {H H1 : Heap} {h h1 : Hp} {a : Nat} (k : okAt D DA s H h a) (hq : H1[a]? = H[a]?) (hk : kd h1 a = kd h a) (hln : ln h1 a = ln h a) (e1 : ∀ j, hi h1 a j = hi h a j) (e2 : ∀ j, hr h1 a j = hr h a j) (e3 : ∀ j, hl h1 a j = hl h a j) : okAt D DA s H1 h1 a := by
  have es : ∀ ty j, sv ty h1 a j = sv ty h a j := fun ty j => by unfold sv; rw [e1, e2, e3]
  unfold okAt
  rw [hk, hln]
  rcases k with ⟨k1, q, k2, k3⟩ | ⟨k1, k4, cell, k2, k3, k5, k6, k7⟩ | ⟨k1, k2, k3, k4⟩
  · exact Or.inl ⟨k1, q, k2, (k3.kept hq).to (fun j _ => (es _ _).symm)⟩
  · exact Or.inr (Or.inl ⟨k1, k4, cell, by rw [hq]; exact k2, k3, k5, k6, fun j hj => by rw [e1]; exact k7 j hj⟩)
  · refine Or.inr (Or.inr ⟨k1, k2, k3, ?_⟩)
    rw [hq, k4]
    congr 2
    funext j
    exact (es _ _).symm
theorem okAt.moved {D : va_G} {DA : Nat → ClassId} {u U : State} {H : Heap} {h : Hp} {a : Nat} (hvm : u.vm.Alike U.vm) (k : okAt D DA u H h a) : okAt D DA U H h a := by
  rcases k with k | ⟨k1, k4, cell, k2, k3, k5, k6, k7⟩ | k
  · exact Or.inl k
  · exact Or.inr (Or.inl ⟨k1, k4, cell, k2, State.isArrayOf_alike hvm k3, k5, k6, k7⟩)
  · exact Or.inr (Or.inr k)
theorem rep.moved {D : va_G} {DA : Nat → ClassId} {B0 CN CS : Nat} {u U : State} {H : Heap} {h : Hp} (hvm : u.vm.Alike U.vm) (k : rep D DA B0 CN CS u H h) : rep D DA B0 CN CS U H h := by
  obtain ⟨k1, k2, k3, k4, k5, k6, k7, k8, k9⟩ := k
  exact ⟨k1, k2, k3, k4, k5, k6, k7, k8, fun a ha => ⟨(k9 a ha).1, (k9 a ha).2.moved hvm⟩⟩
theorem rep.lt {D : va_G} {DA : Nat → ClassId} {B0 CN CS : Nat} {s : State} {H : Heap} {h : Hp} (k : rep D DA B0 CN CS s H h) {a : Nat} (ha : kd h a ≠ 0) : a < nx h := by
  have := (k.2.2.2.2.2.2.2.2 a ha).2.lt
  rw [k.1] at this
  exact this
/-! words -/
theorem ao_moved {t : FieldType} {u U : State} {A A' : Array Value} (hvm : u.vm.Alike U.vm) (h : (Cond.arrayOver (.array t)).before A u = true) : (Cond.arrayOver (.array t)).before A' U = true := by
  unfold Cond.before Cond.holds at h ⊢
  simp only [Cond.value, beq_iff_eq] at h ⊢
  rw [hvm.findClass]
  cases hc : u.vm.findClass (FieldType.array t).toString with
  | none => simp [hc] at h
  | some comp =>
    simp only [hc, Option.bind_some, Option.bind_eq_some_iff, Option.map_eq_some_iff] at h ⊢
    obtain ⟨c, h2, k, h3, h4⟩ := h
    obtain ⟨k', hk', he⟩ := hvm.2.2 _ _ h3
    refine ⟨c, ?_, k', hk', ?_⟩
    · have hi : (U.vm.classes.findIdx? fun (x : Class) => match x.kind with | .array component _ => component == comp | _ => false) = some c := by
        have e1 := va_idx_bare U.vm comp
        have e2 := va_idx_bare u.vm comp
        have e3 : U.vm.bare = u.vm.bare := by first | exact hvm.bare_eq | exact hvm.bare_eq.symm
        rw [e3] at e1
        exact e1.symm.trans (e2.trans h2)
      exact hi
    · rw [← h4, he]
      cases hkk : k.kind <;> simp [hkk, hvm.findClass]
def okS (s : State) : Prop := ∀ w, okw w → ∀ a' : Array Value, w.before a' s = true
theorem okS_warm {s U : State} (hW : s.WarmedH U.vm) (h : okS s) : okS U := by
  intro w hw a'
  have hb := h w hw #[]
  obtain ⟨-, hm⟩ := hw
  unfold mw at hm
  split at hm
  · exact va_Nw.use rfl (va_Nw.warmM hW hb)
  · exact va_AO.use (va_AO.moved hW.alike hb)
  · exact ao_moved hW.alike hb
  · exact word_at hW (good_of_word hm) hb
/-! locals -/
def al (ls : List (Option AV)) : List (Nat × Value) := (List.range ls.length).filterMap (fun j => match ls[j]? with
  | some (some v) => some (j, conc v)
  | _ => none)
theorem al_mem {ls : List (Option AV)} {q : Nat × Value} : q ∈ al ls ↔ ∃ v, ls[q.1]? = some (some v) ∧ q.2 = conc v := by
  unfold al
  rw [List.mem_filterMap]
  constructor
  · rintro ⟨j, hj, h⟩
    split at h
    · next v hv => cases h; exact ⟨v, hv, rfl⟩
    · cases h
  · rintro ⟨v, hv, he⟩
    have hl : q.1 < ls.length := (List.getElem?_eq_some_iff.mp hv).1
    refine ⟨q.1, List.mem_range.mpr hl, ?_⟩
    rw [hv]
    show some (q.1, conc v) = some q
    rw [← he]
def lrel (n : Nat) (ls : List (Option AV)) (ls' : Array Slot) : Prop := lv_has ls' n (al ls)
theorem lrel.at {n : Nat} {ls : List (Option AV)} {ls' : Array Slot} (h : lrel n ls ls') {j : Nat} {v : AV} (hv : ls[j]? = some (some v)) : ls'[j]? = some (.val (conc v)) := h.2.2 (j, conc v) (al_mem.mpr ⟨v, hv, rfl⟩)
theorem lrel.weak {n : Nat} {ls L : List (Option AV)} {ls' : Array Slot} (h : lrel n ls ls') (hw : ∀ (j : Nat) (v : AV), L[j]? = some (some v) → ls[j]? = some (some v)) : lrel n L ls' := by
  refine ⟨h.1, h.2.1, fun q hq => ?_⟩
  obtain ⟨v, hv, he⟩ := al_mem.mp hq
  rw [he]
  exact h.at (hw _ _ hv)
/-- the place in front of i, if a long begins there, is lost -/
def clr (ls : List (Option AV)) (i : Nat) : List (Option AV) := match i with
  | 0 => ls
  | k + 1 => match ls[k]? with
    | some (some u) => if cat2 u = true then ls.set k none else ls
    | _ => ls
def stL (ls : List (Option AV)) (i : Nat) (v : AV) : List (Option AV) := (clr ls i).set i (some v)
def stL2 (ls : List (Option AV)) (i : Nat) (v : AV) : List (Option AV) := ((clr ls i).set i (some v)).set (i + 1) none
theorem clr_at {ls : List (Option AV)} {i j : Nat} {u : AV} (h : (clr ls i)[j]? = some (some u)) : ls[j]? = some (some u) ∧ ¬ (j + 1 = i ∧ cat2 u = true) := by
  match i with
  | 0 => exact ⟨h, fun q => by omega⟩
  | k + 1 =>
    simp only [clr] at h
    by_cases hjk : j = k
    · subst hjk
      split at h
      · next w hw =>
        by_cases c : cat2 w = true
        · rw [if_pos c] at h
          have hl : j < ls.length := (List.getElem?_eq_some_iff.mp hw).1
          simp [List.getElem?_set, hl] at h
        · rw [if_neg c] at h
          rw [hw] at h
          cases h
          exact ⟨hw, fun q => c q.2⟩
      · next hn => exact absurd h (fun h => hn u h)
    · refine ⟨?_, fun q => hjk (by omega)⟩
      split at h
      · next w hw =>
        by_cases c : cat2 w = true
        · rw [if_pos c, List.getElem?_set, if_neg (fun e => hjk e.symm)] at h
          exact h
        · rw [if_neg c] at h
          exact h
      · exact h
theorem clr_len (ls : List (Option AV)) (i : Nat) : (clr ls i).length = ls.length := by
  match i with
  | 0 => rfl
  | k + 1 =>
    simp only [clr]
    split
    · split <;> simp
    · rfl
theorem lrel.store {n : Nat} {ls : List (Option AV)} {ls' : Array Slot} (h : lrel n ls ls') {i : Nat} {v : AV} (hi : i < n) (hc : cat2 v = false) : ∃ l1, storeLocals ls' i (conc v) = some l1 ∧ lrel n (stL ls i v) l1 := by
  obtain ⟨l1, e, k⟩ := lv_store1 (v := conc v) h hi (by rw [conc_cat, hc]; rfl)
  refine ⟨l1, e, k.1, k.2.1, fun q hq => k.2.2 q ?_⟩
  obtain ⟨u, hu, he⟩ := al_mem.mp hq
  unfold stL at hu
  rw [List.getElem?_set] at hu
  by_cases hj : i = q.1
  · rw [if_pos hj] at hu
    split at hu
    · cases hu
      refine List.mem_cons.mpr (Or.inl ?_)
      rw [hj, ← he]
    · cases hu
  · rw [if_neg hj] at hu
    obtain ⟨h1, h2⟩ := clr_at hu
    refine List.mem_cons.mpr (Or.inr (List.mem_filter.mpr ⟨al_mem.mpr ⟨u, h1, he⟩, ?_⟩))
    rw [he, conc_cat]
    have hj' : ¬ q.1 = i := fun e => hj e.symm
    simp only [Bool.and_eq_true, Bool.not_eq_true', beq_eq_false_iff_ne, ne_eq, hj', not_false_eq_true, Bool.and_eq_false_iff, true_and]
    by_cases c : q.1 + 1 = i
    · right
      have : ¬ cat2 u = true := fun c2 => h2 ⟨c, c2⟩
      simp [this]
    · left; exact c
theorem lrel.store2 {n : Nat} {ls : List (Option AV)} {ls' : Array Slot} (h : lrel n ls ls') {i : Nat} {v : AV} (hi : i + 1 < n) (hc : cat2 v = true) : ∃ l1, storeLocals ls' i (conc v) = some l1 ∧ lrel n (stL2 ls i v) l1 := by
  obtain ⟨l1, e, k⟩ := lv_store2 (v := conc v) h hi (by rw [conc_cat, hc]; rfl)
  refine ⟨l1, e, k.1, k.2.1, fun q hq => k.2.2 q ?_⟩
  obtain ⟨u, hu, he⟩ := al_mem.mp hq
  unfold stL2 at hu
  rw [List.getElem?_set] at hu
  by_cases hj1 : i + 1 = q.1
  · rw [if_pos hj1] at hu
    split at hu
    · cases hu
    · cases hu
  · rw [if_neg hj1, List.getElem?_set] at hu
    by_cases hj : i = q.1
    · rw [if_pos hj] at hu
      split at hu
      · cases hu
        refine List.mem_cons.mpr (Or.inl ?_)
        rw [hj, ← he]
      · cases hu
    · rw [if_neg hj] at hu
      obtain ⟨h1, h2⟩ := clr_at hu
      refine List.mem_cons.mpr (Or.inr (List.mem_filter.mpr ⟨al_mem.mpr ⟨u, h1, he⟩, ?_⟩))
      rw [he, conc_cat]
      have hj' : ¬ q.1 = i := fun e => hj e.symm
      have hj1' : ¬ q.1 = i + 1 := fun e => hj1 e.symm
      simp only [Bool.and_eq_true, Bool.not_eq_true', beq_eq_false_iff_ne, ne_eq, hj', hj1', not_false_eq_true, Bool.and_eq_false_iff, true_and]
      by_cases c : q.1 + 1 = i
      · right
        have : ¬ cat2 u = true := fun c2 => h2 ⟨c, c2⟩
        simp [this]
      · left; exact c
/-- a method's first locals -/
def entL (as : List AV) (n : Nat) : List (Option AV) := (as.flatMap fun v => if cat2 v = true then [some v, none] else [some v]) ++ List.replicate (n - (as.flatMap fun v => if cat2 v = true then [some v, none] else [some v]).length) none
theorem entL_args : ∀ (as : List AV) (pre : List (Option AV)) (post : List (Option AV)), (∀ (j : Nat) (v : AV), post[j]? ≠ some (some v)) → ∀ (j : Nat) (v : AV), pre.length ≤ j → (pre ++ ((as.flatMap fun v => if cat2 v = true then [some v, none] else [some v]) ++ post))[j]? = some (some v) → (j, conc v) ∈ lv_args pre.length (as.map conc) := by
  intro as
  induction as with
  | nil =>
    intro pre post hp j v hj h
    rw [List.getElem?_append_right hj] at h
    exact absurd h (hp _ _)
  | cons a as ih =>
    intro pre post hp j v hj h
    show (j, conc v) ∈ (pre.length, conc a) :: lv_args (if (conc a).category = 2 then pre.length + 2 else pre.length + 1) (as.map conc)
    by_cases c : cat2 a = true
    · have hc : (conc a).category = 2 := by rw [conc_cat, if_pos c]
      rw [if_pos hc]
      simp only [List.flatMap_cons, if_pos c] at h
      by_cases e : j = pre.length
      · subst e
        rw [List.getElem?_append_right (Nat.le_refl _)] at h
        simp at h
        subst h
        exact List.mem_cons_self
      · by_cases e2 : j = pre.length + 1
        · subst e2
          rw [List.getElem?_append_right (by omega)] at h
          simp at h
        · refine List.mem_cons_of_mem _ ?_
          have := ih (pre ++ [some a, none]) post hp j v (by simp; omega) (by simpa using h)
          simpa using this
    · have hc : ¬ (conc a).category = 2 := by rw [conc_cat, if_neg c]; decide
      rw [if_neg hc]
      simp only [List.flatMap_cons, if_neg c] at h
      by_cases e : j = pre.length
      · subst e
        rw [List.getElem?_append_right (Nat.le_refl _)] at h
        simp at h
        subst h
        exact List.mem_cons_self
      · refine List.mem_cons_of_mem _ ?_
        have := ih (pre ++ [some a]) post hp j v (by simp; omega) (by simpa using h)
        simpa using this
theorem lrel.entry {as : List AV} {n : Nat} (h : (lg_sl (as.map conc)).length ≤ n) : lrel n (entL as n) ((lg_sl (as.map conc) ++ List.replicate (n - (lg_sl (as.map conc)).length) Slot.unset).toArray) := by
  have k := lv_entry (as.map conc) h
  refine ⟨k.1, k.2.1, fun q hq => k.2.2 q ?_⟩
  obtain ⟨v, hv, he⟩ := al_mem.mp hq
  have := entL_args as [] (List.replicate (n - (as.flatMap fun v => if cat2 v = true then [some v, none] else [some v]).length) none) (fun j v h => by
    have := List.mem_of_getElem? h
    rw [List.mem_replicate] at this
    cases this.2) q.1 v (Nat.zero_le _) (by simpa [entL] using hv)
  rw [← he] at this
  exact this
end
section
/-! ===== THE LOGIC, part 2: what a body comes to (written by wip/tools/mklogic.py) ===== -/
def Cx (i : Nat) (D : va_G) (DA : Nat → ClassId) (p : Program) (R : Room) (s : State) (m : MethodId) (meth : Method) (c : Code) : Prop :=
  p.tables.exec = Jvm.exec ∧ c.code = mB i ∧ c.maxLocals = mL i ∧ meth.sig.returnType = mR i ∧ meth.locks = false ∧ s.vm.findClass (mY i).cls = some m.cls ∧ meth.name = (mY i).name ∧ okS s ∧ va_K D CL [] s ∧ (∀ K ∈ KA, arrF s (DA K) (AT K)) ∧ mF i ≤ R.frames ∧ mK i ≤ R.locals ∧ c.exceptionTable.toList = mX i
abbrev QQ (D : va_G) (DA : Nat → ClassId) (B0 CN CS : Nat) (below : List Frame) (args : Array Value) (s : State) (R : Room) (Q : Option AV → Hp → Prop) (X : String → Hp → Prop) : State → Prop :=
  vx_MQ below (fun _ _ o t => ∃ v h', o = .returned (v.map conc) ∧ Q v h' ∧ rep D DA B0 CN CS t t.heap h') (fun E _ t => ∃ h', X E h' ∧ rep D DA B0 CN CS t t.heap h') args s R.cells R.slots (fun q => B0 ≤ q)
def En (i : Nat) (D : va_G) (DA : Nat → ClassId) (B0 CN CS : Nat) (p : Program) (R : Room) (s : State) (m : MethodId) (meth : Method) (c : Code) (H : Heap) (locs : List Loc) (ls' : Array Slot) (ls : List (Option AV)) (h : Hp) : Prop :=
  Cx i D DA p R s m meth c ∧ rep D DA B0 CN CS s H h ∧ lrel (mL i) ls ls' ∧ (∀ q ∈ locs, B0 ≤ q.base) ∧ s.heap.size ≤ H.size ∧ ssum s.heap ≤ ssum H ∧ R.cells = CN - s.heap.size ∧ R.slots = CS - ssum s.heap ∧ B0 ≤ s.heap.size
/-- from here (method i, pc, locals, stack, heap) the body ends: with an answer and a heap of Q, or throws with a heap of X -/
def wp (i pc : Nat) (ls : List (Option AV)) (st : List AV) (h : Hp) (Q : Option AV → Hp → Prop) (X : String → Hp → Prop) : Prop :=
  ∀ (D : va_G) (DA : Nat → ClassId) (B0 CN CS : Nat) (p : Program) (l : Launch) (e : Env) (R : Room) (s : State) (m : MethodId) (args : Array Value) (below : List Frame) (meth : Method) (c : Code) (H : Heap) (locs : List Loc) (ls' : Array Slot),
    l.flags = flags0 → En i D DA B0 CN CS p R s m meth c H locs ls' ls h →
    W p l e R s m args below meth c H locs (H.size - s.heap.size) (ssum H - ssum s.heap) (QQ D DA B0 CN CS below args s R Q X) (F0 m pc ls' (st.map conc))
/-! cells and slots, counted again -/
theorem ssum_split (H : Heap) (n : Nat) : ssum H = ((H.toList.take n).map (fun c => c.slots.size)).sum + ((H.toList.drop n).map (fun c => c.slots.size)).sum := by
  unfold ssum
  rw [← List.sum_append, ← List.map_append, List.take_append_drop]
theorem ssum_same {H0 H : Heap} (hz : H0.size ≤ H.size) (h : ∀ (a : Nat) (c : Cell), H0[a]? = some c → ∃ c' : Cell, H[a]? = some c' ∧ c'.slots.size = c.slots.size) : ((H.toList.take H0.size).map (fun c => c.slots.size)).sum = ssum H0 := by
  unfold ssum
  congr 1
  apply List.ext_getElem?
  intro a
  simp only [List.getElem?_map]
  by_cases ha : a < H0.size
  · rw [List.getElem?_take_of_lt ha]
    obtain ⟨c', h1, h2⟩ := h a _ (Array.getElem?_eq_getElem ha)
    have e1 : H.toList[a]? = some c' := by rw [Array.getElem?_toList]; exact h1
    have e2 : H0.toList[a]? = some H0[a] := by rw [Array.getElem?_toList]; exact Array.getElem?_eq_getElem ha
    rw [e1, e2]
    simp only [Option.map_some, h2]
  · have e1 : (H.toList.take H0.size)[a]? = none := List.getElem?_eq_none (by simp; omega)
    have e2 : H0.toList[a]? = none := List.getElem?_eq_none (by simp; omega)
    rw [e1, e2]
theorem stand_tight {p : Program} {l : Launch} {e : Env} {R : Room} {s : State} {m : MethodId} {args : Array Value} {below : List Frame} {meth : Method} {c : Code} {T : State} {locs : List Loc} {cells slots : Nat} (X : Stand p l e R s m args below meth c T locs cells slots) :
    Stand p l e R s m args below meth c T locs (T.heap.size - s.heap.size) (ssum T.heap - ssum s.heap) := by
  obtain ⟨h1, h2, h3, h4, h5, h6⟩ := X.same
  have h2' : s.heap.size ≤ T.heap.size := h2
  refine { X with same := ⟨h1, h2, ?_, h4, ?_, h6⟩ }
  · show T.heap.size ≤ s.heap.size + (T.heap.size - s.heap.size)
    omega
  · show ((T.heap.toList.drop s.heap.size).map (fun c => c.slots.size)).sum ≤ _
    have e := ssum_split T.heap s.heap.size
    rw [ssum_same h2' (fun a c hc => by
      obtain ⟨c', g1, -, g3, -⟩ := h6 a c hc
      exact ⟨c', g1, g3⟩)] at e
    omega
theorem W_tight {p : Program} {l : Launch} {e : Env} {R : Room} {s : State} {m : MethodId} {args : Array Value} {below : List Frame} {meth : Method} {c : Code} {H : Heap} {locs : List Loc} {cells slots : Nat} {Q : State → Prop} {g : JFrame} (k : W p l e R s m args below meth c H locs (H.size - s.heap.size) (ssum H - ssum s.heap) Q g) : W p l e R s m args below meth c H locs cells slots Q g := by
  intro T hT X
  subst hT
  exact k T rfl (stand_tight X)
theorem W_mono {p : Program} {l : Launch} {e : Env} {R : Room} {s : State} {m : MethodId} {args : Array Value} {below : List Frame} {meth : Method} {c : Code} {H : Heap} {locs : List Loc} {cells slots : Nat} {Q Q' : State → Prop} {g : JFrame} (h : ∀ t, Q t → Q' t) (k : W p l e R s m args below meth c H locs cells slots Q g) : W p l e R s m args below meth c H locs cells slots Q' g := by
  intro T hT X
  obtain ⟨t, a, b⟩ := k T hT X
  exact ⟨t, a, h t b⟩
theorem ssum_set {H H1 : Heap} {a : Nat} {x : Cell} (hz : H1.size = H.size) (ho : ∀ q : Nat, q ≠ a → H1[q]? = H[q]?) (hx : H1[a]? = some x) (hs : ∀ c : Cell, H[a]? = some c → x.slots.size = c.slots.size) : ssum H1 = ssum H := by
  have h := ssum_same (H0 := H1) (H := H) (by omega) (fun b c hc => by
    by_cases hb : b = a
    · subst hb
      rw [hx] at hc
      cases hc
      have hl : b < H.size := by rw [← hz]; exact (Array.getElem?_eq_some_iff.mp hx).1
      exact ⟨_, Array.getElem?_eq_getElem hl, (hs _ (Array.getElem?_eq_getElem hl)).symm⟩
    · rw [ho b hb] at hc
      exact ⟨c, hc, rfl⟩)
  rw [← h, hz]
  have : H.toList.take H.size = H.toList := List.take_of_length_le (by simp)
  rw [this]
  rfl
theorem ssum_new {H H1 : Heap} {x : Cell} (hz : H1.size = H.size + 1) (ho : ∀ q : Nat, q < H.size → H1[q]? = H[q]?) (hx : H1[H.size]? = some x) : ssum H1 = ssum H + x.slots.size := by
  have h := ssum_same (H0 := H) (H := H1) (by omega) (fun b c hc => ⟨c, by rw [ho b (Array.getElem?_eq_some_iff.mp hc).1]; exact hc, rfl⟩)
  rw [ssum_split H1 H.size, h]
  have hd : H1.toList.drop H.size = [x] := by
    apply List.ext_getElem?
    intro k
    rw [List.getElem?_drop]
    match k with
    | 0 =>
      rw [Nat.add_zero, Array.getElem?_toList, hx]
      rfl
    | k + 1 =>
      rw [List.getElem?_eq_none (by simp; omega)]
      simp
  rw [hd]
  simp
section WP
variable {i pc : Nat} {ls : List (Option AV)} {st : List AV} {h : Hp} {Q : Option AV → Hp → Prop} {X : String → Hp → Prop}
theorem wp_mono {Q' : Option AV → Hp → Prop} {X' : String → Hp → Prop} (hQ : ∀ v h', Q v h' → Q' v h') (hX : ∀ E h', X E h' → X' E h') (k : wp i pc ls st h Q X) : wp i pc ls st h Q' X' := by
  intro D DA B0 CN CS p l e R s m args below meth c H locs ls' hfl hE
  refine W_mono (fun t ht => ?_) (k D DA B0 CN CS p l e R s m args below meth c H locs ls' hfl hE)
  obtain ⟨o, g1, g2, g3⟩ := ht
  refine ⟨o, g1, g2, ?_⟩
  rcases g3 with ⟨⟨v, h', e1, e2, e3⟩, g4⟩ | ⟨q, e0, E, ce, L, ⟨h', e1, e2⟩, g5⟩
  · exact Or.inl ⟨⟨v, h', e1, hQ _ _ e2, e3⟩, g4⟩
  · exact Or.inr ⟨q, e0, E, ce, L, ⟨h', hX _ _ e1, e2⟩, g5⟩
/-- fewer locals -/
theorem wp_ls {L : List (Option AV)} (hw : ∀ (j : Nat) (v : AV), L[j]? = some (some v) → ls[j]? = some (some v)) (k : wp i pc L st h Q X) : wp i pc ls st h Q X := by
  intro D DA B0 CN CS p l e R s m args below meth c H locs ls' hfl hE
  obtain ⟨e1, e2, e3, e4⟩ := hE
  exact k D DA B0 CN CS p l e R s m args below meth c H locs ls' hfl ⟨e1, e2, e3.weak hw, e4⟩
/-- what every pictured heap has -/
theorem wp_wf (k : (∀ a j, inR (hi h a j)) → (∀ a, kd h a ≠ 0 → a < nx h) → nx h ≤ cn h → us h ≤ cs h → wp i pc ls st h Q X) : wp i pc ls st h Q X := by
  intro D DA B0 CN CS p l e R s m args below meth c H locs ls' hfl hE
  have hr := hE.2.1
  obtain ⟨k1, k2, k3, k4, k5, k6, k7, k8, k9⟩ := hE.2.1
  exact k k8 (fun a ha => hr.lt ha) (by rw [k3]; exact k5) (by rw [k4]; exact k6) D DA B0 CN CS p l e R s m args below meth c H locs ls' hfl hE

theorem wp_iconst {n : Int} (hd : decode (mB i) pc = .ok (.iconst n, 1))
    (k : wp i (pc + 1) ls (vI n :: st) h Q X) : wp i pc ls st h Q X := by
  intro D DA B0 CN CS p l e R s m args below meth c H locs ls' hfl hE
  exact lv_iconst (v := Int32.ofInt n) hE.1.1 hE.1.2.1 hd rfl (k D DA B0 CN CS p l e R s m args below meth c H locs ls' hfl hE)
theorem wp_bipush {n : Int} (hd : decode (mB i) pc = .ok (.bipush n, 2)) (hv : (Int8.ofInt n).toInt32 = Int32.ofInt n := by decide)
    (k : wp i (pc + 2) ls (vI n :: st) h Q X) : wp i pc ls st h Q X := by
  intro D DA B0 CN CS p l e R s m args below meth c H locs ls' hfl hE
  exact lv_bipush (v := Int32.ofInt n) hE.1.1 hE.1.2.1 hd hv (k D DA B0 CN CS p l e R s m args below meth c H locs ls' hfl hE)
theorem wp_sipush {n : Int} (hd : decode (mB i) pc = .ok (.sipush n, 3)) (hv : (Int16.ofInt n).toInt32 = Int32.ofInt n := by decide)
    (k : wp i (pc + 3) ls (vI n :: st) h Q X) : wp i pc ls st h Q X := by
  intro D DA B0 CN CS p l e R s m args below meth c H locs ls' hfl hE
  exact lv_sipush (v := Int32.ofInt n) hE.1.1 hE.1.2.1 hd hv (k D DA B0 CN CS p l e R s m args below meth c H locs ls' hfl hE)
theorem wp_lconst {n : Fin 2} {z : Int} (hd : decode (mB i) pc = .ok (.lconst n, 1)) (hv : Int64.ofNat n.val = Int64.ofInt z := by decide)
    (k : wp i (pc + 1) ls (vL z :: st) h Q X) : wp i pc ls st h Q X := by
  intro D DA B0 CN CS p l e R s m args below meth c H locs ls' hfl hE
  exact lv_lconst (v := Int64.ofInt z) hE.1.1 hE.1.2.1 hd hv (k D DA B0 CN CS p l e R s m args below meth c H locs ls' hfl hE)
theorem wp_null  (hd : decode (mB i) pc = .ok (.aconst_null, 1))
    (k : wp i (pc + 1) ls (vR none :: st) h Q X) : wp i pc ls st h Q X := by
  intro D DA B0 CN CS p l e R s m args below meth c H locs ls' hfl hE
  exact lv_null hE.1.1 hE.1.2.1 hd (k D DA B0 CN CS p l e R s m args below meth c H locs ls' hfl hE)
theorem wp_ldc {idx : Nat} {v : Int32} (z : Int) (hd : decode (mB i) pc = .ok (.ldc idx, 2)) (hw : okw (.constant (mY i).cls idx v)) (hv : v = Int32.ofInt z) (k : wp i (pc + 2) ls (vI z :: st) h Q X) : wp i pc ls st h Q X := by
  intro D DA B0 CN CS p l e R s m args below meth c H locs ls' hfl hE
  subst hv
  exact lv_ldc hE.1.1 hE.1.2.1 hE.1.2.2.2.2.2.1 (hE.1.2.2.2.2.2.2.2.1 _ hw _) hd (k D DA B0 CN CS p l e R s m args below meth c H locs ls' hfl hE)
theorem wp_ldcw {idx : Nat} {v : Int32} (z : Int) (hd : decode (mB i) pc = .ok (.ldc_w idx, 3)) (hw : okw (.constant (mY i).cls idx v)) (hv : v = Int32.ofInt z) (k : wp i (pc + 3) ls (vI z :: st) h Q X) : wp i pc ls st h Q X := by
  intro D DA B0 CN CS p l e R s m args below meth c H locs ls' hfl hE
  subst hv
  exact lv_ldcw hE.1.1 hE.1.2.1 hE.1.2.2.2.2.2.1 (hE.1.2.2.2.2.2.2.2.1 _ hw _) hd (k D DA B0 CN CS p l e R s m args below meth c H locs ls' hfl hE)
theorem wp_ldc2 {idx : Nat} {v : Int64} (z : Int) (hd : decode (mB i) pc = .ok (.ldc2_w idx, 3)) (hw : okw (.constantLong (mY i).cls idx v)) (hv : v = Int64.ofInt z) (k : wp i (pc + 3) ls (vL z :: st) h Q X) : wp i pc ls st h Q X := by
  intro D DA B0 CN CS p l e R s m args below meth c H locs ls' hfl hE
  subst hv
  exact lv_ldc2 hE.1.1 hE.1.2.1 hE.1.2.2.2.2.2.1 (hE.1.2.2.2.2.2.2.2.1 _ hw _) hd (k D DA B0 CN CS p l e R s m args below meth c H locs ls' hfl hE)
theorem wp_iload_n {n : Fin 4} {x : Int} (hd : decode (mB i) pc = .ok (.iload_n n, 1)) (hl : ls[n.val]? = some (some (vI x)))
    (k : wp i (pc + 1) ls (vI x :: st) h Q X) : wp i pc ls st h Q X := by
  intro D DA B0 CN CS p l e R s m args below meth c H locs ls' hfl hE
  exact lv_iload_n hE.1.1 hE.1.2.1 hd rfl (hE.2.2.1.at hl) (k D DA B0 CN CS p l e R s m args below meth c H locs ls' hfl hE)
theorem wp_iload {n : Nat} {x : Int} (hd : decode (mB i) pc = .ok (.iload n, 2)) (hl : ls[n]? = some (some (vI x)))
    (k : wp i (pc + 2) ls (vI x :: st) h Q X) : wp i pc ls st h Q X := by
  intro D DA B0 CN CS p l e R s m args below meth c H locs ls' hfl hE
  exact lv_iload hE.1.1 hE.1.2.1 hd (hE.2.2.1.at hl) (k D DA B0 CN CS p l e R s m args below meth c H locs ls' hfl hE)
theorem wp_lload_n {n : Fin 4} {x : Int} (hd : decode (mB i) pc = .ok (.lload_n n, 1)) (hl : ls[n.val]? = some (some (vL x)))
    (k : wp i (pc + 1) ls (vL x :: st) h Q X) : wp i pc ls st h Q X := by
  intro D DA B0 CN CS p l e R s m args below meth c H locs ls' hfl hE
  exact lv_lload_n hE.1.1 hE.1.2.1 hd rfl (hE.2.2.1.at hl) (k D DA B0 CN CS p l e R s m args below meth c H locs ls' hfl hE)
theorem wp_lload {n : Nat} {x : Int} (hd : decode (mB i) pc = .ok (.lload n, 2)) (hl : ls[n]? = some (some (vL x)))
    (k : wp i (pc + 2) ls (vL x :: st) h Q X) : wp i pc ls st h Q X := by
  intro D DA B0 CN CS p l e R s m args below meth c H locs ls' hfl hE
  exact lv_lload hE.1.1 hE.1.2.1 hd (hE.2.2.1.at hl) (k D DA B0 CN CS p l e R s m args below meth c H locs ls' hfl hE)
theorem wp_dload_n {n : Fin 4} {x : UInt64} (hd : decode (mB i) pc = .ok (.dload_n n, 1)) (hl : ls[n.val]? = some (some (vD x)))
    (k : wp i (pc + 1) ls (vD x :: st) h Q X) : wp i pc ls st h Q X := by
  intro D DA B0 CN CS p l e R s m args below meth c H locs ls' hfl hE
  exact lv_dload_n hE.1.1 hE.1.2.1 hd rfl (hE.2.2.1.at hl) (k D DA B0 CN CS p l e R s m args below meth c H locs ls' hfl hE)
theorem wp_dload {n : Nat} {x : UInt64} (hd : decode (mB i) pc = .ok (.dload n, 2)) (hl : ls[n]? = some (some (vD x)))
    (k : wp i (pc + 2) ls (vD x :: st) h Q X) : wp i pc ls st h Q X := by
  intro D DA B0 CN CS p l e R s m args below meth c H locs ls' hfl hE
  exact lv_dload hE.1.1 hE.1.2.1 hd (hE.2.2.1.at hl) (k D DA B0 CN CS p l e R s m args below meth c H locs ls' hfl hE)
theorem wp_aload_n {n : Fin 4} {x : Option Nat} (hd : decode (mB i) pc = .ok (.aload_n n, 1)) (hl : ls[n.val]? = some (some (vR x))) (k : wp i (pc + 1) ls (vR x :: st) h Q X) : wp i pc ls st h Q X := by
  intro D DA B0 CN CS p l e R s m args below meth c H locs ls' hfl hE
  match x with
  | none => exact lv_aload_nN hE.1.1 hE.1.2.1 hd rfl (hE.2.2.1.at hl) (k D DA B0 CN CS p l e R s m args below meth c H locs ls' hfl hE)
  | some x => exact lv_aload_n hE.1.1 hE.1.2.1 hd rfl (hE.2.2.1.at hl) (k D DA B0 CN CS p l e R s m args below meth c H locs ls' hfl hE)
theorem wp_aload {n : Nat} {x : Option Nat} (hd : decode (mB i) pc = .ok (.aload n, 2)) (hl : ls[n]? = some (some (vR x))) (k : wp i (pc + 2) ls (vR x :: st) h Q X) : wp i pc ls st h Q X := by
  intro D DA B0 CN CS p l e R s m args below meth c H locs ls' hfl hE
  match x with
  | none => exact lv_aloadN hE.1.1 hE.1.2.1 hd (hE.2.2.1.at hl) (k D DA B0 CN CS p l e R s m args below meth c H locs ls' hfl hE)
  | some x => exact lv_aload hE.1.1 hE.1.2.1 hd (hE.2.2.1.at hl) (k D DA B0 CN CS p l e R s m args below meth c H locs ls' hfl hE)
theorem wp_istore_n {n : Fin 4} {x : Int} (hd : decode (mB i) pc = .ok (.istore_n n, 1)) (hn : n.val < mL i) (k : wp i (pc + 1) (stL ls n.val (vI x)) st h Q X) : wp i pc ls (vI x :: st) h Q X := by
  intro D DA B0 CN CS p l e R s m args below meth c H locs ls' hfl hE
  obtain ⟨l1, e', h'⟩ := hE.2.2.1.store (v := vI x) hn rfl
  intro T hT XX
  obtain ⟨t, a, b⟩ := k D DA B0 CN CS p l e R s m args below meth c H locs l1 hfl ⟨hE.1, hE.2.1, h', hE.2.2.2⟩ T hT XX
  refine ⟨t, ?_, b⟩
  have hx := hE.1.1
  have hb := hE.1.2.1
  unfold conc at e'
  simp only [List.map_cons, conc]
  jvm_step XX.here [XX.here.top, ↓top_set XX.here.top, hx, hb, hd, e']
  exact a
theorem wp_lstore_n {n : Fin 4} {x : Int} (hd : decode (mB i) pc = .ok (.lstore_n n, 1)) (hn : n.val + 1 < mL i) (k : wp i (pc + 1) (stL2 ls n.val (vL x)) st h Q X) : wp i pc ls (vL x :: st) h Q X := by
  intro D DA B0 CN CS p l e R s m args below meth c H locs ls' hfl hE
  obtain ⟨l1, e', h'⟩ := hE.2.2.1.store2 (v := vL x) hn rfl
  intro T hT XX
  obtain ⟨t, a, b⟩ := k D DA B0 CN CS p l e R s m args below meth c H locs l1 hfl ⟨hE.1, hE.2.1, h', hE.2.2.2⟩ T hT XX
  refine ⟨t, ?_, b⟩
  have hx := hE.1.1
  have hb := hE.1.2.1
  unfold conc at e'
  simp only [List.map_cons, conc]
  jvm_step XX.here [XX.here.top, ↓top_set XX.here.top, hx, hb, hd, e']
  exact a
theorem wp_dstore_n {n : Fin 4} {x : UInt64} (hd : decode (mB i) pc = .ok (.dstore_n n, 1)) (hn : n.val + 1 < mL i) (k : wp i (pc + 1) (stL2 ls n.val (vD x)) st h Q X) : wp i pc ls (vD x :: st) h Q X := by
  intro D DA B0 CN CS p l e R s m args below meth c H locs ls' hfl hE
  obtain ⟨l1, e', h'⟩ := hE.2.2.1.store2 (v := vD x) hn rfl
  intro T hT XX
  obtain ⟨t, a, b⟩ := k D DA B0 CN CS p l e R s m args below meth c H locs l1 hfl ⟨hE.1, hE.2.1, h', hE.2.2.2⟩ T hT XX
  refine ⟨t, ?_, b⟩
  have hx := hE.1.1
  have hb := hE.1.2.1
  unfold conc at e'
  simp only [List.map_cons, conc]
  jvm_step XX.here [XX.here.top, ↓top_set XX.here.top, hx, hb, hd, e']
  exact a
theorem wp_astore_n {n : Fin 4} {x : Option Nat} (hd : decode (mB i) pc = .ok (.astore_n n, 1)) (hn : n.val < mL i) (k : wp i (pc + 1) (stL ls n.val (vR x)) st h Q X) : wp i pc ls (vR x :: st) h Q X := by
  intro D DA B0 CN CS p l e R s m args below meth c H locs ls' hfl hE
  obtain ⟨l1, e', h'⟩ := hE.2.2.1.store (v := vR x) hn rfl
  intro T hT XX
  obtain ⟨t, a, b⟩ := k D DA B0 CN CS p l e R s m args below meth c H locs l1 hfl ⟨hE.1, hE.2.1, h', hE.2.2.2⟩ T hT XX
  refine ⟨t, ?_, b⟩
  have hx := hE.1.1
  have hb := hE.1.2.1
  match x with
  | none =>
    simp only [conc, va_rf] at e'
    simp only [List.map_cons, conc, va_rf]
    jvm_step XX.here [XX.here.top, ↓top_set XX.here.top, hx, hb, hd, e', Value.isRef]
    exact a
  | some x =>
    simp only [conc, va_rf] at e'
    simp only [List.map_cons, conc, va_rf]
    jvm_step XX.here [XX.here.top, ↓top_set XX.here.top, hx, hb, hd, e', Value.isRef]
    exact a
theorem wp_istore {n : Nat} {x : Int} (hd : decode (mB i) pc = .ok (.istore n, 2)) (hn : n < mL i) (k : wp i (pc + 2) (stL ls n (vI x)) st h Q X) : wp i pc ls (vI x :: st) h Q X := by
  intro D DA B0 CN CS p l e R s m args below meth c H locs ls' hfl hE
  obtain ⟨l1, e', h'⟩ := hE.2.2.1.store (v := vI x) hn rfl
  intro T hT XX
  obtain ⟨t, a, b⟩ := k D DA B0 CN CS p l e R s m args below meth c H locs l1 hfl ⟨hE.1, hE.2.1, h', hE.2.2.2⟩ T hT XX
  refine ⟨t, ?_, b⟩
  have hx := hE.1.1
  have hb := hE.1.2.1
  unfold conc at e'
  simp only [List.map_cons, conc]
  jvm_step XX.here [XX.here.top, ↓top_set XX.here.top, hx, hb, hd, e']
  exact a
theorem wp_lstore {n : Nat} {x : Int} (hd : decode (mB i) pc = .ok (.lstore n, 2)) (hn : n + 1 < mL i) (k : wp i (pc + 2) (stL2 ls n (vL x)) st h Q X) : wp i pc ls (vL x :: st) h Q X := by
  intro D DA B0 CN CS p l e R s m args below meth c H locs ls' hfl hE
  obtain ⟨l1, e', h'⟩ := hE.2.2.1.store2 (v := vL x) hn rfl
  intro T hT XX
  obtain ⟨t, a, b⟩ := k D DA B0 CN CS p l e R s m args below meth c H locs l1 hfl ⟨hE.1, hE.2.1, h', hE.2.2.2⟩ T hT XX
  refine ⟨t, ?_, b⟩
  have hx := hE.1.1
  have hb := hE.1.2.1
  unfold conc at e'
  simp only [List.map_cons, conc]
  jvm_step XX.here [XX.here.top, ↓top_set XX.here.top, hx, hb, hd, e']
  exact a
theorem wp_dstore {n : Nat} {x : UInt64} (hd : decode (mB i) pc = .ok (.dstore n, 2)) (hn : n + 1 < mL i) (k : wp i (pc + 2) (stL2 ls n (vD x)) st h Q X) : wp i pc ls (vD x :: st) h Q X := by
  intro D DA B0 CN CS p l e R s m args below meth c H locs ls' hfl hE
  obtain ⟨l1, e', h'⟩ := hE.2.2.1.store2 (v := vD x) hn rfl
  intro T hT XX
  obtain ⟨t, a, b⟩ := k D DA B0 CN CS p l e R s m args below meth c H locs l1 hfl ⟨hE.1, hE.2.1, h', hE.2.2.2⟩ T hT XX
  refine ⟨t, ?_, b⟩
  have hx := hE.1.1
  have hb := hE.1.2.1
  unfold conc at e'
  simp only [List.map_cons, conc]
  jvm_step XX.here [XX.here.top, ↓top_set XX.here.top, hx, hb, hd, e']
  exact a
theorem wp_astore {n : Nat} {x : Option Nat} (hd : decode (mB i) pc = .ok (.astore n, 2)) (hn : n < mL i) (k : wp i (pc + 2) (stL ls n (vR x)) st h Q X) : wp i pc ls (vR x :: st) h Q X := by
  intro D DA B0 CN CS p l e R s m args below meth c H locs ls' hfl hE
  obtain ⟨l1, e', h'⟩ := hE.2.2.1.store (v := vR x) hn rfl
  intro T hT XX
  obtain ⟨t, a, b⟩ := k D DA B0 CN CS p l e R s m args below meth c H locs l1 hfl ⟨hE.1, hE.2.1, h', hE.2.2.2⟩ T hT XX
  refine ⟨t, ?_, b⟩
  have hx := hE.1.1
  have hb := hE.1.2.1
  match x with
  | none =>
    simp only [conc, va_rf] at e'
    simp only [List.map_cons, conc, va_rf]
    jvm_step XX.here [XX.here.top, ↓top_set XX.here.top, hx, hb, hd, e', Value.isRef]
    exact a
  | some x =>
    simp only [conc, va_rf] at e'
    simp only [List.map_cons, conc, va_rf]
    jvm_step XX.here [XX.here.top, ↓top_set XX.here.top, hx, hb, hd, e', Value.isRef]
    exact a
theorem wp_iinc {n : Nat} {d x : Int} (hd : decode (mB i) pc = .ok (.iinc n d, 3)) (hl : ls[n]? = some (some (vI x))) (hn : n < mL i) (k : wp i (pc + 3) (stL ls n (vI (x + d))) st h Q X) : wp i pc ls st h Q X := by
  intro D DA B0 CN CS p l e R s m args below meth c H locs ls' hfl hE
  obtain ⟨l1, e', h'⟩ := hE.2.2.1.store (v := vI (x + d)) hn rfl
  have hg := hE.2.2.1.at hl
  intro T hT XX
  obtain ⟨t, a, b⟩ := k D DA B0 CN CS p l e R s m args below meth c H locs l1 hfl ⟨hE.1, hE.2.1, h', hE.2.2.2⟩ T hT XX
  refine ⟨t, ?_, b⟩
  have hx := hE.1.1
  have hb := hE.1.2.1
  simp only [conc, Int32.ofInt_add] at e' hg
  jvm_step XX.here [XX.here.top, ↓top_set XX.here.top, hx, hb, hd, hg, e']
  exact a
theorem wp_iadd {x y : Int} (hd : decode (mB i) pc = .ok (.iadd, 1))
    (k : wp i (pc + 1) ls (vI (x + y) :: st) h Q X) : wp i pc ls (vI y :: vI x :: st) h Q X := by
  intro D DA B0 CN CS p l e R s m args below meth c H locs ls' hfl hE
  have kk := k D DA B0 CN CS p l e R s m args below meth c H locs ls' hfl hE
  simp only [List.map_cons, conc, Int32.ofInt_add] at kk
  exact lv_iadd hE.1.1 hE.1.2.1 hd kk
theorem wp_isub {x y : Int} (hd : decode (mB i) pc = .ok (.isub, 1))
    (k : wp i (pc + 1) ls (vI (x - y) :: st) h Q X) : wp i pc ls (vI y :: vI x :: st) h Q X := by
  intro D DA B0 CN CS p l e R s m args below meth c H locs ls' hfl hE
  have kk := k D DA B0 CN CS p l e R s m args below meth c H locs ls' hfl hE
  simp only [List.map_cons, conc, Int32.ofInt_sub] at kk
  exact lv_isub hE.1.1 hE.1.2.1 hd kk
theorem wp_imul {x y : Int} (hd : decode (mB i) pc = .ok (.imul, 1))
    (k : wp i (pc + 1) ls (vI (x * y) :: st) h Q X) : wp i pc ls (vI y :: vI x :: st) h Q X := by
  intro D DA B0 CN CS p l e R s m args below meth c H locs ls' hfl hE
  have kk := k D DA B0 CN CS p l e R s m args below meth c H locs ls' hfl hE
  simp only [List.map_cons, conc, Int32.ofInt_mul] at kk
  exact lv_imul hE.1.1 hE.1.2.1 hd kk
theorem wp_ladd {x y : Int} (hd : decode (mB i) pc = .ok (.ladd, 1))
    (k : wp i (pc + 1) ls (vL (x + y) :: st) h Q X) : wp i pc ls (vL y :: vL x :: st) h Q X := by
  intro D DA B0 CN CS p l e R s m args below meth c H locs ls' hfl hE
  have kk := k D DA B0 CN CS p l e R s m args below meth c H locs ls' hfl hE
  simp only [List.map_cons, conc, Int64.ofInt_add] at kk
  exact lv_ladd hE.1.1 hE.1.2.1 hd kk
theorem wp_lsub {x y : Int} (hd : decode (mB i) pc = .ok (.lsub, 1))
    (k : wp i (pc + 1) ls (vL (x - y) :: st) h Q X) : wp i pc ls (vL y :: vL x :: st) h Q X := by
  intro D DA B0 CN CS p l e R s m args below meth c H locs ls' hfl hE
  have kk := k D DA B0 CN CS p l e R s m args below meth c H locs ls' hfl hE
  simp only [List.map_cons, conc, Int64.ofInt_sub] at kk
  exact lv_lsub hE.1.1 hE.1.2.1 hd kk
theorem wp_lmul {x y : Int} (hd : decode (mB i) pc = .ok (.lmul, 1))
    (k : wp i (pc + 1) ls (vL (x * y) :: st) h Q X) : wp i pc ls (vL y :: vL x :: st) h Q X := by
  intro D DA B0 CN CS p l e R s m args below meth c H locs ls' hfl hE
  have kk := k D DA B0 CN CS p l e R s m args below meth c H locs ls' hfl hE
  simp only [List.map_cons, conc, Int64.ofInt_mul] at kk
  exact lv_lmul hE.1.1 hE.1.2.1 hd kk
theorem i_ne0 {y : Int} (hy : inR y) (h0 : y ≠ 0) : ¬ Int32.ofInt y = 0 := fun q => h0 ((i_eq hy (y := 0) (by decide)).mp q)
theorem i_div {x y : Int} (hx : inR x) (hy : inR y) : Int32.ofInt x / Int32.ofInt y = Int32.ofInt (x.tdiv y) :=
  (Int32.ofInt_tdiv (a := x) (b := y) (by show (-2147483648 : Int) ≤ x; exact hx.1) (by show x ≤ (2147483647 : Int); exact hx.2) (by show (-2147483648 : Int) ≤ y; exact hy.1) (by show y ≤ (2147483647 : Int); exact hy.2)).symm
theorem i_rem {x y : Int} (hx : inR x) (hy : inR y) : Int32.ofInt x - Int32.ofInt x / Int32.ofInt y * Int32.ofInt y = Int32.ofInt (x.tmod y) := by
  rw [i_div hx hy, ← Int32.ofInt_mul, ← Int32.ofInt_sub]
  congr 1
  have := Int.tmod_add_mul_tdiv x y
  have e : x.tdiv y * y = y * x.tdiv y := Int.mul_comm _ _
  omega
theorem wp_idiv {x y : Int} (hd : decode (mB i) pc = .ok (.idiv, 1)) (hx : inR x) (hy : inR y) (h0 : y ≠ 0)
    (k : wp i (pc + 1) ls (vI (x.tdiv y) :: st) h Q X) : wp i pc ls (vI y :: vI x :: st) h Q X := by
  intro D DA B0 CN CS p l e R s m args below meth c H locs ls' hfl hE
  have kk := k D DA B0 CN CS p l e R s m args below meth c H locs ls' hfl hE
  simp only [List.map_cons, conc, ← i_div hx hy] at kk
  exact lv_idiv hE.1.1 hE.1.2.1 hd (i_ne0 hy h0) kk
theorem wp_irem {x y : Int} (hd : decode (mB i) pc = .ok (.irem, 1)) (hx : inR x) (hy : inR y) (h0 : y ≠ 0)
    (k : wp i (pc + 1) ls (vI (x.tmod y) :: st) h Q X) : wp i pc ls (vI y :: vI x :: st) h Q X := by
  intro D DA B0 CN CS p l e R s m args below meth c H locs ls' hfl hE
  have kk := k D DA B0 CN CS p l e R s m args below meth c H locs ls' hfl hE
  simp only [List.map_cons, conc, ← i_rem hx hy] at kk
  exact lv_irem hE.1.1 hE.1.2.1 hd (i_ne0 hy h0) kk
/-- and, or, exclusive or, shifted right: as the machine has them -/
def vand (x y : Int) : Int := (Int32.ofInt x &&& Int32.ofInt y).toInt
def vor (x y : Int) : Int := (Int32.ofInt x ||| Int32.ofInt y).toInt
def vxor (x y : Int) : Int := (Int32.ofInt x ^^^ Int32.ofInt y).toInt
def vshr (x y : Int) : Int := (Int32.ofInt x >>> (Int32.ofInt y &&& 31)).toInt
theorem wp_iand {x y : Int} (hd : decode (mB i) pc = .ok (.iand, 1))
    (k : wp i (pc + 1) ls (vI (vand x y) :: st) h Q X) : wp i pc ls (vI y :: vI x :: st) h Q X := by
  intro D DA B0 CN CS p l e R s m args below meth c H locs ls' hfl hE
  have kk := k D DA B0 CN CS p l e R s m args below meth c H locs ls' hfl hE
  simp only [List.map_cons, conc, vand, Int32.ofInt_toInt] at kk
  exact lv_iand hE.1.1 hE.1.2.1 hd kk
theorem wp_ior {x y : Int} (hd : decode (mB i) pc = .ok (.ior, 1))
    (k : wp i (pc + 1) ls (vI (vor x y) :: st) h Q X) : wp i pc ls (vI y :: vI x :: st) h Q X := by
  intro D DA B0 CN CS p l e R s m args below meth c H locs ls' hfl hE
  have kk := k D DA B0 CN CS p l e R s m args below meth c H locs ls' hfl hE
  simp only [List.map_cons, conc, vor, Int32.ofInt_toInt] at kk
  exact lv_ior hE.1.1 hE.1.2.1 hd kk
theorem wp_ixor {x y : Int} (hd : decode (mB i) pc = .ok (.ixor, 1))
    (k : wp i (pc + 1) ls (vI (vxor x y) :: st) h Q X) : wp i pc ls (vI y :: vI x :: st) h Q X := by
  intro D DA B0 CN CS p l e R s m args below meth c H locs ls' hfl hE
  have kk := k D DA B0 CN CS p l e R s m args below meth c H locs ls' hfl hE
  simp only [List.map_cons, conc, vxor, Int32.ofInt_toInt] at kk
  exact lv_ixor hE.1.1 hE.1.2.1 hd kk
theorem wp_ishr {x y : Int} (hd : decode (mB i) pc = .ok (.ishr, 1))
    (k : wp i (pc + 1) ls (vI (vshr x y) :: st) h Q X) : wp i pc ls (vI y :: vI x :: st) h Q X := by
  intro D DA B0 CN CS p l e R s m args below meth c H locs ls' hfl hE
  have kk := k D DA B0 CN CS p l e R s m args below meth c H locs ls' hfl hE
  simp only [List.map_cons, conc, vshr, Int32.ofInt_toInt] at kk
  exact lv_ishr hE.1.1 hE.1.2.1 hd kk
theorem i_long {x : Int} (hx : inR x) : (Int32.ofInt x).toInt64 = Int64.ofInt x := Int32.toInt64_ofInt (by show (-2147483648 : Int) ≤ x; exact hx.1) (by show x ≤ (2147483647 : Int); exact hx.2)
theorem wp_i2l {x : Int} (hd : decode (mB i) pc = .ok (.i2l, 1)) (hx : inR x)
    (k : wp i (pc + 1) ls (vL x :: st) h Q X) : wp i pc ls (vI x :: st) h Q X := by
  intro D DA B0 CN CS p l e R s m args below meth c H locs ls' hfl hE
  exact lv_i2l hE.1.1 hE.1.2.1 hd (i_long hx) (k D DA B0 CN CS p l e R s m args below meth c H locs ls' hfl hE)
theorem wp_l2i {x : Int} (hd : decode (mB i) pc = .ok (.l2i, 1))
    (k : wp i (pc + 1) ls (vI (Int64.ofInt x).toInt32.toInt :: st) h Q X) : wp i pc ls (vL x :: st) h Q X := by
  intro D DA B0 CN CS p l e R s m args below meth c H locs ls' hfl hE
  have kk := k D DA B0 CN CS p l e R s m args below meth c H locs ls' hfl hE
  simp only [List.map_cons, conc, Int32.ofInt_toInt] at kk
  exact lv_l2i hE.1.1 hE.1.2.1 hd rfl kk
theorem wp_dup {v : AV} (hd : decode (mB i) pc = .ok (.dup, 1)) (hc : cat2 v = false := by rfl)
    (k : wp i (pc + 1) ls (v :: v :: st) h Q X) : wp i pc ls (v :: st) h Q X := by
  intro D DA B0 CN CS p l e R s m args below meth c H locs ls' hfl hE
  exact lv_dup hE.1.1 hE.1.2.1 hd (by rw [conc_cat, hc]; rfl) (k D DA B0 CN CS p l e R s m args below meth c H locs ls' hfl hE)
theorem wp_pop {v : AV} (hd : decode (mB i) pc = .ok (.pop, 1)) (hc : cat2 v = false := by rfl)
    (k : wp i (pc + 1) ls st h Q X) : wp i pc ls (v :: st) h Q X := by
  intro D DA B0 CN CS p l e R s m args below meth c H locs ls' hfl hE
  exact lv_pop hE.1.1 hE.1.2.1 hd (by rw [conc_cat, hc]; rfl) (k D DA B0 CN CS p l e R s m args below meth c H locs ls' hfl hE)
theorem wp_dup_x1 {v w : AV} (hd : decode (mB i) pc = .ok (.dup_x1, 1)) (hc : cat2 v = false := by rfl) (hc2 : cat2 w = false := by rfl)
    (k : wp i (pc + 1) ls (v :: w :: v :: st) h Q X) : wp i pc ls (v :: w :: st) h Q X := by
  intro D DA B0 CN CS p l e R s m args below meth c H locs ls' hfl hE
  exact lv_dup_x1 hE.1.1 hE.1.2.1 hd (by rw [conc_cat, hc]; rfl) (by rw [conc_cat, hc2]; rfl) (k D DA B0 CN CS p l e R s m args below meth c H locs ls' hfl hE)
theorem wp_dup_x2 {v w u : AV} (hd : decode (mB i) pc = .ok (.dup_x2, 1)) (hc : cat2 v = false := by rfl) (hc2 : cat2 w = false := by rfl) (hc3 : cat2 u = false := by rfl)
    (k : wp i (pc + 1) ls (v :: w :: u :: v :: st) h Q X) : wp i pc ls (v :: w :: u :: st) h Q X := by
  intro D DA B0 CN CS p l e R s m args below meth c H locs ls' hfl hE
  exact lv_dup_x2 hE.1.1 hE.1.2.1 hd (by rw [conc_cat, hc]; rfl) (by rw [conc_cat, hc2]; rfl) (by rw [conc_cat, hc3]; rfl) (k D DA B0 CN CS p l e R s m args below meth c H locs ls' hfl hE)
theorem wp_dup2 {v w : AV} (hd : decode (mB i) pc = .ok (.dup2, 1)) (hc : cat2 v = false := by rfl) (hc2 : cat2 w = false := by rfl)
    (k : wp i (pc + 1) ls (v :: w :: v :: w :: st) h Q X) : wp i pc ls (v :: w :: st) h Q X := by
  intro D DA B0 CN CS p l e R s m args below meth c H locs ls' hfl hE
  exact lv_dup2_11 hE.1.1 hE.1.2.1 hd (by rw [conc_cat, hc]; rfl) (by rw [conc_cat, hc2]; rfl) (k D DA B0 CN CS p l e R s m args below meth c H locs ls' hfl hE)
theorem wp_icmp_eq {x y off : Int} {tgt : Nat} (hd : decode (mB i) pc = .ok (.if_icmp .eq off, 3)) (ht : (pc : Int) + off = (tgt : Int)) (hx : inR x) (hy : inR y)
    (kt : x = y → wp i tgt ls st h Q X) (kf : ¬ x = y → wp i (pc + 3) ls st h Q X) : wp i pc ls (vI y :: vI x :: st) h Q X := by
  intro D DA B0 CN CS p l e R s m args below meth c H locs ls' hfl hE
  refine lv_icmp_eq hE.1.1 hE.1.2.1 hd ht (fun q => ?_) (fun q => ?_)
  · exact kt ((i_eq hx hy).mp q) D DA B0 CN CS p l e R s m args below meth c H locs ls' hfl hE
  · exact kf (fun z => q ((i_eq hx hy).mpr z)) D DA B0 CN CS p l e R s m args below meth c H locs ls' hfl hE
theorem wp_if_eq {x off : Int} {tgt : Nat} (hd : decode (mB i) pc = .ok (.ifCond .eq off, 3)) (ht : (pc : Int) + off = (tgt : Int)) (hx : inR x)
    (kt : x = 0 → wp i tgt ls st h Q X) (kf : ¬ x = 0 → wp i (pc + 3) ls st h Q X) : wp i pc ls (vI x :: st) h Q X := by
  intro D DA B0 CN CS p l e R s m args below meth c H locs ls' hfl hE
  refine lv_if_eq hE.1.1 hE.1.2.1 hd ht (fun q => ?_) (fun q => ?_)
  · exact kt ((i_eq hx (y := 0) (by decide)).mp q) D DA B0 CN CS p l e R s m args below meth c H locs ls' hfl hE
  · exact kf (fun z => q ((i_eq hx (y := 0) (by decide)).mpr z)) D DA B0 CN CS p l e R s m args below meth c H locs ls' hfl hE
theorem wp_icmp_ne {x y off : Int} {tgt : Nat} (hd : decode (mB i) pc = .ok (.if_icmp .ne off, 3)) (ht : (pc : Int) + off = (tgt : Int)) (hx : inR x) (hy : inR y)
    (kt : x ≠ y → wp i tgt ls st h Q X) (kf : ¬ x ≠ y → wp i (pc + 3) ls st h Q X) : wp i pc ls (vI y :: vI x :: st) h Q X := by
  intro D DA B0 CN CS p l e R s m args below meth c H locs ls' hfl hE
  refine lv_icmp_ne hE.1.1 hE.1.2.1 hd ht (fun q => ?_) (fun q => ?_)
  · exact kt ((not_congr (i_eq hx hy)).mp q) D DA B0 CN CS p l e R s m args below meth c H locs ls' hfl hE
  · exact kf (fun z => z ((i_eq hx hy).mp q)) D DA B0 CN CS p l e R s m args below meth c H locs ls' hfl hE
theorem wp_if_ne {x off : Int} {tgt : Nat} (hd : decode (mB i) pc = .ok (.ifCond .ne off, 3)) (ht : (pc : Int) + off = (tgt : Int)) (hx : inR x)
    (kt : x ≠ 0 → wp i tgt ls st h Q X) (kf : ¬ x ≠ 0 → wp i (pc + 3) ls st h Q X) : wp i pc ls (vI x :: st) h Q X := by
  intro D DA B0 CN CS p l e R s m args below meth c H locs ls' hfl hE
  refine lv_if_ne hE.1.1 hE.1.2.1 hd ht (fun q => ?_) (fun q => ?_)
  · exact kt ((not_congr (i_eq hx (y := 0) (by decide))).mp q) D DA B0 CN CS p l e R s m args below meth c H locs ls' hfl hE
  · exact kf (fun z => z ((i_eq hx (y := 0) (by decide)).mp q)) D DA B0 CN CS p l e R s m args below meth c H locs ls' hfl hE
theorem wp_icmp_lt {x y off : Int} {tgt : Nat} (hd : decode (mB i) pc = .ok (.if_icmp .lt off, 3)) (ht : (pc : Int) + off = (tgt : Int)) (hx : inR x) (hy : inR y)
    (kt : x < y → wp i tgt ls st h Q X) (kf : ¬ x < y → wp i (pc + 3) ls st h Q X) : wp i pc ls (vI y :: vI x :: st) h Q X := by
  intro D DA B0 CN CS p l e R s m args below meth c H locs ls' hfl hE
  refine lv_icmp_lt hE.1.1 hE.1.2.1 hd ht (fun q => ?_) (fun q => ?_)
  · exact kt ((i_lt hx hy).mp q) D DA B0 CN CS p l e R s m args below meth c H locs ls' hfl hE
  · exact kf (fun z => q ((i_lt hx hy).mpr z)) D DA B0 CN CS p l e R s m args below meth c H locs ls' hfl hE
theorem wp_if_lt {x off : Int} {tgt : Nat} (hd : decode (mB i) pc = .ok (.ifCond .lt off, 3)) (ht : (pc : Int) + off = (tgt : Int)) (hx : inR x)
    (kt : x < 0 → wp i tgt ls st h Q X) (kf : ¬ x < 0 → wp i (pc + 3) ls st h Q X) : wp i pc ls (vI x :: st) h Q X := by
  intro D DA B0 CN CS p l e R s m args below meth c H locs ls' hfl hE
  refine lv_if_lt hE.1.1 hE.1.2.1 hd ht (fun q => ?_) (fun q => ?_)
  · exact kt ((i_lt hx (y := 0) (by decide)).mp q) D DA B0 CN CS p l e R s m args below meth c H locs ls' hfl hE
  · exact kf (fun z => q ((i_lt hx (y := 0) (by decide)).mpr z)) D DA B0 CN CS p l e R s m args below meth c H locs ls' hfl hE
theorem wp_icmp_ge {x y off : Int} {tgt : Nat} (hd : decode (mB i) pc = .ok (.if_icmp .ge off, 3)) (ht : (pc : Int) + off = (tgt : Int)) (hx : inR x) (hy : inR y)
    (kt : y ≤ x → wp i tgt ls st h Q X) (kf : ¬ y ≤ x → wp i (pc + 3) ls st h Q X) : wp i pc ls (vI y :: vI x :: st) h Q X := by
  intro D DA B0 CN CS p l e R s m args below meth c H locs ls' hfl hE
  refine lv_icmp_ge hE.1.1 hE.1.2.1 hd ht (fun q => ?_) (fun q => ?_)
  · exact kt ((i_le hy hx).mp q) D DA B0 CN CS p l e R s m args below meth c H locs ls' hfl hE
  · exact kf (fun z => q ((i_le hy hx).mpr z)) D DA B0 CN CS p l e R s m args below meth c H locs ls' hfl hE
theorem wp_if_ge {x off : Int} {tgt : Nat} (hd : decode (mB i) pc = .ok (.ifCond .ge off, 3)) (ht : (pc : Int) + off = (tgt : Int)) (hx : inR x)
    (kt : 0 ≤ x → wp i tgt ls st h Q X) (kf : ¬ 0 ≤ x → wp i (pc + 3) ls st h Q X) : wp i pc ls (vI x :: st) h Q X := by
  intro D DA B0 CN CS p l e R s m args below meth c H locs ls' hfl hE
  refine lv_if_ge hE.1.1 hE.1.2.1 hd ht (fun q => ?_) (fun q => ?_)
  · exact kt ((i_le (x := 0) (by decide) hx).mp q) D DA B0 CN CS p l e R s m args below meth c H locs ls' hfl hE
  · exact kf (fun z => q ((i_le (x := 0) (by decide) hx).mpr z)) D DA B0 CN CS p l e R s m args below meth c H locs ls' hfl hE
theorem wp_icmp_gt {x y off : Int} {tgt : Nat} (hd : decode (mB i) pc = .ok (.if_icmp .gt off, 3)) (ht : (pc : Int) + off = (tgt : Int)) (hx : inR x) (hy : inR y)
    (kt : y < x → wp i tgt ls st h Q X) (kf : ¬ y < x → wp i (pc + 3) ls st h Q X) : wp i pc ls (vI y :: vI x :: st) h Q X := by
  intro D DA B0 CN CS p l e R s m args below meth c H locs ls' hfl hE
  refine lv_icmp_gt hE.1.1 hE.1.2.1 hd ht (fun q => ?_) (fun q => ?_)
  · exact kt ((i_lt hy hx).mp q) D DA B0 CN CS p l e R s m args below meth c H locs ls' hfl hE
  · exact kf (fun z => q ((i_lt hy hx).mpr z)) D DA B0 CN CS p l e R s m args below meth c H locs ls' hfl hE
theorem wp_if_gt {x off : Int} {tgt : Nat} (hd : decode (mB i) pc = .ok (.ifCond .gt off, 3)) (ht : (pc : Int) + off = (tgt : Int)) (hx : inR x)
    (kt : 0 < x → wp i tgt ls st h Q X) (kf : ¬ 0 < x → wp i (pc + 3) ls st h Q X) : wp i pc ls (vI x :: st) h Q X := by
  intro D DA B0 CN CS p l e R s m args below meth c H locs ls' hfl hE
  refine lv_if_gt hE.1.1 hE.1.2.1 hd ht (fun q => ?_) (fun q => ?_)
  · exact kt ((i_lt (x := 0) (by decide) hx).mp q) D DA B0 CN CS p l e R s m args below meth c H locs ls' hfl hE
  · exact kf (fun z => q ((i_lt (x := 0) (by decide) hx).mpr z)) D DA B0 CN CS p l e R s m args below meth c H locs ls' hfl hE
theorem wp_icmp_le {x y off : Int} {tgt : Nat} (hd : decode (mB i) pc = .ok (.if_icmp .le off, 3)) (ht : (pc : Int) + off = (tgt : Int)) (hx : inR x) (hy : inR y)
    (kt : x ≤ y → wp i tgt ls st h Q X) (kf : ¬ x ≤ y → wp i (pc + 3) ls st h Q X) : wp i pc ls (vI y :: vI x :: st) h Q X := by
  intro D DA B0 CN CS p l e R s m args below meth c H locs ls' hfl hE
  refine lv_icmp_le hE.1.1 hE.1.2.1 hd ht (fun q => ?_) (fun q => ?_)
  · exact kt ((i_le hx hy).mp q) D DA B0 CN CS p l e R s m args below meth c H locs ls' hfl hE
  · exact kf (fun z => q ((i_le hx hy).mpr z)) D DA B0 CN CS p l e R s m args below meth c H locs ls' hfl hE
theorem wp_if_le {x off : Int} {tgt : Nat} (hd : decode (mB i) pc = .ok (.ifCond .le off, 3)) (ht : (pc : Int) + off = (tgt : Int)) (hx : inR x)
    (kt : x ≤ 0 → wp i tgt ls st h Q X) (kf : ¬ x ≤ 0 → wp i (pc + 3) ls st h Q X) : wp i pc ls (vI x :: st) h Q X := by
  intro D DA B0 CN CS p l e R s m args below meth c H locs ls' hfl hE
  refine lv_if_le hE.1.1 hE.1.2.1 hd ht (fun q => ?_) (fun q => ?_)
  · exact kt ((i_le hx (y := 0) (by decide)).mp q) D DA B0 CN CS p l e R s m args below meth c H locs ls' hfl hE
  · exact kf (fun z => q ((i_le hx (y := 0) (by decide)).mpr z)) D DA B0 CN CS p l e R s m args below meth c H locs ls' hfl hE
theorem wp_goto {off : Int} {tgt : Nat} (hd : decode (mB i) pc = .ok (.goto off, 3)) (ht : (pc : Int) + off = (tgt : Int))
    (k : wp i tgt ls st h Q X) : wp i pc ls st h Q X := by
  intro D DA B0 CN CS p l e R s m args below meth c H locs ls' hfl hE
  exact lv_goto hE.1.1 hE.1.2.1 hd ht (k D DA B0 CN CS p l e R s m args below meth c H locs ls' hfl hE)
theorem wp_ifnull {x : Option Nat} {off : Int} {tgt : Nat} (hd : decode (mB i) pc = .ok (.ifnull off, 3)) (ht : (pc : Int) + off = (tgt : Int))
    (kt : x = none → wp i tgt ls st h Q X) (kf : ∀ a, x = some a → wp i (pc + 3) ls st h Q X) : wp i pc ls (vR x :: st) h Q X := by
  intro D DA B0 CN CS p l e R s m args below meth c H locs ls' hfl hE
  match x with
  | none => exact lv_ifnullN hE.1.1 hE.1.2.1 hd ht (kt rfl D DA B0 CN CS p l e R s m args below meth c H locs ls' hfl hE)
  | some a => exact lv_ifnull hE.1.1 hE.1.2.1 hd (kf a rfl D DA B0 CN CS p l e R s m args below meth c H locs ls' hfl hE)
theorem wp_ifnonnull {x : Option Nat} {off : Int} {tgt : Nat} (hd : decode (mB i) pc = .ok (.ifnonnull off, 3)) (ht : (pc : Int) + off = (tgt : Int))
    (kt : ∀ a, x = some a → wp i tgt ls st h Q X) (kf : x = none → wp i (pc + 3) ls st h Q X) : wp i pc ls (vR x :: st) h Q X := by
  intro D DA B0 CN CS p l e R s m args below meth c H locs ls' hfl hE
  match x with
  | none => exact lv_ifnonnullN hE.1.1 hE.1.2.1 hd (kf rfl D DA B0 CN CS p l e R s m args below meth c H locs ls' hfl hE)
  | some a => exact lv_ifnonnull hE.1.1 hE.1.2.1 hd ht (kt a rfl D DA B0 CN CS p l e R s m args below meth c H locs ls' hfl hE)
end WP
end
section
/-! ===== THE LOGIC, part 3: fields, arrays, new cells, ends ===== -/
def isI (ty : FieldType) : Bool := match ty with
  | .int => true
  | .boolean => true
  | _ => false
def isJ (ty : FieldType) : Bool := match ty with
  | .long => true
  | _ => false
def isRf (ty : FieldType) : Bool := match ty with
  | .object _ => true
  | .array _ => true
  | _ => false
theorem sv_I {ty : FieldType} (h : isI ty = true) (hp : Hp) (a : Nat) (k : Int) : sv ty hp a k = .int (Int32.ofInt (hi hp a k)) := by
  cases ty <;> first | rfl | cases h
theorem sv_J {ty : FieldType} (h : isJ ty = true) (hp : Hp) (a : Nat) (k : Int) : sv ty hp a k = .long (Int64.ofInt (hl hp a k)) := by
  cases ty <;> first | rfl | cases h
theorem sv_R {ty : FieldType} (h : isRf ty = true) (hp : Hp) (a : Nat) (k : Int) : sv ty hp a k = va_rf (hr hp a k) := by
  cases ty <;> first | rfl | cases h
theorem CL_lt {ci : Nat} {q : vw_C} (h : CL[ci]? = some q) : ci < 99 := Nat.lt_of_lt_of_le (List.getElem?_eq_some_iff.mp h).1 (by decide)
theorem KA_ge : ∀ K ∈ KA, 100 ≤ K ∧ K ≠ 200 := by decide
def flF (ci k : Nat) : Bool := match CL[ci]? with
  | some q => (q.2.1 k).2.2.2
  | none => false
def CLn (ci : Nat) : String := match CL[ci]? with
  | some q => q.1
  | none => ""
theorem okAt.obj {D : va_G} {DA : Nat → ClassId} {s : State} {H : Heap} {h : Hp} {a ci : Nat} (k : okAt D DA s H h a) (hk : kd h a = ci + 1) (hlt : ci < 99) : ∃ q, CL[ci]? = some q ∧ t_OB a (D.1 ci) q.2.2 (D.2 ci) H (fun k => sv (cT (ci + 1) k) h a k) := by
  rcases k with ⟨k1, q, k2, k3⟩ | ⟨k1, -⟩ | ⟨k1, -⟩
  · rw [hk] at k2 k3
    exact ⟨q, k2, k3⟩
  · omega
  · have := KA_ge _ k1
    omega
theorem okAt.arr {D : va_G} {DA : Nat → ClassId} {s : State} {H : Heap} {h : Hp} {a : Nat} (k : okAt D DA s H h a) (hk : 100 ≤ kd h a) (h2 : kd h a ≠ 200) : kd h a ∈ KA ∧ 0 ≤ ln h a ∧ inR (ln h a) ∧ H[a]? = some (arrV (DA (kd h a)) (ln h a).toNat (fun j => sv (AT (kd h a)) h a j)) := by
  rcases k with ⟨k1, -⟩ | ⟨k1, -⟩ | k
  · omega
  · exact absurd k1 h2
  · exact k
section HP
variable {i pc : Nat} {ls : List (Option AV)} {st : List AV} {h : Hp} {Q : Option AV → Hp → Prop} {X : String → Hp → Prop}
variable {D : va_G} {DA : Nat → ClassId} {B0 CN CS : Nat} {p : Program} {l : Launch} {e : Env} {R : Room} {s : State} {m : MethodId} {args : Array Value} {below : List Frame} {meth : Method} {c : Code} {H : Heap} {locs : List Loc} {ls' : Array Slot} {cells slots : Nat} {Z : State → Prop}
theorem W_getf {a idx ci k : Nat} {st' : List Value} (hE : En i D DA B0 CN CS p R s m meth c H locs ls' ls h) (hf : flP (mY i).cls idx ci k) (hd : decode (mB i) pc = .ok (.getfield idx, 3)) (hk : kd h a = ci + 1)
    (kk : W p l e R s m args below meth c H locs cells slots Z (F0 m (pc + 3) ls' (sv (cT (ci + 1) k) h a k :: st'))) : W p l e R s m args below meth c H locs cells slots Z (F0 m pc ls' (.ref a :: st')) := by
  obtain ⟨q, hc, hkn, hw⟩ := hf
  obtain ⟨⟨hx, hb, -, -, -, hown, -, hok, hK, -⟩, hrep, -⟩ := hE
  obtain ⟨q', hc', cell, q1, q2, q3, q4⟩ := (hrep.2.2.2.2.2.2.2.2 a (by omega)).2.obj hk (CL_lt hc)
  cases hc.symm.trans hc'
  obtain ⟨hS, hfc, kC, hkC, hkind⟩ := hK.1 ci _ hc
  obtain ⟨c1, c2, c3, c4⟩ := CL_ok ci _ hc
  obtain ⟨cf, kf, fi, f, hi, hsl⟩ := hS k hkn
  have hts : ∀ w ∈ u_ws q.1 q.2.1 q.2.2, w.before args s = true := fun w h => hok w (c1 w h) _
  have hst := (u_facts hfc hkC (u_lays hts (fun _ h => h) hkn) hi).1
  rw [c4 k] at hi
  refine W.getf hx hb hown (hok _ hw _) hi hst q1 (by rw [q3]; exact fun h => by cases h) (v := sv (cT (ci + 1) k) h a k) ?_ rfl rfl hd kk
  rw [hsl, q4 k hkn]
theorem okAt.set1 {a : Nat} {ci k : Nat} {q : vw_C} {h1 : Hp} {cell : Cell} {v : Value} {H1 : Heap} (hc : CL[ci]? = some q) (hk : kd h a = ci + 1) (hk1 : kd h1 a = kd h a) (q2 : cell.cls = D.1 ci) (q3 : cell.vm = .none) (q4 : ∀ k, k < q.2.2 → cell.slots[D.2 ci k]? = some (sv (cT (ci + 1) k) h a k)) (hap : ∀ a b, a < q.2.2 → b < q.2.2 → a ≠ b → D.2 ci a ≠ D.2 ci b) (hkn : k < q.2.2)
    (e1 : H1[a]? = some (cell.setSlot (D.2 ci k) v)) (hv : sv (cT (ci + 1) k) h1 a k = v) (ho : ∀ j : Nat, j ≠ k → sv (cT (ci + 1) j) h1 a j = sv (cT (ci + 1) j) h a j) : okAt D DA s H1 h1 a := by
  refine Or.inl ⟨by rw [hk1, hk]; have := CL_lt hc; omega, q, ?_, ?_⟩
  · rw [hk1, hk]; exact hc
  · rw [hk1, hk]
    refine t_OB.to (V := updV (fun k => sv (cT (ci + 1) k) h a k) k v) ⟨_, e1, q2, q3, t_set q4 hap hkn v⟩ (fun j _ => ?_)
    by_cases hj : j = k
    · subst hj
      simp [updV, hv]
    · simp only [updV, if_neg hj]
      exact (ho j hj).symm
theorem rep.put {a : Nat} {H1 : Heap} {h1 : Hp} {x : Cell} (hrep : rep D DA B0 CN CS s H h) (ha : kd h a ≠ 0) (hx : H1[a]? = some x) (hs : ∀ c : Cell, H[a]? = some c → x.slots.size = c.slots.size) (hz : H1.size = H.size) (ho : ∀ q : Nat, q ≠ a → H1[q]? = H[q]?)
    (g1 : kd h1 = kd h) (g2 : ln h1 = ln h) (g3 : nx h1 = nx h) (g4 : us h1 = us h) (g5 : cn h1 = cn h) (g6 : cs h1 = cs h) (g7 : ∀ a k, inR (hi h1 a k)) (g8 : ∀ b, b ≠ a → ∀ j, hi h1 b j = hi h b j ∧ hr h1 b j = hr h b j ∧ hl h1 b j = hl h b j) (g9 : okAt D DA s H1 h1 a) : rep D DA B0 CN CS s H1 h1 := by
  obtain ⟨k1, k2, k3, k4, k5, k6, k7, k8, k9⟩ := hrep
  refine ⟨by rw [hz, g3]; exact k1, by rw [ssum_set hz ho hx hs, g4]; exact k2, by rw [g5]; exact k3, by rw [g6]; exact k4, by rw [g3]; exact k5, by rw [g4]; exact k6, by rw [g3]; exact k7, g7, fun b hb => ?_⟩
  rw [g1] at hb ⊢
  refine ⟨(k9 b hb).1, ?_⟩
  by_cases hba : b = a
  · subst hba; exact g9
  · exact (k9 b hb).2.kept (ho b hba) (by rw [g1]) (by rw [g2]) (fun j => (g8 b hba j).1) (fun j => (g8 b hba j).2.1) (fun j => (g8 b hba j).2.2)
/-- a value written to a field -/
theorem W_putf {a idx ci k : Nat} {v : Value} {h1 : Hp} {st' : List Value} (hE : En i D DA B0 CN CS p R s m meth c H locs ls' ls h) (hf : flP (mY i).cls idx ci k) (hd : decode (mB i) pc = .ok (.putfield idx, 3)) (hk : kd h a = ci + 1)
    (hfin : flF ci k = false ∨ (flF ci k = true ∧ (mY i).name = "<init>" ∧ CLn ci = (mY i).cls)) (hn : narrow (cT (ci + 1) k) v = v) (hfit : fits (cT (ci + 1) k) v = true)
    (g1 : kd h1 = kd h) (g2 : ln h1 = ln h) (g3 : nx h1 = nx h) (g4 : us h1 = us h) (g5 : cn h1 = cn h) (g6 : cs h1 = cs h) (g7 : ∀ a k, inR (hi h1 a k)) (g8 : ∀ b, b ≠ a → ∀ j, hi h1 b j = hi h b j ∧ hr h1 b j = hr h b j ∧ hl h1 b j = hl h b j)
    (hv : sv (cT (ci + 1) k) h1 a k = v) (ho : ∀ j : Nat, j ≠ k → sv (cT (ci + 1) j) h1 a j = sv (cT (ci + 1) j) h a j)
    (kk : ∀ (H1 : Heap) (locs1 : List Loc), En i D DA B0 CN CS p R s m meth c H1 locs1 ls' ls h1 → W p l e R s m args below meth c H1 locs1 (H1.size - s.heap.size) (ssum H1 - ssum s.heap) Z (F0 m (pc + 3) ls' st')) : W p l e R s m args below meth c H locs cells slots Z (F0 m pc ls' (v :: .ref a :: st')) := by
  obtain ⟨q, hc, hkn, hw⟩ := hf
  have hE0 := hE
  obtain ⟨⟨hx, hb, -, -, -, hown, hname, hok, hK, -⟩, hrep, -, hloc, hsz, hss, -⟩ := hE
  have hka : kd h a ≠ 0 := by omega
  have hoka := hrep.2.2.2.2.2.2.2.2 a hka
  obtain ⟨q', hc', cell, q1, q2, q3, q4⟩ := hoka.2.obj hk (CL_lt hc)
  cases hc.symm.trans hc'
  obtain ⟨hS, hfc, kC, hkC, hkind⟩ := hK.1 ci _ hc
  obtain ⟨c1, c2, c3, c4⟩ := CL_ok ci _ hc
  have hts : ∀ w ∈ u_ws q.1 q.2.1 q.2.2, w.before args s = true := fun w h => hok w (c1 w h) _
  have hap := va_apart (own := q.1) (args := args) hts (fun _ h => h) (cT (ci + 1)) c3 c2 hK hc
  obtain ⟨cf, kf, fi, f, hi9, hsl⟩ := hS k hkn
  have hlay := hts _ (u_in_lay hkn)
  have hst := (u_facts hfc hkC (u_lays hts (fun _ h => h) hkn) hi9).1
  have hB : B0 ≤ a := by
    rcases hoka.1 with h2 | h2
    · have := CL_lt hc; omega
    · exact h2
  have fin : ∀ H1 : Heap, H1[a]? = some (cell.setSlot (D.2 ci k) v) → H1.size = H.size → (∀ q, q ≠ a → H1[q]? = H[q]?) → W p l e R s m args below meth c H1 (locs ++ [⟨a, D.2 ci k⟩]) cells slots Z (F0 m (pc + 3) ls' st') := by
    intro H1 e1 z1 o1
    have hsame : ∀ c : Cell, H[a]? = some c → (cell.setSlot (D.2 ci k) v).slots.size = c.slots.size := fun c hc => by
      rw [q1] at hc
      cases hc
      simp [Cell.setSlot]
    refine W_tight (kk H1 _ ⟨hE0.1, ?_, hE0.2.2.1, ?_, by rw [z1]; exact hsz, by rw [ssum_set z1 o1 e1 hsame]; exact hss, hE0.2.2.2.2.2.2⟩)
    · exact hrep.put hka e1 hsame z1 o1 g1 g2 g3 g4 g5 g6 g7 g8 (okAt.set1 hc hk (by rw [g1]) q2 q3 q4 (fun x y hx hy hne => hap x y hx hy hne) hkn e1 hv ho)
    · intro z hz
      rcases List.mem_append.mp hz with h | h
      · exact hloc z h
      · have := List.mem_singleton.mp h
        rw [this]
        exact hB
  rw [c4 k] at hi9
  have hd9 := c3 k hkn
  rcases hfin with hf | ⟨hf, hini, hcls⟩
  · have hf2 : (q.2.1 k).2.2.2 = false := by
      unfold flF at hf
      rw [hc] at hf
      exact hf
    unfold u_lay at hlay
    rw [if_neg (by rw [hf2]; decide), c4 k] at hlay
    have h6 := u_store hfc hkC hkind hlay hi9 hd9 hn hfit
    refine W.putK hx hb (f := f) ⟨hown, hok _ hw _, ⟨_, _, _, hi9⟩, hst⟩ (by rw [q2]; exact h6) q1 q3 (by rw [hsl]; exact k2_hasslot (q4 k hkn)) rfl rfl hd fun H' e1 e2 e3 => ?_
    rw [hsl] at e1 ⊢
    exact fin H' e1 e2 e3
  · have hf2 : (q.2.1 k).2.2.2 = true := by
      unfold flF at hf
      rw [hc] at hf
      exact hf
    unfold u_lay at hlay
    rw [if_pos hf2, c4 k] at hlay
    have hcf : m.cls = cf := by
      obtain ⟨_, _, c', _, _, _, -, -, hf', -, -, -, hown2, -⟩ := Cond.laysFinal_spec hlay
      have e1 : c' = cf := by have := hi9.symm.trans hf'; simp at this; exact this.1.symm
      have e2 : q.1 = (mY i).cls := by
        unfold CLn at hcls
        rw [hc] at hcls
        exact hcls
      rw [e2] at hown2
      rw [← e1]; exact Option.some.inj (hown.symm.trans hown2)
    have h6 := u_fits hfc hkC hkind (Or.inr hlay) hi9 hd9 hn hfit
    refine W.putFinK hx hb hown (hok _ hw _) hi9 hst hcf (hname.trans hini) (by rw [q2]; exact h6) q1 q3 (by rw [hsl]; exact k2_hasslot (q4 k hkn)) rfl rfl hd fun H' e1 e2 e3 => ?_
    rw [hsl] at e1 ⊢
    exact fin H' e1 e2 e3
end HP
section HQ
variable {i pc : Nat} {ls : List (Option AV)} {st : List AV} {h : Hp} {Q : Option AV → Hp → Prop} {X : String → Hp → Prop}
theorem wp_getI {idx ci k a : Nat} (kz : Int) (hd : decode (mB i) pc = .ok (.getfield idx, 3)) (hf : flP (mY i).cls idx ci k) (hz : (k : Int) = kz) (ht : isI (cT (ci + 1) k) = true) (hk : kd h a = ci + 1) (kk : ∀ x, x = hi h a kz → inR x → wp i (pc + 3) ls (vI x :: st) h Q X) : wp i pc ls (vR (some a) :: st) h Q X := by
  intro D DA B0 CN CS p l e R s m args below meth c H locs ls' hfl hE
  refine W_getf hE hf hd hk ?_
  rw [sv_I ht, hz]
  exact kk _ rfl (hE.2.1.2.2.2.2.2.2.2.1 _ _) D DA B0 CN CS p l e R s m args below meth c H locs ls' hfl hE
theorem wp_getR {idx ci k a : Nat} (kz : Int) (hd : decode (mB i) pc = .ok (.getfield idx, 3)) (hf : flP (mY i).cls idx ci k) (hz : (k : Int) = kz) (ht : isRf (cT (ci + 1) k) = true) (hk : kd h a = ci + 1) {v : Option Nat} (hv : hr h a kz = v) (kk : wp i (pc + 3) ls (vR v :: st) h Q X) : wp i pc ls (vR (some a) :: st) h Q X := by
  subst hv
  intro D DA B0 CN CS p l e R s m args below meth c H locs ls' hfl hE
  refine W_getf hE hf hd hk ?_
  rw [sv_R ht, hz]
  exact kk D DA B0 CN CS p l e R s m args below meth c H locs ls' hfl hE
theorem wp_getL {idx ci k a : Nat} (kz : Int) (hd : decode (mB i) pc = .ok (.getfield idx, 3)) (hf : flP (mY i).cls idx ci k) (hz : (k : Int) = kz) (ht : isJ (cT (ci + 1) k) = true) (hk : kd h a = ci + 1) (kk : wp i (pc + 3) ls (vL (hl h a kz) :: st) h Q X) : wp i pc ls (vR (some a) :: st) h Q X := by
  intro D DA B0 CN CS p l e R s m args below meth c H locs ls' hfl hE
  refine W_getf hE hf hd hk ?_
  rw [sv_J ht, hz]
  exact kk D DA B0 CN CS p l e R s m args below meth c H locs ls' hfl hE
theorem fit_I {ty : FieldType} {v : Int} (ht : isI ty = true) (hv : ty = .boolean → v = 0 ∨ v = 1) : narrow ty (.int (Int32.ofInt v)) = .int (Int32.ofInt v) ∧ fits ty (.int (Int32.ofInt v)) = true := by
  cases ty with
  | int => exact ⟨rfl, rfl⟩
  | boolean => rcases hv rfl with rfl | rfl <;> decide
  | _ => cases ht
theorem fit_R {ty : FieldType} {v : Option Nat} (ht : isRf ty = true) : narrow ty (va_rf v) = va_rf v ∧ fits ty (va_rf v) = true := by
  cases ty with
  | object n => cases v <;> exact ⟨rfl, rfl⟩
  | array n => cases v <;> exact ⟨rfl, rfl⟩
  | _ => cases ht
theorem hi_ne {a b : Nat} {k j v : Int} (hb : b ≠ a ∨ j ≠ k) : hi (setI h a k v) b j = hi h b j := by
  rw [hi_setI, up2_ne]
  rintro ⟨e1, e2⟩
  rcases hb with z | z
  · exact z e1
  · exact z e2
theorem wp_putI {idx ci k a : Nat} {v : Int} (kz : Int) (hd : decode (mB i) pc = .ok (.putfield idx, 3)) (hf : flP (mY i).cls idx ci k) (hz : (k : Int) = kz) (ht : isI (cT (ci + 1) k) = true) (hfin : flF ci k = false ∨ (flF ci k = true ∧ (mY i).name = "<init>" ∧ CLn ci = (mY i).cls)) (hk : kd h a = ci + 1) (hv : inR v) (hbo : cT (ci + 1) k = .boolean → v = 0 ∨ v = 1)
    (kk : wp i (pc + 3) ls st (setI h a kz v) Q X) : wp i pc ls (vI v :: vR (some a) :: st) h Q X := by
  intro D DA B0 CN CS p l e R s m args below meth c H locs ls' hfl hE
  subst hz
  have hin := hE.2.1.2.2.2.2.2.2.2.1
  refine W_putf (h1 := setI h a k v) hE hf hd hk hfin (fit_I ht hbo).1 (fit_I ht hbo).2 rfl rfl rfl rfl rfl rfl (fun b j => ?_) (fun b hb j => ⟨hi_ne (Or.inl hb), rfl, rfl⟩) ?_ (fun j hj => ?_) (fun H1 locs1 hE1 => kk D DA B0 CN CS p l e R s m args below meth c H1 locs1 ls' hfl hE1)
  · rw [hi_setI]
    unfold up2
    split
    · exact hv
    · exact hin b j
  · rw [sv_I ht, hi_setI, up2_same]
    rfl
  · unfold sv
    rw [hi_ne (Or.inr (by omega))]
    rfl
theorem wp_putR {idx ci k a : Nat} {v : Option Nat} (kz : Int) (hd : decode (mB i) pc = .ok (.putfield idx, 3)) (hf : flP (mY i).cls idx ci k) (hz : (k : Int) = kz) (ht : isRf (cT (ci + 1) k) = true) (hfin : flF ci k = false ∨ (flF ci k = true ∧ (mY i).name = "<init>" ∧ CLn ci = (mY i).cls)) (hk : kd h a = ci + 1)
    (kk : wp i (pc + 3) ls st (setR h a kz v) Q X) : wp i pc ls (vR v :: vR (some a) :: st) h Q X := by
  intro D DA B0 CN CS p l e R s m args below meth c H locs ls' hfl hE
  subst hz
  have hin := hE.2.1.2.2.2.2.2.2.2.1
  refine W_putf (h1 := setR h a k v) hE hf hd hk hfin (fit_R ht).1 (fit_R ht).2 rfl rfl rfl rfl rfl rfl hin (fun b hb j => ⟨rfl, ?_, rfl⟩) ?_ (fun j hj => ?_) (fun H1 locs1 hE1 => kk D DA B0 CN CS p l e R s m args below meth c H1 locs1 ls' hfl hE1)
  · rw [hr_setR, up2_ne]
    exact fun q => hb q.1
  · rw [sv_R ht, hr_setR, up2_same]
    rfl
  · unfold sv
    rw [hr_setR, up2_ne _ _ (fun q => hj (by omega))]
    rfl
/-! arrays -/
theorem arr_in {x n : Int} (hx : inR x) (h0 : 0 ≤ x) (h1 : x < n) : ¬ (Int32.ofInt x < 0 ∨ n.toNat ≤ (Int32.ofInt x).toNatClampNeg) := by
  rw [i_clamp hx, i_neg hx]
  omega
theorem wp_alen {a : Nat} (hd : decode (mB i) pc = .ok (.arraylength, 1)) (hk : 100 ≤ kd h a) (kk : wp i (pc + 1) ls (vI (ln h a) :: st) h Q X) : wp i pc ls (vR (some a) :: st) h Q X := by
  intro D DA B0 CN CS p l e R s m args below meth c H locs ls' hfl hE
  have k := kk D DA B0 CN CS p l e R s m args below meth c H locs ls' hfl hE
  have hoka := (hE.2.1.2.2.2.2.2.2.2.2 a (by omega)).2
  by_cases h2 : kd h a = 200
  · rcases hoka with ⟨k1, -⟩ | ⟨k1, k4, cell, k2, k3, k5, k6, k7⟩ | ⟨k1, -⟩
    · omega
    · refine W.alen hE.1.1 hE.1.2.1 k2 k3 (n := Int32.ofInt (ln h a)) ?_ rfl rfl hd k
      rw [← k6]
      rfl
    · exact absurd h2 (KA_ge _ k1).2
  · obtain ⟨k1, k2, k3, k4⟩ := hoka.arr hk h2
    refine W.alen hE.1.1 hE.1.2.1 k4 ((hE.1.2.2.2.2.2.2.2.2.2.1 _ k1).1 _ _) (n := Int32.ofInt (ln h a)) ?_ rfl rfl hd k
    rw [arrV_size]
    have : ((ln h a).toNat : Int) = ln h a := Int.toNat_of_nonneg k2
    rw [← this]
    rfl
theorem wp_iald {a : Nat} {x : Int} (hd : decode (mB i) pc = .ok (.iaload, 1)) (hk : kd h a = 100 ∨ kd h a = 200) (h0 : 0 ≤ x) (h1 : x < ln h a) (kk : ∀ y, y = hi h a x → inR y → wp i (pc + 1) ls (vI y :: st) h Q X) : wp i pc ls (vI x :: vR (some a) :: st) h Q X := by
  intro D DA B0 CN CS p l e R s m args below meth c H locs ls' hfl hE
  have k := kk _ rfl (hE.2.1.2.2.2.2.2.2.2.1 _ _) D DA B0 CN CS p l e R s m args below meth c H locs ls' hfl hE
  have hoka := (hE.2.1.2.2.2.2.2.2.2.2 a (by omega)).2
  have ht : (x.toNat : Int) = x := Int.toNat_of_nonneg h0
  rcases hk with hk | hk
  · obtain ⟨k1, k2, k3, k4⟩ := hoka.arr (by omega) (by omega)
    have hx : inR x := ⟨by omega, by have := k3.2; omega⟩
    rw [hk] at k4 k1
    refine W.iald hE.1.1 hE.1.2.1 k4 ((hE.1.2.2.2.2.2.2.2.2.2.1 _ k1).1 _ _) (fun q => by cases q) (by rw [arrV_size]; exact arr_in hx h0 h1) (v := .int (Int32.ofInt (hi h a x))) ?_ rfl rfl hd k
    rw [i_clamp hx, arrV_read _ _ (by omega), ht]
    rfl
  · rcases hoka with ⟨k1, -⟩ | ⟨k1, k4, cell, k2, k3, k5, k6, k7⟩ | ⟨k1, -⟩
    · omega
    · have hx : inR x := ⟨by omega, by have := k4.2; omega⟩
      have hsz : cell.slots.size = (ln h a).toNat := by omega
      refine W.iald hE.1.1 hE.1.2.1 k2 k3 k5 (by rw [hsz]; exact arr_in hx h0 h1) (v := .int (Int32.ofInt (hi h a x))) ?_ rfl rfl hd k
      rw [i_clamp hx, k7 _ (by omega), ht]
    · exact absurd hk (KA_ge _ k1).2
theorem wp_aald {a : Nat} {x : Int} (hd : decode (mB i) pc = .ok (.aaload, 1)) (hk : 100 ≤ kd h a) (h2 : kd h a ≠ 200) (hty : isRf (AT (kd h a)) = true) (h0 : 0 ≤ x) (h1 : x < ln h a) {v : Option Nat} (hv : hr h a x = v) (kk : wp i (pc + 1) ls (vR v :: st) h Q X) : wp i pc ls (vI x :: vR (some a) :: st) h Q X := by
  subst hv
  intro D DA B0 CN CS p l e R s m args below meth c H locs ls' hfl hE
  have k := kk D DA B0 CN CS p l e R s m args below meth c H locs ls' hfl hE
  have hoka := (hE.2.1.2.2.2.2.2.2.2.2 a (by omega)).2
  have ht : (x.toNat : Int) = x := Int.toNat_of_nonneg h0
  obtain ⟨k1, k2, k3, k4⟩ := hoka.arr hk h2
  have hx : inR x := ⟨by omega, by have := k3.2; omega⟩
  refine W.aald hE.1.1 hE.1.2.1 k4 ((hE.1.2.2.2.2.2.2.2.2.2.1 _ k1).1 _ _) (by revert hty; cases AT (kd h a) <;> intro q <;> first | rfl | cases q) (fun q => by cases q) (by rw [arrV_size]; exact arr_in hx h0 h1) (v := va_rf (hr h a x)) ?_ rfl rfl hd k
  rw [i_clamp hx, arrV_read _ _ (by omega), ht, sv_R hty]
end HQ
/-- the whole numbers replaced -/
def wI (h : Hp) (f : Nat → Int → Int) : Hp := (kd h, ln h, f, hr h, hl h, nx h, us h, cn h, cs h)
theorem kd_wI (h : Hp) (f : Nat → Int → Int) : kd (wI h f) = kd h := rfl
theorem ln_wI (h : Hp) (f : Nat → Int → Int) : ln (wI h f) = ln h := rfl
theorem hi_wI (h : Hp) (f : Nat → Int → Int) : hi (wI h f) = f := rfl
theorem hr_wI (h : Hp) (f : Nat → Int → Int) : hr (wI h f) = hr h := rfl
theorem hl_wI (h : Hp) (f : Nat → Int → Int) : hl (wI h f) = hl h := rfl
theorem nx_wI (h : Hp) (f : Nat → Int → Int) : nx (wI h f) = nx h := rfl
theorem us_wI (h : Hp) (f : Nat → Int → Int) : us (wI h f) = us h := rfl
theorem cn_wI (h : Hp) (f : Nat → Int → Int) : cn (wI h f) = cn h := rfl
theorem cs_wI (h : Hp) (f : Nat → Int → Int) : cs (wI h f) = cs h := rfl
def ksub : List (Option AV) → List (Option AV) → Prop := fun L ls => match L, ls with
  | [], _ => True
  | none :: L, _ :: ls => ksub L ls
  | some v :: L, x :: ls => x = some v ∧ ksub L ls
  | _ :: _, [] => False
theorem ksub_at : ∀ (L ls : List (Option AV)), ksub L ls → ∀ (j : Nat) (v : AV), L[j]? = some (some v) → ls[j]? = some (some v)
  | [], _, _, j, v, h => by simp at h
  | none :: L, x :: ls, k, 0, v, h => by simp at h
  | none :: L, x :: ls, k, j + 1, v, h => ksub_at L ls k j v h
  | some u :: L, x :: ls, k, 0, v, h => by
    have h2 : u = v := by simpa using h
    have k1 : x = some u := k.1
    rw [k1, h2]
    rfl
  | some u :: L, x :: ls, k, j + 1, v, h => ksub_at L ls k.2 j v h
  | none :: L, [], k, _, _, _ => absurd k id
  | some u :: L, [], k, _, _, _ => absurd k id
theorem wp_to {i pc : Nat} {ls : List (Option AV)} {st : List AV} {h : Hp} {Q : Option AV → Hp → Prop} {X : String → Hp → Prop} (L : List (Option AV)) (hk : ksub L ls) (k : wp i pc L st h Q X) : wp i pc ls st h Q X := wp_ls (ksub_at L ls hk) k
abbrev noX : String → Hp → Prop := fun _ _ => False
end
section
/-! ===== THE LOGIC, part 4: stores to arrays, new cells, copies ===== -/
theorem ar_upd (K : Nat) (cA : ClassId) (n : Nat) {h h1 : Hp} {a j0 : Nat} {v : Value} (hv : sv (AT K) h1 a j0 = v) (ho : ∀ j : Nat, j ≠ j0 → sv (AT K) h1 a j = sv (AT K) h a j) : (arrV cA n (fun j => sv (AT K) h a j)).setSlot j0 v = arrV cA n (fun j => sv (AT K) h1 a j) := by
  rw [arrV_store]
  congr 1
  funext j
  by_cases hj : j = j0
  · subst hj
    simp [updV, hv]
  · simp only [updV, if_neg hj]
    exact (ho j hj).symm
section HN
variable {i pc : Nat} {ls : List (Option AV)} {st : List AV} {h : Hp} {Q : Option AV → Hp → Prop} {X : String → Hp → Prop}
variable {D : va_G} {DA : Nat → ClassId} {B0 CN CS : Nat} {p : Program} {l : Launch} {e : Env} {R : Room} {s : State} {m : MethodId} {args : Array Value} {below : List Frame} {meth : Method} {c : Code} {H : Heap} {locs : List Loc} {ls' : Array Slot} {cells slots : Nat} {Z : State → Prop}
/-- behind a store to the array a -/
theorem En.arr {a j0 : Nat} {v : Value} {H1 : Heap} {h1 : Hp} (hE : En i D DA B0 CN CS p R s m meth c H locs ls' ls h) (hk : 100 ≤ kd h a) (h2 : kd h a ≠ 200)
    (e1 : H1[a]? = some ((arrV (DA (kd h a)) (ln h a).toNat (fun j => sv (AT (kd h a)) h a j)).setSlot j0 v)) (z1 : H1.size = H.size) (o1 : ∀ q : Nat, q ≠ a → H1[q]? = H[q]?)
    (g1 : kd h1 = kd h) (g2 : ln h1 = ln h) (g3 : nx h1 = nx h) (g4 : us h1 = us h) (g5 : cn h1 = cn h) (g6 : cs h1 = cs h) (g7 : ∀ a k, inR (hi h1 a k)) (g8 : ∀ b, b ≠ a → ∀ j, hi h1 b j = hi h b j ∧ hr h1 b j = hr h b j ∧ hl h1 b j = hl h b j)
    (hv : sv (AT (kd h a)) h1 a j0 = v) (ho : ∀ j : Nat, j ≠ j0 → sv (AT (kd h a)) h1 a j = sv (AT (kd h a)) h a j) : En i D DA B0 CN CS p R s m meth c H1 (locs ++ [⟨a, j0⟩]) ls' ls h1 := by
  have hka : kd h a ≠ 0 := by omega
  have hoka := hE.2.1.2.2.2.2.2.2.2.2 a hka
  obtain ⟨k1, k2, k3, k4⟩ := hoka.2.arr hk h2
  have hsame : ∀ c : Cell, H[a]? = some c → ((arrV (DA (kd h a)) (ln h a).toNat (fun j => sv (AT (kd h a)) h a j)).setSlot j0 v).slots.size = c.slots.size := fun c hc => by
    rw [k4] at hc
    cases hc
    simp [Cell.setSlot]
  refine ⟨hE.1, hE.2.1.put hka e1 hsame z1 o1 g1 g2 g3 g4 g5 g6 g7 g8 ?_, hE.2.2.1, ?_, by rw [z1]; exact hE.2.2.2.2.1, by rw [ssum_set z1 o1 e1 hsame]; exact hE.2.2.2.2.2.1, hE.2.2.2.2.2.2⟩
  · refine Or.inr (Or.inr ⟨by rw [g1]; exact k1, by rw [g2]; exact k2, by rw [g2]; exact k3, ?_⟩)
    rw [e1, g1, g2, ar_upd _ _ _ hv ho]
  · intro z hz
    rcases List.mem_append.mp hz with h | h
    · exact hE.2.2.2.1 z h
    · have := List.mem_singleton.mp h
      rw [this]
      rcases hoka.1 with h3 | h3
      · exact absurd h3 h2
      · exact h3
theorem wp_iast {a : Nat} {x v : Int} (hd : decode (mB i) pc = .ok (.iastore, 1)) (hk : kd h a = 100) (h0 : 0 ≤ x) (h1 : x < ln h a) (hv : inR v) (kk : wp i (pc + 1) ls st (setI h a x v) Q X) : wp i pc ls (vI v :: vI x :: vR (some a) :: st) h Q X := by
  intro D DA B0 CN CS p l e R s m args below meth c H locs ls' hfl hE
  have hoka := (hE.2.1.2.2.2.2.2.2.2.2 a (by omega)).2
  have ht : (x.toNat : Int) = x := Int.toNat_of_nonneg h0
  have hin := hE.2.1.2.2.2.2.2.2.2.1
  obtain ⟨k1, k2, k3, k4⟩ := hoka.arr (by omega) (by omega)
  have hx : inR x := ⟨by omega, by have := k3.2; omega⟩
  refine W.iast hE.1.1 hE.1.2.1 k4 (by have := (hE.1.2.2.2.2.2.2.2.2.2.1 _ k1).1 (ln h a).toNat (fun j => sv (AT (kd h a)) h a j); rw [hk] at this ⊢; exact this) (fun q => by cases q) (by rw [arrV_size]; exact arr_in hx h0 h1) rfl rfl hd (fun H1 e1 z1 o1 => ?_)
  rw [i_clamp hx] at e1 ⊢
  refine W_tight (kk D DA B0 CN CS p l e R s m args below meth c H1 _ ls' hfl (hE.arr (by omega) (by omega) e1 z1 o1 rfl rfl rfl rfl rfl rfl (fun b j => ?_) (fun b hb j => ⟨hi_ne (Or.inl hb), rfl, rfl⟩) ?_ (fun j hj => ?_)))
  · rw [hi_setI]
    unfold up2
    split
    · exact hv
    · exact hin b j
  · rw [hk, sv_I (by rfl), ht, hi_setI, up2_same]
  · unfold sv
    rw [hi_ne (Or.inr (by omega))]
    rfl
theorem wp_last {a : Nat} {x v : Int} (hd : decode (mB i) pc = .ok (.lastore, 1)) (hk : kd h a = 101) (h0 : 0 ≤ x) (h1 : x < ln h a) (kk : wp i (pc + 1) ls st (setL h a x v) Q X) : wp i pc ls (vL v :: vI x :: vR (some a) :: st) h Q X := by
  intro D DA B0 CN CS p l e R s m args below meth c H locs ls' hfl hE
  have hoka := (hE.2.1.2.2.2.2.2.2.2.2 a (by omega)).2
  have ht : (x.toNat : Int) = x := Int.toNat_of_nonneg h0
  have hin := hE.2.1.2.2.2.2.2.2.2.1
  obtain ⟨k1, k2, k3, k4⟩ := hoka.arr (by omega) (by omega)
  have hx : inR x := ⟨by omega, by have := k3.2; omega⟩
  refine W.last hE.1.1 hE.1.2.1 k4 (by have := (hE.1.2.2.2.2.2.2.2.2.2.1 _ k1).1 (ln h a).toNat (fun j => sv (AT (kd h a)) h a j); rw [hk] at this ⊢; exact this) (fun q => by cases q) (by rw [arrV_size]; exact arr_in hx h0 h1) rfl rfl hd (fun H1 e1 z1 o1 => ?_)
  rw [i_clamp hx] at e1 ⊢
  refine W_tight (kk D DA B0 CN CS p l e R s m args below meth c H1 _ ls' hfl (hE.arr (by omega) (by omega) e1 z1 o1 rfl rfl rfl rfl rfl rfl hin (fun b hb j => ⟨rfl, rfl, ?_⟩) ?_ (fun j hj => ?_)))
  · rw [hl_setL, up2_ne _ _ (fun q => hb q.1)]
  · rw [hk, sv_J (by rfl), ht, hl_setL, up2_same]
  · unfold sv
    rw [hl_setL, up2_ne _ _ (fun q => by omega)]
    rfl
theorem wp_lald {a : Nat} {x : Int} (hd : decode (mB i) pc = .ok (.laload, 1)) (hk : kd h a = 101) (h0 : 0 ≤ x) (h1 : x < ln h a) (kk : wp i (pc + 1) ls (vL (hl h a x) :: st) h Q X) : wp i pc ls (vI x :: vR (some a) :: st) h Q X := by
  intro D DA B0 CN CS p l e R s m args below meth c H locs ls' hfl hE
  have k := kk D DA B0 CN CS p l e R s m args below meth c H locs ls' hfl hE
  have hoka := (hE.2.1.2.2.2.2.2.2.2.2 a (by omega)).2
  have ht : (x.toNat : Int) = x := Int.toNat_of_nonneg h0
  obtain ⟨k1, k2, k3, k4⟩ := hoka.arr (by omega) (by omega)
  have hx : inR x := ⟨by omega, by have := k3.2; omega⟩
  rw [hk] at k4 k1
  refine W.lald hE.1.1 hE.1.2.1 k4 ((hE.1.2.2.2.2.2.2.2.2.2.1 _ k1).1 _ _) (fun q => by cases q) (by rw [arrV_size]; exact arr_in hx h0 h1) (v := .long (Int64.ofInt (hl h a x))) ?_ rfl rfl hd k
  rw [i_clamp hx, arrV_read _ _ (by omega), ht]
  rfl
/-- a reference to an object into an array of its class -/
theorem wp_aastO {a b cb : Nat} {x : Int} (hd : decode (mB i) pc = .ok (.aastore, 1)) (hk : 100 ≤ kd h a) (hk2 : kd h a ≠ 200) (hb : kd h b = cb + 1) (hlt : cb < 99) (hty : AT (kd h a) = .object (CLn cb)) (h0 : 0 ≤ x) (h1 : x < ln h a) (kk : wp i (pc + 1) ls st (setR h a x (some b)) Q X) : wp i pc ls (vR (some b) :: vI x :: vR (some a) :: st) h Q X := by
  intro D DA B0 CN CS p l e R s m args below meth c H locs ls' hfl hE
  have hoka := (hE.2.1.2.2.2.2.2.2.2.2 a (by omega)).2
  have hokb := (hE.2.1.2.2.2.2.2.2.2.2 b (by omega)).2
  have ht : (x.toNat : Int) = x := Int.toNat_of_nonneg h0
  have hin := hE.2.1.2.2.2.2.2.2.2.1
  obtain ⟨k1, k2, k3, k4⟩ := hoka.arr hk hk2
  obtain ⟨q, hc, cell, q1, q2, q3, q4⟩ := hokb.obj hb hlt
  have hK := hE.1.2.2.2.2.2.2.2.2.1
  obtain ⟨hS, hcls⟩ := hK.1 cb _ hc
  obtain ⟨-, kA, comp, f1, f2, f3, f4, f5⟩ := hE.1.2.2.2.2.2.2.2.2.2.1 _ k1
  have hC : CLn cb = q.1 := by unfold CLn; rw [hc]
  have hcomp : comp = D.1 cb := Option.some.inj ((f4 _ hty).symm.trans (by rw [hC]; exact hcls.1))
  subst hcomp
  obtain ⟨kC, hkC, -⟩ := hcls.2
  have hx : inR x := ⟨by omega, by have := k3.2; omega⟩
  have ai := arr_in hx h0 h1
  refine W.aast hE.1.1 hE.1.2.1 k4 (fun q h => by cases h) (fun h => by cases h) f1 f2 (by rw [hty]; rfl) hkC ⟨fun z => ai (Or.inl z), by rw [arrV_size]; exact Nat.not_le.mp (fun z => ai (Or.inr z))⟩ q1 (fun q h => by rw [q3] at h; cases h) (by rw [q2]; exact hkC) (by rw [q2]; exact va_asg _ _) rfl rfl hd (fun H1 e1 z1 o1 => ?_)
  rw [i_clamp hx] at e1 ⊢
  refine W_tight (kk D DA B0 CN CS p l e R s m args below meth c H1 _ ls' hfl (hE.arr hk hk2 e1 z1 o1 rfl rfl rfl rfl rfl rfl hin (fun b hb j => ⟨rfl, ?_, rfl⟩) ?_ (fun j hj => ?_)))
  · rw [hr_setR, up2_ne _ _ (fun q => hb q.1)]
  · rw [sv_R (by rw [hty]; rfl), ht, hr_setR, up2_same]
    rfl
  · unfold sv
    rw [hr_setR, up2_ne _ _ (fun q => by omega)]
    rfl
theorem wp_aastN {a : Nat} {x : Int} {C : String} (hd : decode (mB i) pc = .ok (.aastore, 1)) (hk : 100 ≤ kd h a) (hk2 : kd h a ≠ 200) (hty : AT (kd h a) = .object C) (h0 : 0 ≤ x) (h1 : x < ln h a) (kk : wp i (pc + 1) ls st (setR h a x none) Q X) : wp i pc ls (vR none :: vI x :: vR (some a) :: st) h Q X := by
  intro D DA B0 CN CS p l e R s m args below meth c H locs ls' hfl hE
  have hoka := (hE.2.1.2.2.2.2.2.2.2.2 a (by omega)).2
  have ht : (x.toNat : Int) = x := Int.toNat_of_nonneg h0
  have hin := hE.2.1.2.2.2.2.2.2.2.1
  obtain ⟨k1, k2, k3, k4⟩ := hoka.arr hk hk2
  have hx : inR x := ⟨by omega, by have := k3.2; omega⟩
  refine va_WaastN hE.1.1 hE.1.2.1 k4 (C := C) (by have := (hE.1.2.2.2.2.2.2.2.2.2.1 _ k1).1 (ln h a).toNat (fun j => sv (AT (kd h a)) h a j); rw [hty] at this ⊢; exact this) (fun q => by cases q) (by rw [arrV_size]; exact arr_in hx h0 h1) rfl rfl hd (fun H1 e1 z1 o1 => ?_)
  rw [i_clamp hx] at e1 ⊢
  refine W_tight (kk D DA B0 CN CS p l e R s m args below meth c H1 _ ls' hfl (hE.arr hk hk2 e1 z1 o1 rfl rfl rfl rfl rfl rfl hin (fun b hb j => ⟨rfl, ?_, rfl⟩) ?_ (fun j hj => ?_)))
  · rw [hr_setR, up2_ne _ _ (fun q => hb q.1)]
  · rw [sv_R (by rw [hty]; rfl), ht, hr_setR, up2_same]
    rfl
  · unfold sv
    rw [hr_setR, up2_ne _ _ (fun q => by omega)]
    rfl
/-- a row of numbers into an array of such rows -/
theorem wp_aastA {a b : Nat} {x : Int} (hd : decode (mB i) pc = .ok (.aastore, 1)) (hk : kd h a = 103) (hb : kd h b = 100) (h0 : 0 ≤ x) (h1 : x < ln h a) (kk : wp i (pc + 1) ls st (setR h a x (some b)) Q X) : wp i pc ls (vR (some b) :: vI x :: vR (some a) :: st) h Q X := by
  intro D DA B0 CN CS p l e R s m args below meth c H locs ls' hfl hE
  have hoka := (hE.2.1.2.2.2.2.2.2.2.2 a (by omega)).2
  have hokb := (hE.2.1.2.2.2.2.2.2.2.2 b (by omega)).2
  have ht : (x.toNat : Int) = x := Int.toNat_of_nonneg h0
  have hin := hE.2.1.2.2.2.2.2.2.2.1
  obtain ⟨k1, k2, k3, k4⟩ := hoka.arr (by omega) (by omega)
  obtain ⟨j1, j2, j3, j4⟩ := hokb.arr (by omega) (by omega)
  have hty : AT (kd h a) = .array .int := by rw [hk]; rfl
  obtain ⟨-, kA, comp, f1, f2, f3, f4, f5⟩ := hE.1.2.2.2.2.2.2.2.2.2.1 _ k1
  obtain ⟨-, kB, compB, w1, w2, w3, -, -⟩ := hE.1.2.2.2.2.2.2.2.2.2.1 _ j1
  have hcomp : comp = DA (kd h b) := by
    have e1 := f5 _ hty
    rw [hb] at w3 ⊢
    have e2 : s.vm.findClass (FieldType.array .int).toString = some (DA 100) := w3
    exact Option.some.inj (e1.symm.trans e2)
  subst hcomp
  have hx : inR x := ⟨by omega, by have := k3.2; omega⟩
  have ai := arr_in hx h0 h1
  refine W.aast hE.1.1 hE.1.2.1 k4 (fun q h => by cases h) (fun h => by cases h) f1 f2 (by rw [hty]; rfl) w1 ⟨fun z => ai (Or.inl z), by rw [arrV_size]; exact Nat.not_le.mp (fun z => ai (Or.inr z))⟩ j4 (fun q h => by cases h) w1 (va_asg _ _) rfl rfl hd (fun H1 e1 z1 o1 => ?_)
  rw [i_clamp hx] at e1 ⊢
  refine W_tight (kk D DA B0 CN CS p l e R s m args below meth c H1 _ ls' hfl (hE.arr (by omega) (by omega) e1 z1 o1 rfl rfl rfl rfl rfl rfl hin (fun b hb j => ⟨rfl, ?_, rfl⟩) ?_ (fun j hj => ?_)))
  · rw [hr_setR, up2_ne _ _ (fun q => hb q.1)]
  · rw [sv_R (by rw [hty]; rfl), ht, hr_setR, up2_same]
    rfl
  · unfold sv
    rw [hr_setR, up2_ne _ _ (fun q => by omega)]
    rfl
/-- a new cell -/
theorem rep.new {K : Nat} {n : Int} {x : Cell} {H1 : Heap} (hrep : rep D DA B0 CN CS s H h) (z1 : H1.size = H.size + 1) (o1 : ∀ q : Nat, q < H.size → H1[q]? = H[q]?) (e1 : H1[H.size]? = some x) (hs : x.slots.size = n.toNat) (r1 : nx h + 1 ≤ CN) (r2 : us h + n.toNat ≤ CS) (hok : okAt D DA s H1 (mkO h K n) (nx h)) : rep D DA B0 CN CS s H1 (mkO h K n) := by
  have hlt := fun a (ha : kd h a ≠ 0) => hrep.lt ha
  obtain ⟨k1, k2, k3, k4, k5, k6, k7, k8, k9⟩ := hrep
  refine ⟨by rw [z1, k1]; rfl, by rw [ssum_new z1 o1 e1, hs, k2]; rfl, k3, k4, r1, r2, by rw [nx_mkO]; omega, fun a k => ?_, fun b hb => ?_⟩
  · rw [hi_mkO]
    unfold up1
    split
    · show inR 0
      exact ⟨by decide, by decide⟩
    · exact k8 a k
  · by_cases hbn : b = nx h
    · subst hbn
      exact ⟨Or.inr k7, hok⟩
    · have hk : kd (mkO h K n) b = kd h b := by rw [kd_mkO, up1_ne _ _ hbn]
      rw [hk] at hb ⊢
      have hbl := hlt b hb
      refine ⟨(k9 b hb).1, (k9 b hb).2.kept (o1 b (by omega)) hk ?_ (fun j => ?_) (fun j => ?_) (fun j => ?_)⟩
      · rw [ln_mkO, up1_ne _ _ hbn]
      · rw [hi_mkO, up1_ne _ _ hbn]
      · rw [hr_mkO, up1_ne _ _ hbn]
      · rw [hl_mkO, up1_ne _ _ hbn]
theorem sv_new {K : Nat} {n : Int} {ty : FieldType} (hty : okTy ty = true) (j : Int) : sv ty (mkO h K n) (nx h) j = defaultValue ty := by
  rw [vOf_default hty]
  unfold sv
  rw [hi_mkO, hr_mkO, hl_mkO, up1_same, up1_same, up1_same]
theorem En.new {K : Nat} {n : Int} {x : Cell} {H1 : Heap} (hE : En i D DA B0 CN CS p R s m meth c H locs ls' ls h) (z1 : H1.size = H.size + 1) (o1 : ∀ q : Nat, q < H.size → H1[q]? = H[q]?) (e1 : H1[H.size]? = some x) (hs : x.slots.size = n.toNat) (r1 : nx h + 1 ≤ cn h) (r2 : us h + n.toNat ≤ cs h) (hok : okAt D DA s H1 (mkO h K n) (nx h)) : En i D DA B0 CN CS p R s m meth c H1 locs ls' ls (mkO h K n) := by
  obtain ⟨a1, a2, a3, a4, a5, a6, a7⟩ := hE
  exact ⟨a1, a2.new z1 o1 e1 hs (by rw [← a2.2.2.1]; exact r1) (by rw [← a2.2.2.2.1]; exact r2) hok, a3, a4, by omega, by rw [ssum_new z1 o1 e1]; omega, a7⟩
theorem En.room {n : Nat} (hE : En i D DA B0 CN CS p R s m meth c H locs ls' ls h) (r1 : nx h + 1 ≤ cn h) (r2 : us h + n ≤ cs h) : H.size - s.heap.size + 1 ≤ R.cells ∧ ssum H - ssum s.heap + n ≤ R.slots := by
  obtain ⟨a1, ⟨b1, b2, b3, b4, b5, b6, b7, b8⟩, a3, a4, a5, a6, a7, a8, a9⟩ := hE
  rw [a7, a8, b1, b2]
  rw [b1] at a5
  rw [b2] at a6
  omega
theorem wp_new {idx ci n : Nat} {C : String} (hd : decode (mB i) pc = .ok (.new idx, 3)) (hcl : okw (.classLink (mY i).cls idx C)) (hci : okw (.instantiable C n) ∧ okw (.initialized C)) (hC : ∃ F, CL[ci]? = some (C, F, n)) (hty : ∀ k : Nat, k < n → okTy (cT (ci + 1) k) = true) (r1 : nx h + 1 ≤ cn h) (r2 : us h + n ≤ cs h)
    (kk : wp i (pc + 3) ls (vR (some (nx h)) :: st) (mkO h (ci + 1) n) Q X) : wp i pc ls st h Q X := by
  intro D DA B0 CN CS p l e R s m args below meth c H locs ls' hfl hE
  obtain ⟨F, hC⟩ := hC
  obtain ⟨hx, hb, -, -, -, hown, -, hok, hK, -⟩ := hE.1
  have hr := hE.room r1 (n := n) r2
  have hKn := hK.1 ci _ hC
  obtain ⟨c1, c2, c3, c4⟩ := CL_ok ci _ hC
  have hts : ∀ w ∈ u_ws C F n, w.before args s = true := fun w h => hok w (c1 w h) _
  refine W.newcK hx hb hown (hok _ hcl _) (hok _ hci.1 _) (hok _ hci.2 _) rfl hd hr.1 hr.2 hKn.2.1 rfl fun H1 kC hkC e1 z1 o1 => ?_
  have hsz : (blank (D.1 ci) kC).slots.size = n := by
    obtain ⟨c9, k9, h1, h2, -, -, -, h3⟩ := Cond.instantiable_spec (hok _ hci.1 #[])
    have : c9 = D.1 ci := Option.some.inj (h1.symm.trans hKn.2.1)
    subst this
    cases hkC.symm.trans h2
    simp [blank, h3]
  have hnx : H.size = nx h := hE.2.1.1
  refine W_tight ?_
  have hE1 := hE.new (K := ci + 1) (n := (n : Int)) z1 o1 e1 (by rw [hsz]; simp) r1 (by simpa using r2) ?_
  · have := kk D DA B0 CN CS p l e R s m args below meth c H1 locs ls' hfl hE1
    rw [hnx]
    exact this
  · rw [hnx] at e1
    refine Or.inl ?_
    rw [kd_mkO, up1_same]
    refine ⟨by have := CL_lt hC; omega, _, hC, ?_⟩
    refine (u_born (cT (ci + 1)) hts (fun _ h => h) hKn hkC e1 c3).to (fun k hk => ?_)
    exact (sv_new (hty k hk) _).symm
theorem wp_newa {at0 : ArrayType} {K : Nat} {n : Int} (hd : decode (mB i) pc = .ok (.newarray at0, 2)) (hT : newarray.typeOf at0 = AT K) (hKA : K ∈ KA) (hw : okw (.arrayClass (AT K))) (hty : okTy (AT K) = true) (h0 : 0 ≤ n) (h1 : n ≤ 10000000) (hb8 : componentBytes (AT K) ≤ 8) (r1 : nx h + 1 ≤ cn h) (r2 : us h + n.toNat ≤ cs h)
    (kk : wp i (pc + 2) ls (vR (some (nx h)) :: st) (mkO h K n) Q X) : wp i pc ls (vI n :: st) h Q X := by
  intro D DA B0 CN CS p l e R s m args below meth c H locs ls' hfl hE
  obtain ⟨hx, hb, -, -, -, hown, -, hok, hK, hA, -⟩ := hE.1
  have hr := hE.room r1 (n := n.toNat) r2
  have hn : inR n := ⟨by omega, by omega⟩
  have hcl : (Int32.ofInt n).toNatClampNeg = n.toNat := i_clamp hn
  refine W.newa hx hb (atype := at0) (by rw [hT]; exact hok _ hw _) rfl hd rfl (by rw [i_neg hn]; omega) (by
    rw [hcl, hT]
    have : n.toNat * componentBytes (AT K) ≤ 10000000 * 8 := Nat.mul_le_mul (by omega) hb8
    omega) hr.1 (by rw [hcl]; exact hr.2) (fun cA kA comp f1 f2 f3 => ?_)
  rw [hcl, hT]
  obtain ⟨hAO, kA', comp', w1, w2, w3, -⟩ := hA K hKA
  rw [hT] at f1
  have hcA : cA = DA K := Option.some.inj (f1.symm.trans w3)
  subst hcA
  have hnx : H.size = nx h := hE.2.1.1
  rw [arrV_new]
  refine W_tight ?_
  have e1 : (H.push (arrV (DA K) n.toNat (fun _ => defaultValue (AT K))))[H.size]? = some (arrV (DA K) n.toNat (fun _ => defaultValue (AT K))) := by simp
  have o1 : ∀ q : Nat, q < H.size → (H.push (arrV (DA K) n.toNat (fun _ => defaultValue (AT K))))[q]? = H[q]? := fun q hq => by
    rw [Array.getElem?_push, if_neg (by omega)]
  have hE1 := hE.new (K := K) (n := n) (by simp) o1 e1 (arrV_size _ _ _) r1 r2 ?_
  · have := kk D DA B0 CN CS p l e R s m args below meth c _ locs ls' hfl hE1
    rw [hnx]
    exact this
  · rw [hnx] at e1
    refine Or.inr (Or.inr ?_)
    rw [kd_mkO, up1_same, ln_mkO, up1_same]
    refine ⟨hKA, h0, hn, ?_⟩
    rw [e1]
    exact congrArg (fun f => some (arrV (DA K) n.toNat f)) (funext fun j => (sv_new hty _).symm)
theorem wp_anew {idx K : Nat} {n : Int} {C : String} (hd : decode (mB i) pc = .ok (.anewarray idx, 3)) (hcl : okw (.classLink (mY i).cls idx C)) (hT : AT K = .object C) (hKA : K ∈ KA) (hw : okw (.arrayOver (AT K))) (h0 : 0 ≤ n) (h1 : n ≤ 10000000) (r1 : nx h + 1 ≤ cn h) (r2 : us h + n.toNat ≤ cs h)
    (kk : wp i (pc + 3) ls (vR (some (nx h)) :: st) (mkO h K n) Q X) : wp i pc ls (vI n :: st) h Q X := by
  intro D DA B0 CN CS p l e R s m args below meth c H locs ls' hfl hE
  obtain ⟨hx, hb, -, -, -, hown, -, hok, hK, hA, -⟩ := hE.1
  have hr := hE.room r1 (n := n.toNat) r2
  have hn : inR n := ⟨by omega, by omega⟩
  have hcl9 : (Int32.ofInt n).toNatClampNeg = n.toNat := i_clamp hn
  refine W.anew hx hb hown (hok _ hcl _) (by rw [← hT]; exact hok _ hw _) rfl hd rfl (by rw [i_neg hn]; omega) (by rw [hcl9]; omega) hr.1 (by rw [hcl9]; exact hr.2) (fun cA kA comp f1 f2 f3 f4 => ?_)
  rw [hcl9]
  obtain ⟨hAO, kA', comp', w1, w2, w3, -⟩ := hA K hKA
  rw [hT] at w3
  have hcA : cA = DA K := Option.some.inj (f1.symm.trans w3)
  subst hcA
  have hnx : H.size = nx h := hE.2.1.1
  rw [arrV_new]
  refine W_tight ?_
  have e1 : (H.push (arrV (DA K) n.toNat (fun _ => Value.null)))[H.size]? = some (arrV (DA K) n.toNat (fun _ => Value.null)) := by simp
  have o1 : ∀ q : Nat, q < H.size → (H.push (arrV (DA K) n.toNat (fun _ => Value.null)))[q]? = H[q]? := fun q hq => by
    rw [Array.getElem?_push, if_neg (by omega)]
  have hE1 := hE.new (K := K) (n := n) (by simp) o1 e1 (arrV_size _ _ _) r1 r2 ?_
  · have := kk D DA B0 CN CS p l e R s m args below meth c _ locs ls' hfl hE1
    rw [hnx]
    exact this
  · rw [hnx] at e1
    refine Or.inr (Or.inr ?_)
    rw [kd_mkO, up1_same, ln_mkO, up1_same]
    refine ⟨hKA, h0, hn, ?_⟩
    rw [e1]
    refine congrArg (fun f => some (arrV (DA K) n.toNat f)) (funext fun j => ?_)
    rw [sv_new (by rw [hT]; rfl), hT]
    rfl
theorem wp_anewA {idx : Nat} {n : Int} (hd : decode (mB i) pc = .ok (.anewarray idx, 3)) (hcl : okw (.classLink (mY i).cls idx "[I")) (hw : okw (.arrayOver (AT 103))) (h0 : 0 ≤ n) (h1 : n ≤ 10000000) (r1 : nx h + 1 ≤ cn h) (r2 : us h + n.toNat ≤ cs h)
    (kk : wp i (pc + 3) ls (vR (some (nx h)) :: st) (mkO h 103 n) Q X) : wp i pc ls (vI n :: st) h Q X := by
  intro D DA B0 CN CS p l e R s m args below meth c H locs ls' hfl hE
  obtain ⟨hx, hb, -, -, -, hown, -, hok, hK, hA, -⟩ := hE.1
  have hr := hE.room r1 (n := n.toNat) r2
  have hn : inR n := ⟨by omega, by omega⟩
  have hcl9 : (Int32.ofInt n).toNatClampNeg = n.toNat := i_clamp hn
  refine W.anewA (t := .int) hx hb hown (hok _ hcl _) (hok _ hw _) rfl hd rfl (by rw [i_neg hn]; omega) (by rw [hcl9]; omega) hr.1 (by rw [hcl9]; exact hr.2) (fun cA kA comp f1 f2 f3 f4 => ?_)
  rw [hcl9]
  have hKA : 103 ∈ KA := by decide
  obtain ⟨hAO, kA', comp', w1, w2, w3, -⟩ := hA 103 hKA
  have hcA : cA = DA 103 := Option.some.inj (f1.symm.trans w3)
  subst hcA
  have hnx : H.size = nx h := hE.2.1.1
  rw [arrV_new]
  refine W_tight ?_
  have e1 : (H.push (arrV (DA 103) n.toNat (fun _ => Value.null)))[H.size]? = some (arrV (DA 103) n.toNat (fun _ => Value.null)) := by simp
  have o1 : ∀ q : Nat, q < H.size → (H.push (arrV (DA 103) n.toNat (fun _ => Value.null)))[q]? = H[q]? := fun q hq => by
    rw [Array.getElem?_push, if_neg (by omega)]
  have hE1 := hE.new (K := 103) (n := n) (by simp) o1 e1 (arrV_size _ _ _) r1 r2 ?_
  · have := kk D DA B0 CN CS p l e R s m args below meth c _ locs ls' hfl hE1
    rw [hnx]
    exact this
  · rw [hnx] at e1
    refine Or.inr (Or.inr ?_)
    rw [kd_mkO, up1_same, ln_mkO, up1_same]
    refine ⟨hKA, h0, hn, ?_⟩
    rw [e1]
    refine congrArg (fun f => some (arrV (DA 103) n.toNat f)) (funext fun j => ?_)
    rw [sv_new (by rfl)]
    rfl
end HN
end
section
/-! ===== THE LOGIC, part 5: ends and calls ===== -/
section HC
variable {i pc : Nat} {ls : List (Option AV)} {st : List AV} {h : Hp} {Q : Option AV → Hp → Prop} {X : String → Hp → Prop}
theorem En.end_ {D : va_G} {DA : Nat → ClassId} {B0 CN CS : Nat} {p : Program} {R : Room} {s : State} {m : MethodId} {meth : Method} {c : Code} {H : Heap} {locs : List Loc} {ls' : Array Slot} (hE : En i D DA B0 CN CS p R s m meth c H locs ls' ls h) : H.size - s.heap.size ≤ R.cells ∧ ssum H - ssum s.heap ≤ R.slots := by
  obtain ⟨a1, ⟨b1, b2, b3, b4, b5, b6, b7, b8⟩, a3, a4, a5, a6, a7, a8, a9⟩ := hE
  rw [a7, a8, b1, b2]
  rw [b1] at a5
  rw [b2] at a6
  omega
theorem En.post {D : va_G} {DA : Nat → ClassId} {B0 CN CS : Nat} {p : Program} {R : Room} {s : State} {m : MethodId} {meth : Method} {c : Code} {H : Heap} {locs : List Loc} {ls' : Array Slot} (hE : En i D DA B0 CN CS p R s m meth c H locs ls' ls h) {v : Option AV} (hq : Q v h) (t : State) (ht : t.heap = H) (hW : s.WarmedH t.vm) : ∃ v' h', (.returned (v.map conc) : Outcome) = .returned (v'.map conc) ∧ Q v' h' ∧ rep D DA B0 CN CS t t.heap h' := by
  refine ⟨v, h, rfl, hq, ?_⟩
  rw [ht]
  exact hE.2.1.moved hW.alike
theorem wp_iret {x : Int} (hd : decode (mB i) pc = .ok (.ireturn, 1)) (hr : mR i = some .int) (hq : Q (some (vI x)) h) : wp i pc ls [vI x] h Q X := by
  intro D DA B0 CN CS p l e R s m args below meth c H locs ls' hfl hE
  have hlk := hE.1.2.2.2.2.1
  refine W.widen hE.end_.1 hE.end_.2 (vx_ret ?_)
  exact W.iret (v := Int32.ofInt x) hE.1.1 hE.1.2.1 (hE.1.2.2.2.1.trans hr) (fun t ht hW => hE.post (v := some (vI x)) hq t ht hW) hE.2.2.2.1 hd
theorem wp_zret {x : Int} (hd : decode (mB i) pc = .ok (.ireturn, 1)) (hr : mR i = some .boolean) (hx : x = 0 ∨ x = 1) (hq : Q (some (vI x)) h) : wp i pc ls [vI x] h Q X := by
  intro D DA B0 CN CS p l e R s m args below meth c H locs ls' hfl hE
  have hlk := hE.1.2.2.2.2.1
  refine W.widen hE.end_.1 hE.end_.2 (vx_ret ?_)
  exact W.zret (v := Int32.ofInt x) (ty := .boolean) hE.1.1 hE.1.2.1 (hE.1.2.2.2.1.trans hr) (fit_I (ty := .boolean) rfl (fun _ => hx)).1 (fun t ht hW => hE.post (v := some (vI x)) hq t ht hW) hE.2.2.2.1 hd
theorem wp_lret {x : Int} (hd : decode (mB i) pc = .ok (.lreturn, 1)) (hr : mR i = some .long) (hq : Q (some (vL x)) h) : wp i pc ls [vL x] h Q X := by
  intro D DA B0 CN CS p l e R s m args below meth c H locs ls' hfl hE
  have hlk := hE.1.2.2.2.2.1
  refine W.widen hE.end_.1 hE.end_.2 (vx_ret ?_)
  exact W.lret (v := Int64.ofInt x) hE.1.1 hE.1.2.1 (hE.1.2.2.2.1.trans hr) (fun t ht hW => hE.post (v := some (vL x)) hq t ht hW) hE.2.2.2.1 hd
theorem wp_dret {x : UInt64} (hd : decode (mB i) pc = .ok (.dreturn, 1)) (hr : mR i = some .double) (hq : Q (some (vD x)) h) : wp i pc ls [vD x] h Q X := by
  intro D DA B0 CN CS p l e R s m args below meth c H locs ls' hfl hE
  have hlk := hE.1.2.2.2.2.1
  refine W.widen hE.end_.1 hE.end_.2 (vx_ret ?_)
  exact W.dret (v := x) hE.1.1 hE.1.2.1 (hE.1.2.2.2.1.trans hr) (fun t ht hW => hE.post (v := some (vD x)) hq t ht hW) hE.2.2.2.1 hd
theorem wp_aret {x : Option Nat} {ty : FieldType} (hd : decode (mB i) pc = .ok (.areturn, 1)) (hr : mR i = some ty) (hty : isRf ty = true) (hq : Q (some (vR x)) h) : wp i pc ls [vR x] h Q X := by
  intro D DA B0 CN CS p l e R s m args below meth c H locs ls' hfl hE
  have hlk := hE.1.2.2.2.2.1
  refine W.widen hE.end_.1 hE.end_.2 (vx_ret ?_)
  refine W.aret (v := va_rf x) (rt := ty) hE.1.1 hE.1.2.1 (hE.1.2.2.2.1.trans hr) ?_ ?_ (fun t ht hW => hE.post (v := some (vR x)) hq t ht hW) hE.2.2.2.1 hd
  · cases ty <;> first | exact Or.inl ⟨_, rfl⟩ | exact Or.inr ⟨_, rfl⟩ | cases hty
  · cases x
    · exact Or.inl rfl
    · exact Or.inr ⟨_, rfl⟩
theorem wp_vret (hd : decode (mB i) pc = .ok (.return_, 1)) (hr : mR i = none) (hq : Q none h) : wp i pc ls [] h Q X := by
  intro D DA B0 CN CS p l e R s m args below meth c H locs ls' hfl hE
  have hlk := hE.1.2.2.2.2.1
  refine W.widen hE.end_.1 hE.end_.2 (vx_ret ?_)
  exact W.vret hE.1.1 hE.1.2.1 (hE.1.2.2.2.1.trans hr) (fun t ht hW => hE.post (v := none) hq t ht hW) hE.2.2.2.1 hd
end HC
/-! a method as a contract -/
/-- what a callee finds at its start -/
def PcA (D : va_G) (DA : Nat → ClassId) (B0 CN CS : Nat) (as : List AV) (h : Hp) : Array Value → State → Prop := va_Pc (as.map conc) (fun U => okS U ∧ va_K D CL [] U ∧ (∀ K ∈ KA, arrF U (DA K) (AT K)) ∧ rep D DA B0 CN CS U U.heap h)
theorem PcA_blind (D : va_G) (DA : Nat → ClassId) (B0 CN CS : Nat) (as : List AV) (h : Hp) : FrameBlind (PcA D DA B0 CN CS as h) := by
  intro a U g mk hp
  obtain ⟨h1, h2, h3, h4, h5⟩ := hp
  have hW : U.WarmedH (U.calling g mk a).vm := State.WarmedH.refl U
  exact ⟨h1, okS_warm hW h2, h3.moved hW.alike, fun K hK => (h4 K hK).moved hW.alike, h5.moved hW.alike⟩
def rmA (j CN CS : Nat) (h : Hp) : Room := { frames := mF j, cells := CN - nx h, slots := CS - us h, locals := mK j }
theorem ofW_F {l : Launch} {y : MethodName} {ws ws' : List Cond} {rm : Room} {Pc : Array Value → State → Prop} {Qc : Array Value → State → Outcome → State → Prop} {XC : String → State → State → Prop} {mc ms : Nat} {free : Addr → Prop} {cc : ByteArray} {maxL : Nat} {ret : Option FieldType}
    (hy : plainFor y = true) (hw : ws = Cond.code y cc maxL ret :: ws')
    (body : ∀ p e s m args below meth c s₁, BodyLoose p l y (headSpec ws rm) cc maxL ret e s m args below meth c s₁ → c.maxLocals = maxL → c.exceptionTable.toList = [] → Pc args s →
      W p l e (headSpec ws rm).room s m args below meth c s.heap [] 0 0 (vx_MQ below Qc XC args s mc ms free) (entryFrame m args maxL)) : vx_Met l y ws rm Pc Qc XC mc ms free := by
  refine MetFree.of_bodySF (code := cc) (maxLocals := maxL) (ret := ret) hy ?_ ?_
  · intro args s m h hn
    obtain ⟨meth, c, h1, h2, h3, h4, h5, h6, -, -⟩ := Cond.code_spec hn (atoms_spec (ws := ws) h _ (by rw [hw]; exact List.mem_cons_self))
    exact ⟨meth, c, h1, h2, h3, h4, h5, h6⟩
  · intro p e s m args below meth c s₁ B hml hP _
    have hh0 : s₁.heap = s.heap := by rw [B.state]; rfl
    have ht : c.exceptionTable.toList = [] := by
      obtain ⟨meth9, c9, h1, h2, -, -, -, -, h7, -⟩ := Cond.code_spec B.named (atoms_spec (ws := ws) B.pre _ (by rw [hw]; exact List.mem_cons_self))
      cases Option.some.inj (h1.symm.trans B.method)
      cases Option.some.inj (h2.symm.trans (Stand.of_body B).code)
      simpa using h7
    obtain ⟨t, a1, o, b1, b2, b3⟩ := body p e s m args below meth c s₁ B hml ht hP s₁ hh0 (Stand.of_body B)
    exact ⟨t, o, a1, b1, b2, b3⟩
abbrev QcA (D : va_G) (DA : Nat → ClassId) (B0 CN CS : Nat) (Q : Option AV → Hp → Prop) : Array Value → State → Outcome → State → Prop := fun _ _ o t => ∃ v h', o = .returned (v.map conc) ∧ Q v h' ∧ rep D DA B0 CN CS t t.heap h'
abbrev XcA (D : va_G) (DA : Nat → ClassId) (B0 CN CS : Nat) (X : String → Hp → Prop) : String → State → State → Prop := fun E _ t => ∃ h', X E h' ∧ rep D DA B0 CN CS t t.heap h'
/-- the method j, walked from its entry, as a contract -/
theorem wp_met {l : Launch} (hfl : l.flags = flags0) {j : Nat} {as : List AV} {h : Hp} {Q : Option AV → Hp → Prop} {X : String → Hp → Prop} (D : va_G) (DA : Nat → ClassId) (B0 CN CS : Nat) (hcd : cdP j) (hmx : mX j = []) (hsl : (lg_sl (as.map conc)).length ≤ mL j) (k : wp j 0 (entL as (mL j)) [] h Q X) (hcap : CN - nx h = CN - nx h) :
    vx_Met l (mY j) [Cond.code (mY j) (mB j) (mL j) (mR j)] (rmA j CN CS h) (PcA D DA B0 CN CS as h) (QcA D DA B0 CN CS Q) (XcA D DA B0 CN CS X) (CN - nx h) (CS - us h) (fun q => B0 ≤ q) := by
  refine ofW_F (cc := mB j) (maxL := mL j) (ret := mR j) hcd.2.1 rfl ?_
  intro p e s m args below meth c s₁ B hml hex hp
  obtain ⟨rfl, h2, h3, h4, h5⟩ := hp
  have hx := B.exec
  have hb := B.bytes
  have hr := B.returns
  have hown : s.vm.findClass (mY j).cls = some m.cls := findClass_of_methodNamed B.named
  have hname : meth.name = (mY j).name := (name_of_methodNamed B.named B.method).1
  have hsz := h5.1
  have hss := h5.2.1
  have hB0 := h5.2.2.2.2.2.2.1
  rw [lg_entry_eq]
  have hl := lrel.entry (as := as) hsl
  have hE : En j D DA B0 CN CS p (rmA j CN CS h) s m meth c s.heap [] _ (entL as (mL j)) h :=
    ⟨⟨hx, hb, hml, hr, B.notSynchronized, hown, hname, h2, h3, h4, Nat.le_refl _, Nat.le_refl _, by rw [hex, hmx]⟩, h5, hl, (fun q hq => nomatch hq), Nat.le_refl _, Nat.le_refl _, (by rw [hsz]; rfl), (by rw [hss]; rfl), (by rw [hsz]; exact hB0)⟩
  exact W_tight (k D DA B0 CN CS p l e (rmA j CN CS h) s m _ below meth c s.heap [] _ hfl hE)
/-- an exception E, over the frame of method i at pc -/
def xp (i pc : Nat) (ls : List (Option AV)) (h : Hp) (E : String) (Q : Option AV → Hp → Prop) (X : String → Hp → Prop) : Prop :=
  ∀ (D : va_G) (DA : Nat → ClassId) (B0 CN CS : Nat) (p : Program) (l : Launch) (e : Env) (R : Room) (s : State) (m : MethodId) (args : Array Value) (below : List Frame) (meth : Method) (c : Code) (H : Heap) (locs : List Loc) (ls' : Array Slot) (q : Addr) (ce : Cell) (st' : List Value),
    l.flags = flags0 → En i D DA B0 CN CS p R s m meth c H locs ls' ls h → H[q]? = some ce → ce.vm = .none → s.vm.findClass E = some ce.cls →
    vx_W p l e R s m args below meth c H locs (H.size - s.heap.size) (ssum H - ssum s.heap) (QQ D DA B0 CN CS below args s R Q X) (F0 m pc ls' st') q
theorem vxW_tight {p : Program} {l : Launch} {e : Env} {R : Room} {s : State} {m : MethodId} {args : Array Value} {below : List Frame} {meth : Method} {c : Code} {H : Heap} {locs : List Loc} {cells slots : Nat} {Q : State → Prop} {g : JFrame} {q : Addr} (k : vx_W p l e R s m args below meth c H locs (H.size - s.heap.size) (ssum H - ssum s.heap) Q g q) : vx_W p l e R s m args below meth c H locs cells slots Q g q := by
  intro T hT X
  subst hT
  exact k T rfl (stand_tight X)
theorem xp_out {i pc : Nat} {ls : List (Option AV)} {h : Hp} {E : String} {Q : Option AV → Hp → Prop} {X : String → Hp → Prop} (hmx : mX i = []) (hx : X E h) : xp i pc ls h E Q X := by
  intro D DA B0 CN CS p l e R s m args below meth c H locs ls' q ce st' hfl hE hcell hv hcl
  refine vx_out (E := E) (fun x hxx => ?_) hE.1.2.2.2.2.1 hcell hv hcl (fun t ht hal => ⟨h, hx, ?_⟩) hE.2.2.2.1 hE.end_.1 hE.end_.2
  · rw [hE.1.2.2.2.2.2.2.2.2.2.2.2.2, hmx] at hxx
    cases hxx
  · rw [ht]
    exact hE.2.1.moved hal
section HD
variable {i pc : Nat} {ls : List (Option AV)} {st : List AV} {h : Hp} {Q : Option AV → Hp → Prop} {X : String → Hp → Prop}
theorem wp_after {D : va_G} {DA : Nat → ClassId} {B0 CN CS : Nat} {p : Program} {l : Launch} {e : Env} {R : Room} {s : State} {m : MethodId} {args : Array Value} {below : List Frame} {meth : Method} {c : Code} {H : Heap} {locs : List Loc} {ls' : Array Slot} {st0 : List Value} {a : Array Value} {mc ms : Nat} {Qj : Option AV → Hp → Prop} {Xj : String → Hp → Prop}
    (hfl : l.flags = flags0) (hE : En i D DA B0 CN CS p R s m meth c H locs ls' ls h)
    (hr : vx_Run p l e R s m args below meth c H locs (H.size - s.heap.size) (ssum H - ssum s.heap) mc ms (F0 m pc ls' st0) (st.map conc) (QcA D DA B0 CN CS Qj a) (XcA D DA B0 CN CS Xj) (fun q => B0 ≤ q))
    (kk : ∀ v h', Qj v h' → wp i (pc + 3) ls (v.toList ++ st) h' Q X) (kx : ∀ E h', Xj E h' → xp i pc ls h' E Q X) :
    W p l e R s m args below meth c H locs (H.size - s.heap.size) (ssum H - ssum s.heap) (QQ D DA B0 CN CS below args s R Q X) (F0 m pc ls' st0) := by
  intro T hT XX
  have mk : ∀ (T' t : State) (L : List Loc) (cells slots : Nat) (h' : Hp), Stand p l e R s m args below meth c T' (locs ++ L) cells slots → (∀ q ∈ L, B0 ≤ q.base) → T'.heap = t.heap → T'.vm = t.vm → rep D DA B0 CN CS t t.heap h' → En i D DA B0 CN CS p R s m meth c T'.heap (locs ++ L) ls' ls h' := by
    intro T' t L cells slots h' X' hL e1 e2 hrep
    obtain ⟨a1, a2, a3, a4, a5, a6, a7⟩ := hE
    obtain ⟨b1, b2, b3, b4, b5, b6⟩ := X'.same
    have hal : t.vm.Alike s.vm := by rw [← e2]; exact X'.warmed.alike.symm
    refine ⟨a1, ?_, a3, fun z hz => ?_, b2, ?_, a7⟩
    · rw [e1]
      exact hrep.moved hal
    · rcases List.mem_append.mp hz with h | h
      · exact a4 z h
      · exact hL z h
    · have e9 := ssum_split T'.heap s.heap.size
      have b2' : s.heap.size ≤ T'.heap.size := b2
      rw [ssum_same b2' (fun a c hc => by
        obtain ⟨c', g1, -, g3, -⟩ := b6 a c hc
        exact ⟨c', g1, g3⟩)] at e9
      omega
  rcases hr T hT XX with ⟨v, st₀, t, T', L, h0, X', hL, e1, e2, ⟨v', h', hv, hq, hrep⟩, st9⟩ | ⟨q, st₀, t, T', L, E, ce, h0, X', hL, e1, e2, ⟨h', hq, hrep⟩, hce, hcv, hcl, st9⟩
  · have hE' := mk T' t L _ _ h' X' hL e1 e2 hrep
    have hw := kk v' h' hq D DA B0 CN CS p l e R s m args below meth c T'.heap (locs ++ L) ls' hfl hE'
    cases hv
    obtain ⟨t2, a1, b1⟩ := (W_tight hw) T' rfl X'
    refine ⟨t2, st9 _ ?_, b1⟩
    have es : (v'.map conc).toList ++ st.map conc = (v'.toList ++ st).map conc := by cases v' <;> rfl
    show Steps p.tables e below (T'.setTop (F0 m (pc + 3) ls' ((v'.map conc).toList ++ st.map conc))) t2
    rw [es]
    exact a1
  · have hE' := mk T' t L _ _ h' X' hL e1 e2 hrep
    have hw := kx E h' hq D DA B0 CN CS p l e R s m args below meth c T'.heap (locs ++ L) ls' q ce (st.map conc) hfl hE' (by rw [e1]; exact hce) hcv hcl
    obtain ⟨t2, a1, b1⟩ := (vxW_tight hw) T' rfl X'
    exact ⟨t2, st9.trans a1, b1⟩
theorem PcA_of {D : va_G} {DA : Nat → ClassId} {B0 CN CS : Nat} {p : Program} {R : Room} {s : State} {m : MethodId} {meth : Method} {c : Code} {H : Heap} {locs : List Loc} {ls' : Array Slot} (hE : En i D DA B0 CN CS p R s m meth c H locs ls' ls h) (as : List AV) : ∀ U : State, U.heap = H → s.WarmedH U.vm → PcA D DA B0 CN CS as h (as.map conc).toArray U := by
  intro U hU hW
  obtain ⟨⟨hx, hb, -, -, -, hown, -, hok, hK, hA, -⟩, hrep, -⟩ := hE
  exact ⟨rfl, okS_warm hW hok, hK.moved hW.alike, fun K hK => (hA K hK).moved hW.alike, by rw [hU]; exact hrep.moved hW.alike⟩
theorem En.cap {D : va_G} {DA : Nat → ClassId} {B0 CN CS : Nat} {p : Program} {R : Room} {s : State} {m : MethodId} {meth : Method} {c : Code} {H : Heap} {locs : List Loc} {ls' : Array Slot} (hE : En i D DA B0 CN CS p R s m meth c H locs ls' ls h) : H.size - s.heap.size + (CN - nx h) ≤ R.cells ∧ ssum H - ssum s.heap + (CS - us h) ≤ R.slots := by
  obtain ⟨a1, ⟨b1, b2, b3, b4, b5, b6, b7, b8⟩, a3, a4, a5, a6, a7, a8, a9⟩ := hE
  rw [a7, a8, b1, b2]
  rw [b1] at a5
  rw [b2] at a6
  omega
theorem callB_A {R : Room} {s : State} {args : Array Value} {i idx j n CN CS : Nat} (hok : okS s) (hcd : cdP j) (hlen : (parseMethodDescriptor (mY j).desc).map (fun d => d.parameters.length) = some n) (hroom : mF j + 1 ≤ R.frames ∧ 8 + (mL j + 11) + mK j ≤ R.locals) :
    (∀ w ∈ [Cond.code (mY j) (mB j) (mL j) (mR j)], ∀ (a' : Array Value) (U : State), s.WarmedH U.vm → w.before a' U = true) ∧ (∀ sig, parseMethodDescriptor (mY j).desc = some sig → n = sig.parameters.length) := by
  refine ⟨fun w hw a' U hW => ?_, fun sig h => ?_⟩
  · have := List.mem_singleton.mp hw
    subst this
    exact okS_warm hW hok _ hcd.1 _
  · rw [h] at hlen
    exact (Option.some.inj hlen).symm
theorem lg_sl_le (as : List AV) : (lg_sl (as.map conc)).length = (as.flatMap fun v => if cat2 v = true then [some v, none] else [some v]).length := by
  unfold lg_sl
  induction as with
  | nil => rfl
  | cons a as ih =>
    simp only [List.map_cons, List.flatMap_cons, List.length_append, ih]
    congr 1
    rw [conc_cat]
    cases cat2 a <;> rfl
/-- a call by invokevirtual -/
theorem wp_callV {idx j n a : Nat} {as : List AV} {Qj : Option AV → Hp → Prop} {Xj : String → Hp → Prop} (hd : decode (mB i) pc = .ok (.invokevirtual idx, 3)) (hc : cvP i idx j n) (hmx : mX j = []) {st0 : List AV} (hs : st0 = as.reverse ++ vR (some a) :: st) (hn : as.length = n) (hC : ∃ ci, mC j = ci + 1 ∧ CLn ci = (mY j).cls ∧ ci < 99) (hk : kd h a = mC j)
    (hsl : ((vR (some a) :: as).flatMap fun v => if cat2 v = true then [some v, none] else [some v]).length ≤ mL j) (hst : (st.map fun v => if cat2 v = true then 2 else 1).sum ≤ 8)
    (hb : wp j 0 (entL (vR (some a) :: as) (mL j)) [] h Qj Xj) (kk : ∀ v h', Qj v h' → wp i (pc + 3) ls (v.toList ++ st) h' Q X) (kx : ∀ E h', Xj E h' → xp i pc ls h' E Q X) : wp i pc ls st0 h Q X := by
  intro D DA B0 CN CS p l e R s m args below meth c H locs ls' hfl hE
  obtain ⟨hcd, hl, hin, hsel, hlen, hroom⟩ := hc
  obtain ⟨hx, hbb, hml, -, -, hown, -, hok, hK, hA, hfr, hlo, -⟩ := hE.1
  have hroom' : mF j + 1 ≤ R.frames ∧ 8 + (mL j + 11) + mK j ≤ R.locals := ⟨by omega, by omega⟩
  obtain ⟨cb1, cb2⟩ := callB_A (args := args) (i := i) (idx := idx) (CN := CN) (CS := CS) hok hcd hlen hroom'
  have hM := wp_met hfl D DA B0 CN CS hcd hmx (by rw [lg_sl_le]; exact hsl) hb rfl
  obtain ⟨ci, hC1, hC2, hC3⟩ := hC
  have hcat : ((st.map conc).map fun v => v.category).sum ≤ 8 := by
    rw [List.map_map]
    have : (st.map ((fun v => v.category) ∘ conc)) = st.map fun v => if cat2 v = true then 2 else 1 := by
      apply List.map_congr_left
      intro v _
      exact conc_cat v
    rw [this]
    exact hst
  obtain ⟨q, hcq, cell, q1, q2, q3, q4⟩ := (hE.2.1.2.2.2.2.2.2.2.2 a (by omega)).2.obj (hk.trans hC1) hC3
  have hrun := vx_runV (p := p) (l := l) (e := e) (R := R) (s := s) (m := m) (args := args) (below := below) (meth := meth) (c := c) (H := H) (locs := locs) (cells := H.size - s.heap.size) (slots := ssum H - ssum s.heap) (Ts := []) (own := (mY i).cls) (C := (mY j).cls) (cc := mB i) (nL := mL i) (rest := st.map conc) (As := as.map conc) (b := a) (g := F0 m pc ls' (st0.map conc)) ⟨hx, hbb, hml, hown, fun _ h => by cases h⟩ hM (index := idx) (bytes := mB j) (maxL := mL j) (ret := mR j) (n := n)
    ⟨⟨rfl, rfl, hroom'.1, hroom'.2, cb1, List.mem_cons_self, hok _ hcd.1 _, hok _ hcd.2.2.2 _, hcd.2.2.1, cb2, hok _ hl _⟩, hok _ hin _, hok _ hsel _⟩
    ⟨PcA_blind _ _ _ _ _ _ _, ⟨cell, q1, by rw [q3]; rfl, by
      have e1 : q.1 = (mY j).cls := by rw [← hC2]; unfold CLn; rw [hcq]
      rw [q2, ← e1]
      exact (hK.1 ci _ hcq).2.1⟩, PcA_of hE (vR (some a) :: as)⟩ rfl (by rw [List.length_map]; exact hn) hE.2.2.1.1 (by rw [hs]; simp [conc, va_rf]) (lv_room hcat) hd hE.cap
  exact wp_after hfl hE hrun kk kx
theorem wp_callS {idx j n : Nat} {as : List AV} {Qj : Option AV → Hp → Prop} {Xj : String → Hp → Prop} (hd : decode (mB i) pc = .ok (.invokestatic idx, 3)) (hc : csP i idx j n) (hmx : mX j = []) {st0 : List AV} (hs : st0 = as.reverse ++ st) (hn : as.length = n)
    (hsl : (as.flatMap fun v => if cat2 v = true then [some v, none] else [some v]).length ≤ mL j) (hst : (st.map fun v => if cat2 v = true then 2 else 1).sum ≤ 8)
    (hb : wp j 0 (entL as (mL j)) [] h Qj Xj) (kk : ∀ v h', Qj v h' → wp i (pc + 3) ls (v.toList ++ st) h' Q X) (kx : ∀ E h', Xj E h' → xp i pc ls h' E Q X) : wp i pc ls st0 h Q X := by
  intro D DA B0 CN CS p l e R s m args below meth c H locs ls' hfl hE
  obtain ⟨hcd, hl, hstt, hlen, hroom⟩ := hc
  obtain ⟨hx, hbb, hml, -, -, hown, -, hok, hK, hA, hfr, hlo, -⟩ := hE.1
  have hroom' : mF j + 1 ≤ R.frames ∧ 8 + (mL j + 11) + mK j ≤ R.locals := ⟨by omega, by omega⟩
  obtain ⟨cb1, cb2⟩ := callB_A (args := args) (i := i) (idx := idx) (CN := CN) (CS := CS) hok hcd hlen hroom'
  have hM := wp_met hfl D DA B0 CN CS hcd hmx (by rw [lg_sl_le]; exact hsl) hb rfl
  have hcat : ((st.map conc).map fun v => v.category).sum ≤ 8 := by
    rw [List.map_map]
    have : (st.map ((fun v => v.category) ∘ conc)) = st.map fun v => if cat2 v = true then 2 else 1 := by
      apply List.map_congr_left
      intro v _
      exact conc_cat v
    rw [this]
    exact hst
  have hrun := vx_runS (p := p) (l := l) (e := e) (R := R) (s := s) (m := m) (args := args) (below := below) (meth := meth) (c := c) (H := H) (locs := locs) (cells := H.size - s.heap.size) (slots := ssum H - ssum s.heap) (Ts := []) (own := (mY i).cls) (cc := mB i) (nL := mL i) (rest := st.map conc) (As := as.map conc) (g := F0 m pc ls' (st0.map conc)) ⟨hx, hbb, hml, hown, fun _ h => by cases h⟩ hM (index := idx) (bytes := mB j) (maxL := mL j) (ret := mR j) (n := n)
    ⟨⟨rfl, rfl, hroom'.1, hroom'.2, cb1, List.mem_cons_self, hok _ hcd.1 _, hok _ hcd.2.2.2 _, hcd.2.2.1, cb2, hok _ hl _⟩, hok _ hstt _⟩
    ⟨PcA_blind _ _ _ _ _ _ _, PcA_of hE as⟩ rfl (by rw [List.length_map]; exact hn) hE.2.2.1.1 (by rw [hs]; simp) (lv_room hcat) hd hE.cap
  exact wp_after hfl hE hrun kk kx
theorem wp_callSn {idx j n : Nat} {as : List AV} {Qj : Option AV → Hp → Prop} {Xj : String → Hp → Prop} (hd : decode (mB i) pc = .ok (.invokestatic idx, 3)) (hc : csnP i idx j n) (hmx : mX j = []) {st0 : List AV} (hs : st0 = as.reverse ++ st) (hn : as.length = n)
    (hsl : (as.flatMap fun v => if cat2 v = true then [some v, none] else [some v]).length ≤ mL j) (hst : (st.map fun v => if cat2 v = true then 2 else 1).sum ≤ 8)
    (hb : wp j 0 (entL as (mL j)) [] h Qj Xj) (kk : ∀ v h', Qj v h' → wp i (pc + 3) ls (v.toList ++ st) h' Q X) (kx : ∀ E h', Xj E h' → xp i pc ls h' E Q X) : wp i pc ls st0 h Q X := by
  intro D DA B0 CN CS p l e R s m args below meth c H locs ls' hfl hE
  obtain ⟨hcd, ⟨host, hl⟩, hstt, hlen, hroom⟩ := hc
  obtain ⟨hx, hbb, hml, -, -, hown, -, hok, hK, hA, hfr, hlo, -⟩ := hE.1
  have hroom' : mF j + 1 ≤ R.frames ∧ 8 + (mL j + 11) + mK j ≤ R.locals := ⟨by omega, by omega⟩
  obtain ⟨cb1, cb2⟩ := callB_A (args := args) (i := i) (idx := idx) (CN := CN) (CS := CS) hok hcd hlen hroom'
  have hM := wp_met hfl D DA B0 CN CS hcd hmx (by rw [lg_sl_le]; exact hsl) hb rfl
  have hcat : ((st.map conc).map fun v => v.category).sum ≤ 8 := by
    rw [List.map_map]
    have : (st.map ((fun v => v.category) ∘ conc)) = st.map fun v => if cat2 v = true then 2 else 1 := by
      apply List.map_congr_left
      intro v _
      exact conc_cat v
    rw [this]
    exact hst
  have hrun := vx_runSN (p := p) (l := l) (e := e) (R := R) (s := s) (m := m) (args := args) (below := below) (meth := meth) (c := c) (H := H) (locs := locs) (cells := H.size - s.heap.size) (slots := ssum H - ssum s.heap) (Ts := []) (own := (mY i).cls) (host := host) (cc := mB i) (nL := mL i) (rest := st.map conc) (As := as.map conc) (g := F0 m pc ls' (st0.map conc)) ⟨hx, hbb, hml, hown, fun _ h => by cases h⟩ hM (index := idx) (bytes := mB j) (maxL := mL j) (ret := mR j) (n := n)
    ⟨⟨⟨rfl, rfl, hroom'.1, hroom'.2, cb1, List.mem_cons_self⟩, hok _ hcd.1 _, hok _ hcd.2.2.2 _, hcd.2.2.1, cb2, hok _ hl _⟩, hok _ hstt _, trivial⟩
    ⟨PcA_blind _ _ _ _ _ _ _, PcA_of hE as⟩ rfl (by rw [List.length_map]; exact hn) hE.2.2.1.1 (by rw [hs]; simp) (lv_room hcat) hd hE.cap
  exact wp_after hfl hE hrun kk kx
theorem wp_callI {idx j n a : Nat} {as : List AV} {Qj : Option AV → Hp → Prop} {Xj : String → Hp → Prop} (hd : decode (mB i) pc = .ok (.invokespecial idx, 3)) (hc : ciP i idx j n) (hret : mR j = none) (hmx : mX j = []) {st0 : List AV} (hs : st0 = as.reverse ++ vR (some a) :: st) (hn : as.length = n)
    (hsl : ((vR (some a) :: as).flatMap fun v => if cat2 v = true then [some v, none] else [some v]).length ≤ mL j) (hst : (st.map fun v => if cat2 v = true then 2 else 1).sum ≤ 8)
    (hb : wp j 0 (entL (vR (some a) :: as) (mL j)) [] h Qj Xj) (kk : ∀ v h', Qj v h' → wp i (pc + 3) ls (v.toList ++ st) h' Q X) (kx : ∀ E h', Xj E h' → xp i pc ls h' E Q X) : wp i pc ls st0 h Q X := by
  intro D DA B0 CN CS p l e R s m args below meth c H locs ls' hfl hE
  obtain ⟨hcd, hl, hin, hini, hlen, hroom⟩ := hc
  obtain ⟨hx, hbb, hml, -, -, hown, -, hok, hK, hA, hfr, hlo, -⟩ := hE.1
  have hroom' : mF j + 1 ≤ R.frames ∧ 8 + (mL j + 11) + mK j ≤ R.locals := ⟨by omega, by omega⟩
  obtain ⟨cb1, cb2⟩ := callB_A (args := args) (i := i) (idx := idx) (CN := CN) (CS := CS) hok hcd hlen hroom'
  have hM := wp_met hfl D DA B0 CN CS hcd hmx (by rw [lg_sl_le]; exact hsl) hb rfl
  have hcat : ((st.map conc).map fun v => v.category).sum ≤ 8 := by
    rw [List.map_map]
    have : (st.map ((fun v => v.category) ∘ conc)) = st.map fun v => if cat2 v = true then 2 else 1 := by
      apply List.map_congr_left
      intro v _
      exact conc_cat v
    rw [this]
    exact hst
  have hcode : Cond.code (mY j) (mB j) (mL j) none ∈ [Cond.code (mY j) (mB j) (mL j) (mR j)] := by rw [hret]; exact List.mem_cons_self
  have hrun := vx_runI (p := p) (l := l) (e := e) (R := R) (s := s) (m := m) (args := args) (below := below) (meth := meth) (c := c) (H := H) (locs := locs) (cells := H.size - s.heap.size) (slots := ssum H - ssum s.heap) (Ts := []) (own := (mY i).cls) (cc := mB i) (nL := mL i) (rest := st.map conc) (As := as.map conc) (b := a) (g := F0 m pc ls' (st0.map conc)) ⟨hx, hbb, hml, hown, fun _ h => by cases h⟩ hM (index := idx) (bytes := mB j) (maxL := mL j) (n := n)
    ⟨⟨rfl, rfl, hroom'.1, hroom'.2, cb1, hcode, by have := hok _ hcd.1 args; rw [hret] at this; exact this, hok _ hcd.2.2.2 _, hcd.2.2.1, cb2, hok _ hl _⟩, hini, hok _ hin _⟩
    ⟨PcA_blind _ _ _ _ _ _ _, PcA_of hE (vR (some a) :: as)⟩ rfl (by rw [List.length_map]; exact hn) hE.2.2.1.1 (by rw [hs]; simp [conc, va_rf]) (lv_room hcat) hd hE.cap
  exact wp_after hfl hE hrun kk kx
theorem wp_callIn {idx j n a : Nat} {as : List AV} {Qj : Option AV → Hp → Prop} {Xj : String → Hp → Prop} (hd : decode (mB i) pc = .ok (.invokespecial idx, 3)) (hc : cinP i idx j n) (hret : mR j = none) (hmx : mX j = []) {st0 : List AV} (hs : st0 = as.reverse ++ vR (some a) :: st) (hn : as.length = n)
    (hsl : ((vR (some a) :: as).flatMap fun v => if cat2 v = true then [some v, none] else [some v]).length ≤ mL j) (hst : (st.map fun v => if cat2 v = true then 2 else 1).sum ≤ 8)
    (hb : wp j 0 (entL (vR (some a) :: as) (mL j)) [] h Qj Xj) (kk : ∀ v h', Qj v h' → wp i (pc + 3) ls (v.toList ++ st) h' Q X) (kx : ∀ E h', Xj E h' → xp i pc ls h' E Q X) : wp i pc ls st0 h Q X := by
  intro D DA B0 CN CS p l e R s m args below meth c H locs ls' hfl hE
  obtain ⟨hcd, ⟨host, hl⟩, hin, hini, hlen, hroom⟩ := hc
  obtain ⟨hx, hbb, hml, -, -, hown, -, hok, hK, hA, hfr, hlo, -⟩ := hE.1
  have hroom' : mF j + 1 ≤ R.frames ∧ 8 + (mL j + 11) + mK j ≤ R.locals := ⟨by omega, by omega⟩
  obtain ⟨cb1, cb2⟩ := callB_A (args := args) (i := i) (idx := idx) (CN := CN) (CS := CS) hok hcd hlen hroom'
  have hM := wp_met hfl D DA B0 CN CS hcd hmx (by rw [lg_sl_le]; exact hsl) hb rfl
  have hcat : ((st.map conc).map fun v => v.category).sum ≤ 8 := by
    rw [List.map_map]
    have : (st.map ((fun v => v.category) ∘ conc)) = st.map fun v => if cat2 v = true then 2 else 1 := by
      apply List.map_congr_left
      intro v _
      exact conc_cat v
    rw [this]
    exact hst
  have hcode : Cond.code (mY j) (mB j) (mL j) none ∈ [Cond.code (mY j) (mB j) (mL j) (mR j)] := by rw [hret]; exact List.mem_cons_self
  have hrun := vx_runIN (p := p) (l := l) (e := e) (R := R) (s := s) (m := m) (args := args) (below := below) (meth := meth) (c := c) (H := H) (locs := locs) (cells := H.size - s.heap.size) (slots := ssum H - ssum s.heap) (Ts := []) (own := (mY i).cls) (host := host) (cc := mB i) (nL := mL i) (rest := st.map conc) (As := as.map conc) (b := a) (g := F0 m pc ls' (st0.map conc)) ⟨hx, hbb, hml, hown, fun _ h => by cases h⟩ hM (index := idx) (bytes := mB j) (maxL := mL j) (n := n)
    ⟨⟨⟨rfl, rfl, hroom'.1, hroom'.2, cb1, hcode⟩, by have := hok _ hcd.1 args; rw [hret] at this; exact this, hok _ hcd.2.2.2 _, hcd.2.2.1, cb2, hok _ hl _⟩, hini, hok _ hin _⟩
    ⟨PcA_blind _ _ _ _ _ _ _, PcA_of hE (vR (some a) :: as)⟩ rfl (by rw [List.length_map]; exact hn) hE.2.2.1.1 (by rw [hs]; simp [conc, va_rf]) (lv_room hcat) hd hE.cap
  exact wp_after hfl hE hrun kk kx
theorem wp_objInit {idx a : Nat} (hd : decode (mB i) pc = .ok (.invokespecial idx, 3)) (hl : okw (.methodLink (mY i).cls idx Lib.objectInit)) (hco : okw (.instanceMethod Lib.objectInit) ∧ okw (.code Lib.objectInit ⟨#[0xb1]⟩ 1 none)) (hfr : 1 ≤ mF i ∧ 12 ≤ mK i) (kk : wp i (pc + 3) ls [] h Q X) : wp i pc ls [vR (some a)] h Q X := by
  intro D DA B0 CN CS p l e R s m args below meth c H locs ls' hfl hE
  obtain ⟨hx, hbb, hml, -, -, hown, -, hok, hK, hA, hfr1, hlo, -⟩ := hE.1
  refine W.objInit hx hbb hown (hok _ hl _) (hok _ hco.1 _) (hok _ hco.2 _) rfl (by rw [hml]; exact hE.2.2.1.1) (a := a) (rest := []) rfl hd (by omega) (by show 2 * 0 + 0 + 12 ≤ _; omega) ?_
  exact kk D DA B0 CN CS p l e R s m args below meth c H locs ls' hfl hE
end HD
end
section
/-! ===== THE LOGIC, part 6: new int[n][k], copies of rows ===== -/
/-- new int[n][k]: the outer row at the next address, the inner ones behind it -/
def mkM (h : Hp) (n k : Int) : Hp :=
  (fun a => if a = nx h then 103 else if nx h < a ∧ a ≤ nx h + n.toNat then 100 else kd h a,
   fun a => if a = nx h then n else if nx h < a ∧ a ≤ nx h + n.toNat then k else ln h a,
   fun a => if nx h ≤ a ∧ a ≤ nx h + n.toNat then fun _ => 0 else hi h a,
   fun a => if a = nx h then fun j => if 0 ≤ j ∧ j < n then some (nx h + 1 + j.toNat) else none else if nx h < a ∧ a ≤ nx h + n.toNat then fun _ => none else hr h a,
   fun a => if nx h ≤ a ∧ a ≤ nx h + n.toNat then fun _ => 0 else hl h a,
   nx h + 1 + n.toNat, us h + n.toNat + n.toNat * k.toNat, cn h, cs h)
theorem kd_mkM (h : Hp) (n k : Int) (a : Nat) : kd (mkM h n k) a = if a = nx h then 103 else if nx h < a ∧ a ≤ nx h + n.toNat then 100 else kd h a := rfl
theorem ln_mkM (h : Hp) (n k : Int) (a : Nat) : ln (mkM h n k) a = if a = nx h then n else if nx h < a ∧ a ≤ nx h + n.toNat then k else ln h a := rfl
theorem hi_mkM (h : Hp) (n k : Int) (a : Nat) : hi (mkM h n k) a = if nx h ≤ a ∧ a ≤ nx h + n.toNat then fun _ => 0 else hi h a := rfl
theorem hr_mkM (h : Hp) (n k : Int) (a : Nat) : hr (mkM h n k) a = if a = nx h then fun j => if 0 ≤ j ∧ j < n then some (nx h + 1 + j.toNat) else none else if nx h < a ∧ a ≤ nx h + n.toNat then fun _ => none else hr h a := rfl
theorem hl_mkM (h : Hp) (n k : Int) (a : Nat) : hl (mkM h n k) a = if nx h ≤ a ∧ a ≤ nx h + n.toNat then fun _ => 0 else hl h a := rfl
theorem nx_mkM (h : Hp) (n k : Int) : nx (mkM h n k) = nx h + 1 + n.toNat := rfl
theorem us_mkM (h : Hp) (n k : Int) : us (mkM h n k) = us h + n.toNat + n.toNat * k.toNat := rfl
theorem cn_mkM (h : Hp) (n k : Int) : cn (mkM h n k) = cn h := rfl
theorem cs_mkM (h : Hp) (n k : Int) : cs (mkM h n k) = cs h := rfl
/-- a row's stretch copied -/
def cpI (h : Hp) (src : Nat) (sp : Int) (dst : Nat) (dp n : Int) : Hp :=
  (kd h, ln h, fun b j => if b = dst ∧ dp ≤ j ∧ j < dp + n then hi h src (sp + (j - dp)) else hi h b j, hr h, hl h, nx h, us h, cn h, cs h)
theorem kd_cpI (h : Hp) (a : Nat) (s : Int) (b : Nat) (d n : Int) : kd (cpI h a s b d n) = kd h := rfl
theorem ln_cpI (h : Hp) (a : Nat) (s : Int) (b : Nat) (d n : Int) : ln (cpI h a s b d n) = ln h := rfl
theorem hi_cpI (h : Hp) (a : Nat) (s : Int) (b : Nat) (d n : Int) : hi (cpI h a s b d n) = fun c j => if c = b ∧ d ≤ j ∧ j < d + n then hi h a (s + (j - d)) else hi h c j := rfl
theorem hr_cpI (h : Hp) (a : Nat) (s : Int) (b : Nat) (d n : Int) : hr (cpI h a s b d n) = hr h := rfl
theorem hl_cpI (h : Hp) (a : Nat) (s : Int) (b : Nat) (d n : Int) : hl (cpI h a s b d n) = hl h := rfl
theorem nx_cpI (h : Hp) (a : Nat) (s : Int) (b : Nat) (d n : Int) : nx (cpI h a s b d n) = nx h := rfl
theorem us_cpI (h : Hp) (a : Nat) (s : Int) (b : Nat) (d n : Int) : us (cpI h a s b d n) = us h := rfl
theorem cn_cpI (h : Hp) (a : Nat) (s : Int) (b : Nat) (d n : Int) : cn (cpI h a s b d n) = cn h := rfl
theorem cs_cpI (h : Hp) (a : Nat) (s : Int) (b : Nat) (d n : Int) : cs (cpI h a s b d n) = cs h := rfl
theorem mn_outer (c : ClassId) (N h0 : Nat) : ∀ i : Nat, Jvm.Free.Multi.outerC c N h0 i = arrV c N (fun j => va_rf (if j < i then some (h0 + 1 + j) else none))
  | 0 => by
    show ({ cls := c, slots := Array.replicate N .null, vm := .none } : Cell) = _
    rw [arrV_new]
    refine congrArg (arrV c N) (funext fun j => ?_)
    simp [va_rf]
  | i + 1 => by
    show (Jvm.Free.Multi.outerC c N h0 i).setSlot i (.ref (h0 + 1 + i)) = _
    rw [mn_outer c N h0 i, arrV_store]
    refine congrArg (arrV c N) (funext fun j => ?_)
    by_cases e : j = i
    · subst e
      simp [updV, va_rf]
    · by_cases h : j < i
      · simp [updV, e, h, Nat.lt_succ_of_lt h]
      · simp [updV, e, h, show ¬ j < i + 1 by omega]
theorem mn_sum {H F : Heap} {N K : Nat} (hz : F.size = H.size + 1 + N) (ho : ∀ x : Nat, x < H.size → F[x]? = H[x]?) {c0 : Cell} (h0 : F[H.size]? = some c0) (s0 : c0.slots.size = N) (hr : ∀ j : Nat, j < N → ∃ cj : Cell, F[H.size + 1 + j]? = some cj ∧ cj.slots.size = K) : ssum F = ssum H + N + N * K := by
  rw [ssum_split F H.size, ssum_same (by omega) (fun a c hc => ⟨c, by rw [ho a (Array.getElem?_eq_some_iff.mp hc).1]; exact hc, rfl⟩)]
  have e : (F.toList.drop H.size).map (fun c => c.slots.size) = N :: List.replicate N K := by
    apply List.ext_getElem?
    intro k
    rw [List.getElem?_map, List.getElem?_drop, Array.getElem?_toList]
    match k with
    | 0 =>
      rw [Nat.add_zero, h0]
      simp [s0]
    | k + 1 =>
      rw [List.getElem?_cons_succ]
      by_cases hk : k < N
      · obtain ⟨cj, g1, g2⟩ := hr k hk
        rw [show H.size + (k + 1) = H.size + 1 + k by omega, g1, List.getElem?_replicate_of_lt hk]
        simp [g2]
      · rw [Array.getElem?_eq_none (by omega), List.getElem?_eq_none (by simp; omega)]
        rfl
  rw [e]
  simp
  omega
section HM
variable {i pc : Nat} {ls : List (Option AV)} {st : List AV} {h : Hp} {Q : Option AV → Hp → Prop} {X : String → Hp → Prop}
theorem wp_mna {idx : Nat} {n k : Int} (hd : decode (mB i) pc = .ok (.multianewarray idx 2, 4)) (hcl : okw (.classLink (mY i).cls idx "[[I")) (hw : okw (.arrayOver (AT 103))) (hw2 : okw (.arrayClass (AT 100))) (h0 : 0 ≤ n) (h1 : n ≤ 10000000) (k0 : 0 ≤ k) (k1 : k ≤ 10000000) (r1 : nx h + 1 + n.toNat ≤ cn h) (r2 : us h + n.toNat + n.toNat * k.toNat ≤ cs h)
    (kk : wp i (pc + 4) ls (vR (some (nx h)) :: st) (mkM h n k) Q X) : wp i pc ls (vI k :: vI n :: st) h Q X := by
  intro D DA B0 CN CS p l e R s m args below meth c H locs ls' hfl hE
  obtain ⟨hx, hb, -, -, -, hown, -, hok, hK, hA, -⟩ := hE.1
  have hn : inR n := ⟨by omega, by omega⟩
  have hk : inR k := ⟨by omega, by omega⟩
  have hcn : (Int32.ofInt n).toNatClampNeg = n.toNat := i_clamp hn
  have hck : (Int32.ofInt k).toNatClampNeg = k.toNat := i_clamp hk
  have hrep := hE.2.1
  obtain ⟨b1, b2, b3, b4, b5, b6, b7, b8, b9⟩ := hE.2.1
  obtain ⟨a1, a2, a3, a4, a5, a6, a7, a8, a9⟩ := hE
  have a5' := a5
  have a6' := a6
  rw [b1] at a5'
  rw [b2] at a6'
  intro T hT XX
  obtain ⟨vm₁, cA, comp, -, fA, fC, hO, -, X', step⟩ := XX.multianewarray2F (ty := .int) hx hown (hok _ hcl _) (hok _ hw _) (hok _ hw2 _) (g := F0 m pc ls' ((vI k :: vI n :: st).map conc)) rfl (by rw [hb]; exact hd) (n := Int32.ofInt n) (k := Int32.ofInt k) (rest := st.map conc) rfl (by rw [i_neg hn]; omega) (by rw [i_neg hk]; omega) (by rw [hcn]; omega) (by rw [hck]; show k.toNat * 4 ≤ _; omega) (by rw [hck]; omega) rfl rfl (by rw [hcn, a7, b1]; omega) (by rw [hcn, hck, a8, b2]; omega)
  rw [hcn, hck] at X' step
  have hKA0 : 103 ∈ KA := by decide
  have hKA1 : 100 ∈ KA := by decide
  obtain ⟨-, kA', comp', w1, w2, w3, -⟩ := hA 103 hKA0
  obtain ⟨-, kB', compB', u1, u2, u3, -⟩ := hA 100 hKA1
  have ec : cA = DA 103 := Option.some.inj (fA.symm.trans w3)
  have ep : comp = DA 100 := Option.some.inj (fC.symm.trans u3)
  subst ec
  subst ep
  generalize hF : Jvm.Free.Multi.fill (T.setVm vm₁) (DA 103) (DA 100) n.toNat k.toNat (defaultValue .int) n.toNat = F at X' step
  have hTh : (T.setVm vm₁).heap = H := hT
  obtain ⟨f1, f2, -, -⟩ := Jvm.Free.Multi.fill_facts (T.setVm vm₁) (DA 103) (DA 100) n.toNat k.toNat (defaultValue .int) n.toNat
  rw [hF, hTh] at f1 f2
  have hold : ∀ x : Nat, x < H.size → F.heap[x]? = H[x]? := fun x hx => by
    have := Jvm.Free.Multi.fill_old (T.setVm vm₁) (DA 103) (DA 100) n.toNat k.toNat (defaultValue .int) (a := x) (by rw [hTh]; exact hx) n.toNat
    rw [hF, hTh] at this
    exact this
  have hrow : ∀ j : Nat, j < n.toNat → F.heap[H.size + 1 + j]? = some (arrV (DA 100) k.toNat (fun _ => defaultValue .int)) := fun j hj => by
    have := Jvm.Free.Multi.fill_inner (T.setVm vm₁) (DA 103) (DA 100) n.toNat k.toNat (defaultValue .int) n.toNat j hj
    rw [hF, hTh] at this
    rw [this]
    unfold Jvm.Free.Multi.innerC
    rw [arrV_new]
  rw [mn_outer] at f2
  have hsum := mn_sum (N := n.toNat) (K := k.toNat) f1 hold f2 (arrV_size _ _ _) (fun j hj => ⟨_, hrow j hj, arrV_size _ _ _⟩)
  have hlt := fun a (ha : kd h a ≠ 0) => hrep.lt ha
  have hnew : rep D DA B0 CN CS s F.heap (mkM h n k) := by
    refine ⟨by rw [f1, b1]; rfl, by rw [hsum, b2]; rfl, b3, b4, by rw [nx_mkM, ← b3]; exact r1, by rw [us_mkM, ← b4]; exact r2, by rw [nx_mkM]; omega, fun a j => ?_, fun a ha => ?_⟩
    · rw [hi_mkM]
      split
      · show inR 0
        exact ⟨by decide, by decide⟩
      · exact b8 a j
    · by_cases e0 : a = nx h
      · subst e0
        have ek : kd (mkM h n k) (nx h) = 103 := by rw [kd_mkM, if_pos rfl]
        have el : ln (mkM h n k) (nx h) = n := by rw [ln_mkM, if_pos rfl]
        refine ⟨Or.inr b7, Or.inr (Or.inr ?_)⟩
        rw [ek, el]
        refine ⟨hKA0, h0, hn, ?_⟩
        rw [← b1, f2]
        refine congrArg (fun f => some (arrV (DA 103) n.toNat f)) (funext fun j => ?_)
        rw [sv_R (by rfl), hr_mkM, b1, if_pos rfl]
        refine congrArg va_rf ?_
        by_cases hj : j < n.toNat
        · rw [if_pos hj, if_pos (by omega)]
          simp
        · rw [if_neg hj, if_neg (by omega)]
      · by_cases e1 : nx h < a ∧ a ≤ nx h + n.toNat
        · have ek : kd (mkM h n k) a = 100 := by rw [kd_mkM, if_neg e0, if_pos e1]
          have el : ln (mkM h n k) a = k := by rw [ln_mkM, if_neg e0, if_pos e1]
          refine ⟨Or.inr (by omega), Or.inr (Or.inr ?_)⟩
          rw [ek, el]
          refine ⟨hKA1, k0, hk, ?_⟩
          have := hrow (a - (nx h + 1)) (by omega)
          rw [b1, show nx h + 1 + (a - (nx h + 1)) = a by omega] at this
          rw [this]
          refine congrArg (fun f => some (arrV (DA 100) k.toNat f)) (funext fun j => ?_)
          rw [sv_I (by rfl), hi_mkM, if_pos (by omega)]
          rfl
        · have ek : kd (mkM h n k) a = kd h a := by rw [kd_mkM, if_neg e0, if_neg e1]
          have e2 : ¬ (nx h ≤ a ∧ a ≤ nx h + n.toNat) := fun q => e1 ⟨by omega, q.2⟩
          rw [ek] at ha ⊢
          have hal := hlt a ha
          refine ⟨(b9 a ha).1, (b9 a ha).2.kept (hold a (by omega)) ek ?_ (fun j => ?_) (fun j => ?_) (fun j => ?_)⟩
          · rw [ln_mkM, if_neg e0, if_neg e1]
          · rw [hi_mkM, if_neg e2]
          · rw [hr_mkM, if_neg e0, if_neg e1]
          · rw [hl_mkM, if_neg e2]
  have hE' : En i D DA B0 CN CS p R s m meth c F.heap locs ls' ls (mkM h n k) := ⟨a1, hnew, a3, a4, by rw [f1]; omega, by rw [hsum]; omega, a7, a8, a9⟩
  obtain ⟨t, g1, g2⟩ := (W_tight (kk D DA B0 CN CS p l e R s m args below meth c F.heap locs ls' hfl hE')) F rfl X'
  refine ⟨t, step t ?_, g2⟩
  have e : T.heap.size = nx h := by rw [hT]; exact b1
  rw [e]
  exact g1
theorem wp_copy {idx src dst : Nat} {sp dp n : Int} (hd : decode (mB i) pc = .ok (.invokestatic idx, 3)) (hl : okw (.methodLink (mY i).cls idx arraycopyName)) (hnat : okw (.native arraycopyName)) (hst : okw (.static arraycopyName)) (hini : okw (.initialized "java/lang/System"))
    (hk1 : kd h src = 100) (hk2 : kd h dst = 100) (s0 : 0 ≤ sp) (d0 : 0 ≤ dp) (n0 : 0 ≤ n) (s1 : sp + n ≤ ln h src) (d1 : dp + n ≤ ln h dst) (hfr : 1 ≤ mF i) (hlo : (st.map fun v => if cat2 v = true then 2 else 1).sum + (nativeFrameWords "java/lang/System" "arraycopy" 5 + 11) ≤ mK i)
    (kk : wp i (pc + 3) ls st (cpI h src sp dst dp n) Q X) : wp i pc ls (vI n :: vI dp :: vR (some dst) :: vI sp :: vR (some src) :: st) h Q X := by
  intro D DA B0 CN CS p l e R s m args below meth c H locs ls' hfl hE
  obtain ⟨hx, hb, hml, -, -, hown, -, hok, hK, hA, hfr1, hlo1, -⟩ := hE.1
  have hoks := hE.2.1.2.2.2.2.2.2.2.2 src (by omega)
  have hokd := hE.2.1.2.2.2.2.2.2.2.2 dst (by omega)
  obtain ⟨x1, x2, x3, x4⟩ := hoks.2.arr (by omega) (by omega)
  obtain ⟨y1, y2, y3, y4⟩ := hokd.2.arr (by omega) (by omega)
  have hin := hE.2.1.2.2.2.2.2.2.2.1
  have rs : inR sp := ⟨by omega, by have := x3.2; omega⟩
  have rd : inR dp := ⟨by omega, by have := y3.2; omega⟩
  have rn : inR n := ⟨by omega, by have := x3.2; omega⟩
  have cs1 : (Int32.ofInt sp).toNatClampNeg = sp.toNat := i_clamp rs
  have cs2 : (Int32.ofInt dp).toNatClampNeg = dp.toNat := i_clamp rd
  have cs3 : (Int32.ofInt n).toNatClampNeg = n.toNat := i_clamp rn
  have hcat : ((st.map conc).map fun v => v.category).sum = (st.map fun v => if cat2 v = true then 2 else 1).sum := by
    rw [List.map_map]
    refine congrArg List.sum (List.map_congr_left ?_)
    intro v _
    exact conc_cat v
  rw [hk1] at x4 x1
  rw [hk2] at y4 y1
  obtain ⟨hAO, kA, comp, w1, w2, w3, -⟩ := hA 100 x1
  intro T hT XX
  have hc0 : T.heap[src]? = some (arrV (DA 100) (ln h src).toNat (fun j => .int (Int32.ofInt (hi h src j)))) := by rw [hT]; exact x4
  have hc1 : T.heap[dst]? = some (arrV (DA 100) (ln h dst).toNat (fun j => .int (Int32.ofInt (hi h dst j)))) := by rw [hT]; exact y4
  obtain ⟨vm', X', step⟩ := XX.arraycopy hx hown (hok _ hl _) (hok _ hnat _) (hok _ hst _) (hok _ hini _) (src := src) (dst := dst) (srcPos := Int32.ofInt sp) (destPos := Int32.ofInt dp) (n := Int32.ofInt n) hc0 hc1
    (fun _ h => by cases h) (fun _ h => by cases h) (fun h => by cases h) (fun h => by cases h) w1 w1 w2 w2 (by decide) (by rw [i_neg rs]; omega) (by rw [i_neg rd]; omega) (by rw [i_neg rn]; omega)
    (by rw [i_toInt rs, i_toInt rn, arrV_size]; omega) (by rw [i_toInt rd, i_toInt rn, arrV_size]; omega)
    (fun vm₁ _ k hk => by
      rw [cs3] at hk
      have e : (arrV (DA 100) (ln h src).toNat (fun j => Value.int (Int32.ofInt (hi h src j)))).slots.getD ((Int32.ofInt sp).toNatClampNeg + k) .null = .int (Int32.ofInt (hi h src ((sp.toNat + k : Nat) : Int))) := by
        rw [cs1, Array.getD_eq_getD_getElem?, arrV_read _ _ (by omega)]
        rfl
      rw [e]
      exact ⟨rfl, trivial⟩)
    (g := F0 m pc ls' ((vI n :: vI dp :: vR (some dst) :: vI sp :: vR (some src) :: st).map conc)) rfl (by rw [hml]; exact hE.2.2.1.1) (rest := st.map conc) rfl (by rw [hb]; exact hd) (by omega) (by rw [hcat]; show 2 * 0 + _ + _ ≤ _; omega)
  have e1 : copied (arrV (DA 100) (ln h src).toNat (fun j => Value.int (Int32.ofInt (hi h src j)))) (arrV (DA 100) (ln h dst).toNat (fun j => Value.int (Int32.ofInt (hi h dst j)))) (Int32.ofInt sp) (Int32.ofInt dp) (Int32.ofInt n) = arrV (DA 100) (ln h dst).toNat (fun j => sv (AT 100) (cpI h src sp dst dp n) dst j) := by
    have h9 := va_copied (fun z => Value.int (Int32.ofInt z)) (DA 100) (DA 100) (n0 := (ln h src).toNat) (n1 := (ln h dst).toNat) (sp := sp.toNat) (dp := dp.toNat) (n := n.toNat) (fun j => hi h src j) (fun j => hi h dst j) (by omega)
    unfold copied
    rw [cs1, cs2, cs3]
    refine h9.trans (congrArg (arrV (DA 100) (ln h dst).toNat) (funext fun j => ?_))
    rw [sv_I (by rfl), hi_cpI]
    refine congrArg (fun z => Value.int (Int32.ofInt z)) ?_
    unfold va_cpy
    by_cases hj : dp.toNat ≤ j ∧ j < dp.toNat + n.toNat
    · rw [if_pos hj]
      dsimp only
      rw [if_pos ⟨rfl, by omega, by omega⟩]
      exact congrArg (hi h src) (by omega)
    · rw [if_neg hj]
      dsimp only
      rw [if_neg (by rintro ⟨-, q1, q2⟩; exact hj ⟨by omega, by omega⟩)]
  rw [e1] at X' step
  have hlt : dst < H.size := (Array.getElem?_eq_some_iff.mp y4).1
  have hheap : ((T.setVm vm').setCell dst (arrV (DA 100) (ln h dst).toNat (fun j => sv (AT 100) (cpI h src sp dst dp n) dst j))).heap = H.setIfInBounds dst (arrV (DA 100) (ln h dst).toNat (fun j => sv (AT 100) (cpI h src sp dst dp n) dst j)) := by rw [← hT]; rfl
  have oq : ∀ q : Nat, q ≠ dst → (H.setIfInBounds dst (arrV (DA 100) (ln h dst).toNat (fun j => sv (AT 100) (cpI h src sp dst dp n) dst j)))[q]? = H[q]? := fun q hq => by simp [Array.getElem?_setIfInBounds, Ne.symm hq]
  have ex : (H.setIfInBounds dst (arrV (DA 100) (ln h dst).toNat (fun j => sv (AT 100) (cpI h src sp dst dp n) dst j)))[dst]? = some (arrV (DA 100) (ln h dst).toNat (fun j => sv (AT 100) (cpI h src sp dst dp n) dst j)) := by simp [Array.getElem?_setIfInBounds, hlt]
  have hsame : ∀ c : Cell, H[dst]? = some c → (arrV (DA 100) (ln h dst).toNat (fun j => sv (AT 100) (cpI h src sp dst dp n) dst j)).slots.size = c.slots.size := fun c hc => by
    rw [y4] at hc
    cases hc
    rw [arrV_size, arrV_size]
  have z1 : (H.setIfInBounds dst (arrV (DA 100) (ln h dst).toNat (fun j => sv (AT 100) (cpI h src sp dst dp n) dst j))).size = H.size := by simp
  have hnew := hE.2.1.put (h1 := cpI h src sp dst dp n) (a := dst) (by omega) ex hsame z1 oq rfl rfl rfl rfl rfl rfl (fun b j => by
      rw [hi_cpI]
      dsimp only
      split
      · exact hin _ _
      · exact hin _ _) (fun b hb j => ⟨by rw [hi_cpI]; exact if_neg (fun q => hb q.1), rfl, rfl⟩) (Or.inr (Or.inr ⟨by rw [kd_cpI, hk2]; exact y1, y2, y3, by rw [kd_cpI, hk2, ln_cpI]; exact ex⟩))
  refine (W_tight (kk D DA B0 CN CS p l e R s m args below meth c _ _ ls' hfl ⟨hE.1, hnew, hE.2.2.1, ?_, by rw [z1]; exact hE.2.2.2.2.1, by rw [ssum_set z1 oq ex hsame]; exact hE.2.2.2.2.2.1, hE.2.2.2.2.2.2⟩)) _ hheap X' |>.elim (fun t ht => ⟨t, step t ht.1, ht.2⟩)
  intro z hz
  rcases List.mem_append.mp hz with h | h
  · exact hE.2.2.2.1 z h
  · obtain ⟨y, -, hy⟩ := List.mem_map.mp h
    rw [← hy]
    rcases hokd.1 with h3 | h3
    · omega
    · exact h3
end HM
end
section
/-! ===== leaves ===== -/
theorem vxor_neg {x y : Int} (hx : inR x) (hy : inR y) (h0 : 0 ≤ y) : vxor x y < 0 ↔ x < 0 := by
  have hm : ∀ z : Int32, z.toInt < 0 ↔ z.toBitVec.msb = true := fun z => by
    rw [BitVec.msb_eq_toInt]
    simp
  unfold vxor
  rw [hm]
  have e : (Int32.ofInt x ^^^ Int32.ofInt y).toBitVec = (Int32.ofInt x).toBitVec ^^^ (Int32.ofInt y).toBitVec := rfl
  rw [e, BitVec.msb_xor]
  have h1 := hm (Int32.ofInt x)
  have h2 := hm (Int32.ofInt y)
  rw [i_toInt hx] at h1
  rw [i_toInt hy] at h2
  have h3 : (Int32.ofInt y).toBitVec.msb = false := by
    cases h : (Int32.ofInt y).toBitVec.msb with
    | false => rfl
    | true => exact absurd (h2.mpr h) (by omega)
  rw [h3, Bool.xor_false]
  exact h1.symm
theorem fdiv_case {x y : Int} (hy : 0 < y) : (x < 0 → x.tdiv y * y ≠ x → x.tdiv y - 1 = x / y) ∧ ((0 ≤ x ∨ x.tdiv y * y = x) → x.tdiv y = x / y) := by
  have h1 := Int.tmod_add_mul_tdiv x y
  have h2 := Int.emod_add_mul_ediv x y
  have h3 := Int.emod_nonneg x (by omega : y ≠ 0)
  have h4 := Int.emod_lt_of_pos x hy
  have e : x.tdiv y * y = y * x.tdiv y := Int.mul_comm _ _
  rcases Int.lt_or_le x 0 with hx | hx
  · have h5 : x.tmod y ≤ 0 := by
      have : 0 ≤ (-x).tmod y := Int.tmod_nonneg y (by omega)
      rw [Int.neg_tmod] at this
      omega
    have h6 := Int.lt_tmod_of_pos x hy
    have h7 : y * (x.tdiv y - x / y) = x % y - x.tmod y := by rw [Int.mul_sub]; omega
    constructor
    · intro _ hne
      have h8 : x.tmod y ≠ 0 := by omega
      have : x.tdiv y - x / y = 1 := by
        have a1 : 0 < y * (x.tdiv y - x / y) := by omega
        have a2 : y * (x.tdiv y - x / y) < y * 2 := by omega
        have a3 : 0 < x.tdiv y - x / y := Int.pos_of_mul_pos_right a1 (by omega) |> fun h => h
        have a4 : x.tdiv y - x / y < 2 := Int.lt_of_mul_lt_mul_left a2 (by omega)
        omega
      omega
    · rintro (h | h)
      · omega
      · have h8 : x.tmod y = 0 := by omega
        have a2 : y * (x.tdiv y - x / y) < y * 1 := by omega
        have a1 : y * 0 ≤ y * (x.tdiv y - x / y) := by omega
        have a4 : x.tdiv y - x / y < 1 := Int.lt_of_mul_lt_mul_left a2 (by omega)
        have a3 : 0 ≤ x.tdiv y - x / y := Int.le_of_mul_le_mul_left a1 hy
        omega
  · constructor
    · intro h _
      omega
    · intro _
      exact Int.tdiv_eq_ediv_of_nonneg hx
set_option maxRecDepth 100000 in
theorem s_max {x y : Int} {h : Hp} (hx : inR x) (hy : inR y) : wp 214 0 (entL [vI x, vI y] (mL 214)) [] h (fun v h' => v = some (vI (max x y)) ∧ h' = h) noX := by
  refine wp_iload_n d_214_0 (by rfl) ?_
  refine wp_iload_n d_214_1 (by rfl) ?_
  refine wp_icmp_lt (tgt := 9) d_214_2 (by decide) (by omega) (by omega) (fun c_2 => ?_) (fun c_2 => ?_)
  · refine wp_iload_n d_214_9 (by rfl) ?_
    refine wp_iret d_214_10 rfl ?_
    exact ⟨congrArg (fun z => some (vI z)) (by omega), rfl⟩
  · refine wp_iload_n d_214_5 (by rfl) ?_
    refine wp_goto (tgt := 10) d_214_6 (by decide) ?_
    refine wp_iret d_214_10 rfl ?_
    exact ⟨congrArg (fun z => some (vI z)) (by omega), rfl⟩
set_option maxRecDepth 100000 in
theorem s_isWithin {x a b : Int} {h : Hp} (hx : inR x) (ha : inR a) (hb : inR b) : wp 11 0 (entL [vI x, vI a, vI b] (mL 11)) [] h (fun v h' => v = some (vI (if a ≤ x ∧ x ≤ b then 1 else 0)) ∧ h' = h) noX := by
  refine wp_iload_n d_11_0 (by rfl) ?_
  refine wp_iload_n d_11_1 (by rfl) ?_
  refine wp_icmp_lt (tgt := 14) d_11_2 (by decide) (by omega) (by omega) (fun c_2 => ?_) (fun c_2 => ?_)
  · refine wp_iconst d_11_14 ?_
    refine wp_zret d_11_15 rfl (by omega) ?_
    exact ⟨by first | rw [if_pos (by omega)] | rw [if_neg (by omega)], rfl⟩
  · refine wp_iload_n d_11_5 (by rfl) ?_
    refine wp_iload_n d_11_6 (by rfl) ?_
    refine wp_icmp_gt (tgt := 14) d_11_7 (by decide) (by omega) (by omega) (fun c_7 => ?_) (fun c_7 => ?_)
    · refine wp_iconst d_11_14 ?_
      refine wp_zret d_11_15 rfl (by omega) ?_
      exact ⟨by first | rw [if_pos (by omega)] | rw [if_neg (by omega)], rfl⟩
    · refine wp_iconst d_11_10 ?_
      refine wp_goto (tgt := 15) d_11_11 (by decide) ?_
      refine wp_zret d_11_15 rfl (by omega) ?_
      exact ⟨by first | rw [if_pos (by omega)] | rw [if_neg (by omega)], rfl⟩
set_option maxRecDepth 100000 in
theorem s_isDay {x : Int} {h : Hp} (hx : inR x) : wp 10 0 (entL [vI x] (mL 10)) [] h (fun v h' => v = some (vI (if 0 ≤ x ∧ x ≤ 365 then 1 else 0)) ∧ h' = h) noX := by
  refine wp_iload_n d_10_0 (by rfl) ?_
  refine wp_iconst d_10_1 ?_
  refine wp_sipush d_10_2 (by decide) ?_
  refine wp_callS d_10_5 c_10_58 rfl (by rfl) (by rfl) (by exact Nat.le_of_ble_eq_true rfl) (by exact Nat.le_of_ble_eq_true rfl) (s_isWithin hx (by omega) (by omega)) (fun v_5 h_5 q_5 => ?_) (fun _ _ q => q.elim)
  obtain ⟨rfl, rfl⟩ := q_5
  refine wp_zret d_10_8 rfl (by omega) ?_
  exact ⟨rfl, rfl⟩
set_option maxRecDepth 100000 in
theorem s_floorDiv {x y : Int} {h : Hp} (hx : inR x) (hy : inR y) (h0 : 0 < y) : wp 213 0 (entL [vI x, vI y] (mL 213)) [] h (fun v h' => v = some (vI (x / y)) ∧ h' = h) noX := by
  have hfd := fdiv_case (x := x) h0
  have hdv : x < 0 → x ≤ x.tdiv y * y ∧ x.tdiv y * y ≤ y := by
    intro hx0
    have g1 := Int.tmod_add_mul_tdiv x y
    have e : x.tdiv y * y = y * x.tdiv y := Int.mul_comm _ _
    have g2 : 0 ≤ (-x).tmod y := Int.tmod_nonneg y (by omega)
    rw [Int.neg_tmod] at g2
    have g3 := Int.lt_tmod_of_pos x h0
    omega
  have hvn := vxor_neg hx hy (by omega)
  have hvr : inR (vxor x y) := ⟨Int32.le_toInt _, by have := Int32.toInt_lt (Int32.ofInt x ^^^ Int32.ofInt y); unfold vxor; omega⟩
  refine wp_iload_n d_213_0 (by rfl) ?_
  refine wp_iload_n d_213_1 (by rfl) ?_
  refine wp_idiv d_213_2 (by first | omega | (refine ⟨?_, ?_⟩ <;> omega)) (by first | omega | (refine ⟨?_, ?_⟩ <;> omega)) (by omega) ?_
  refine wp_istore_n d_213_3 (by decide) ?_
  refine wp_iload_n d_213_4 (by rfl) ?_
  refine wp_iload_n d_213_5 (by rfl) ?_
  refine wp_ixor d_213_6 ?_
  refine wp_if_ge (tgt := 21) d_213_7 (by decide) (by first | omega | (refine ⟨?_, ?_⟩ <;> omega)) (fun c_7 => ?_) (fun c_7 => ?_)
  · refine wp_iload_n d_213_21 (by rfl) ?_
    refine wp_iret d_213_22 rfl ?_
    refine ⟨congrArg (fun z => some (vI z)) ?_, rfl⟩
    first | (exact hfd.2 (by omega)) | (exact hfd.1 (by omega) (by omega))
  · refine wp_iload_n d_213_10 (by rfl) ?_
    refine wp_iload_n d_213_11 (by rfl) ?_
    refine wp_imul d_213_12 ?_
    refine wp_iload_n d_213_13 (by rfl) ?_
    refine wp_icmp_eq (tgt := 21) d_213_14 (by decide) (by first | omega | (refine ⟨?_, ?_⟩ <;> omega)) (by first | omega | (refine ⟨?_, ?_⟩ <;> omega)) (fun c_14 => ?_) (fun c_14 => ?_)
    · refine wp_iload_n d_213_21 (by rfl) ?_
      refine wp_iret d_213_22 rfl ?_
      refine ⟨congrArg (fun z => some (vI z)) ?_, rfl⟩
      first | (exact hfd.2 (by omega)) | (exact hfd.1 (by omega) (by omega))
    · refine wp_iload_n d_213_17 (by rfl) ?_
      refine wp_iconst d_213_18 ?_
      refine wp_isub d_213_19 ?_
      refine wp_iret d_213_20 rfl ?_
      refine ⟨congrArg (fun z => some (vI z)) ?_, rfl⟩
      first | (exact hfd.2 (by omega)) | (exact hfd.1 (by omega) (by omega))
end
section
/-! ===== the constructors: what a new object is ===== -/
/-- the cell a is as it was -/
def eqA (h h' : Hp) (a : Nat) : Prop := kd h' a = kd h a ∧ ln h' a = ln h a ∧ (∀ k, hi h' a k = hi h a k) ∧ (∀ k, hr h' a k = hr h a k) ∧ (∀ k, hl h' a k = hl h a k)
theorem eqA.trans {h h1 h2 : Hp} {a : Nat} (k1 : eqA h h1 a) (k2 : eqA h1 h2 a) : eqA h h2 a :=
  ⟨k2.1.trans k1.1, k2.2.1.trans k1.2.1, fun k => (k2.2.2.1 k).trans (k1.2.2.1 k), fun k => (k2.2.2.2.1 k).trans (k1.2.2.2.1 k), fun k => (k2.2.2.2.2 k).trans (k1.2.2.2.2 k)⟩
theorem eqA.rfl {h : Hp} {a : Nat} : eqA h h a := ⟨Eq.refl _, Eq.refl _, fun _ => Eq.refl _, fun _ => Eq.refl _, fun _ => Eq.refl _⟩
/-- an int array of zeros -/
def zA (h : Hp) (a : Nat) (n : Int) : Prop := kd h a = 100 ∧ ln h a = n ∧ ∀ k, hi h a k = 0
theorem zA.kept {h h' : Hp} {a : Nat} {n : Int} (k : zA h a n) (e : eqA h h' a) : zA h' a n := ⟨e.1.trans k.1, e.2.1.trans k.2.1, fun j => (e.2.2.1 j).trans (k.2.2 j)⟩
/-- an array of references, all null -/
def nA (h : Hp) (a K : Nat) (n : Int) : Prop := kd h a = K ∧ ln h a = n ∧ ∀ k, hr h a k = none
theorem nA.kept {h h' : Hp} {a K : Nat} {n : Int} (k : nA h a K n) (e : eqA h h' a) : nA h' a K n := ⟨e.1.trans k.1, e.2.1.trans k.2.1, fun j => (e.2.2.2.1 j).trans (k.2.2 j)⟩
/-- rows of zeros: the outer at a, the rows behind it -/
def mA (h : Hp) (a : Nat) (n k : Int) : Prop := kd h a = 103 ∧ ln h a = n ∧ (∀ j : Int, 0 ≤ j → j < n → hr h a j = some (a + 1 + j.toNat)) ∧ ∀ j : Nat, (j : Int) < n → zA h (a + 1 + j) k
theorem mA.kept {h h' : Hp} {a : Nat} {n k : Int} (q : mA h a n k) (e : ∀ b, a ≤ b → (b : Int) ≤ a + n → eqA h h' b) (hn : 0 ≤ n) : mA h' a n k :=
  ⟨(e a (Nat.le_refl _) (by omega)).1.trans q.1, (e a (Nat.le_refl _) (by omega)).2.1.trans q.2.1, fun j h0 h1 => ((e a (Nat.le_refl _) (by omega)).2.2.2.1 j).trans (q.2.2.1 j h0 h1), fun j hj => (q.2.2.2 j hj).kept (e _ (by omega) (by omega))⟩
theorem mA_of (h : Hp) (n k : Int) : mA (mkM h n k) (nx h) n k := by
  refine ⟨by rw [kd_mkM, if_pos rfl], by rw [ln_mkM, if_pos rfl], fun j h0 h1 => ?_, fun j hj => ⟨?_, ?_, fun q => ?_⟩⟩
  · rw [hr_mkM, if_pos rfl]
    show (if 0 ≤ j ∧ j < n then _ else _) = _
    rw [if_pos ⟨h0, h1⟩]
  · rw [kd_mkM, if_neg (by omega), if_pos (by omega)]
  · rw [ln_mkM, if_neg (by omega), if_pos (by omega)]
  · rw [hi_mkM, if_pos (by omega)]
theorem eqA_mkM {h : Hp} {n k : Int} {a : Nat} (ha : a < nx h) : eqA h (mkM h n k) a := by
  refine ⟨?_, ?_, fun q => ?_, fun q => ?_, fun q => ?_⟩
  · rw [kd_mkM, if_neg (by omega), if_neg (by omega)]
  · rw [ln_mkM, if_neg (by omega), if_neg (by omega)]
  · rw [hi_mkM, if_neg (by omega)]
  · rw [hr_mkM, if_neg (by omega), if_neg (by omega)]
  · rw [hl_mkM, if_neg (by omega)]
theorem eqA_mkO {h : Hp} {K : Nat} {n : Int} {a : Nat} (ha : a < nx h) : eqA h (mkO h K n) a := by
  have hne : ¬ a = nx h := by omega
  exact ⟨by rw [kd_mkO, up1_ne _ _ hne], by rw [ln_mkO, up1_ne _ _ hne], fun q => by rw [hi_mkO, up1_ne _ _ hne], fun q => by rw [hr_mkO, up1_ne _ _ hne], fun q => by rw [hl_mkO, up1_ne _ _ hne]⟩
theorem eqA_setR {h : Hp} {a b : Nat} {k : Int} {v : Option Nat} (hb : b ≠ a) : eqA h (setR h a k v) b := ⟨rfl, rfl, fun _ => rfl, fun _ => by rw [hr_setR, up2_ne _ _ (fun q => hb q.1)], fun _ => rfl⟩
theorem eqA_setI {h : Hp} {a b : Nat} {k v : Int} (hb : b ≠ a) : eqA h (setI h a k v) b := ⟨rfl, rfl, fun _ => by rw [hi_setI, up2_ne _ _ (fun q => hb q.1)], fun _ => rfl, fun _ => rfl⟩
theorem zA_mkO {h : Hp} {n : Int} : zA (mkO h 100 n) (nx h) n := ⟨by rw [kd_mkO, up1_same], by rw [ln_mkO, up1_same], fun k => by rw [hi_mkO, up1_same]⟩
theorem nA_mkO {h : Hp} {K : Nat} {n : Int} : nA (mkO h K n) (nx h) K n := ⟨by rw [kd_mkO, up1_same], by rw [ln_mkO, up1_same], fun k => by rw [hr_mkO, up1_same]⟩
theorem zA_setR {h : Hp} {a b : Nat} {n k : Int} {v : Option Nat} (q : zA h a n) : zA (setR h b k v) a n := q
theorem mA_setR {h : Hp} {a b : Nat} {n k j : Int} {v : Option Nat} (q : mA h a n k) (hb : a ≠ b) : mA (setR h b j v) a n k := ⟨q.1, q.2.1, fun i h0 h1 => by rw [hr_setR, up2_ne _ _ (fun z => hb z.1)]; exact q.2.2.1 i h0 h1, q.2.2.2⟩

/-- Offers at a: times, prices behind it -/
def OffN (h : Hp) (a : Nat) : Prop := kd h a = 10 ∧ hr h a 0 = some (a + 1) ∧ hr h a 1 = some (a + 2) ∧ hi h a 2 = 0 ∧ zA h (a + 1) 16 ∧ zA h (a + 2) 16
theorem OffN.kept {h h' : Hp} {a : Nat} (q : OffN h a) (e : ∀ b, a ≤ b → b ≤ a + 2 → eqA h h' b) : OffN h' a :=
  have e0 := e a (Nat.le_refl _) (by omega)
  ⟨e0.1.trans q.1, (e0.2.2.2.1 _).trans q.2.1, (e0.2.2.2.1 _).trans q.2.2.1, (e0.2.2.1 _).trans q.2.2.2.1, q.2.2.2.2.1.kept (e _ (by omega) (by omega)), q.2.2.2.2.2.kept (e _ (by omega) (by omega))⟩
set_option maxRecDepth 100000 in
set_option maxHeartbeats 4000000 in
theorem s_Offers {a : Nat} {h : Hp} (hk : kd h a = 10) (hz : ∀ k, hi h a k = 0) (hn : nx h = a + 1) (r1 : nx h + 2 ≤ cn h) (r2 : us h + 32 ≤ cs h) : wp 157 0 (entL [vR (some a)] (mL 157)) [] h (fun v h' => v = none ∧ OffN h' a ∧ nx h' = a + 3 ∧ us h' = us h + 32 ∧ cn h' = cn h ∧ cs h' = cs h ∧ ∀ b, b < a → eqA h h' b) noX := by
  refine wp_aload_n d_157_0 (by rfl) ?_
  refine wp_objInit d_157_1 oi_9 co_code ⟨Nat.le_of_ble_eq_true rfl, Nat.le_of_ble_eq_true rfl⟩ ?_
  refine wp_aload_n d_157_4 (by rfl) ?_
  refine wp_bipush d_157_5 (by decide) ?_
  refine wp_newa (K := 100) d_157_7 rfl (by decide) ca_100 rfl (by omega) (by omega) (by decide) (by first | omega | (simp [kd_setI, ln_setI, hi_setI, hr_setI, hl_setI, nx_setI, us_setI, cn_setI, cs_setI, kd_setR, ln_setR, hi_setR, hr_setR, hl_setR, nx_setR, us_setR, cn_setR, cs_setR, kd_setL, ln_setL, hi_setL, hr_setL, hl_setL, nx_setL, us_setL, cn_setL, cs_setL, kd_mkO, ln_mkO, hi_mkO, hr_mkO, hl_mkO, nx_mkO, us_mkO, cn_mkO, cs_mkO]; omega)) (by first | omega | (simp [kd_setI, ln_setI, hi_setI, hr_setI, hl_setI, nx_setI, us_setI, cn_setI, cs_setI, kd_setR, ln_setR, hi_setR, hr_setR, hl_setR, nx_setR, us_setR, cn_setR, cs_setR, kd_setL, ln_setL, hi_setL, hr_setL, hl_setL, nx_setL, us_setL, cn_setL, cs_setL, kd_mkO, ln_mkO, hi_mkO, hr_mkO, hl_mkO, nx_mkO, us_mkO, cn_mkO, cs_mkO]; omega)) ?_
  refine wp_putR (0) d_157_9 fl_9_11 rfl rfl (Or.inl (by rfl)) (by simp [kd_setI, ln_setI, hi_setI, hr_setI, hl_setI, nx_setI, us_setI, cn_setI, cs_setI, kd_setR, ln_setR, hi_setR, hr_setR, hl_setR, nx_setR, us_setR, cn_setR, cs_setR, kd_setL, ln_setL, hi_setL, hr_setL, hl_setL, nx_setL, us_setL, cn_setL, cs_setL, kd_mkO, ln_mkO, hi_mkO, hr_mkO, hl_mkO, nx_mkO, us_mkO, cn_mkO, cs_mkO, up1, up2, hn, hk, Nat.add_assoc]) ?_
  refine wp_aload_n d_157_12 (by rfl) ?_
  refine wp_bipush d_157_13 (by decide) ?_
  refine wp_newa (K := 100) d_157_15 rfl (by decide) ca_100 rfl (by omega) (by omega) (by decide) (by first | omega | (simp [kd_setI, ln_setI, hi_setI, hr_setI, hl_setI, nx_setI, us_setI, cn_setI, cs_setI, kd_setR, ln_setR, hi_setR, hr_setR, hl_setR, nx_setR, us_setR, cn_setR, cs_setR, kd_setL, ln_setL, hi_setL, hr_setL, hl_setL, nx_setL, us_setL, cn_setL, cs_setL, kd_mkO, ln_mkO, hi_mkO, hr_mkO, hl_mkO, nx_mkO, us_mkO, cn_mkO, cs_mkO]; omega)) (by first | omega | (simp [kd_setI, ln_setI, hi_setI, hr_setI, hl_setI, nx_setI, us_setI, cn_setI, cs_setI, kd_setR, ln_setR, hi_setR, hr_setR, hl_setR, nx_setR, us_setR, cn_setR, cs_setR, kd_setL, ln_setL, hi_setL, hr_setL, hl_setL, nx_setL, us_setL, cn_setL, cs_setL, kd_mkO, ln_mkO, hi_mkO, hr_mkO, hl_mkO, nx_mkO, us_mkO, cn_mkO, cs_mkO]; omega)) ?_
  refine wp_putR (1) d_157_17 fl_9_15 rfl rfl (Or.inl (by rfl)) (by simp [kd_setI, ln_setI, hi_setI, hr_setI, hl_setI, nx_setI, us_setI, cn_setI, cs_setI, kd_setR, ln_setR, hi_setR, hr_setR, hl_setR, nx_setR, us_setR, cn_setR, cs_setR, kd_setL, ln_setL, hi_setL, hr_setL, hl_setL, nx_setL, us_setL, cn_setL, cs_setL, kd_mkO, ln_mkO, hi_mkO, hr_mkO, hl_mkO, nx_mkO, us_mkO, cn_mkO, cs_mkO, up1, up2, hn, hk, Nat.add_assoc]) ?_
  refine wp_vret d_157_20 rfl ?_
  have hb0 : ∀ b : Nat, b < a → b ≠ a := fun b hb => by omega
  refine ⟨rfl, ?_, by simp [kd_setI, ln_setI, hi_setI, hr_setI, hl_setI, nx_setI, us_setI, cn_setI, cs_setI, kd_setR, ln_setR, hi_setR, hr_setR, hl_setR, nx_setR, us_setR, cn_setR, cs_setR, kd_setL, ln_setL, hi_setL, hr_setL, hl_setL, nx_setL, us_setL, cn_setL, cs_setL, kd_mkO, ln_mkO, hi_mkO, hr_mkO, hl_mkO, nx_mkO, us_mkO, cn_mkO, cs_mkO, hn, Nat.add_assoc], by simp [kd_setI, ln_setI, hi_setI, hr_setI, hl_setI, nx_setI, us_setI, cn_setI, cs_setI, kd_setR, ln_setR, hi_setR, hr_setR, hl_setR, nx_setR, us_setR, cn_setR, cs_setR, kd_setL, ln_setL, hi_setL, hr_setL, hl_setL, nx_setL, us_setL, cn_setL, cs_setL, kd_mkO, ln_mkO, hi_mkO, hr_mkO, hl_mkO, nx_mkO, us_mkO, cn_mkO, cs_mkO, Nat.add_assoc], rfl, rfl, fun b hb => ?_⟩
  · simp [OffN, zA, nA, kd_setI, ln_setI, hi_setI, hr_setI, hl_setI, nx_setI, us_setI, cn_setI, cs_setI, kd_setR, ln_setR, hi_setR, hr_setR, hl_setR, nx_setR, us_setR, cn_setR, cs_setR, kd_setL, ln_setL, hi_setL, hr_setL, hl_setL, nx_setL, us_setL, cn_setL, cs_setL, kd_mkO, ln_mkO, hi_mkO, hr_mkO, hl_mkO, nx_mkO, us_mkO, cn_mkO, cs_mkO, up1, up2, hn, hk, hz, Nat.add_assoc]
  · have h1 : b ≠ a := by omega
    unfold eqA
    simp [kd_setI, ln_setI, hi_setI, hr_setI, hl_setI, nx_setI, us_setI, cn_setI, cs_setI, kd_setR, ln_setR, hi_setR, hr_setR, hl_setR, nx_setR, us_setR, cn_setR, cs_setR, kd_setL, ln_setL, hi_setL, hr_setL, hl_setL, nx_setL, us_setL, cn_setL, cs_setL, kd_mkO, ln_mkO, hi_mkO, hr_mkO, hl_mkO, nx_mkO, us_mkO, cn_mkO, cs_mkO, up1, up2, hn, h1, Nat.add_assoc, show ∀ k, b ≠ a + k from fun k => by omega]
/-- Network at a -/
def NetN (h : Hp) (a : Nat) : Prop := kd h a = 9 ∧ hr h a 0 = some (a + 1) ∧ hr h a 1 = some (a + 2) ∧ hr h a 2 = some (a + 3) ∧ hr h a 3 = some (a + 4) ∧ (hi h a 4 = 0 ∧ hi h a 5 = 0 ∧ hi h a 6 = 0 ∧ hi h a 7 = 0) ∧ zA h (a + 1) 16 ∧ nA h (a + 2) 104 20 ∧ nA h (a + 3) 105 6 ∧ nA h (a + 4) 106 24
set_option maxRecDepth 100000 in
set_option maxHeartbeats 4000000 in
theorem s_Network {a : Nat} {h : Hp} (hk : kd h a = 9) (hz : ∀ k, hi h a k = 0) (hn : nx h = a + 1) (r1 : nx h + 4 ≤ cn h) (r2 : us h + 66 ≤ cs h) : wp 156 0 (entL [vR (some a)] (mL 156)) [] h (fun v h' => v = none ∧ NetN h' a ∧ nx h' = a + 5 ∧ us h' = us h + 66 ∧ cn h' = cn h ∧ cs h' = cs h ∧ ∀ b, b < a → eqA h h' b) noX := by
  refine wp_aload_n d_156_0 (by rfl) ?_
  refine wp_objInit d_156_1 oi_8 co_code ⟨Nat.le_of_ble_eq_true rfl, Nat.le_of_ble_eq_true rfl⟩ ?_
  refine wp_aload_n d_156_4 (by rfl) ?_
  refine wp_bipush d_156_5 (by decide) ?_
  refine wp_newa (K := 100) d_156_7 rfl (by decide) ca_100 rfl (by omega) (by omega) (by decide) (by first | omega | (simp [kd_setI, ln_setI, hi_setI, hr_setI, hl_setI, nx_setI, us_setI, cn_setI, cs_setI, kd_setR, ln_setR, hi_setR, hr_setR, hl_setR, nx_setR, us_setR, cn_setR, cs_setR, kd_setL, ln_setL, hi_setL, hr_setL, hl_setL, nx_setL, us_setL, cn_setL, cs_setL, kd_mkO, ln_mkO, hi_mkO, hr_mkO, hl_mkO, nx_mkO, us_mkO, cn_mkO, cs_mkO]; omega)) (by first | omega | (simp [kd_setI, ln_setI, hi_setI, hr_setI, hl_setI, nx_setI, us_setI, cn_setI, cs_setI, kd_setR, ln_setR, hi_setR, hr_setR, hl_setR, nx_setR, us_setR, cn_setR, cs_setR, kd_setL, ln_setL, hi_setL, hr_setL, hl_setL, nx_setL, us_setL, cn_setL, cs_setL, kd_mkO, ln_mkO, hi_mkO, hr_mkO, hl_mkO, nx_mkO, us_mkO, cn_mkO, cs_mkO]; omega)) ?_
  refine wp_putR (0) d_156_9 fl_8_9 rfl rfl (Or.inr ⟨by rfl, by rfl, by rfl⟩) (by simp [kd_setI, ln_setI, hi_setI, hr_setI, hl_setI, nx_setI, us_setI, cn_setI, cs_setI, kd_setR, ln_setR, hi_setR, hr_setR, hl_setR, nx_setR, us_setR, cn_setR, cs_setR, kd_setL, ln_setL, hi_setL, hr_setL, hl_setL, nx_setL, us_setL, cn_setL, cs_setL, kd_mkO, ln_mkO, hi_mkO, hr_mkO, hl_mkO, nx_mkO, us_mkO, cn_mkO, cs_mkO, up1, up2, hn, hk, Nat.add_assoc]) ?_
  refine wp_aload_n d_156_12 (by rfl) ?_
  refine wp_bipush d_156_13 (by decide) ?_
  refine wp_anew (K := 104) d_156_15 cl_8_15 rfl (by decide) ca_104 (by omega) (by omega) (by first | omega | (simp [kd_setI, ln_setI, hi_setI, hr_setI, hl_setI, nx_setI, us_setI, cn_setI, cs_setI, kd_setR, ln_setR, hi_setR, hr_setR, hl_setR, nx_setR, us_setR, cn_setR, cs_setR, kd_setL, ln_setL, hi_setL, hr_setL, hl_setL, nx_setL, us_setL, cn_setL, cs_setL, kd_mkO, ln_mkO, hi_mkO, hr_mkO, hl_mkO, nx_mkO, us_mkO, cn_mkO, cs_mkO]; omega)) (by first | omega | (simp [kd_setI, ln_setI, hi_setI, hr_setI, hl_setI, nx_setI, us_setI, cn_setI, cs_setI, kd_setR, ln_setR, hi_setR, hr_setR, hl_setR, nx_setR, us_setR, cn_setR, cs_setR, kd_setL, ln_setL, hi_setL, hr_setL, hl_setL, nx_setL, us_setL, cn_setL, cs_setL, kd_mkO, ln_mkO, hi_mkO, hr_mkO, hl_mkO, nx_mkO, us_mkO, cn_mkO, cs_mkO]; omega)) ?_
  refine wp_putR (1) d_156_18 fl_8_17 rfl rfl (Or.inr ⟨by rfl, by rfl, by rfl⟩) (by simp [kd_setI, ln_setI, hi_setI, hr_setI, hl_setI, nx_setI, us_setI, cn_setI, cs_setI, kd_setR, ln_setR, hi_setR, hr_setR, hl_setR, nx_setR, us_setR, cn_setR, cs_setR, kd_setL, ln_setL, hi_setL, hr_setL, hl_setL, nx_setL, us_setL, cn_setL, cs_setL, kd_mkO, ln_mkO, hi_mkO, hr_mkO, hl_mkO, nx_mkO, us_mkO, cn_mkO, cs_mkO, up1, up2, hn, hk, Nat.add_assoc]) ?_
  refine wp_aload_n d_156_21 (by rfl) ?_
  refine wp_bipush d_156_22 (by decide) ?_
  refine wp_anew (K := 105) d_156_24 cl_8_21 rfl (by decide) ca_105 (by omega) (by omega) (by first | omega | (simp [kd_setI, ln_setI, hi_setI, hr_setI, hl_setI, nx_setI, us_setI, cn_setI, cs_setI, kd_setR, ln_setR, hi_setR, hr_setR, hl_setR, nx_setR, us_setR, cn_setR, cs_setR, kd_setL, ln_setL, hi_setL, hr_setL, hl_setL, nx_setL, us_setL, cn_setL, cs_setL, kd_mkO, ln_mkO, hi_mkO, hr_mkO, hl_mkO, nx_mkO, us_mkO, cn_mkO, cs_mkO]; omega)) (by first | omega | (simp [kd_setI, ln_setI, hi_setI, hr_setI, hl_setI, nx_setI, us_setI, cn_setI, cs_setI, kd_setR, ln_setR, hi_setR, hr_setR, hl_setR, nx_setR, us_setR, cn_setR, cs_setR, kd_setL, ln_setL, hi_setL, hr_setL, hl_setL, nx_setL, us_setL, cn_setL, cs_setL, kd_mkO, ln_mkO, hi_mkO, hr_mkO, hl_mkO, nx_mkO, us_mkO, cn_mkO, cs_mkO]; omega)) ?_
  refine wp_putR (2) d_156_27 fl_8_23 rfl rfl (Or.inr ⟨by rfl, by rfl, by rfl⟩) (by simp [kd_setI, ln_setI, hi_setI, hr_setI, hl_setI, nx_setI, us_setI, cn_setI, cs_setI, kd_setR, ln_setR, hi_setR, hr_setR, hl_setR, nx_setR, us_setR, cn_setR, cs_setR, kd_setL, ln_setL, hi_setL, hr_setL, hl_setL, nx_setL, us_setL, cn_setL, cs_setL, kd_mkO, ln_mkO, hi_mkO, hr_mkO, hl_mkO, nx_mkO, us_mkO, cn_mkO, cs_mkO, up1, up2, hn, hk, Nat.add_assoc]) ?_
  refine wp_aload_n d_156_30 (by rfl) ?_
  refine wp_bipush d_156_31 (by decide) ?_
  refine wp_anew (K := 106) d_156_33 cl_8_27 rfl (by decide) ca_106 (by omega) (by omega) (by first | omega | (simp [kd_setI, ln_setI, hi_setI, hr_setI, hl_setI, nx_setI, us_setI, cn_setI, cs_setI, kd_setR, ln_setR, hi_setR, hr_setR, hl_setR, nx_setR, us_setR, cn_setR, cs_setR, kd_setL, ln_setL, hi_setL, hr_setL, hl_setL, nx_setL, us_setL, cn_setL, cs_setL, kd_mkO, ln_mkO, hi_mkO, hr_mkO, hl_mkO, nx_mkO, us_mkO, cn_mkO, cs_mkO]; omega)) (by first | omega | (simp [kd_setI, ln_setI, hi_setI, hr_setI, hl_setI, nx_setI, us_setI, cn_setI, cs_setI, kd_setR, ln_setR, hi_setR, hr_setR, hl_setR, nx_setR, us_setR, cn_setR, cs_setR, kd_setL, ln_setL, hi_setL, hr_setL, hl_setL, nx_setL, us_setL, cn_setL, cs_setL, kd_mkO, ln_mkO, hi_mkO, hr_mkO, hl_mkO, nx_mkO, us_mkO, cn_mkO, cs_mkO]; omega)) ?_
  refine wp_putR (3) d_156_36 fl_8_29 rfl rfl (Or.inr ⟨by rfl, by rfl, by rfl⟩) (by simp [kd_setI, ln_setI, hi_setI, hr_setI, hl_setI, nx_setI, us_setI, cn_setI, cs_setI, kd_setR, ln_setR, hi_setR, hr_setR, hl_setR, nx_setR, us_setR, cn_setR, cs_setR, kd_setL, ln_setL, hi_setL, hr_setL, hl_setL, nx_setL, us_setL, cn_setL, cs_setL, kd_mkO, ln_mkO, hi_mkO, hr_mkO, hl_mkO, nx_mkO, us_mkO, cn_mkO, cs_mkO, up1, up2, hn, hk, Nat.add_assoc]) ?_
  refine wp_vret d_156_39 rfl ?_
  have hb0 : ∀ b : Nat, b < a → b ≠ a := fun b hb => by omega
  refine ⟨rfl, ?_, by simp [kd_setI, ln_setI, hi_setI, hr_setI, hl_setI, nx_setI, us_setI, cn_setI, cs_setI, kd_setR, ln_setR, hi_setR, hr_setR, hl_setR, nx_setR, us_setR, cn_setR, cs_setR, kd_setL, ln_setL, hi_setL, hr_setL, hl_setL, nx_setL, us_setL, cn_setL, cs_setL, kd_mkO, ln_mkO, hi_mkO, hr_mkO, hl_mkO, nx_mkO, us_mkO, cn_mkO, cs_mkO, hn, Nat.add_assoc], by simp [kd_setI, ln_setI, hi_setI, hr_setI, hl_setI, nx_setI, us_setI, cn_setI, cs_setI, kd_setR, ln_setR, hi_setR, hr_setR, hl_setR, nx_setR, us_setR, cn_setR, cs_setR, kd_setL, ln_setL, hi_setL, hr_setL, hl_setL, nx_setL, us_setL, cn_setL, cs_setL, kd_mkO, ln_mkO, hi_mkO, hr_mkO, hl_mkO, nx_mkO, us_mkO, cn_mkO, cs_mkO, Nat.add_assoc], rfl, rfl, fun b hb => ?_⟩
  · simp [NetN, zA, nA, kd_setI, ln_setI, hi_setI, hr_setI, hl_setI, nx_setI, us_setI, cn_setI, cs_setI, kd_setR, ln_setR, hi_setR, hr_setR, hl_setR, nx_setR, us_setR, cn_setR, cs_setR, kd_setL, ln_setL, hi_setL, hr_setL, hl_setL, nx_setL, us_setL, cn_setL, cs_setL, kd_mkO, ln_mkO, hi_mkO, hr_mkO, hl_mkO, nx_mkO, us_mkO, cn_mkO, cs_mkO, up1, up2, hn, hk, hz, Nat.add_assoc]
  · have h1 : b ≠ a := by omega
    unfold eqA
    simp [kd_setI, ln_setI, hi_setI, hr_setI, hl_setI, nx_setI, us_setI, cn_setI, cs_setI, kd_setR, ln_setR, hi_setR, hr_setR, hl_setR, nx_setR, us_setR, cn_setR, cs_setR, kd_setL, ln_setL, hi_setL, hr_setL, hl_setL, nx_setL, us_setL, cn_setL, cs_setL, kd_mkO, ln_mkO, hi_mkO, hr_mkO, hl_mkO, nx_mkO, us_mkO, cn_mkO, cs_mkO, up1, up2, hn, h1, Nat.add_assoc, show ∀ k, b ≠ a + k from fun k => by omega]
/-- Runs at a -/
def RunN (h : Hp) (a : Nat) : Prop := kd h a = 12 ∧ hr h a 0 = some (a + 1) ∧ hr h a 1 = some (a + 2) ∧ hr h a 2 = some (a + 3) ∧ hi h a 3 = 0 ∧ nA h (a + 1) 106 192 ∧ zA h (a + 2) 192 ∧ zA h (a + 3) 192
set_option maxRecDepth 100000 in
set_option maxHeartbeats 4000000 in
theorem s_Runs {a : Nat} {h : Hp} (hk : kd h a = 12) (hz : ∀ k, hi h a k = 0) (hn : nx h = a + 1) (r1 : nx h + 3 ≤ cn h) (r2 : us h + 576 ≤ cs h) : wp 173 0 (entL [vR (some a)] (mL 173)) [] h (fun v h' => v = none ∧ RunN h' a ∧ nx h' = a + 4 ∧ us h' = us h + 576 ∧ cn h' = cn h ∧ cs h' = cs h ∧ ∀ b, b < a → eqA h h' b) noX := by
  refine wp_aload_n d_173_0 (by rfl) ?_
  refine wp_objInit d_173_1 oi_11 co_code ⟨Nat.le_of_ble_eq_true rfl, Nat.le_of_ble_eq_true rfl⟩ ?_
  refine wp_aload_n d_173_4 (by rfl) ?_
  refine wp_sipush d_173_5 (by decide) ?_
  refine wp_anew (K := 106) d_173_8 cl_11_9 rfl (by decide) ca_106 (by omega) (by omega) (by first | omega | (simp [kd_setI, ln_setI, hi_setI, hr_setI, hl_setI, nx_setI, us_setI, cn_setI, cs_setI, kd_setR, ln_setR, hi_setR, hr_setR, hl_setR, nx_setR, us_setR, cn_setR, cs_setR, kd_setL, ln_setL, hi_setL, hr_setL, hl_setL, nx_setL, us_setL, cn_setL, cs_setL, kd_mkO, ln_mkO, hi_mkO, hr_mkO, hl_mkO, nx_mkO, us_mkO, cn_mkO, cs_mkO]; omega)) (by first | omega | (simp [kd_setI, ln_setI, hi_setI, hr_setI, hl_setI, nx_setI, us_setI, cn_setI, cs_setI, kd_setR, ln_setR, hi_setR, hr_setR, hl_setR, nx_setR, us_setR, cn_setR, cs_setR, kd_setL, ln_setL, hi_setL, hr_setL, hl_setL, nx_setL, us_setL, cn_setL, cs_setL, kd_mkO, ln_mkO, hi_mkO, hr_mkO, hl_mkO, nx_mkO, us_mkO, cn_mkO, cs_mkO]; omega)) ?_
  refine wp_putR (0) d_173_11 fl_11_11 rfl rfl (Or.inr ⟨by rfl, by rfl, by rfl⟩) (by simp [kd_setI, ln_setI, hi_setI, hr_setI, hl_setI, nx_setI, us_setI, cn_setI, cs_setI, kd_setR, ln_setR, hi_setR, hr_setR, hl_setR, nx_setR, us_setR, cn_setR, cs_setR, kd_setL, ln_setL, hi_setL, hr_setL, hl_setL, nx_setL, us_setL, cn_setL, cs_setL, kd_mkO, ln_mkO, hi_mkO, hr_mkO, hl_mkO, nx_mkO, us_mkO, cn_mkO, cs_mkO, up1, up2, hn, hk, Nat.add_assoc]) ?_
  refine wp_aload_n d_173_14 (by rfl) ?_
  refine wp_sipush d_173_15 (by decide) ?_
  refine wp_newa (K := 100) d_173_18 rfl (by decide) ca_100 rfl (by omega) (by omega) (by decide) (by first | omega | (simp [kd_setI, ln_setI, hi_setI, hr_setI, hl_setI, nx_setI, us_setI, cn_setI, cs_setI, kd_setR, ln_setR, hi_setR, hr_setR, hl_setR, nx_setR, us_setR, cn_setR, cs_setR, kd_setL, ln_setL, hi_setL, hr_setL, hl_setL, nx_setL, us_setL, cn_setL, cs_setL, kd_mkO, ln_mkO, hi_mkO, hr_mkO, hl_mkO, nx_mkO, us_mkO, cn_mkO, cs_mkO]; omega)) (by first | omega | (simp [kd_setI, ln_setI, hi_setI, hr_setI, hl_setI, nx_setI, us_setI, cn_setI, cs_setI, kd_setR, ln_setR, hi_setR, hr_setR, hl_setR, nx_setR, us_setR, cn_setR, cs_setR, kd_setL, ln_setL, hi_setL, hr_setL, hl_setL, nx_setL, us_setL, cn_setL, cs_setL, kd_mkO, ln_mkO, hi_mkO, hr_mkO, hl_mkO, nx_mkO, us_mkO, cn_mkO, cs_mkO]; omega)) ?_
  refine wp_putR (1) d_173_20 fl_11_17 rfl rfl (Or.inr ⟨by rfl, by rfl, by rfl⟩) (by simp [kd_setI, ln_setI, hi_setI, hr_setI, hl_setI, nx_setI, us_setI, cn_setI, cs_setI, kd_setR, ln_setR, hi_setR, hr_setR, hl_setR, nx_setR, us_setR, cn_setR, cs_setR, kd_setL, ln_setL, hi_setL, hr_setL, hl_setL, nx_setL, us_setL, cn_setL, cs_setL, kd_mkO, ln_mkO, hi_mkO, hr_mkO, hl_mkO, nx_mkO, us_mkO, cn_mkO, cs_mkO, up1, up2, hn, hk, Nat.add_assoc]) ?_
  refine wp_aload_n d_173_23 (by rfl) ?_
  refine wp_sipush d_173_24 (by decide) ?_
  refine wp_newa (K := 100) d_173_27 rfl (by decide) ca_100 rfl (by omega) (by omega) (by decide) (by first | omega | (simp [kd_setI, ln_setI, hi_setI, hr_setI, hl_setI, nx_setI, us_setI, cn_setI, cs_setI, kd_setR, ln_setR, hi_setR, hr_setR, hl_setR, nx_setR, us_setR, cn_setR, cs_setR, kd_setL, ln_setL, hi_setL, hr_setL, hl_setL, nx_setL, us_setL, cn_setL, cs_setL, kd_mkO, ln_mkO, hi_mkO, hr_mkO, hl_mkO, nx_mkO, us_mkO, cn_mkO, cs_mkO]; omega)) (by first | omega | (simp [kd_setI, ln_setI, hi_setI, hr_setI, hl_setI, nx_setI, us_setI, cn_setI, cs_setI, kd_setR, ln_setR, hi_setR, hr_setR, hl_setR, nx_setR, us_setR, cn_setR, cs_setR, kd_setL, ln_setL, hi_setL, hr_setL, hl_setL, nx_setL, us_setL, cn_setL, cs_setL, kd_mkO, ln_mkO, hi_mkO, hr_mkO, hl_mkO, nx_mkO, us_mkO, cn_mkO, cs_mkO]; omega)) ?_
  refine wp_putR (2) d_173_29 fl_11_21 rfl rfl (Or.inr ⟨by rfl, by rfl, by rfl⟩) (by simp [kd_setI, ln_setI, hi_setI, hr_setI, hl_setI, nx_setI, us_setI, cn_setI, cs_setI, kd_setR, ln_setR, hi_setR, hr_setR, hl_setR, nx_setR, us_setR, cn_setR, cs_setR, kd_setL, ln_setL, hi_setL, hr_setL, hl_setL, nx_setL, us_setL, cn_setL, cs_setL, kd_mkO, ln_mkO, hi_mkO, hr_mkO, hl_mkO, nx_mkO, us_mkO, cn_mkO, cs_mkO, up1, up2, hn, hk, Nat.add_assoc]) ?_
  refine wp_vret d_173_32 rfl ?_
  have hb0 : ∀ b : Nat, b < a → b ≠ a := fun b hb => by omega
  refine ⟨rfl, ?_, by simp [kd_setI, ln_setI, hi_setI, hr_setI, hl_setI, nx_setI, us_setI, cn_setI, cs_setI, kd_setR, ln_setR, hi_setR, hr_setR, hl_setR, nx_setR, us_setR, cn_setR, cs_setR, kd_setL, ln_setL, hi_setL, hr_setL, hl_setL, nx_setL, us_setL, cn_setL, cs_setL, kd_mkO, ln_mkO, hi_mkO, hr_mkO, hl_mkO, nx_mkO, us_mkO, cn_mkO, cs_mkO, hn, Nat.add_assoc], by simp [kd_setI, ln_setI, hi_setI, hr_setI, hl_setI, nx_setI, us_setI, cn_setI, cs_setI, kd_setR, ln_setR, hi_setR, hr_setR, hl_setR, nx_setR, us_setR, cn_setR, cs_setR, kd_setL, ln_setL, hi_setL, hr_setL, hl_setL, nx_setL, us_setL, cn_setL, cs_setL, kd_mkO, ln_mkO, hi_mkO, hr_mkO, hl_mkO, nx_mkO, us_mkO, cn_mkO, cs_mkO, Nat.add_assoc], rfl, rfl, fun b hb => ?_⟩
  · simp [RunN, zA, nA, kd_setI, ln_setI, hi_setI, hr_setI, hl_setI, nx_setI, us_setI, cn_setI, cs_setI, kd_setR, ln_setR, hi_setR, hr_setR, hl_setR, nx_setR, us_setR, cn_setR, cs_setR, kd_setL, ln_setL, hi_setL, hr_setL, hl_setL, nx_setL, us_setL, cn_setL, cs_setL, kd_mkO, ln_mkO, hi_mkO, hr_mkO, hl_mkO, nx_mkO, us_mkO, cn_mkO, cs_mkO, up1, up2, hn, hk, hz, Nat.add_assoc]
  · have h1 : b ≠ a := by omega
    unfold eqA
    simp [kd_setI, ln_setI, hi_setI, hr_setI, hl_setI, nx_setI, us_setI, cn_setI, cs_setI, kd_setR, ln_setR, hi_setR, hr_setR, hl_setR, nx_setR, us_setR, cn_setR, cs_setR, kd_setL, ln_setL, hi_setL, hr_setL, hl_setL, nx_setL, us_setL, cn_setL, cs_setL, kd_mkO, ln_mkO, hi_mkO, hr_mkO, hl_mkO, nx_mkO, us_mkO, cn_mkO, cs_mkO, up1, up2, hn, h1, Nat.add_assoc, show ∀ k, b ≠ a + k from fun k => by omega]
/-- Board at a -/
def BoaN (h : Hp) (a : Nat) : Prop := kd h a = 4 ∧ hr h a 0 = some (a + 1) ∧ hi h a 1 = 0 ∧ kd h (a + 1) = 101 ∧ ln h (a + 1) = 1344
set_option maxRecDepth 100000 in
set_option maxHeartbeats 4000000 in
theorem s_Board {a : Nat} {h : Hp} (hk : kd h a = 4) (hz : ∀ k, hi h a k = 0) (hn : nx h = a + 1) (r1 : nx h + 1 ≤ cn h) (r2 : us h + 1344 ≤ cs h) : wp 126 0 (entL [vR (some a)] (mL 126)) [] h (fun v h' => v = none ∧ BoaN h' a ∧ nx h' = a + 2 ∧ us h' = us h + 1344 ∧ cn h' = cn h ∧ cs h' = cs h ∧ ∀ b, b < a → eqA h h' b) noX := by
  refine wp_aload_n d_126_0 (by rfl) ?_
  refine wp_objInit d_126_1 oi_3 co_code ⟨Nat.le_of_ble_eq_true rfl, Nat.le_of_ble_eq_true rfl⟩ ?_
  refine wp_aload_n d_126_4 (by rfl) ?_
  refine wp_sipush d_126_5 (by decide) ?_
  refine wp_newa (K := 101) d_126_8 rfl (by decide) ca_101 rfl (by omega) (by omega) (by decide) (by first | omega | (simp [kd_setI, ln_setI, hi_setI, hr_setI, hl_setI, nx_setI, us_setI, cn_setI, cs_setI, kd_setR, ln_setR, hi_setR, hr_setR, hl_setR, nx_setR, us_setR, cn_setR, cs_setR, kd_setL, ln_setL, hi_setL, hr_setL, hl_setL, nx_setL, us_setL, cn_setL, cs_setL, kd_mkO, ln_mkO, hi_mkO, hr_mkO, hl_mkO, nx_mkO, us_mkO, cn_mkO, cs_mkO]; omega)) (by first | omega | (simp [kd_setI, ln_setI, hi_setI, hr_setI, hl_setI, nx_setI, us_setI, cn_setI, cs_setI, kd_setR, ln_setR, hi_setR, hr_setR, hl_setR, nx_setR, us_setR, cn_setR, cs_setR, kd_setL, ln_setL, hi_setL, hr_setL, hl_setL, nx_setL, us_setL, cn_setL, cs_setL, kd_mkO, ln_mkO, hi_mkO, hr_mkO, hl_mkO, nx_mkO, us_mkO, cn_mkO, cs_mkO]; omega)) ?_
  refine wp_putR (0) d_126_10 fl_3_9 rfl rfl (Or.inr ⟨by rfl, by rfl, by rfl⟩) (by simp [kd_setI, ln_setI, hi_setI, hr_setI, hl_setI, nx_setI, us_setI, cn_setI, cs_setI, kd_setR, ln_setR, hi_setR, hr_setR, hl_setR, nx_setR, us_setR, cn_setR, cs_setR, kd_setL, ln_setL, hi_setL, hr_setL, hl_setL, nx_setL, us_setL, cn_setL, cs_setL, kd_mkO, ln_mkO, hi_mkO, hr_mkO, hl_mkO, nx_mkO, us_mkO, cn_mkO, cs_mkO, up1, up2, hn, hk, Nat.add_assoc]) ?_
  refine wp_vret d_126_13 rfl ?_
  have hb0 : ∀ b : Nat, b < a → b ≠ a := fun b hb => by omega
  refine ⟨rfl, ?_, by simp [kd_setI, ln_setI, hi_setI, hr_setI, hl_setI, nx_setI, us_setI, cn_setI, cs_setI, kd_setR, ln_setR, hi_setR, hr_setR, hl_setR, nx_setR, us_setR, cn_setR, cs_setR, kd_setL, ln_setL, hi_setL, hr_setL, hl_setL, nx_setL, us_setL, cn_setL, cs_setL, kd_mkO, ln_mkO, hi_mkO, hr_mkO, hl_mkO, nx_mkO, us_mkO, cn_mkO, cs_mkO, hn, Nat.add_assoc], by simp [kd_setI, ln_setI, hi_setI, hr_setI, hl_setI, nx_setI, us_setI, cn_setI, cs_setI, kd_setR, ln_setR, hi_setR, hr_setR, hl_setR, nx_setR, us_setR, cn_setR, cs_setR, kd_setL, ln_setL, hi_setL, hr_setL, hl_setL, nx_setL, us_setL, cn_setL, cs_setL, kd_mkO, ln_mkO, hi_mkO, hr_mkO, hl_mkO, nx_mkO, us_mkO, cn_mkO, cs_mkO, Nat.add_assoc], rfl, rfl, fun b hb => ?_⟩
  · simp [BoaN, zA, nA, kd_setI, ln_setI, hi_setI, hr_setI, hl_setI, nx_setI, us_setI, cn_setI, cs_setI, kd_setR, ln_setR, hi_setR, hr_setR, hl_setR, nx_setR, us_setR, cn_setR, cs_setR, kd_setL, ln_setL, hi_setL, hr_setL, hl_setL, nx_setL, us_setL, cn_setL, cs_setL, kd_mkO, ln_mkO, hi_mkO, hr_mkO, hl_mkO, nx_mkO, us_mkO, cn_mkO, cs_mkO, up1, up2, hn, hk, hz, Nat.add_assoc]
  · have h1 : b ≠ a := by omega
    unfold eqA
    simp [kd_setI, ln_setI, hi_setI, hr_setI, hl_setI, nx_setI, us_setI, cn_setI, cs_setI, kd_setR, ln_setR, hi_setR, hr_setR, hl_setR, nx_setR, us_setR, cn_setR, cs_setR, kd_setL, ln_setL, hi_setL, hr_setL, hl_setL, nx_setL, us_setL, cn_setL, cs_setL, kd_mkO, ln_mkO, hi_mkO, hr_mkO, hl_mkO, nx_mkO, us_mkO, cn_mkO, cs_mkO, up1, up2, hn, h1, Nat.add_assoc, show ∀ k, b ≠ a + k from fun k => by omega]
/-- Journey at a -/
def JouN (h : Hp) (a : Nat) : Prop := kd h a = 8 ∧ hr h a 5 = some (a + 1) ∧ hr h a 6 = some (a + 2) ∧ hr h a 7 = some (a + 3) ∧ hr h a 8 = some (a + 4) ∧ hr h a 9 = some (a + 5) ∧ hr h a 10 = some (a + 6) ∧ hr h a 11 = some (a + 7) ∧ (hi h a 0 = 0 ∧ hi h a 1 = 0 ∧ hi h a 2 = 0 ∧ hi h a 3 = 0 ∧ hi h a 4 = 0 ∧ hi h a 12 = 0 ∧ hi h a 13 = 0) ∧ nA h (a + 1) 106 13 ∧ zA h (a + 2) 13 ∧ zA h (a + 3) 13 ∧ zA h (a + 4) 13 ∧ zA h (a + 5) 13 ∧ zA h (a + 6) 13 ∧ zA h (a + 7) 13
set_option maxRecDepth 100000 in
set_option maxHeartbeats 4000000 in
theorem s_Journey {a : Nat} {h : Hp} (hk : kd h a = 8) (hz : ∀ k, hi h a k = 0) (hn : nx h = a + 1) (r1 : nx h + 7 ≤ cn h) (r2 : us h + 91 ≤ cs h) : wp 141 0 (entL [vR (some a)] (mL 141)) [] h (fun v h' => v = none ∧ JouN h' a ∧ nx h' = a + 8 ∧ us h' = us h + 91 ∧ cn h' = cn h ∧ cs h' = cs h ∧ ∀ b, b < a → eqA h h' b) noX := by
  refine wp_aload_n d_141_0 (by rfl) ?_
  refine wp_objInit d_141_1 oi_7 co_code ⟨Nat.le_of_ble_eq_true rfl, Nat.le_of_ble_eq_true rfl⟩ ?_
  refine wp_aload_n d_141_4 (by rfl) ?_
  refine wp_bipush d_141_5 (by decide) ?_
  refine wp_anew (K := 106) d_141_7 cl_7_9 rfl (by decide) ca_106 (by omega) (by omega) (by first | omega | (simp [kd_setI, ln_setI, hi_setI, hr_setI, hl_setI, nx_setI, us_setI, cn_setI, cs_setI, kd_setR, ln_setR, hi_setR, hr_setR, hl_setR, nx_setR, us_setR, cn_setR, cs_setR, kd_setL, ln_setL, hi_setL, hr_setL, hl_setL, nx_setL, us_setL, cn_setL, cs_setL, kd_mkO, ln_mkO, hi_mkO, hr_mkO, hl_mkO, nx_mkO, us_mkO, cn_mkO, cs_mkO]; omega)) (by first | omega | (simp [kd_setI, ln_setI, hi_setI, hr_setI, hl_setI, nx_setI, us_setI, cn_setI, cs_setI, kd_setR, ln_setR, hi_setR, hr_setR, hl_setR, nx_setR, us_setR, cn_setR, cs_setR, kd_setL, ln_setL, hi_setL, hr_setL, hl_setL, nx_setL, us_setL, cn_setL, cs_setL, kd_mkO, ln_mkO, hi_mkO, hr_mkO, hl_mkO, nx_mkO, us_mkO, cn_mkO, cs_mkO]; omega)) ?_
  refine wp_putR (5) d_141_10 fl_7_11 rfl rfl (Or.inr ⟨by rfl, by rfl, by rfl⟩) (by simp [kd_setI, ln_setI, hi_setI, hr_setI, hl_setI, nx_setI, us_setI, cn_setI, cs_setI, kd_setR, ln_setR, hi_setR, hr_setR, hl_setR, nx_setR, us_setR, cn_setR, cs_setR, kd_setL, ln_setL, hi_setL, hr_setL, hl_setL, nx_setL, us_setL, cn_setL, cs_setL, kd_mkO, ln_mkO, hi_mkO, hr_mkO, hl_mkO, nx_mkO, us_mkO, cn_mkO, cs_mkO, up1, up2, hn, hk, Nat.add_assoc]) ?_
  refine wp_aload_n d_141_13 (by rfl) ?_
  refine wp_bipush d_141_14 (by decide) ?_
  refine wp_newa (K := 100) d_141_16 rfl (by decide) ca_100 rfl (by omega) (by omega) (by decide) (by first | omega | (simp [kd_setI, ln_setI, hi_setI, hr_setI, hl_setI, nx_setI, us_setI, cn_setI, cs_setI, kd_setR, ln_setR, hi_setR, hr_setR, hl_setR, nx_setR, us_setR, cn_setR, cs_setR, kd_setL, ln_setL, hi_setL, hr_setL, hl_setL, nx_setL, us_setL, cn_setL, cs_setL, kd_mkO, ln_mkO, hi_mkO, hr_mkO, hl_mkO, nx_mkO, us_mkO, cn_mkO, cs_mkO]; omega)) (by first | omega | (simp [kd_setI, ln_setI, hi_setI, hr_setI, hl_setI, nx_setI, us_setI, cn_setI, cs_setI, kd_setR, ln_setR, hi_setR, hr_setR, hl_setR, nx_setR, us_setR, cn_setR, cs_setR, kd_setL, ln_setL, hi_setL, hr_setL, hl_setL, nx_setL, us_setL, cn_setL, cs_setL, kd_mkO, ln_mkO, hi_mkO, hr_mkO, hl_mkO, nx_mkO, us_mkO, cn_mkO, cs_mkO]; omega)) ?_
  refine wp_putR (6) d_141_18 fl_7_17 rfl rfl (Or.inr ⟨by rfl, by rfl, by rfl⟩) (by simp [kd_setI, ln_setI, hi_setI, hr_setI, hl_setI, nx_setI, us_setI, cn_setI, cs_setI, kd_setR, ln_setR, hi_setR, hr_setR, hl_setR, nx_setR, us_setR, cn_setR, cs_setR, kd_setL, ln_setL, hi_setL, hr_setL, hl_setL, nx_setL, us_setL, cn_setL, cs_setL, kd_mkO, ln_mkO, hi_mkO, hr_mkO, hl_mkO, nx_mkO, us_mkO, cn_mkO, cs_mkO, up1, up2, hn, hk, Nat.add_assoc]) ?_
  refine wp_aload_n d_141_21 (by rfl) ?_
  refine wp_bipush d_141_22 (by decide) ?_
  refine wp_newa (K := 100) d_141_24 rfl (by decide) ca_100 rfl (by omega) (by omega) (by decide) (by first | omega | (simp [kd_setI, ln_setI, hi_setI, hr_setI, hl_setI, nx_setI, us_setI, cn_setI, cs_setI, kd_setR, ln_setR, hi_setR, hr_setR, hl_setR, nx_setR, us_setR, cn_setR, cs_setR, kd_setL, ln_setL, hi_setL, hr_setL, hl_setL, nx_setL, us_setL, cn_setL, cs_setL, kd_mkO, ln_mkO, hi_mkO, hr_mkO, hl_mkO, nx_mkO, us_mkO, cn_mkO, cs_mkO]; omega)) (by first | omega | (simp [kd_setI, ln_setI, hi_setI, hr_setI, hl_setI, nx_setI, us_setI, cn_setI, cs_setI, kd_setR, ln_setR, hi_setR, hr_setR, hl_setR, nx_setR, us_setR, cn_setR, cs_setR, kd_setL, ln_setL, hi_setL, hr_setL, hl_setL, nx_setL, us_setL, cn_setL, cs_setL, kd_mkO, ln_mkO, hi_mkO, hr_mkO, hl_mkO, nx_mkO, us_mkO, cn_mkO, cs_mkO]; omega)) ?_
  refine wp_putR (7) d_141_26 fl_7_21 rfl rfl (Or.inr ⟨by rfl, by rfl, by rfl⟩) (by simp [kd_setI, ln_setI, hi_setI, hr_setI, hl_setI, nx_setI, us_setI, cn_setI, cs_setI, kd_setR, ln_setR, hi_setR, hr_setR, hl_setR, nx_setR, us_setR, cn_setR, cs_setR, kd_setL, ln_setL, hi_setL, hr_setL, hl_setL, nx_setL, us_setL, cn_setL, cs_setL, kd_mkO, ln_mkO, hi_mkO, hr_mkO, hl_mkO, nx_mkO, us_mkO, cn_mkO, cs_mkO, up1, up2, hn, hk, Nat.add_assoc]) ?_
  refine wp_aload_n d_141_29 (by rfl) ?_
  refine wp_bipush d_141_30 (by decide) ?_
  refine wp_newa (K := 100) d_141_32 rfl (by decide) ca_100 rfl (by omega) (by omega) (by decide) (by first | omega | (simp [kd_setI, ln_setI, hi_setI, hr_setI, hl_setI, nx_setI, us_setI, cn_setI, cs_setI, kd_setR, ln_setR, hi_setR, hr_setR, hl_setR, nx_setR, us_setR, cn_setR, cs_setR, kd_setL, ln_setL, hi_setL, hr_setL, hl_setL, nx_setL, us_setL, cn_setL, cs_setL, kd_mkO, ln_mkO, hi_mkO, hr_mkO, hl_mkO, nx_mkO, us_mkO, cn_mkO, cs_mkO]; omega)) (by first | omega | (simp [kd_setI, ln_setI, hi_setI, hr_setI, hl_setI, nx_setI, us_setI, cn_setI, cs_setI, kd_setR, ln_setR, hi_setR, hr_setR, hl_setR, nx_setR, us_setR, cn_setR, cs_setR, kd_setL, ln_setL, hi_setL, hr_setL, hl_setL, nx_setL, us_setL, cn_setL, cs_setL, kd_mkO, ln_mkO, hi_mkO, hr_mkO, hl_mkO, nx_mkO, us_mkO, cn_mkO, cs_mkO]; omega)) ?_
  refine wp_putR (8) d_141_34 fl_7_24 rfl rfl (Or.inr ⟨by rfl, by rfl, by rfl⟩) (by simp [kd_setI, ln_setI, hi_setI, hr_setI, hl_setI, nx_setI, us_setI, cn_setI, cs_setI, kd_setR, ln_setR, hi_setR, hr_setR, hl_setR, nx_setR, us_setR, cn_setR, cs_setR, kd_setL, ln_setL, hi_setL, hr_setL, hl_setL, nx_setL, us_setL, cn_setL, cs_setL, kd_mkO, ln_mkO, hi_mkO, hr_mkO, hl_mkO, nx_mkO, us_mkO, cn_mkO, cs_mkO, up1, up2, hn, hk, Nat.add_assoc]) ?_
  refine wp_aload_n d_141_37 (by rfl) ?_
  refine wp_bipush d_141_38 (by decide) ?_
  refine wp_newa (K := 100) d_141_40 rfl (by decide) ca_100 rfl (by omega) (by omega) (by decide) (by first | omega | (simp [kd_setI, ln_setI, hi_setI, hr_setI, hl_setI, nx_setI, us_setI, cn_setI, cs_setI, kd_setR, ln_setR, hi_setR, hr_setR, hl_setR, nx_setR, us_setR, cn_setR, cs_setR, kd_setL, ln_setL, hi_setL, hr_setL, hl_setL, nx_setL, us_setL, cn_setL, cs_setL, kd_mkO, ln_mkO, hi_mkO, hr_mkO, hl_mkO, nx_mkO, us_mkO, cn_mkO, cs_mkO]; omega)) (by first | omega | (simp [kd_setI, ln_setI, hi_setI, hr_setI, hl_setI, nx_setI, us_setI, cn_setI, cs_setI, kd_setR, ln_setR, hi_setR, hr_setR, hl_setR, nx_setR, us_setR, cn_setR, cs_setR, kd_setL, ln_setL, hi_setL, hr_setL, hl_setL, nx_setL, us_setL, cn_setL, cs_setL, kd_mkO, ln_mkO, hi_mkO, hr_mkO, hl_mkO, nx_mkO, us_mkO, cn_mkO, cs_mkO]; omega)) ?_
  refine wp_putR (9) d_141_42 fl_7_27 rfl rfl (Or.inr ⟨by rfl, by rfl, by rfl⟩) (by simp [kd_setI, ln_setI, hi_setI, hr_setI, hl_setI, nx_setI, us_setI, cn_setI, cs_setI, kd_setR, ln_setR, hi_setR, hr_setR, hl_setR, nx_setR, us_setR, cn_setR, cs_setR, kd_setL, ln_setL, hi_setL, hr_setL, hl_setL, nx_setL, us_setL, cn_setL, cs_setL, kd_mkO, ln_mkO, hi_mkO, hr_mkO, hl_mkO, nx_mkO, us_mkO, cn_mkO, cs_mkO, up1, up2, hn, hk, Nat.add_assoc]) ?_
  refine wp_aload_n d_141_45 (by rfl) ?_
  refine wp_bipush d_141_46 (by decide) ?_
  refine wp_newa (K := 100) d_141_48 rfl (by decide) ca_100 rfl (by omega) (by omega) (by decide) (by first | omega | (simp [kd_setI, ln_setI, hi_setI, hr_setI, hl_setI, nx_setI, us_setI, cn_setI, cs_setI, kd_setR, ln_setR, hi_setR, hr_setR, hl_setR, nx_setR, us_setR, cn_setR, cs_setR, kd_setL, ln_setL, hi_setL, hr_setL, hl_setL, nx_setL, us_setL, cn_setL, cs_setL, kd_mkO, ln_mkO, hi_mkO, hr_mkO, hl_mkO, nx_mkO, us_mkO, cn_mkO, cs_mkO]; omega)) (by first | omega | (simp [kd_setI, ln_setI, hi_setI, hr_setI, hl_setI, nx_setI, us_setI, cn_setI, cs_setI, kd_setR, ln_setR, hi_setR, hr_setR, hl_setR, nx_setR, us_setR, cn_setR, cs_setR, kd_setL, ln_setL, hi_setL, hr_setL, hl_setL, nx_setL, us_setL, cn_setL, cs_setL, kd_mkO, ln_mkO, hi_mkO, hr_mkO, hl_mkO, nx_mkO, us_mkO, cn_mkO, cs_mkO]; omega)) ?_
  refine wp_putR (10) d_141_50 fl_7_30 rfl rfl (Or.inr ⟨by rfl, by rfl, by rfl⟩) (by simp [kd_setI, ln_setI, hi_setI, hr_setI, hl_setI, nx_setI, us_setI, cn_setI, cs_setI, kd_setR, ln_setR, hi_setR, hr_setR, hl_setR, nx_setR, us_setR, cn_setR, cs_setR, kd_setL, ln_setL, hi_setL, hr_setL, hl_setL, nx_setL, us_setL, cn_setL, cs_setL, kd_mkO, ln_mkO, hi_mkO, hr_mkO, hl_mkO, nx_mkO, us_mkO, cn_mkO, cs_mkO, up1, up2, hn, hk, Nat.add_assoc]) ?_
  refine wp_aload_n d_141_53 (by rfl) ?_
  refine wp_bipush d_141_54 (by decide) ?_
  refine wp_newa (K := 100) d_141_56 rfl (by decide) ca_100 rfl (by omega) (by omega) (by decide) (by first | omega | (simp [kd_setI, ln_setI, hi_setI, hr_setI, hl_setI, nx_setI, us_setI, cn_setI, cs_setI, kd_setR, ln_setR, hi_setR, hr_setR, hl_setR, nx_setR, us_setR, cn_setR, cs_setR, kd_setL, ln_setL, hi_setL, hr_setL, hl_setL, nx_setL, us_setL, cn_setL, cs_setL, kd_mkO, ln_mkO, hi_mkO, hr_mkO, hl_mkO, nx_mkO, us_mkO, cn_mkO, cs_mkO]; omega)) (by first | omega | (simp [kd_setI, ln_setI, hi_setI, hr_setI, hl_setI, nx_setI, us_setI, cn_setI, cs_setI, kd_setR, ln_setR, hi_setR, hr_setR, hl_setR, nx_setR, us_setR, cn_setR, cs_setR, kd_setL, ln_setL, hi_setL, hr_setL, hl_setL, nx_setL, us_setL, cn_setL, cs_setL, kd_mkO, ln_mkO, hi_mkO, hr_mkO, hl_mkO, nx_mkO, us_mkO, cn_mkO, cs_mkO]; omega)) ?_
  refine wp_putR (11) d_141_58 fl_7_33 rfl rfl (Or.inr ⟨by rfl, by rfl, by rfl⟩) (by simp [kd_setI, ln_setI, hi_setI, hr_setI, hl_setI, nx_setI, us_setI, cn_setI, cs_setI, kd_setR, ln_setR, hi_setR, hr_setR, hl_setR, nx_setR, us_setR, cn_setR, cs_setR, kd_setL, ln_setL, hi_setL, hr_setL, hl_setL, nx_setL, us_setL, cn_setL, cs_setL, kd_mkO, ln_mkO, hi_mkO, hr_mkO, hl_mkO, nx_mkO, us_mkO, cn_mkO, cs_mkO, up1, up2, hn, hk, Nat.add_assoc]) ?_
  refine wp_vret d_141_61 rfl ?_
  have hb0 : ∀ b : Nat, b < a → b ≠ a := fun b hb => by omega
  refine ⟨rfl, ?_, by simp [kd_setI, ln_setI, hi_setI, hr_setI, hl_setI, nx_setI, us_setI, cn_setI, cs_setI, kd_setR, ln_setR, hi_setR, hr_setR, hl_setR, nx_setR, us_setR, cn_setR, cs_setR, kd_setL, ln_setL, hi_setL, hr_setL, hl_setL, nx_setL, us_setL, cn_setL, cs_setL, kd_mkO, ln_mkO, hi_mkO, hr_mkO, hl_mkO, nx_mkO, us_mkO, cn_mkO, cs_mkO, hn, Nat.add_assoc], by simp [kd_setI, ln_setI, hi_setI, hr_setI, hl_setI, nx_setI, us_setI, cn_setI, cs_setI, kd_setR, ln_setR, hi_setR, hr_setR, hl_setR, nx_setR, us_setR, cn_setR, cs_setR, kd_setL, ln_setL, hi_setL, hr_setL, hl_setL, nx_setL, us_setL, cn_setL, cs_setL, kd_mkO, ln_mkO, hi_mkO, hr_mkO, hl_mkO, nx_mkO, us_mkO, cn_mkO, cs_mkO, Nat.add_assoc], rfl, rfl, fun b hb => ?_⟩
  · simp [JouN, zA, nA, kd_setI, ln_setI, hi_setI, hr_setI, hl_setI, nx_setI, us_setI, cn_setI, cs_setI, kd_setR, ln_setR, hi_setR, hr_setR, hl_setR, nx_setR, us_setR, cn_setR, cs_setR, kd_setL, ln_setL, hi_setL, hr_setL, hl_setL, nx_setL, us_setL, cn_setL, cs_setL, kd_mkO, ln_mkO, hi_mkO, hr_mkO, hl_mkO, nx_mkO, us_mkO, cn_mkO, cs_mkO, up1, up2, hn, hk, hz, Nat.add_assoc]
  · have h1 : b ≠ a := by omega
    unfold eqA
    simp [kd_setI, ln_setI, hi_setI, hr_setI, hl_setI, nx_setI, us_setI, cn_setI, cs_setI, kd_setR, ln_setR, hi_setR, hr_setR, hl_setR, nx_setR, us_setR, cn_setR, cs_setR, kd_setL, ln_setL, hi_setL, hr_setL, hl_setL, nx_setL, us_setL, cn_setL, cs_setL, kd_mkO, ln_mkO, hi_mkO, hr_mkO, hl_mkO, nx_mkO, us_mkO, cn_mkO, cs_mkO, up1, up2, hn, h1, Nat.add_assoc, show ∀ k, b ≠ a + k from fun k => by omega]
/-- Onward at a -/
def OnwN (h : Hp) (a : Nat) : Prop := kd h a = 11 ∧ hr h a 0 = some (a + 1) ∧ hr h a 1 = some (a + 9) ∧ hr h a 2 = some (a + 17) ∧ mA h (a + 1) 7 16 ∧ mA h (a + 9) 7 16 ∧ zA h (a + 17) 16 ∧ hi h a 3 = 0
/-- Backward at a -/
def BacN (h : Hp) (a : Nat) : Prop := kd h a = 3 ∧ hr h a 0 = some (a + 1) ∧ hr h a 1 = some (a + 9) ∧ hi h a 2 = 0 ∧ hi h a 3 = 0 ∧ mA h (a + 1) 7 16 ∧ mA h (a + 9) 7 16
set_option maxRecDepth 100000 in
set_option maxHeartbeats 4000000 in
theorem s_Onward {a : Nat} {h : Hp} (hk : kd h a = 11) (hz : ∀ k, hi h a k = 0) (hn : nx h = a + 1) (r1 : nx h + 17 ≤ cn h) (r2 : us h + 254 ≤ cs h) : wp 162 0 (entL [vR (some a)] (mL 162)) [] h (fun v h' => v = none ∧ OnwN h' a ∧ nx h' = a + 18 ∧ us h' = us h + 254 ∧ cn h' = cn h ∧ cs h' = cs h ∧ ∀ b, b < a → eqA h h' b) noX := by
  refine wp_aload_n d_162_0 (by rfl) ?_
  refine wp_objInit d_162_1 oi_10 co_code ⟨Nat.le_of_ble_eq_true rfl, Nat.le_of_ble_eq_true rfl⟩ ?_
  refine wp_aload_n d_162_4 (by rfl) ?_
  refine wp_bipush d_162_5 (by decide) ?_
  refine wp_bipush d_162_7 (by decide) ?_
  refine wp_mna d_162_9 cl_10_9 ca_103 ca_100 (by decide) (by decide) (by decide) (by decide) (by first | (simp; omega) | omega) (by first | (simp; omega) | omega) ?_
  refine wp_putR (0) d_162_13 fl_10_11 rfl rfl (Or.inr ⟨by rfl, by rfl, by rfl⟩) (by first | exact hk | (rw [kd_mkM, if_neg (by omega), if_neg (by omega)]; assumption) | (rw [kd_mkO, up1_ne _ _ (by omega)]; assumption)) ?_
  have hne : ¬ a = nx h := by omega
  have k1 : kd (mkM h 7 16) a = 11 := by rw [kd_mkM, if_neg hne, if_neg (by omega)]; exact hk
  have n1 : nx (setR (mkM h 7 16) a 0 (some (nx h))) = a + 9 := by rw [nx_setR, nx_mkM, hn]; rfl
  have u1 : us (setR (mkM h 7 16) a 0 (some (nx h))) = us h + 119 := by rw [us_setR, us_mkM]; rfl
  have c1 : cn (setR (mkM h 7 16) a 0 (some (nx h))) = cn h := rfl
  have d1 : cs (setR (mkM h 7 16) a 0 (some (nx h))) = cs h := rfl
  have k1' : kd (setR (mkM h 7 16) a 0 (some (nx h))) a = 11 := k1
  have m1 : mA (setR (mkM h 7 16) a 0 (some (nx h))) (a + 1) 7 16 := mA_setR (by have := mA_of h 7 16; rw [hn] at this; exact this) (by omega)
  have v1 : hr (setR (mkM h 7 16) a 0 (some (nx h))) a 0 = some (a + 1) := by rw [hr_setR, up2_same, hn]
  have f1 : ∀ b, b < a → eqA h (setR (mkM h 7 16) a 0 (some (nx h))) b := fun b hb => (eqA_mkM (by omega)).trans (eqA_setR (by omega))
  have z1 : ∀ k, hi (setR (mkM h 7 16) a 0 (some (nx h))) a k = 0 := fun k => by rw [hi_setR, hi_mkM, if_neg (by omega)]; exact hz k
  generalize setR (mkM h 7 16) a 0 (some (nx h)) = h1 at *
  refine wp_aload_n d_162_16 (by rfl) ?_
  refine wp_bipush d_162_17 (by decide) ?_
  refine wp_bipush d_162_19 (by decide) ?_
  refine wp_mna d_162_21 cl_10_9 ca_103 ca_100 (by decide) (by decide) (by decide) (by decide) (by first | (simp; omega) | omega) (by first | (simp; omega) | omega) ?_
  refine wp_putR (1) d_162_25 fl_10_16 rfl rfl (Or.inr ⟨by rfl, by rfl, by rfl⟩) (by first | exact hk | (rw [kd_mkM, if_neg (by omega), if_neg (by omega)]; assumption) | (rw [kd_mkO, up1_ne _ _ (by omega)]; assumption)) ?_
  have k2 : kd (mkM h1 7 16) a = 11 := by rw [kd_mkM, if_neg (by omega), if_neg (by omega)]; exact k1'
  have n2 : nx (setR (mkM h1 7 16) a 1 (some (nx h1))) = a + 17 := by rw [nx_setR, nx_mkM, n1]; rfl
  have u2 : us (setR (mkM h1 7 16) a 1 (some (nx h1))) = us h + 238 := by rw [us_setR, us_mkM, u1]; rfl
  have c2 : cn (setR (mkM h1 7 16) a 1 (some (nx h1))) = cn h := c1
  have d2 : cs (setR (mkM h1 7 16) a 1 (some (nx h1))) = cs h := d1
  have k2' : kd (setR (mkM h1 7 16) a 1 (some (nx h1))) a = 11 := k2
  have m2 : mA (setR (mkM h1 7 16) a 1 (some (nx h1))) (a + 9) 7 16 := mA_setR (by have := mA_of h1 7 16; rw [n1] at this; exact this) (by omega)
  have m1' : mA (setR (mkM h1 7 16) a 1 (some (nx h1))) (a + 1) 7 16 := mA_setR (m1.kept (fun b h0 h1 => eqA_mkM (by omega)) (by omega)) (by omega)
  have v1' : hr (setR (mkM h1 7 16) a 1 (some (nx h1))) a 0 = some (a + 1) := by rw [hr_setR, up2_ne _ _ (fun q => absurd q.2 (by decide)), hr_mkM, if_neg (by omega), if_neg (by omega)]; exact v1
  have v2 : hr (setR (mkM h1 7 16) a 1 (some (nx h1))) a 1 = some (a + 9) := by rw [hr_setR, up2_same, n1]
  have f2 : ∀ b, b < a → eqA h (setR (mkM h1 7 16) a 1 (some (nx h1))) b := fun b hb => (f1 b hb).trans ((eqA_mkM (by omega)).trans (eqA_setR (by omega)))
  have z2 : ∀ k, hi (setR (mkM h1 7 16) a 1 (some (nx h1))) a k = 0 := fun k => by rw [hi_setR, hi_mkM, if_neg (by omega)]; exact z1 k
  generalize setR (mkM h1 7 16) a 1 (some (nx h1)) = h2 at *
  refine wp_aload_n d_162_28 (by rfl) ?_
  refine wp_bipush d_162_29 (by decide) ?_
  refine wp_newa (K := 100) d_162_31 rfl (by decide) ca_100 rfl (by omega) (by omega) (by decide) (by first | (simp; omega) | omega) (by first | (simp; omega) | omega) ?_
  refine wp_putR (2) d_162_33 fl_10_19 rfl rfl (Or.inr ⟨by rfl, by rfl, by rfl⟩) (by first | exact hk | (rw [kd_mkM, if_neg (by omega), if_neg (by omega)]; assumption) | (rw [kd_mkO, up1_ne _ _ (by omega)]; assumption)) ?_
  have k3 : kd (mkO h2 100 16) a = 11 := by rw [kd_mkO, up1_ne _ _ (by omega)]; exact k2'
  have e3 : ∀ b, b < a + 17 → eqA h2 (mkO h2 100 16) b := fun b hb => eqA_mkO (by omega)
  have q3 : OnwN (setR (mkO h2 100 16) a 2 (some (nx h2))) a := by
    refine ⟨k3, ?_, ?_, ?_, mA_setR (m1'.kept (fun b h0 h1 => e3 b (by omega)) (by omega)) (by omega), mA_setR (m2.kept (fun b h0 h1 => e3 b (by omega)) (by omega)) (by omega), ?_, ?_⟩
    · rw [hr_setR, up2_ne _ _ (fun q => absurd q.2 (by decide))]
      exact ((e3 a (by omega)).2.2.2.1 0).trans v1'
    · rw [hr_setR, up2_ne _ _ (fun q => absurd q.2 (by decide))]
      exact ((e3 a (by omega)).2.2.2.1 1).trans v2
    · rw [hr_setR, up2_same, n2]
    · have := zA_mkO (h := h2) (n := 16)
      rw [n2] at this
      exact this
    · exact ((e3 a (by omega)).2.2.1 3).trans (z2 3)
  refine wp_vret d_162_36 rfl ?_
  refine ⟨rfl, q3, by rw [nx_setR, nx_mkO, n2], by rw [us_setR, us_mkO, u2]; rfl, c2, d2, fun b hb => (f2 b hb).trans ((e3 b (by omega)).trans (eqA_setR (by omega)))⟩
set_option maxRecDepth 100000 in
set_option maxHeartbeats 4000000 in
theorem s_Backward {a : Nat} {h : Hp} (hk : kd h a = 3) (hz : ∀ k, hi h a k = 0) (hn : nx h = a + 1) (r1 : nx h + 16 ≤ cn h) (r2 : us h + 238 ≤ cs h) : wp 118 0 (entL [vR (some a)] (mL 118)) [] h (fun v h' => v = none ∧ BacN h' a ∧ nx h' = a + 17 ∧ us h' = us h + 238 ∧ cn h' = cn h ∧ cs h' = cs h ∧ ∀ b, b < a → eqA h h' b) noX := by
  refine wp_aload_n d_118_0 (by rfl) ?_
  refine wp_objInit d_118_1 oi_2 co_code ⟨Nat.le_of_ble_eq_true rfl, Nat.le_of_ble_eq_true rfl⟩ ?_
  refine wp_aload_n d_118_4 (by rfl) ?_
  refine wp_bipush d_118_5 (by decide) ?_
  refine wp_bipush d_118_7 (by decide) ?_
  refine wp_mna d_118_9 cl_2_9 ca_103 ca_100 (by decide) (by decide) (by decide) (by decide) (by first | (simp; omega) | omega) (by first | (simp; omega) | omega) ?_
  refine wp_putR (0) d_118_13 fl_2_11 rfl rfl (Or.inr ⟨by rfl, by rfl, by rfl⟩) (by first | exact hk | (rw [kd_mkM, if_neg (by omega), if_neg (by omega)]; assumption) | (rw [kd_mkO, up1_ne _ _ (by omega)]; assumption)) ?_
  have hne : ¬ a = nx h := by omega
  have k1 : kd (mkM h 7 16) a = 3 := by rw [kd_mkM, if_neg hne, if_neg (by omega)]; exact hk
  have n1 : nx (setR (mkM h 7 16) a 0 (some (nx h))) = a + 9 := by rw [nx_setR, nx_mkM, hn]; rfl
  have u1 : us (setR (mkM h 7 16) a 0 (some (nx h))) = us h + 119 := by rw [us_setR, us_mkM]; rfl
  have c1 : cn (setR (mkM h 7 16) a 0 (some (nx h))) = cn h := rfl
  have d1 : cs (setR (mkM h 7 16) a 0 (some (nx h))) = cs h := rfl
  have k1' : kd (setR (mkM h 7 16) a 0 (some (nx h))) a = 3 := k1
  have m1 : mA (setR (mkM h 7 16) a 0 (some (nx h))) (a + 1) 7 16 := mA_setR (by have := mA_of h 7 16; rw [hn] at this; exact this) (by omega)
  have v1 : hr (setR (mkM h 7 16) a 0 (some (nx h))) a 0 = some (a + 1) := by rw [hr_setR, up2_same, hn]
  have f1 : ∀ b, b < a → eqA h (setR (mkM h 7 16) a 0 (some (nx h))) b := fun b hb => (eqA_mkM (by omega)).trans (eqA_setR (by omega))
  have z1 : ∀ k, hi (setR (mkM h 7 16) a 0 (some (nx h))) a k = 0 := fun k => by rw [hi_setR, hi_mkM, if_neg (by omega)]; exact hz k
  generalize setR (mkM h 7 16) a 0 (some (nx h)) = h1 at *
  refine wp_aload_n d_118_16 (by rfl) ?_
  refine wp_bipush d_118_17 (by decide) ?_
  refine wp_bipush d_118_19 (by decide) ?_
  refine wp_mna d_118_21 cl_2_9 ca_103 ca_100 (by decide) (by decide) (by decide) (by decide) (by first | (simp; omega) | omega) (by first | (simp; omega) | omega) ?_
  refine wp_putR (1) d_118_25 fl_2_16 rfl rfl (Or.inr ⟨by rfl, by rfl, by rfl⟩) (by first | exact hk | (rw [kd_mkM, if_neg (by omega), if_neg (by omega)]; assumption) | (rw [kd_mkO, up1_ne _ _ (by omega)]; assumption)) ?_
  have k2 : kd (mkM h1 7 16) a = 3 := by rw [kd_mkM, if_neg (by omega), if_neg (by omega)]; exact k1'
  have n2 : nx (setR (mkM h1 7 16) a 1 (some (nx h1))) = a + 17 := by rw [nx_setR, nx_mkM, n1]; rfl
  have u2 : us (setR (mkM h1 7 16) a 1 (some (nx h1))) = us h + 238 := by rw [us_setR, us_mkM, u1]; rfl
  have c2 : cn (setR (mkM h1 7 16) a 1 (some (nx h1))) = cn h := c1
  have d2 : cs (setR (mkM h1 7 16) a 1 (some (nx h1))) = cs h := d1
  have k2' : kd (setR (mkM h1 7 16) a 1 (some (nx h1))) a = 3 := k2
  have m2 : mA (setR (mkM h1 7 16) a 1 (some (nx h1))) (a + 9) 7 16 := mA_setR (by have := mA_of h1 7 16; rw [n1] at this; exact this) (by omega)
  have m1' : mA (setR (mkM h1 7 16) a 1 (some (nx h1))) (a + 1) 7 16 := mA_setR (m1.kept (fun b h0 h1 => eqA_mkM (by omega)) (by omega)) (by omega)
  have v1' : hr (setR (mkM h1 7 16) a 1 (some (nx h1))) a 0 = some (a + 1) := by rw [hr_setR, up2_ne _ _ (fun q => absurd q.2 (by decide)), hr_mkM, if_neg (by omega), if_neg (by omega)]; exact v1
  have v2 : hr (setR (mkM h1 7 16) a 1 (some (nx h1))) a 1 = some (a + 9) := by rw [hr_setR, up2_same, n1]
  have f2 : ∀ b, b < a → eqA h (setR (mkM h1 7 16) a 1 (some (nx h1))) b := fun b hb => (f1 b hb).trans ((eqA_mkM (by omega)).trans (eqA_setR (by omega)))
  have z2 : ∀ k, hi (setR (mkM h1 7 16) a 1 (some (nx h1))) a k = 0 := fun k => by rw [hi_setR, hi_mkM, if_neg (by omega)]; exact z1 k
  refine wp_vret d_118_28 rfl ?_
  exact ⟨rfl, ⟨k2', v1', v2, z2 2, z2 3, m1', m2⟩, n2, u2, c2, d2, f2⟩
/-- Fares at f, its Offers of the stops below i made -/
def FarI (h : Hp) (f i : Nat) : Prop := kd h f = 6 ∧ hr h f 0 = some (f + 1) ∧ hr h f 1 = some (f + 2) ∧ (hi h f 2 = 0 ∧ hi h f 3 = 0 ∧ hi h f 4 = 0) ∧ (kd h (f + 1) = 107 ∧ ln h (f + 1) = 16) ∧ (kd h (f + 2) = 107 ∧ ln h (f + 2) = 16) ∧ ∀ s : Nat, s < i → hr h (f + 1) s = some (f + 3 + 6 * s) ∧ OffN h (f + 3 + 6 * s) ∧ hr h (f + 2) s = some (f + 6 + 6 * s) ∧ OffN h (f + 6 + 6 * s)
theorem FarI.kept {h h' : Hp} {f i : Nat} (q : FarI h f i) (e : ∀ b, f ≤ b → b < f + 3 + 6 * i → eqA h h' b) : FarI h' f i := by
  have e0 := e f (Nat.le_refl _) (by omega)
  have e1 := e (f + 1) (by omega) (by omega)
  have e2 := e (f + 2) (by omega) (by omega)
  obtain ⟨q1, q2, q3, ⟨q4, q5, q6⟩, ⟨q7, q8⟩, ⟨q9, q10⟩, q11⟩ := q
  refine ⟨e0.1.trans q1, (e0.2.2.2.1 _).trans q2, (e0.2.2.2.1 _).trans q3, ⟨(e0.2.2.1 _).trans q4, (e0.2.2.1 _).trans q5, (e0.2.2.1 _).trans q6⟩, ⟨e1.1.trans q7, e1.2.1.trans q8⟩, ⟨e2.1.trans q9, e2.2.1.trans q10⟩, fun s hs => ?_⟩
  obtain ⟨a1, a2, a3, a4⟩ := q11 s hs
  exact ⟨(e1.2.2.2.1 _).trans a1, a2.kept (fun b h0 h1 => e b (by omega) (by omega)), (e2.2.2.2.1 _).trans a3, a4.kept (fun b h0 h1 => e b (by omega) (by omega))⟩
set_option maxRecDepth 100000 in
set_option maxHeartbeats 4000000 in
theorem l_Fares {f : Nat} {Q : Option AV → Hp → Prop} : ∀ (n i : Nat) (h : Hp), i + n = 16 → FarI h f i → nx h = f + 3 + 6 * i → nx h + 6 * n ≤ cn h → us h + 70 * n ≤ cs h → (∀ h', FarI h' f 16 → nx h' = f + 99 → us h' = us h + 70 * n → cn h' = cn h → cs h' = cs h → (∀ b, b < f → eqA h h' b) → Q none h') → wp 133 24 [some (vR (some f)), some (vI (i : Int))] [] h Q noX := by
  intro n
  induction n with
  | zero =>
    intro i h hin hf hn r1 r2 hq
    have h16 : i = 16 := by omega
    subst h16
    refine wp_iload_n d_133_24 (by rfl) ?_
    refine wp_bipush d_133_25 (by decide) ?_
    refine wp_icmp_ge (tgt := 62) d_133_27 (by decide) (by omega) (by omega) (fun c_27 => ?_) (fun c_27 => ?_)
    · refine wp_vret d_133_62 rfl ?_
      exact hq h hf (by omega) (by omega) rfl rfl (fun _ _ => eqA.rfl)
    · exact absurd c_27 (by omega)
  | succ n ih =>
    intro i h hin hf hn r1 r2 hq
    obtain ⟨q1, q2, q3, q4, ⟨q7, q8⟩, ⟨q9, q10⟩, q11⟩ := hf
    refine wp_iload_n d_133_24 (by rfl) ?_
    refine wp_bipush d_133_25 (by decide) ?_
    refine wp_icmp_ge (tgt := 62) d_133_27 (by decide) (by omega) (by omega) (fun c_27 => ?_) (fun c_27 => ?_)
    · exact absurd c_27 (by omega)
    · refine wp_aload_n d_133_30 (by rfl) ?_
      refine wp_getR (0) d_133_31 fl_5_11 rfl rfl (by first | assumption | (rw [kd_mkO, up1_ne _ _ (by omega)]; assumption) | exact F1.1.trans q1) (by first | assumption | exact (F1.2.2.2.1 _).trans q3) ?_
      refine wp_iload_n d_133_34 (by rfl) ?_
      refine wp_new (ci := 9) d_133_35 cl_5_9 ci9 ⟨_, rfl⟩ (by decide) (by omega) (by omega) ?_
      refine wp_dup d_133_38 (by rfl) ?_
      refine wp_callIn d_133_39 c_133_20 rfl rfl (by rfl) (by rfl) (by exact Nat.le_of_ble_eq_true rfl) (by exact Nat.le_of_ble_eq_true rfl) (s_Offers (by rw [kd_mkO, up1_same]) (fun k => by rw [hi_mkO, up1_same]) rfl (by simp only [nx_mkO, cn_mkO]; omega) (by simp only [us_mkO, cs_mkO]; simp; omega)) (fun v_39 h_39 q_39 => ?_) (fun _ _ q => q.elim)
      obtain ⟨rfl, o1, n1, u1, c1, d1, g1⟩ := q_39
      have g1' : ∀ b, b < nx h → eqA h h_39 b := fun b hb => (eqA_mkO hb).trans (g1 b hb)
      have k1 : kd h_39 (f + 1) = 107 := (g1' (f + 1) (by omega)).1.trans q7
      have k1l : ln h_39 (f + 1) = 16 := (g1' (f + 1) (by omega)).2.1.trans q8
      have u1' : us h_39 = us h + 35 := by rw [u1, us_mkO]; rfl
      have c1' : cn h_39 = cn h := c1
      have d1' : cs h_39 = cs h := d1
      have ok1 : kd h_39 (nx h) = 9 + 1 := o1.1
      clear u1 c1 d1 g1
      refine wp_aastO (cb := 9) d_133_42 (by omega) (by omega) ok1 (by decide) (by rw [k1]; rfl) (by omega) (by omega) ?_
      have A1 : ∀ b, b < nx h → b ≠ f + 1 → eqA h (setR h_39 (f + 1) i (some (nx h))) b := fun b hb hb2 => (g1' b hb).trans (eqA_setR hb2)
      have B1 : ∀ s : Nat, s ≠ i → hr (setR h_39 (f + 1) i (some (nx h))) (f + 1) s = hr h (f + 1) s := fun s hs => by rw [hr_setR, up2_ne _ _ (fun q => hs (by omega))]; exact (g1' _ (by omega)).2.2.2.1 _
      have C1 : hr (setR h_39 (f + 1) i (some (nx h))) (f + 1) i = some (f + 3 + 6 * i) := by rw [hr_setR, up2_same, hn]
      have O1 : OffN (setR h_39 (f + 1) i (some (nx h))) (f + 3 + 6 * i) := by rw [← hn]; exact o1.kept (fun b h0 h1 => eqA_setR (by omega))
      have K1 : kd (setR h_39 (f + 1) i (some (nx h))) (f + 1) = 107 ∧ ln (setR h_39 (f + 1) i (some (nx h))) (f + 1) = 16 := ⟨k1, k1l⟩
      have N1 : nx (setR h_39 (f + 1) i (some (nx h))) = f + 6 + 6 * i := by rw [nx_setR, n1]; omega
      have U1 : us (setR h_39 (f + 1) i (some (nx h))) = us h + 35 := u1'
      have CC1 : cn (setR h_39 (f + 1) i (some (nx h))) = cn h := c1'
      have D1 : cs (setR h_39 (f + 1) i (some (nx h))) = cs h := d1'
      have H1 : ∀ k, hi (setR h_39 (f + 1) i (some (nx h))) (f + 1) k = hi h (f + 1) k := fun k => (g1' (f + 1) (by omega)).2.2.1 k
      have E1 : ∀ b, b < f → eqA h (setR h_39 (f + 1) i (some (nx h))) b := fun b hb => A1 b (by omega) (by omega)
      generalize setR h_39 (f + 1) i (some (nx h)) = j1 at *
      have F1 := A1 f (by omega) (by omega)
      have F2 := A1 (f + 2) (by omega) (by omega)
      refine wp_aload_n d_133_43 (by rfl) ?_
      refine wp_getR (1) d_133_44 fl_5_17 rfl rfl (by first | assumption | (rw [kd_mkO, up1_ne _ _ (by omega)]; assumption) | exact F1.1.trans q1) (by first | assumption | exact (F1.2.2.2.1 _).trans q3) ?_
      refine wp_iload_n d_133_47 (by rfl) ?_
      refine wp_new (ci := 9) d_133_48 cl_5_9 ci9 ⟨_, rfl⟩ (by decide) (by omega) (by omega) ?_
      refine wp_dup d_133_51 (by rfl) ?_
      refine wp_callIn d_133_52 c_133_20 rfl rfl (by rfl) (by rfl) (by exact Nat.le_of_ble_eq_true rfl) (by exact Nat.le_of_ble_eq_true rfl) (s_Offers (by rw [kd_mkO, up1_same]) (fun k => by rw [hi_mkO, up1_same]) rfl (by simp only [nx_mkO, cn_mkO]; omega) (by simp only [us_mkO, cs_mkO]; simp; omega)) (fun v_52 h_52 q_52 => ?_) (fun _ _ q => q.elim)
      obtain ⟨rfl, o2, n2, u2, c2, d2, g2⟩ := q_52
      have g2' : ∀ b, b < nx j1 → eqA j1 h_52 b := fun b hb => (eqA_mkO hb).trans (g2 b hb)
      have ok2 : kd h_52 (nx j1) = 9 + 1 := o2.1
      have k2 : kd h_52 (f + 2) = 107 := (g2' _ (by omega)).1.trans (F2.1.trans q9)
      have k2l : ln h_52 (f + 2) = 16 := (g2' _ (by omega)).2.1.trans (F2.2.1.trans q10)
      refine wp_aastO (cb := 9) d_133_55 (by omega) (by omega) ok2 (by decide) (by rw [k2]; rfl) (by omega) (by omega) ?_
      refine wp_iinc d_133_56 (by rfl) (by decide) ?_
      refine wp_goto (tgt := 24) d_133_59 (by decide) ?_
      refine wp_to [some (vR (some f)), some (vI ((i + 1 : Nat) : Int))] ⟨rfl, rfl, trivial⟩ ?_
      refine ih (i + 1) _ (by omega) ?_ ?_ ?_ ?_ (fun h' z1 z2 z3 z4 z5 z6 => hq h' z1 z2 ?_ (z4.trans (c2.trans CC1)) (z5.trans (d2.trans D1)) (fun b hb => ((E1 b hb).trans ((g2' b (by omega)).trans (eqA_setR (by omega)))).trans (z6 b hb)))
      · have A2 : ∀ b, b < nx j1 → b ≠ f + 2 → eqA j1 (setR h_52 (f + 2) i (some (nx j1))) b := fun b hb hb2 => (g2' b hb).trans (eqA_setR hb2)
        have E0 := F1.trans (A2 f (by omega) (by omega))
        have EB := A2 (f + 1) (by omega) (by omega)
        refine ⟨E0.1.trans q1, (E0.2.2.2.1 _).trans q2, (E0.2.2.2.1 _).trans q3, ⟨(E0.2.2.1 _).trans q4.1, (E0.2.2.1 _).trans q4.2.1, (E0.2.2.1 _).trans q4.2.2⟩, ⟨EB.1.trans K1.1, EB.2.1.trans K1.2⟩, ⟨k2, k2l⟩, fun s hs => ?_⟩
        by_cases hsi : s = i
        · subst hsi
          refine ⟨(EB.2.2.2.1 _).trans C1, O1.kept (fun b h0 h1 => A2 b (by omega) (by omega)), ?_, ?_⟩
          · rw [hr_setR, up2_same, N1]
          · rw [← N1]
            exact o2.kept (fun b h0 h1 => eqA_setR (by omega))
        · obtain ⟨a1, a2, a3, a4⟩ := q11 s (by omega)
          refine ⟨(EB.2.2.2.1 _).trans ((B1 s hsi).trans a1), a2.kept (fun b h0 h1 => (A1 b (by omega) (by omega)).trans (A2 b (by omega) (by omega))), ?_, a4.kept (fun b h0 h1 => (A1 b (by omega) (by omega)).trans (A2 b (by omega) (by omega)))⟩
          rw [hr_setR, up2_ne _ _ (fun q => hsi (by omega))]
          exact ((g2' _ (by omega)).2.2.2.1 _).trans ((F2.2.2.2.1 _).trans a3)
      · rw [nx_setR, n2]; omega
      · rw [nx_setR, cn_setR, n2, c2]
        show _ ≤ cn j1
        omega
      · rw [us_setR, cs_setR, u2, d2]
        simp only [us_mkO]
        show _ ≤ cs j1
        simp
        omega
      · rw [z3, us_setR, u2]
        simp only [us_mkO]
        simp
        omega
set_option maxRecDepth 100000 in
set_option maxHeartbeats 4000000 in
theorem s_Fares {a : Nat} {h : Hp} (hk : kd h a = 6) (hz : ∀ k, hi h a k = 0) (hn : nx h = a + 1) (r1 : nx h + 98 ≤ cn h) (r2 : us h + 1152 ≤ cs h) : wp 133 0 (entL [vR (some a)] (mL 133)) [] h (fun v h' => v = none ∧ FarI h' a 16 ∧ nx h' = a + 99 ∧ us h' = us h + 1152 ∧ cn h' = cn h ∧ cs h' = cs h ∧ ∀ b, b < a → eqA h h' b) noX := by
  refine wp_aload_n d_133_0 (by rfl) ?_
  refine wp_objInit d_133_1 oi_5 co_code ⟨Nat.le_of_ble_eq_true rfl, Nat.le_of_ble_eq_true rfl⟩ ?_
  refine wp_aload_n d_133_4 (by rfl) ?_
  refine wp_bipush d_133_5 (by decide) ?_
  refine wp_anew (K := 107) d_133_7 cl_5_9 rfl (by decide) ca_107 (by omega) (by omega) (by first | omega | (simp [kd_setI, ln_setI, hi_setI, hr_setI, hl_setI, nx_setI, us_setI, cn_setI, cs_setI, kd_setR, ln_setR, hi_setR, hr_setR, hl_setR, nx_setR, us_setR, cn_setR, cs_setR, kd_setL, ln_setL, hi_setL, hr_setL, hl_setL, nx_setL, us_setL, cn_setL, cs_setL, kd_mkO, ln_mkO, hi_mkO, hr_mkO, hl_mkO, nx_mkO, us_mkO, cn_mkO, cs_mkO]; omega)) (by first | omega | (simp [kd_setI, ln_setI, hi_setI, hr_setI, hl_setI, nx_setI, us_setI, cn_setI, cs_setI, kd_setR, ln_setR, hi_setR, hr_setR, hl_setR, nx_setR, us_setR, cn_setR, cs_setR, kd_setL, ln_setL, hi_setL, hr_setL, hl_setL, nx_setL, us_setL, cn_setL, cs_setL, kd_mkO, ln_mkO, hi_mkO, hr_mkO, hl_mkO, nx_mkO, us_mkO, cn_mkO, cs_mkO]; omega)) ?_
  refine wp_putR (0) d_133_10 fl_5_11 rfl rfl (Or.inl (by rfl)) (by simp [kd_setI, ln_setI, hi_setI, hr_setI, hl_setI, nx_setI, us_setI, cn_setI, cs_setI, kd_setR, ln_setR, hi_setR, hr_setR, hl_setR, nx_setR, us_setR, cn_setR, cs_setR, kd_setL, ln_setL, hi_setL, hr_setL, hl_setL, nx_setL, us_setL, cn_setL, cs_setL, kd_mkO, ln_mkO, hi_mkO, hr_mkO, hl_mkO, nx_mkO, us_mkO, cn_mkO, cs_mkO, up1, up2, hn, hk, Nat.add_assoc]) ?_
  refine wp_aload_n d_133_13 (by rfl) ?_
  refine wp_bipush d_133_14 (by decide) ?_
  refine wp_anew (K := 107) d_133_16 cl_5_9 rfl (by decide) ca_107 (by omega) (by omega) (by first | omega | (simp [kd_setI, ln_setI, hi_setI, hr_setI, hl_setI, nx_setI, us_setI, cn_setI, cs_setI, kd_setR, ln_setR, hi_setR, hr_setR, hl_setR, nx_setR, us_setR, cn_setR, cs_setR, kd_setL, ln_setL, hi_setL, hr_setL, hl_setL, nx_setL, us_setL, cn_setL, cs_setL, kd_mkO, ln_mkO, hi_mkO, hr_mkO, hl_mkO, nx_mkO, us_mkO, cn_mkO, cs_mkO]; omega)) (by first | omega | (simp [kd_setI, ln_setI, hi_setI, hr_setI, hl_setI, nx_setI, us_setI, cn_setI, cs_setI, kd_setR, ln_setR, hi_setR, hr_setR, hl_setR, nx_setR, us_setR, cn_setR, cs_setR, kd_setL, ln_setL, hi_setL, hr_setL, hl_setL, nx_setL, us_setL, cn_setL, cs_setL, kd_mkO, ln_mkO, hi_mkO, hr_mkO, hl_mkO, nx_mkO, us_mkO, cn_mkO, cs_mkO]; omega)) ?_
  refine wp_putR (1) d_133_19 fl_5_17 rfl rfl (Or.inl (by rfl)) (by simp [kd_setI, ln_setI, hi_setI, hr_setI, hl_setI, nx_setI, us_setI, cn_setI, cs_setI, kd_setR, ln_setR, hi_setR, hr_setR, hl_setR, nx_setR, us_setR, cn_setR, cs_setR, kd_setL, ln_setL, hi_setL, hr_setL, hl_setL, nx_setL, us_setL, cn_setL, cs_setL, kd_mkO, ln_mkO, hi_mkO, hr_mkO, hl_mkO, nx_mkO, us_mkO, cn_mkO, cs_mkO, up1, up2, hn, hk, Nat.add_assoc]) ?_
  refine wp_iconst d_133_22 ?_
  refine wp_istore_n d_133_23 (by decide) ?_
  refine wp_to [some (vR (some a)), some (vI ((0 : Nat) : Int))] ⟨rfl, rfl, trivial⟩ ?_
  refine l_Fares 16 0 _ rfl ?_ (by simp [nx_setR, nx_mkO, hn]) (by simp [nx_setR, nx_mkO, cn_setR, cn_mkO]; omega) (by simp [us_setR, us_mkO, cs_setR, cs_mkO]; omega) (fun h' z1 z2 z3 z4 z5 z6 => ⟨rfl, z1, z2, ?_, z4, z5, fun b hb => eqA.trans ?_ (z6 b hb)⟩)
  · refine ⟨?_, ?_, ?_, ⟨?_, ?_, ?_⟩, ⟨?_, ?_⟩, ⟨?_, ?_⟩, fun s hs => absurd hs (by omega)⟩ <;> simp [kd_setI, ln_setI, hi_setI, hr_setI, hl_setI, nx_setI, us_setI, cn_setI, cs_setI, kd_setR, ln_setR, hi_setR, hr_setR, hl_setR, nx_setR, us_setR, cn_setR, cs_setR, kd_setL, ln_setL, hi_setL, hr_setL, hl_setL, nx_setL, us_setL, cn_setL, cs_setL, kd_mkO, ln_mkO, hi_mkO, hr_mkO, hl_mkO, nx_mkO, us_mkO, cn_mkO, cs_mkO, up1, up2, hn, hk, hz, Nat.add_assoc]
  · rw [z3]; simp [us_setR, us_mkO, Nat.add_assoc]
  · exact ((eqA_mkO (by omega)).trans (eqA_setR (by omega))).trans ((eqA_mkO (by simp [nx_setR, nx_mkO]; omega)).trans (eqA_setR (by omega)))
theorem NetN.kept {h h' : Hp} {a : Nat} (q : NetN h a) (e : ∀ b, a ≤ b → b < a + 5 → eqA h h' b) : NetN h' a := by
  have e0 := e a (by omega) (by omega)
  obtain ⟨q1, q2, q3, q4, q5, ⟨q6, q7, q8, q9⟩, q10, q11, q12, q13⟩ := q
  exact ⟨e0.1.trans q1, (e0.2.2.2.1 _).trans q2, (e0.2.2.2.1 _).trans q3, (e0.2.2.2.1 _).trans q4, (e0.2.2.2.1 _).trans q5, ⟨(e0.2.2.1 _).trans q6, (e0.2.2.1 _).trans q7, (e0.2.2.1 _).trans q8, (e0.2.2.1 _).trans q9⟩, q10.kept (e _ (by omega) (by omega)), q11.kept (e _ (by omega) (by omega)), q12.kept (e _ (by omega) (by omega)), q13.kept (e _ (by omega) (by omega))⟩
theorem RunN.kept {h h' : Hp} {a : Nat} (q : RunN h a) (e : ∀ b, a ≤ b → b < a + 4 → eqA h h' b) : RunN h' a := by
  have e0 := e a (by omega) (by omega)
  obtain ⟨q1, q2, q3, q4, q5, q6, q7, q8⟩ := q
  exact ⟨e0.1.trans q1, (e0.2.2.2.1 _).trans q2, (e0.2.2.2.1 _).trans q3, (e0.2.2.2.1 _).trans q4, (e0.2.2.1 _).trans q5, q6.kept (e _ (by omega) (by omega)), q7.kept (e _ (by omega) (by omega)), q8.kept (e _ (by omega) (by omega))⟩
theorem BoaN.kept {h h' : Hp} {a : Nat} (q : BoaN h a) (e : ∀ b, a ≤ b → b < a + 2 → eqA h h' b) : BoaN h' a := by
  have e0 := e a (by omega) (by omega)
  have e1 := e (a + 1) (by omega) (by omega)
  obtain ⟨q1, q2, q3, q4, q5⟩ := q
  exact ⟨e0.1.trans q1, (e0.2.2.2.1 _).trans q2, (e0.2.2.1 _).trans q3, e1.1.trans q4, e1.2.1.trans q5⟩
theorem OnwN.kept {h h' : Hp} {a : Nat} (q : OnwN h a) (e : ∀ b, a ≤ b → b < a + 18 → eqA h h' b) : OnwN h' a := by
  have e0 := e a (by omega) (by omega)
  obtain ⟨q1, q2, q3, q4, q5, q6, q7, q8⟩ := q
  exact ⟨e0.1.trans q1, (e0.2.2.2.1 _).trans q2, (e0.2.2.2.1 _).trans q3, (e0.2.2.2.1 _).trans q4, q5.kept (fun b h0 h1 => e b (by omega) (by omega)) (by omega), q6.kept (fun b h0 h1 => e b (by omega) (by omega)) (by omega), q7.kept (e _ (by omega) (by omega)), (e0.2.2.1 _).trans q8⟩
theorem BacN.kept {h h' : Hp} {a : Nat} (q : BacN h a) (e : ∀ b, a ≤ b → b < a + 17 → eqA h h' b) : BacN h' a := by
  have e0 := e a (by omega) (by omega)
  obtain ⟨q1, q2, q3, q4, q5, q6, q7⟩ := q
  exact ⟨e0.1.trans q1, (e0.2.2.2.1 _).trans q2, (e0.2.2.2.1 _).trans q3, (e0.2.2.1 _).trans q4, (e0.2.2.1 _).trans q5, q6.kept (fun b h0 h1 => e b (by omega) (by omega)) (by omega), q7.kept (fun b h0 h1 => e b (by omega) (by omega)) (by omega)⟩
theorem JouN.kept {h h' : Hp} {a : Nat} (q : JouN h a) (e : ∀ b, a ≤ b → b < a + 8 → eqA h h' b) : JouN h' a := by
  have e0 := e a (by omega) (by omega)
  obtain ⟨q1, q2, q3, q4, q5, q6, q7, q8, ⟨i1, i2, i3, i4, i5, i6, i7⟩, q9, q10, q11, q12, q13, q14, q15⟩ := q
  exact ⟨e0.1.trans q1, (e0.2.2.2.1 _).trans q2, (e0.2.2.2.1 _).trans q3, (e0.2.2.2.1 _).trans q4, (e0.2.2.2.1 _).trans q5, (e0.2.2.2.1 _).trans q6, (e0.2.2.2.1 _).trans q7, (e0.2.2.2.1 _).trans q8, ⟨(e0.2.2.1 _).trans i1, (e0.2.2.1 _).trans i2, (e0.2.2.1 _).trans i3, (e0.2.2.1 _).trans i4, (e0.2.2.1 _).trans i5, (e0.2.2.1 _).trans i6, (e0.2.2.1 _).trans i7⟩, q9.kept (e _ (by omega) (by omega)), q10.kept (e _ (by omega) (by omega)), q11.kept (e _ (by omega) (by omega)), q12.kept (e _ (by omega) (by omega)), q13.kept (e _ (by omega) (by omega)), q14.kept (e _ (by omega) (by omega)), q15.kept (e _ (by omega) (by omega))⟩
/-- a new WhistleStop at w: its seven parts behind it -/
def WsN (h : Hp) (w : Nat) : Prop := kd h w = 1 ∧ (hr h w 0 = some (w + 1) ∧ hr h w 1 = some (w + 6) ∧ hr h w 2 = some (w + 10) ∧ hr h w 3 = some (w + 12) ∧ hr h w 4 = some (w + 30) ∧ hr h w 5 = some (w + 47) ∧ hr h w 6 = some (w + 146)) ∧ NetN h (w + 1) ∧ RunN h (w + 6) ∧ BoaN h (w + 10) ∧ OnwN h (w + 12) ∧ BacN h (w + 30) ∧ FarI h (w + 47) 16 ∧ JouN h (w + 146)
set_option maxRecDepth 100000 in
set_option maxHeartbeats 8000000 in
theorem s_WhistleStop {w : Nat} {h : Hp} (hk : kd h w = 1) (hn : nx h = w + 1) (r1 : nx h + 153 ≤ cn h) (r2 : us h + 3762 ≤ cs h) : wp 0 0 (entL [vR (some w)] (mL 0)) [] h (fun v h' => v = none ∧ WsN h' w ∧ nx h' = w + 154 ∧ us h' = us h + 3762 ∧ cn h' = cn h ∧ cs h' = cs h ∧ ∀ b, b < w → eqA h h' b) noX := by
  have R0 : us h = us h + 0 := rfl
  have C0 : cn h = cn h := rfl
  have D0 : cs h = cs h := rfl
  have F0 : ∀ b, b < w → eqA h h b := fun b hb => eqA.rfl
  have K0 : kd h w = 1 := hk
  have N0 : nx h = w + 1 := hn
  refine wp_aload_n d_0_0 (by rfl) ?_
  refine wp_objInit d_0_1 oi_0 co_code ⟨Nat.le_of_ble_eq_true rfl, Nat.le_of_ble_eq_true rfl⟩ ?_
  refine wp_aload_n d_0_4 (by rfl) ?_
  refine wp_new (ci := 8) d_0_5 cl_0_9 ci8 ⟨_, rfl⟩ (by decide) (by omega) (by omega) ?_
  refine wp_dup d_0_8 (by rfl) ?_
  rw [N0]
  refine wp_callIn d_0_9 c_0_11 rfl rfl (by rfl) (by rfl) (by exact Nat.le_of_ble_eq_true rfl) (by exact Nat.le_of_ble_eq_true rfl) (s_Network (a := w + 1) (by rw [kd_mkO, ← N0, up1_same]) (fun j => by rw [hi_mkO, ← N0, up1_same]) (by rw [nx_mkO, N0]) (by simp only [nx_mkO, cn_mkO]; omega) (by simp only [us_mkO, cs_mkO]; simp; omega)) (fun v_9 h_9 q_9 => ?_) (fun _ _ q => q.elim)
  obtain ⟨rfl, o, n, u, c, d, f⟩ := q_9
  have fr : ∀ b, b < w + 1 → eqA h h_9 b := fun b hb => (eqA_mkO (by omega)).trans (f b hb)
  have u2 : us h_9 = us h + 74 := by rw [u, us_mkO]; first | rfl | (simp; omega)
  have c2 : cn h_9 = cn h := c.trans C0
  have d2 : cs h_9 = cs h := d.trans D0
  have kw : kd h_9 w = 0 + 1 := (fr w (by omega)).1.trans K0
  clear u c d f
  refine wp_putR (0) d_0_12 fl_0_12 rfl rfl (Or.inr ⟨by rfl, by rfl, by rfl⟩) (by assumption) ?_
  have fr2 : ∀ b, b ≠ w → b < w + 1 → eqA h (setR h_9 w 0 (some (w + 1))) b := fun b hb hb2 => (fr b hb2).trans (eqA_setR hb)
  have K1 : kd (setR h_9 w 0 (some (w + 1))) w = 1 := kw
  have N1 : nx (setR h_9 w 0 (some (w + 1))) = w + 6 := by rw [nx_setR, n]
  have R1 : us (setR h_9 w 0 (some (w + 1))) = us h + 74 := u2
  have C1 : cn (setR h_9 w 0 (some (w + 1))) = cn h := c2
  have D1 : cs (setR h_9 w 0 (some (w + 1))) = cs h := d2
  have F1 : ∀ b, b < w → eqA h (setR h_9 w 0 (some (w + 1))) b := fun b hb => (F0 b hb).trans (fr2 b (by omega) (by omega))
  have V1_0 : hr (setR h_9 w 0 (some (w + 1))) w 0 = some (w + 1) := by rw [hr_setR, up2_same]
  have P1_0 : NetN (setR h_9 w 0 (some (w + 1))) (w + 1) := o.kept (fun b h0 h1 => eqA_setR (by omega))
  clear fr fr2 o kw u2 c2 d2 n
  generalize setR h_9 w 0 (some (w + 1)) = g1 at *
  refine wp_aload_n d_0_15 (by rfl) ?_
  refine wp_new (ci := 11) d_0_16 cl_0_16 ci11 ⟨_, rfl⟩ (by decide) (by omega) (by omega) ?_
  refine wp_dup d_0_19 (by rfl) ?_
  rw [N1]
  refine wp_callIn d_0_20 c_0_18 rfl rfl (by rfl) (by rfl) (by exact Nat.le_of_ble_eq_true rfl) (by exact Nat.le_of_ble_eq_true rfl) (s_Runs (a := w + 6) (by rw [kd_mkO, ← N1, up1_same]) (fun j => by rw [hi_mkO, ← N1, up1_same]) (by rw [nx_mkO, N1]) (by simp only [nx_mkO, cn_mkO]; omega) (by simp only [us_mkO, cs_mkO]; simp; omega)) (fun v_20 h_20 q_20 => ?_) (fun _ _ q => q.elim)
  obtain ⟨rfl, o, n, u, c, d, f⟩ := q_20
  have fr : ∀ b, b < w + 6 → eqA g1 h_20 b := fun b hb => (eqA_mkO (by omega)).trans (f b hb)
  have u2 : us h_20 = us h + 654 := by rw [u, us_mkO]; first | rfl | (simp; omega)
  have c2 : cn h_20 = cn h := c.trans C1
  have d2 : cs h_20 = cs h := d.trans D1
  have kw : kd h_20 w = 0 + 1 := (fr w (by omega)).1.trans K1
  clear u c d f
  refine wp_putR (1) d_0_23 fl_0_19 rfl rfl (Or.inr ⟨by rfl, by rfl, by rfl⟩) (by assumption) ?_
  have fr2 : ∀ b, b ≠ w → b < w + 6 → eqA g1 (setR h_20 w 1 (some (w + 6))) b := fun b hb hb2 => (fr b hb2).trans (eqA_setR hb)
  have K2 : kd (setR h_20 w 1 (some (w + 6))) w = 1 := kw
  have N2 : nx (setR h_20 w 1 (some (w + 6))) = w + 10 := by rw [nx_setR, n]
  have R2 : us (setR h_20 w 1 (some (w + 6))) = us h + 654 := u2
  have C2 : cn (setR h_20 w 1 (some (w + 6))) = cn h := c2
  have D2 : cs (setR h_20 w 1 (some (w + 6))) = cs h := d2
  have F2 : ∀ b, b < w → eqA h (setR h_20 w 1 (some (w + 6))) b := fun b hb => (F1 b hb).trans (fr2 b (by omega) (by omega))
  have V2_0 : hr (setR h_20 w 1 (some (w + 6))) w 0 = some (w + 1) := by rw [hr_setR, up2_ne _ _ (fun q => absurd q.2 (by decide))]; exact ((fr w (by omega)).2.2.2.1 _).trans V1_0
  have V2_1 : hr (setR h_20 w 1 (some (w + 6))) w 1 = some (w + 6) := by rw [hr_setR, up2_same]
  have P2_0 : NetN (setR h_20 w 1 (some (w + 6))) (w + 1) := P1_0.kept (fun b h0 h1 => fr2 b (by omega) (by omega))
  have P2_1 : RunN (setR h_20 w 1 (some (w + 6))) (w + 6) := o.kept (fun b h0 h1 => eqA_setR (by omega))
  clear fr fr2 o kw u2 c2 d2 n
  generalize setR h_20 w 1 (some (w + 6)) = g2 at *
  refine wp_aload_n d_0_26 (by rfl) ?_
  refine wp_new (ci := 3) d_0_27 cl_0_23 ci3 ⟨_, rfl⟩ (by decide) (by omega) (by omega) ?_
  refine wp_dup d_0_30 (by rfl) ?_
  rw [N2]
  refine wp_callIn d_0_31 c_0_25 rfl rfl (by rfl) (by rfl) (by exact Nat.le_of_ble_eq_true rfl) (by exact Nat.le_of_ble_eq_true rfl) (s_Board (a := w + 10) (by rw [kd_mkO, ← N2, up1_same]) (fun j => by rw [hi_mkO, ← N2, up1_same]) (by rw [nx_mkO, N2]) (by simp only [nx_mkO, cn_mkO]; omega) (by simp only [us_mkO, cs_mkO]; simp; omega)) (fun v_31 h_31 q_31 => ?_) (fun _ _ q => q.elim)
  obtain ⟨rfl, o, n, u, c, d, f⟩ := q_31
  have fr : ∀ b, b < w + 10 → eqA g2 h_31 b := fun b hb => (eqA_mkO (by omega)).trans (f b hb)
  have u2 : us h_31 = us h + 2000 := by rw [u, us_mkO]; first | rfl | (simp; omega)
  have c2 : cn h_31 = cn h := c.trans C2
  have d2 : cs h_31 = cs h := d.trans D2
  have kw : kd h_31 w = 0 + 1 := (fr w (by omega)).1.trans K2
  clear u c d f
  refine wp_putR (2) d_0_34 fl_0_26 rfl rfl (Or.inr ⟨by rfl, by rfl, by rfl⟩) (by assumption) ?_
  have fr2 : ∀ b, b ≠ w → b < w + 10 → eqA g2 (setR h_31 w 2 (some (w + 10))) b := fun b hb hb2 => (fr b hb2).trans (eqA_setR hb)
  have K3 : kd (setR h_31 w 2 (some (w + 10))) w = 1 := kw
  have N3 : nx (setR h_31 w 2 (some (w + 10))) = w + 12 := by rw [nx_setR, n]
  have R3 : us (setR h_31 w 2 (some (w + 10))) = us h + 2000 := u2
  have C3 : cn (setR h_31 w 2 (some (w + 10))) = cn h := c2
  have D3 : cs (setR h_31 w 2 (some (w + 10))) = cs h := d2
  have F3 : ∀ b, b < w → eqA h (setR h_31 w 2 (some (w + 10))) b := fun b hb => (F2 b hb).trans (fr2 b (by omega) (by omega))
  have V3_0 : hr (setR h_31 w 2 (some (w + 10))) w 0 = some (w + 1) := by rw [hr_setR, up2_ne _ _ (fun q => absurd q.2 (by decide))]; exact ((fr w (by omega)).2.2.2.1 _).trans V2_0
  have V3_1 : hr (setR h_31 w 2 (some (w + 10))) w 1 = some (w + 6) := by rw [hr_setR, up2_ne _ _ (fun q => absurd q.2 (by decide))]; exact ((fr w (by omega)).2.2.2.1 _).trans V2_1
  have V3_2 : hr (setR h_31 w 2 (some (w + 10))) w 2 = some (w + 10) := by rw [hr_setR, up2_same]
  have P3_0 : NetN (setR h_31 w 2 (some (w + 10))) (w + 1) := P2_0.kept (fun b h0 h1 => fr2 b (by omega) (by omega))
  have P3_1 : RunN (setR h_31 w 2 (some (w + 10))) (w + 6) := P2_1.kept (fun b h0 h1 => fr2 b (by omega) (by omega))
  have P3_2 : BoaN (setR h_31 w 2 (some (w + 10))) (w + 10) := o.kept (fun b h0 h1 => eqA_setR (by omega))
  clear fr fr2 o kw u2 c2 d2 n
  generalize setR h_31 w 2 (some (w + 10)) = g3 at *
  refine wp_aload_n d_0_37 (by rfl) ?_
  refine wp_new (ci := 10) d_0_38 cl_0_30 ci10 ⟨_, rfl⟩ (by decide) (by omega) (by omega) ?_
  refine wp_dup d_0_41 (by rfl) ?_
  rw [N3]
  refine wp_callIn d_0_42 c_0_32 rfl rfl (by rfl) (by rfl) (by exact Nat.le_of_ble_eq_true rfl) (by exact Nat.le_of_ble_eq_true rfl) (s_Onward (a := w + 12) (by rw [kd_mkO, ← N3, up1_same]) (fun j => by rw [hi_mkO, ← N3, up1_same]) (by rw [nx_mkO, N3]) (by simp only [nx_mkO, cn_mkO]; omega) (by simp only [us_mkO, cs_mkO]; simp; omega)) (fun v_42 h_42 q_42 => ?_) (fun _ _ q => q.elim)
  obtain ⟨rfl, o, n, u, c, d, f⟩ := q_42
  have fr : ∀ b, b < w + 12 → eqA g3 h_42 b := fun b hb => (eqA_mkO (by omega)).trans (f b hb)
  have u2 : us h_42 = us h + 2258 := by rw [u, us_mkO]; first | rfl | (simp; omega)
  have c2 : cn h_42 = cn h := c.trans C3
  have d2 : cs h_42 = cs h := d.trans D3
  have kw : kd h_42 w = 0 + 1 := (fr w (by omega)).1.trans K3
  clear u c d f
  refine wp_putR (3) d_0_45 fl_0_33 rfl rfl (Or.inr ⟨by rfl, by rfl, by rfl⟩) (by assumption) ?_
  have fr2 : ∀ b, b ≠ w → b < w + 12 → eqA g3 (setR h_42 w 3 (some (w + 12))) b := fun b hb hb2 => (fr b hb2).trans (eqA_setR hb)
  have K4 : kd (setR h_42 w 3 (some (w + 12))) w = 1 := kw
  have N4 : nx (setR h_42 w 3 (some (w + 12))) = w + 30 := by rw [nx_setR, n]
  have R4 : us (setR h_42 w 3 (some (w + 12))) = us h + 2258 := u2
  have C4 : cn (setR h_42 w 3 (some (w + 12))) = cn h := c2
  have D4 : cs (setR h_42 w 3 (some (w + 12))) = cs h := d2
  have F4 : ∀ b, b < w → eqA h (setR h_42 w 3 (some (w + 12))) b := fun b hb => (F3 b hb).trans (fr2 b (by omega) (by omega))
  have V4_0 : hr (setR h_42 w 3 (some (w + 12))) w 0 = some (w + 1) := by rw [hr_setR, up2_ne _ _ (fun q => absurd q.2 (by decide))]; exact ((fr w (by omega)).2.2.2.1 _).trans V3_0
  have V4_1 : hr (setR h_42 w 3 (some (w + 12))) w 1 = some (w + 6) := by rw [hr_setR, up2_ne _ _ (fun q => absurd q.2 (by decide))]; exact ((fr w (by omega)).2.2.2.1 _).trans V3_1
  have V4_2 : hr (setR h_42 w 3 (some (w + 12))) w 2 = some (w + 10) := by rw [hr_setR, up2_ne _ _ (fun q => absurd q.2 (by decide))]; exact ((fr w (by omega)).2.2.2.1 _).trans V3_2
  have V4_3 : hr (setR h_42 w 3 (some (w + 12))) w 3 = some (w + 12) := by rw [hr_setR, up2_same]
  have P4_0 : NetN (setR h_42 w 3 (some (w + 12))) (w + 1) := P3_0.kept (fun b h0 h1 => fr2 b (by omega) (by omega))
  have P4_1 : RunN (setR h_42 w 3 (some (w + 12))) (w + 6) := P3_1.kept (fun b h0 h1 => fr2 b (by omega) (by omega))
  have P4_2 : BoaN (setR h_42 w 3 (some (w + 12))) (w + 10) := P3_2.kept (fun b h0 h1 => fr2 b (by omega) (by omega))
  have P4_3 : OnwN (setR h_42 w 3 (some (w + 12))) (w + 12) := o.kept (fun b h0 h1 => eqA_setR (by omega))
  clear fr fr2 o kw u2 c2 d2 n
  generalize setR h_42 w 3 (some (w + 12)) = g4 at *
  refine wp_aload_n d_0_48 (by rfl) ?_
  refine wp_new (ci := 2) d_0_49 cl_0_37 ci2 ⟨_, rfl⟩ (by decide) (by omega) (by omega) ?_
  refine wp_dup d_0_52 (by rfl) ?_
  rw [N4]
  refine wp_callIn d_0_53 c_0_39 rfl rfl (by rfl) (by rfl) (by exact Nat.le_of_ble_eq_true rfl) (by exact Nat.le_of_ble_eq_true rfl) (s_Backward (a := w + 30) (by rw [kd_mkO, ← N4, up1_same]) (fun j => by rw [hi_mkO, ← N4, up1_same]) (by rw [nx_mkO, N4]) (by simp only [nx_mkO, cn_mkO]; omega) (by simp only [us_mkO, cs_mkO]; simp; omega)) (fun v_53 h_53 q_53 => ?_) (fun _ _ q => q.elim)
  obtain ⟨rfl, o, n, u, c, d, f⟩ := q_53
  have fr : ∀ b, b < w + 30 → eqA g4 h_53 b := fun b hb => (eqA_mkO (by omega)).trans (f b hb)
  have u2 : us h_53 = us h + 2500 := by rw [u, us_mkO]; first | rfl | (simp; omega)
  have c2 : cn h_53 = cn h := c.trans C4
  have d2 : cs h_53 = cs h := d.trans D4
  have kw : kd h_53 w = 0 + 1 := (fr w (by omega)).1.trans K4
  clear u c d f
  refine wp_putR (4) d_0_56 fl_0_40 rfl rfl (Or.inr ⟨by rfl, by rfl, by rfl⟩) (by assumption) ?_
  have fr2 : ∀ b, b ≠ w → b < w + 30 → eqA g4 (setR h_53 w 4 (some (w + 30))) b := fun b hb hb2 => (fr b hb2).trans (eqA_setR hb)
  have K5 : kd (setR h_53 w 4 (some (w + 30))) w = 1 := kw
  have N5 : nx (setR h_53 w 4 (some (w + 30))) = w + 47 := by rw [nx_setR, n]
  have R5 : us (setR h_53 w 4 (some (w + 30))) = us h + 2500 := u2
  have C5 : cn (setR h_53 w 4 (some (w + 30))) = cn h := c2
  have D5 : cs (setR h_53 w 4 (some (w + 30))) = cs h := d2
  have F5 : ∀ b, b < w → eqA h (setR h_53 w 4 (some (w + 30))) b := fun b hb => (F4 b hb).trans (fr2 b (by omega) (by omega))
  have V5_0 : hr (setR h_53 w 4 (some (w + 30))) w 0 = some (w + 1) := by rw [hr_setR, up2_ne _ _ (fun q => absurd q.2 (by decide))]; exact ((fr w (by omega)).2.2.2.1 _).trans V4_0
  have V5_1 : hr (setR h_53 w 4 (some (w + 30))) w 1 = some (w + 6) := by rw [hr_setR, up2_ne _ _ (fun q => absurd q.2 (by decide))]; exact ((fr w (by omega)).2.2.2.1 _).trans V4_1
  have V5_2 : hr (setR h_53 w 4 (some (w + 30))) w 2 = some (w + 10) := by rw [hr_setR, up2_ne _ _ (fun q => absurd q.2 (by decide))]; exact ((fr w (by omega)).2.2.2.1 _).trans V4_2
  have V5_3 : hr (setR h_53 w 4 (some (w + 30))) w 3 = some (w + 12) := by rw [hr_setR, up2_ne _ _ (fun q => absurd q.2 (by decide))]; exact ((fr w (by omega)).2.2.2.1 _).trans V4_3
  have V5_4 : hr (setR h_53 w 4 (some (w + 30))) w 4 = some (w + 30) := by rw [hr_setR, up2_same]
  have P5_0 : NetN (setR h_53 w 4 (some (w + 30))) (w + 1) := P4_0.kept (fun b h0 h1 => fr2 b (by omega) (by omega))
  have P5_1 : RunN (setR h_53 w 4 (some (w + 30))) (w + 6) := P4_1.kept (fun b h0 h1 => fr2 b (by omega) (by omega))
  have P5_2 : BoaN (setR h_53 w 4 (some (w + 30))) (w + 10) := P4_2.kept (fun b h0 h1 => fr2 b (by omega) (by omega))
  have P5_3 : OnwN (setR h_53 w 4 (some (w + 30))) (w + 12) := P4_3.kept (fun b h0 h1 => fr2 b (by omega) (by omega))
  have P5_4 : BacN (setR h_53 w 4 (some (w + 30))) (w + 30) := o.kept (fun b h0 h1 => eqA_setR (by omega))
  clear fr fr2 o kw u2 c2 d2 n
  generalize setR h_53 w 4 (some (w + 30)) = g5 at *
  refine wp_aload_n d_0_59 (by rfl) ?_
  refine wp_new (ci := 5) d_0_60 cl_0_44 ci5 ⟨_, rfl⟩ (by decide) (by omega) (by omega) ?_
  refine wp_dup d_0_63 (by rfl) ?_
  rw [N5]
  refine wp_callI d_0_64 c_0_46 rfl rfl (by rfl) (by rfl) (by exact Nat.le_of_ble_eq_true rfl) (by exact Nat.le_of_ble_eq_true rfl) (s_Fares (a := w + 47) (by rw [kd_mkO, ← N5, up1_same]) (fun j => by rw [hi_mkO, ← N5, up1_same]) (by rw [nx_mkO, N5]) (by simp only [nx_mkO, cn_mkO]; omega) (by simp only [us_mkO, cs_mkO]; simp; omega)) (fun v_64 h_64 q_64 => ?_) (fun _ _ q => q.elim)
  obtain ⟨rfl, o, n, u, c, d, f⟩ := q_64
  have fr : ∀ b, b < w + 47 → eqA g5 h_64 b := fun b hb => (eqA_mkO (by omega)).trans (f b hb)
  have u2 : us h_64 = us h + 3657 := by rw [u, us_mkO]; first | rfl | (simp; omega)
  have c2 : cn h_64 = cn h := c.trans C5
  have d2 : cs h_64 = cs h := d.trans D5
  have kw : kd h_64 w = 0 + 1 := (fr w (by omega)).1.trans K5
  clear u c d f
  refine wp_putR (5) d_0_67 fl_0_47 rfl rfl (Or.inr ⟨by rfl, by rfl, by rfl⟩) (by assumption) ?_
  have fr2 : ∀ b, b ≠ w → b < w + 47 → eqA g5 (setR h_64 w 5 (some (w + 47))) b := fun b hb hb2 => (fr b hb2).trans (eqA_setR hb)
  have K6 : kd (setR h_64 w 5 (some (w + 47))) w = 1 := kw
  have N6 : nx (setR h_64 w 5 (some (w + 47))) = w + 146 := by rw [nx_setR, n]
  have R6 : us (setR h_64 w 5 (some (w + 47))) = us h + 3657 := u2
  have C6 : cn (setR h_64 w 5 (some (w + 47))) = cn h := c2
  have D6 : cs (setR h_64 w 5 (some (w + 47))) = cs h := d2
  have F6 : ∀ b, b < w → eqA h (setR h_64 w 5 (some (w + 47))) b := fun b hb => (F5 b hb).trans (fr2 b (by omega) (by omega))
  have V6_0 : hr (setR h_64 w 5 (some (w + 47))) w 0 = some (w + 1) := by rw [hr_setR, up2_ne _ _ (fun q => absurd q.2 (by decide))]; exact ((fr w (by omega)).2.2.2.1 _).trans V5_0
  have V6_1 : hr (setR h_64 w 5 (some (w + 47))) w 1 = some (w + 6) := by rw [hr_setR, up2_ne _ _ (fun q => absurd q.2 (by decide))]; exact ((fr w (by omega)).2.2.2.1 _).trans V5_1
  have V6_2 : hr (setR h_64 w 5 (some (w + 47))) w 2 = some (w + 10) := by rw [hr_setR, up2_ne _ _ (fun q => absurd q.2 (by decide))]; exact ((fr w (by omega)).2.2.2.1 _).trans V5_2
  have V6_3 : hr (setR h_64 w 5 (some (w + 47))) w 3 = some (w + 12) := by rw [hr_setR, up2_ne _ _ (fun q => absurd q.2 (by decide))]; exact ((fr w (by omega)).2.2.2.1 _).trans V5_3
  have V6_4 : hr (setR h_64 w 5 (some (w + 47))) w 4 = some (w + 30) := by rw [hr_setR, up2_ne _ _ (fun q => absurd q.2 (by decide))]; exact ((fr w (by omega)).2.2.2.1 _).trans V5_4
  have V6_5 : hr (setR h_64 w 5 (some (w + 47))) w 5 = some (w + 47) := by rw [hr_setR, up2_same]
  have P6_0 : NetN (setR h_64 w 5 (some (w + 47))) (w + 1) := P5_0.kept (fun b h0 h1 => fr2 b (by omega) (by omega))
  have P6_1 : RunN (setR h_64 w 5 (some (w + 47))) (w + 6) := P5_1.kept (fun b h0 h1 => fr2 b (by omega) (by omega))
  have P6_2 : BoaN (setR h_64 w 5 (some (w + 47))) (w + 10) := P5_2.kept (fun b h0 h1 => fr2 b (by omega) (by omega))
  have P6_3 : OnwN (setR h_64 w 5 (some (w + 47))) (w + 12) := P5_3.kept (fun b h0 h1 => fr2 b (by omega) (by omega))
  have P6_4 : BacN (setR h_64 w 5 (some (w + 47))) (w + 30) := P5_4.kept (fun b h0 h1 => fr2 b (by omega) (by omega))
  have P6_5 : FarI (setR h_64 w 5 (some (w + 47))) (w + 47) 16 := o.kept (fun b h0 h1 => eqA_setR (by omega))
  clear fr fr2 o kw u2 c2 d2 n
  generalize setR h_64 w 5 (some (w + 47)) = g6 at *
  refine wp_aload_n d_0_70 (by rfl) ?_
  refine wp_new (ci := 7) d_0_71 cl_0_51 ci7 ⟨_, rfl⟩ (by decide) (by omega) (by omega) ?_
  refine wp_dup d_0_74 (by rfl) ?_
  rw [N6]
  refine wp_callIn d_0_75 c_0_53 rfl rfl (by rfl) (by rfl) (by exact Nat.le_of_ble_eq_true rfl) (by exact Nat.le_of_ble_eq_true rfl) (s_Journey (a := w + 146) (by rw [kd_mkO, ← N6, up1_same]) (fun j => by rw [hi_mkO, ← N6, up1_same]) (by rw [nx_mkO, N6]) (by simp only [nx_mkO, cn_mkO]; omega) (by simp only [us_mkO, cs_mkO]; simp; omega)) (fun v_75 h_75 q_75 => ?_) (fun _ _ q => q.elim)
  obtain ⟨rfl, o, n, u, c, d, f⟩ := q_75
  have fr : ∀ b, b < w + 146 → eqA g6 h_75 b := fun b hb => (eqA_mkO (by omega)).trans (f b hb)
  have u2 : us h_75 = us h + 3762 := by rw [u, us_mkO]; first | rfl | (simp; omega)
  have c2 : cn h_75 = cn h := c.trans C6
  have d2 : cs h_75 = cs h := d.trans D6
  have kw : kd h_75 w = 0 + 1 := (fr w (by omega)).1.trans K6
  clear u c d f
  refine wp_putR (6) d_0_78 fl_0_54 rfl rfl (Or.inr ⟨by rfl, by rfl, by rfl⟩) (by assumption) ?_
  have fr2 : ∀ b, b ≠ w → b < w + 146 → eqA g6 (setR h_75 w 6 (some (w + 146))) b := fun b hb hb2 => (fr b hb2).trans (eqA_setR hb)
  have K7 : kd (setR h_75 w 6 (some (w + 146))) w = 1 := kw
  have N7 : nx (setR h_75 w 6 (some (w + 146))) = w + 154 := by rw [nx_setR, n]
  have R7 : us (setR h_75 w 6 (some (w + 146))) = us h + 3762 := u2
  have C7 : cn (setR h_75 w 6 (some (w + 146))) = cn h := c2
  have D7 : cs (setR h_75 w 6 (some (w + 146))) = cs h := d2
  have F7 : ∀ b, b < w → eqA h (setR h_75 w 6 (some (w + 146))) b := fun b hb => (F6 b hb).trans (fr2 b (by omega) (by omega))
  have V7_0 : hr (setR h_75 w 6 (some (w + 146))) w 0 = some (w + 1) := by rw [hr_setR, up2_ne _ _ (fun q => absurd q.2 (by decide))]; exact ((fr w (by omega)).2.2.2.1 _).trans V6_0
  have V7_1 : hr (setR h_75 w 6 (some (w + 146))) w 1 = some (w + 6) := by rw [hr_setR, up2_ne _ _ (fun q => absurd q.2 (by decide))]; exact ((fr w (by omega)).2.2.2.1 _).trans V6_1
  have V7_2 : hr (setR h_75 w 6 (some (w + 146))) w 2 = some (w + 10) := by rw [hr_setR, up2_ne _ _ (fun q => absurd q.2 (by decide))]; exact ((fr w (by omega)).2.2.2.1 _).trans V6_2
  have V7_3 : hr (setR h_75 w 6 (some (w + 146))) w 3 = some (w + 12) := by rw [hr_setR, up2_ne _ _ (fun q => absurd q.2 (by decide))]; exact ((fr w (by omega)).2.2.2.1 _).trans V6_3
  have V7_4 : hr (setR h_75 w 6 (some (w + 146))) w 4 = some (w + 30) := by rw [hr_setR, up2_ne _ _ (fun q => absurd q.2 (by decide))]; exact ((fr w (by omega)).2.2.2.1 _).trans V6_4
  have V7_5 : hr (setR h_75 w 6 (some (w + 146))) w 5 = some (w + 47) := by rw [hr_setR, up2_ne _ _ (fun q => absurd q.2 (by decide))]; exact ((fr w (by omega)).2.2.2.1 _).trans V6_5
  have V7_6 : hr (setR h_75 w 6 (some (w + 146))) w 6 = some (w + 146) := by rw [hr_setR, up2_same]
  have P7_0 : NetN (setR h_75 w 6 (some (w + 146))) (w + 1) := P6_0.kept (fun b h0 h1 => fr2 b (by omega) (by omega))
  have P7_1 : RunN (setR h_75 w 6 (some (w + 146))) (w + 6) := P6_1.kept (fun b h0 h1 => fr2 b (by omega) (by omega))
  have P7_2 : BoaN (setR h_75 w 6 (some (w + 146))) (w + 10) := P6_2.kept (fun b h0 h1 => fr2 b (by omega) (by omega))
  have P7_3 : OnwN (setR h_75 w 6 (some (w + 146))) (w + 12) := P6_3.kept (fun b h0 h1 => fr2 b (by omega) (by omega))
  have P7_4 : BacN (setR h_75 w 6 (some (w + 146))) (w + 30) := P6_4.kept (fun b h0 h1 => fr2 b (by omega) (by omega))
  have P7_5 : FarI (setR h_75 w 6 (some (w + 146))) (w + 47) 16 := P6_5.kept (fun b h0 h1 => fr2 b (by omega) (by omega))
  have P7_6 : JouN (setR h_75 w 6 (some (w + 146))) (w + 146) := o.kept (fun b h0 h1 => eqA_setR (by omega))
  clear fr fr2 o kw u2 c2 d2 n
  generalize setR h_75 w 6 (some (w + 146)) = g7 at *
  refine wp_vret d_0_81 rfl ?_
  exact ⟨rfl, ⟨K7, ⟨V7_0, V7_1, V7_2, V7_3, V7_4, V7_5, V7_6⟩, P7_0, P7_1, P7_2, P7_3, P7_4, P7_5, P7_6⟩, N7, R7, C7, D7, F7⟩
end
section
/-! ===== the reference's constructor ===== -/
/-- the object m's fields that hold rows: field, distance, places, places of an inner row (0: one row) -/
def arr1 (h : Hp) (m N : Nat) (q : Int × Nat × Int × Int) : Prop := hr h m q.1 = some (m + q.2.1) ∧ 0 < q.2.1 ∧ ((q.2.2.2 = 0 ∧ m + q.2.1 < N ∧ zA h (m + q.2.1) q.2.2.1) ∨ (0 ≤ q.2.2.1 ∧ m + q.2.1 + q.2.2.1.toNat < N ∧ mA h (m + q.2.1) q.2.2.1 q.2.2.2))
theorem arr1.kept {h h' : Hp} {m N N' : Nat} {q : Int × Nat × Int × Int} (k : arr1 h m N q) (hN : N ≤ N') (hr1 : hr h' m q.1 = hr h m q.1) (e : ∀ b, m < b → b < N → eqA h h' b) : arr1 h' m N' q := by
  obtain ⟨k1, k0, k2⟩ := k
  refine ⟨hr1.trans k1, k0, ?_⟩
  rcases k2 with ⟨a, b, c⟩ | ⟨a, b, c⟩
  · exact Or.inl ⟨a, by omega, c.kept (e _ (by omega) b)⟩
  · exact Or.inr ⟨a, by omega, c.kept (fun x h0 h1 => e x (by omega) (by omega)) a⟩
def MdS (h0 h : Hp) (m off u : Nat) (L : List (Int × Nat × Int × Int)) : Prop := kd h m = 2 ∧ nx h = m + off ∧ us h = us h0 + u ∧ cn h = cn h0 ∧ cs h = cs h0 ∧ (∀ q ∈ L, arr1 h m (m + off) q) ∧ (∀ b, b < m → eqA h0 h b)
theorem MdS.new {h0 h : Hp} {m off u : Nat} {L : List (Int × Nat × Int × Int)} {n k : Int} (S : MdS h0 h m off u L) (ho : 0 < off) (hf : ∀ q ∈ L, q.1 ≠ k) : MdS h0 (setR (mkO h 100 n) m k (some (nx h))) m (off + 1) (u + n.toNat) ((k, off, n, 0) :: L) ∧ ∀ j, hi (setR (mkO h 100 n) m k (some (nx h))) m j = hi h m j := by
  obtain ⟨s1, s2, s3, s4, s5, s6, s7⟩ := S
  have hne : ¬ m = nx h := by omega
  have e : ∀ b, b < nx h → b ≠ m → eqA h (setR (mkO h 100 n) m k (some (nx h))) b := fun b hb hm => (eqA_mkO hb).trans (eqA_setR hm)
  refine ⟨⟨by rw [kd_setR, kd_mkO, up1_ne _ _ hne]; exact s1, by rw [nx_setR, nx_mkO, s2]; omega, by rw [us_setR, us_mkO, s3]; omega, s4, s5, fun q hq => ?_, fun b hb => (s7 b hb).trans (e b (by omega) (by omega))⟩, fun j => by rw [hi_setR, hi_mkO, up1_ne _ _ hne]⟩
  rcases List.mem_cons.mp hq with rfl | hq
  · refine ⟨by rw [hr_setR, up2_same, s2], ho, Or.inl ⟨rfl, by dsimp only; omega, ?_⟩⟩
    have := zA_mkO (h := h) (n := n)
    rw [s2] at this
    exact this
  · refine (s6 q hq).kept (by omega) ?_ (fun b h1 h2 => e b (by omega) (by omega))
    rw [hr_setR, up2_ne _ _ (fun z => hf q hq z.2), hr_mkO, up1_ne _ _ hne]
theorem MdS.mna {h0 h : Hp} {m off u : Nat} {L : List (Int × Nat × Int × Int)} {n c k : Int} (S : MdS h0 h m off u L) (ho : 0 < off) (hn : 0 ≤ n) (hf : ∀ q ∈ L, q.1 ≠ k) : MdS h0 (setR (mkM h n c) m k (some (nx h))) m (off + 1 + n.toNat) (u + n.toNat + n.toNat * c.toNat) ((k, off, n, c) :: L) ∧ ∀ j, hi (setR (mkM h n c) m k (some (nx h))) m j = hi h m j := by
  obtain ⟨s1, s2, s3, s4, s5, s6, s7⟩ := S
  have hne : ¬ m = nx h := by omega
  have e : ∀ b, b < nx h → b ≠ m → eqA h (setR (mkM h n c) m k (some (nx h))) b := fun b hb hm => (eqA_mkM hb).trans (eqA_setR hm)
  refine ⟨⟨by rw [kd_setR, kd_mkM, if_neg hne, if_neg (by omega)]; exact s1, by rw [nx_setR, nx_mkM, s2]; omega, by rw [us_setR, us_mkM, s3]; omega, s4, s5, fun q hq => ?_, fun b hb => (s7 b hb).trans (e b (by omega) (by omega))⟩, fun j => by rw [hi_setR, hi_mkM, if_neg (by omega)]⟩
  rcases List.mem_cons.mp hq with rfl | hq
  · refine ⟨by rw [hr_setR, up2_same, s2], ho, Or.inr ⟨hn, by dsimp only; omega, ?_⟩⟩
    have := mA_of h n c
    rw [s2] at this
    exact mA_setR this (by dsimp only; omega)
  · refine (s6 q hq).kept (by omega) ?_ (fun b h1 h2 => e b (by omega) (by omega))
    rw [hr_setR, up2_ne _ _ (fun z => hf q hq z.2), hr_mkM, if_neg hne, if_neg (by omega)]
theorem MdS.int {h0 h : Hp} {m off u : Nat} {L : List (Int × Nat × Int × Int)} {k v : Int} (S : MdS h0 h m off u L) : MdS h0 (setI h m k v) m off u L := by
  obtain ⟨s1, s2, s3, s4, s5, s6, s7⟩ := S
  exact ⟨s1, s2, s3, s4, s5, fun q hq => (s6 q hq).kept (Nat.le_refl _) rfl (fun b h1 h2 => eqA_setI (by omega)), fun b hb => (s7 b hb).trans (eqA_setI (by omega))⟩

def mdL : List (Int × Nat × Int × Int) := [(34, 125, 14, 0), (33, 124, 14, 0), (32, 123, 14, 0), (31, 122, 14, 0), (30, 121, 14, 0), (29, 120, 14, 0), (28, 119, 14, 0), (27, 118, 14, 0), (19, 93, 24, 366), (18, 68, 24, 8), (17, 43, 24, 8), (16, 18, 24, 8), (15, 17, 24, 0), (14, 16, 24, 0), (13, 15, 24, 0), (11, 8, 6, 366), (10, 7, 6, 0), (9, 6, 6, 0), (8, 5, 6, 0), (6, 4, 20, 0), (5, 3, 20, 0), (4, 2, 20, 0), (2, 1, 16, 0)]
set_option maxRecDepth 100000 in
set_option maxHeartbeats 8000000 in
theorem s_Model {m : Nat} {h : Hp} (hk : kd h m = 2) (hn : nx h = m + 1) (r1 : nx h + 125 ≤ cn h) (r2 : us h + 11936 ≤ cs h) : wp 49 0 (entL [vR (some m)] (mL 49)) [] h (fun v h' => v = none ∧ MdS h h' m 126 11936 mdL ∧ ∀ j, hi h' m j = if j = 23 then -1 else if j = 20 then -1 else hi h m j) noX := by
  have S0 : MdS h h m 1 0 [] := ⟨hk, hn, rfl, rfl, rfl, (fun q hq => nomatch hq), fun b hb => eqA.rfl⟩
  have I0 : ∀ j, hi h m j = hi h m j := fun j => rfl
  have r3 : m + 126 ≤ cn h := by omega
  clear hk hn r1
  have goalh : True := trivial
  refine wp_aload_n d_49_0 (by rfl) ?_
  refine wp_objInit d_49_1 oi_1 co_code ⟨Nat.le_of_ble_eq_true rfl, Nat.le_of_ble_eq_true rfl⟩ ?_
  refine wp_aload_n d_49_4 (by rfl) ?_
  refine wp_bipush d_49_5 (by decide) ?_
  refine wp_newa (K := 100) d_49_7 rfl (by decide) ca_100 rfl (by first | omega | decide) (by first | omega | decide) (by decide) (by have := S0.2.1; have := S0.2.2.2.1; omega) (by have := S0.2.2.1; have := S0.2.2.2.2.1; first | omega | (simp; omega)) ?_
  refine wp_putR (2) d_49_9 fl_1_9 rfl rfl (Or.inr ⟨by rfl, by rfl, by rfl⟩) (by have := S0.1; have := S0.2.1; first | assumption | (rw [kd_mkO, up1_ne _ _ (by omega)]; assumption) | (rw [kd_mkM, if_neg (by omega), if_neg (by omega)]; assumption)) ?_
  have S1 : MdS h (setR (mkO h 100 16) m 2 (some (nx h))) m 2 16 [(2, 1, 16, 0)] := (S0.new (n := 16) (k := 2) (by decide) (by decide)).1
  have J := (S0.new (n := 16) (k := 2) (by decide) (by decide)).2
  have I1 := fun j => (J j).trans (I0 j)
  clear J
  generalize setR (mkO h 100 16) m 2 (some (nx h)) = g1 at *
  clear S0 I0
  refine wp_aload_n d_49_12 (by rfl) ?_
  refine wp_bipush d_49_13 (by decide) ?_
  refine wp_newa (K := 100) d_49_15 rfl (by decide) ca_100 rfl (by first | omega | decide) (by first | omega | decide) (by decide) (by have := S1.2.1; have := S1.2.2.2.1; omega) (by have := S1.2.2.1; have := S1.2.2.2.2.1; first | omega | (simp; omega)) ?_
  refine wp_putR (4) d_49_17 fl_1_13 rfl rfl (Or.inr ⟨by rfl, by rfl, by rfl⟩) (by have := S1.1; have := S1.2.1; first | assumption | (rw [kd_mkO, up1_ne _ _ (by omega)]; assumption) | (rw [kd_mkM, if_neg (by omega), if_neg (by omega)]; assumption)) ?_
  have S2 : MdS h (setR (mkO g1 100 20) m 4 (some (nx g1))) m 3 36 [(4, 2, 20, 0), (2, 1, 16, 0)] := (S1.new (n := 20) (k := 4) (by decide) (by decide)).1
  have J := (S1.new (n := 20) (k := 4) (by decide) (by decide)).2
  have I2 := fun j => (J j).trans (I1 j)
  clear J
  generalize setR (mkO g1 100 20) m 4 (some (nx g1)) = g2 at *
  clear S1 I1
  refine wp_aload_n d_49_20 (by rfl) ?_
  refine wp_bipush d_49_21 (by decide) ?_
  refine wp_newa (K := 100) d_49_23 rfl (by decide) ca_100 rfl (by first | omega | decide) (by first | omega | decide) (by decide) (by have := S2.2.1; have := S2.2.2.2.1; omega) (by have := S2.2.2.1; have := S2.2.2.2.2.1; first | omega | (simp; omega)) ?_
  refine wp_putR (5) d_49_25 fl_1_16 rfl rfl (Or.inr ⟨by rfl, by rfl, by rfl⟩) (by have := S2.1; have := S2.2.1; first | assumption | (rw [kd_mkO, up1_ne _ _ (by omega)]; assumption) | (rw [kd_mkM, if_neg (by omega), if_neg (by omega)]; assumption)) ?_
  have S3 : MdS h (setR (mkO g2 100 20) m 5 (some (nx g2))) m 4 56 [(5, 3, 20, 0), (4, 2, 20, 0), (2, 1, 16, 0)] := (S2.new (n := 20) (k := 5) (by decide) (by decide)).1
  have J := (S2.new (n := 20) (k := 5) (by decide) (by decide)).2
  have I3 := fun j => (J j).trans (I2 j)
  clear J
  generalize setR (mkO g2 100 20) m 5 (some (nx g2)) = g3 at *
  clear S2 I2
  refine wp_aload_n d_49_28 (by rfl) ?_
  refine wp_bipush d_49_29 (by decide) ?_
  refine wp_newa (K := 100) d_49_31 rfl (by decide) ca_100 rfl (by first | omega | decide) (by first | omega | decide) (by decide) (by have := S3.2.1; have := S3.2.2.2.1; omega) (by have := S3.2.2.1; have := S3.2.2.2.2.1; first | omega | (simp; omega)) ?_
  refine wp_putR (6) d_49_33 fl_1_19 rfl rfl (Or.inr ⟨by rfl, by rfl, by rfl⟩) (by have := S3.1; have := S3.2.1; first | assumption | (rw [kd_mkO, up1_ne _ _ (by omega)]; assumption) | (rw [kd_mkM, if_neg (by omega), if_neg (by omega)]; assumption)) ?_
  have S4 : MdS h (setR (mkO g3 100 20) m 6 (some (nx g3))) m 5 76 [(6, 4, 20, 0), (5, 3, 20, 0), (4, 2, 20, 0), (2, 1, 16, 0)] := (S3.new (n := 20) (k := 6) (by decide) (by decide)).1
  have J := (S3.new (n := 20) (k := 6) (by decide) (by decide)).2
  have I4 := fun j => (J j).trans (I3 j)
  clear J
  generalize setR (mkO g3 100 20) m 6 (some (nx g3)) = g4 at *
  clear S3 I3
  refine wp_aload_n d_49_36 (by rfl) ?_
  refine wp_bipush d_49_37 (by decide) ?_
  refine wp_newa (K := 100) d_49_39 rfl (by decide) ca_100 rfl (by first | omega | decide) (by first | omega | decide) (by decide) (by have := S4.2.1; have := S4.2.2.2.1; omega) (by have := S4.2.2.1; have := S4.2.2.2.2.1; first | omega | (simp; omega)) ?_
  refine wp_putR (8) d_49_41 fl_1_22 rfl rfl (Or.inr ⟨by rfl, by rfl, by rfl⟩) (by have := S4.1; have := S4.2.1; first | assumption | (rw [kd_mkO, up1_ne _ _ (by omega)]; assumption) | (rw [kd_mkM, if_neg (by omega), if_neg (by omega)]; assumption)) ?_
  have S5 : MdS h (setR (mkO g4 100 6) m 8 (some (nx g4))) m 6 82 [(8, 5, 6, 0), (6, 4, 20, 0), (5, 3, 20, 0), (4, 2, 20, 0), (2, 1, 16, 0)] := (S4.new (n := 6) (k := 8) (by decide) (by decide)).1
  have J := (S4.new (n := 6) (k := 8) (by decide) (by decide)).2
  have I5 := fun j => (J j).trans (I4 j)
  clear J
  generalize setR (mkO g4 100 6) m 8 (some (nx g4)) = g5 at *
  clear S4 I4
  refine wp_aload_n d_49_44 (by rfl) ?_
  refine wp_bipush d_49_45 (by decide) ?_
  refine wp_newa (K := 100) d_49_47 rfl (by decide) ca_100 rfl (by first | omega | decide) (by first | omega | decide) (by decide) (by have := S5.2.1; have := S5.2.2.2.1; omega) (by have := S5.2.2.1; have := S5.2.2.2.2.1; first | omega | (simp; omega)) ?_
  refine wp_putR (9) d_49_49 fl_1_25 rfl rfl (Or.inr ⟨by rfl, by rfl, by rfl⟩) (by have := S5.1; have := S5.2.1; first | assumption | (rw [kd_mkO, up1_ne _ _ (by omega)]; assumption) | (rw [kd_mkM, if_neg (by omega), if_neg (by omega)]; assumption)) ?_
  have S6 : MdS h (setR (mkO g5 100 6) m 9 (some (nx g5))) m 7 88 [(9, 6, 6, 0), (8, 5, 6, 0), (6, 4, 20, 0), (5, 3, 20, 0), (4, 2, 20, 0), (2, 1, 16, 0)] := (S5.new (n := 6) (k := 9) (by decide) (by decide)).1
  have J := (S5.new (n := 6) (k := 9) (by decide) (by decide)).2
  have I6 := fun j => (J j).trans (I5 j)
  clear J
  generalize setR (mkO g5 100 6) m 9 (some (nx g5)) = g6 at *
  clear S5 I5
  refine wp_aload_n d_49_52 (by rfl) ?_
  refine wp_bipush d_49_53 (by decide) ?_
  refine wp_newa (K := 100) d_49_55 rfl (by decide) ca_100 rfl (by first | omega | decide) (by first | omega | decide) (by decide) (by have := S6.2.1; have := S6.2.2.2.1; omega) (by have := S6.2.2.1; have := S6.2.2.2.2.1; first | omega | (simp; omega)) ?_
  refine wp_putR (10) d_49_57 fl_1_28 rfl rfl (Or.inr ⟨by rfl, by rfl, by rfl⟩) (by have := S6.1; have := S6.2.1; first | assumption | (rw [kd_mkO, up1_ne _ _ (by omega)]; assumption) | (rw [kd_mkM, if_neg (by omega), if_neg (by omega)]; assumption)) ?_
  have S7 : MdS h (setR (mkO g6 100 6) m 10 (some (nx g6))) m 8 94 [(10, 7, 6, 0), (9, 6, 6, 0), (8, 5, 6, 0), (6, 4, 20, 0), (5, 3, 20, 0), (4, 2, 20, 0), (2, 1, 16, 0)] := (S6.new (n := 6) (k := 10) (by decide) (by decide)).1
  have J := (S6.new (n := 6) (k := 10) (by decide) (by decide)).2
  have I7 := fun j => (J j).trans (I6 j)
  clear J
  generalize setR (mkO g6 100 6) m 10 (some (nx g6)) = g7 at *
  clear S6 I6
  refine wp_aload_n d_49_60 (by rfl) ?_
  refine wp_bipush d_49_61 (by decide) ?_
  refine wp_sipush d_49_63 (by decide) ?_
  refine wp_mna d_49_66 cl_1_31 ca_103 ca_100 (by decide) (by decide) (by decide) (by decide) (by have := S7.2.1; have := S7.2.2.2.1; omega) (by have := S7.2.2.1; have := S7.2.2.2.2.1; first | omega | (simp; omega)) ?_
  refine wp_putR (11) d_49_70 fl_1_33 rfl rfl (Or.inr ⟨by rfl, by rfl, by rfl⟩) (by have := S7.1; have := S7.2.1; first | assumption | (rw [kd_mkO, up1_ne _ _ (by omega)]; assumption) | (rw [kd_mkM, if_neg (by omega), if_neg (by omega)]; assumption)) ?_
  have S8 : MdS h (setR (mkM g7 6 366) m 11 (some (nx g7))) m 15 2296 [(11, 8, 6, 366), (10, 7, 6, 0), (9, 6, 6, 0), (8, 5, 6, 0), (6, 4, 20, 0), (5, 3, 20, 0), (4, 2, 20, 0), (2, 1, 16, 0)] := (S7.mna (n := 6) (c := 366) (k := 11) (by decide) (by decide) (by decide)).1
  have J := (S7.mna (n := 6) (c := 366) (k := 11) (by decide) (by decide) (by decide)).2
  have I8 := fun j => (J j).trans (I7 j)
  clear J
  generalize setR (mkM g7 6 366) m 11 (some (nx g7)) = g8 at *
  clear S7 I7
  refine wp_aload_n d_49_73 (by rfl) ?_
  refine wp_bipush d_49_74 (by decide) ?_
  refine wp_newa (K := 100) d_49_76 rfl (by decide) ca_100 rfl (by first | omega | decide) (by first | omega | decide) (by decide) (by have := S8.2.1; have := S8.2.2.2.1; omega) (by have := S8.2.2.1; have := S8.2.2.2.2.1; first | omega | (simp; omega)) ?_
  refine wp_putR (13) d_49_78 fl_1_36 rfl rfl (Or.inr ⟨by rfl, by rfl, by rfl⟩) (by have := S8.1; have := S8.2.1; first | assumption | (rw [kd_mkO, up1_ne _ _ (by omega)]; assumption) | (rw [kd_mkM, if_neg (by omega), if_neg (by omega)]; assumption)) ?_
  have S9 : MdS h (setR (mkO g8 100 24) m 13 (some (nx g8))) m 16 2320 [(13, 15, 24, 0), (11, 8, 6, 366), (10, 7, 6, 0), (9, 6, 6, 0), (8, 5, 6, 0), (6, 4, 20, 0), (5, 3, 20, 0), (4, 2, 20, 0), (2, 1, 16, 0)] := (S8.new (n := 24) (k := 13) (by decide) (by decide)).1
  have J := (S8.new (n := 24) (k := 13) (by decide) (by decide)).2
  have I9 := fun j => (J j).trans (I8 j)
  clear J
  generalize setR (mkO g8 100 24) m 13 (some (nx g8)) = g9 at *
  clear S8 I8
  refine wp_aload_n d_49_81 (by rfl) ?_
  refine wp_bipush d_49_82 (by decide) ?_
  refine wp_newa (K := 100) d_49_84 rfl (by decide) ca_100 rfl (by first | omega | decide) (by first | omega | decide) (by decide) (by have := S9.2.1; have := S9.2.2.2.1; omega) (by have := S9.2.2.1; have := S9.2.2.2.2.1; first | omega | (simp; omega)) ?_
  refine wp_putR (14) d_49_86 fl_1_39 rfl rfl (Or.inr ⟨by rfl, by rfl, by rfl⟩) (by have := S9.1; have := S9.2.1; first | assumption | (rw [kd_mkO, up1_ne _ _ (by omega)]; assumption) | (rw [kd_mkM, if_neg (by omega), if_neg (by omega)]; assumption)) ?_
  have S10 : MdS h (setR (mkO g9 100 24) m 14 (some (nx g9))) m 17 2344 [(14, 16, 24, 0), (13, 15, 24, 0), (11, 8, 6, 366), (10, 7, 6, 0), (9, 6, 6, 0), (8, 5, 6, 0), (6, 4, 20, 0), (5, 3, 20, 0), (4, 2, 20, 0), (2, 1, 16, 0)] := (S9.new (n := 24) (k := 14) (by decide) (by decide)).1
  have J := (S9.new (n := 24) (k := 14) (by decide) (by decide)).2
  have I10 := fun j => (J j).trans (I9 j)
  clear J
  generalize setR (mkO g9 100 24) m 14 (some (nx g9)) = g10 at *
  clear S9 I9
  refine wp_aload_n d_49_89 (by rfl) ?_
  refine wp_bipush d_49_90 (by decide) ?_
  refine wp_newa (K := 100) d_49_92 rfl (by decide) ca_100 rfl (by first | omega | decide) (by first | omega | decide) (by decide) (by have := S10.2.1; have := S10.2.2.2.1; omega) (by have := S10.2.2.1; have := S10.2.2.2.2.1; first | omega | (simp; omega)) ?_
  refine wp_putR (15) d_49_94 fl_1_42 rfl rfl (Or.inr ⟨by rfl, by rfl, by rfl⟩) (by have := S10.1; have := S10.2.1; first | assumption | (rw [kd_mkO, up1_ne _ _ (by omega)]; assumption) | (rw [kd_mkM, if_neg (by omega), if_neg (by omega)]; assumption)) ?_
  have S11 : MdS h (setR (mkO g10 100 24) m 15 (some (nx g10))) m 18 2368 [(15, 17, 24, 0), (14, 16, 24, 0), (13, 15, 24, 0), (11, 8, 6, 366), (10, 7, 6, 0), (9, 6, 6, 0), (8, 5, 6, 0), (6, 4, 20, 0), (5, 3, 20, 0), (4, 2, 20, 0), (2, 1, 16, 0)] := (S10.new (n := 24) (k := 15) (by decide) (by decide)).1
  have J := (S10.new (n := 24) (k := 15) (by decide) (by decide)).2
  have I11 := fun j => (J j).trans (I10 j)
  clear J
  generalize setR (mkO g10 100 24) m 15 (some (nx g10)) = g11 at *
  clear S10 I10
  refine wp_aload_n d_49_97 (by rfl) ?_
  refine wp_bipush d_49_98 (by decide) ?_
  refine wp_bipush d_49_100 (by decide) ?_
  refine wp_mna d_49_102 cl_1_31 ca_103 ca_100 (by decide) (by decide) (by decide) (by decide) (by have := S11.2.1; have := S11.2.2.2.1; omega) (by have := S11.2.2.1; have := S11.2.2.2.2.1; first | omega | (simp; omega)) ?_
  refine wp_putR (16) d_49_106 fl_1_45 rfl rfl (Or.inr ⟨by rfl, by rfl, by rfl⟩) (by have := S11.1; have := S11.2.1; first | assumption | (rw [kd_mkO, up1_ne _ _ (by omega)]; assumption) | (rw [kd_mkM, if_neg (by omega), if_neg (by omega)]; assumption)) ?_
  have S12 : MdS h (setR (mkM g11 24 8) m 16 (some (nx g11))) m 43 2584 [(16, 18, 24, 8), (15, 17, 24, 0), (14, 16, 24, 0), (13, 15, 24, 0), (11, 8, 6, 366), (10, 7, 6, 0), (9, 6, 6, 0), (8, 5, 6, 0), (6, 4, 20, 0), (5, 3, 20, 0), (4, 2, 20, 0), (2, 1, 16, 0)] := (S11.mna (n := 24) (c := 8) (k := 16) (by decide) (by decide) (by decide)).1
  have J := (S11.mna (n := 24) (c := 8) (k := 16) (by decide) (by decide) (by decide)).2
  have I12 := fun j => (J j).trans (I11 j)
  clear J
  generalize setR (mkM g11 24 8) m 16 (some (nx g11)) = g12 at *
  clear S11 I11
  refine wp_aload_n d_49_109 (by rfl) ?_
  refine wp_bipush d_49_110 (by decide) ?_
  refine wp_bipush d_49_112 (by decide) ?_
  refine wp_mna d_49_114 cl_1_31 ca_103 ca_100 (by decide) (by decide) (by decide) (by decide) (by have := S12.2.1; have := S12.2.2.2.1; omega) (by have := S12.2.2.1; have := S12.2.2.2.2.1; first | omega | (simp; omega)) ?_
  refine wp_putR (17) d_49_118 fl_1_48 rfl rfl (Or.inr ⟨by rfl, by rfl, by rfl⟩) (by have := S12.1; have := S12.2.1; first | assumption | (rw [kd_mkO, up1_ne _ _ (by omega)]; assumption) | (rw [kd_mkM, if_neg (by omega), if_neg (by omega)]; assumption)) ?_
  have S13 : MdS h (setR (mkM g12 24 8) m 17 (some (nx g12))) m 68 2800 [(17, 43, 24, 8), (16, 18, 24, 8), (15, 17, 24, 0), (14, 16, 24, 0), (13, 15, 24, 0), (11, 8, 6, 366), (10, 7, 6, 0), (9, 6, 6, 0), (8, 5, 6, 0), (6, 4, 20, 0), (5, 3, 20, 0), (4, 2, 20, 0), (2, 1, 16, 0)] := (S12.mna (n := 24) (c := 8) (k := 17) (by decide) (by decide) (by decide)).1
  have J := (S12.mna (n := 24) (c := 8) (k := 17) (by decide) (by decide) (by decide)).2
  have I13 := fun j => (J j).trans (I12 j)
  clear J
  generalize setR (mkM g12 24 8) m 17 (some (nx g12)) = g13 at *
  clear S12 I12
  refine wp_aload_n d_49_121 (by rfl) ?_
  refine wp_bipush d_49_122 (by decide) ?_
  refine wp_bipush d_49_124 (by decide) ?_
  refine wp_mna d_49_126 cl_1_31 ca_103 ca_100 (by decide) (by decide) (by decide) (by decide) (by have := S13.2.1; have := S13.2.2.2.1; omega) (by have := S13.2.2.1; have := S13.2.2.2.2.1; first | omega | (simp; omega)) ?_
  refine wp_putR (18) d_49_130 fl_1_51 rfl rfl (Or.inr ⟨by rfl, by rfl, by rfl⟩) (by have := S13.1; have := S13.2.1; first | assumption | (rw [kd_mkO, up1_ne _ _ (by omega)]; assumption) | (rw [kd_mkM, if_neg (by omega), if_neg (by omega)]; assumption)) ?_
  have S14 : MdS h (setR (mkM g13 24 8) m 18 (some (nx g13))) m 93 3016 [(18, 68, 24, 8), (17, 43, 24, 8), (16, 18, 24, 8), (15, 17, 24, 0), (14, 16, 24, 0), (13, 15, 24, 0), (11, 8, 6, 366), (10, 7, 6, 0), (9, 6, 6, 0), (8, 5, 6, 0), (6, 4, 20, 0), (5, 3, 20, 0), (4, 2, 20, 0), (2, 1, 16, 0)] := (S13.mna (n := 24) (c := 8) (k := 18) (by decide) (by decide) (by decide)).1
  have J := (S13.mna (n := 24) (c := 8) (k := 18) (by decide) (by decide) (by decide)).2
  have I14 := fun j => (J j).trans (I13 j)
  clear J
  generalize setR (mkM g13 24 8) m 18 (some (nx g13)) = g14 at *
  clear S13 I13
  refine wp_aload_n d_49_133 (by rfl) ?_
  refine wp_bipush d_49_134 (by decide) ?_
  refine wp_sipush d_49_136 (by decide) ?_
  refine wp_mna d_49_139 cl_1_31 ca_103 ca_100 (by decide) (by decide) (by decide) (by decide) (by have := S14.2.1; have := S14.2.2.2.1; omega) (by have := S14.2.2.1; have := S14.2.2.2.2.1; first | omega | (simp; omega)) ?_
  refine wp_putR (19) d_49_143 fl_1_54 rfl rfl (Or.inr ⟨by rfl, by rfl, by rfl⟩) (by have := S14.1; have := S14.2.1; first | assumption | (rw [kd_mkO, up1_ne _ _ (by omega)]; assumption) | (rw [kd_mkM, if_neg (by omega), if_neg (by omega)]; assumption)) ?_
  have S15 : MdS h (setR (mkM g14 24 366) m 19 (some (nx g14))) m 118 11824 [(19, 93, 24, 366), (18, 68, 24, 8), (17, 43, 24, 8), (16, 18, 24, 8), (15, 17, 24, 0), (14, 16, 24, 0), (13, 15, 24, 0), (11, 8, 6, 366), (10, 7, 6, 0), (9, 6, 6, 0), (8, 5, 6, 0), (6, 4, 20, 0), (5, 3, 20, 0), (4, 2, 20, 0), (2, 1, 16, 0)] := (S14.mna (n := 24) (c := 366) (k := 19) (by decide) (by decide) (by decide)).1
  have J := (S14.mna (n := 24) (c := 366) (k := 19) (by decide) (by decide) (by decide)).2
  have I15 := fun j => (J j).trans (I14 j)
  clear J
  generalize setR (mkM g14 24 366) m 19 (some (nx g14)) = g15 at *
  clear S14 I14
  refine wp_aload_n d_49_146 (by rfl) ?_
  refine wp_iconst d_49_147 ?_
  refine wp_putI (20) d_49_148 fl_1_57 rfl rfl (Or.inl (by rfl)) (by have := S15.1; have := S15.2.1; first | assumption | (rw [kd_mkO, up1_ne _ _ (by omega)]; assumption) | (rw [kd_mkM, if_neg (by omega), if_neg (by omega)]; assumption)) (by first | omega | decide) (fun q => nomatch q) ?_
  have S16 := S15.int (k := 20) (v := -1)
  have Z16 : ∀ j, hi (setI g15 m 20 (-1)) m j = up2 (hi g15) m 20 (-1) m j := fun j => rfl
  have I16 : ∀ j, hi (setI g15 m 20 (-1)) m j = if j = 20 then -1 else hi h m j := fun j => by rw [Z16, ← I15 j]; unfold up2; by_cases hj : j = 20 <;> simp [hj]
  clear Z16
  generalize setI g15 m 20 (-1) = g16 at *
  clear S15 I15
  refine wp_aload_n d_49_151 (by rfl) ?_
  refine wp_iconst d_49_152 ?_
  refine wp_putI (23) d_49_153 fl_1_61 rfl rfl (Or.inl (by rfl)) (by have := S16.1; have := S16.2.1; first | assumption | (rw [kd_mkO, up1_ne _ _ (by omega)]; assumption) | (rw [kd_mkM, if_neg (by omega), if_neg (by omega)]; assumption)) (by first | omega | decide) (fun q => nomatch q) ?_
  have S17 := S16.int (k := 23) (v := -1)
  have Z17 : ∀ j, hi (setI g16 m 23 (-1)) m j = up2 (hi g16) m 23 (-1) m j := fun j => rfl
  have I17 : ∀ j, hi (setI g16 m 23 (-1)) m j = if j = 23 then -1 else if j = 20 then -1 else hi h m j := fun j => by rw [Z17, ← I16 j]; unfold up2; by_cases hj : j = 23 <;> simp [hj]
  clear Z17
  generalize setI g16 m 23 (-1) = g17 at *
  clear S16 I16
  refine wp_aload_n d_49_156 (by rfl) ?_
  refine wp_bipush d_49_157 (by decide) ?_
  refine wp_newa (K := 100) d_49_159 rfl (by decide) ca_100 rfl (by first | omega | decide) (by first | omega | decide) (by decide) (by have := S17.2.1; have := S17.2.2.2.1; omega) (by have := S17.2.2.1; have := S17.2.2.2.2.1; first | omega | (simp; omega)) ?_
  refine wp_putR (27) d_49_161 fl_1_64 rfl rfl (Or.inr ⟨by rfl, by rfl, by rfl⟩) (by have := S17.1; have := S17.2.1; first | assumption | (rw [kd_mkO, up1_ne _ _ (by omega)]; assumption) | (rw [kd_mkM, if_neg (by omega), if_neg (by omega)]; assumption)) ?_
  have S18 : MdS h (setR (mkO g17 100 14) m 27 (some (nx g17))) m 119 11838 [(27, 118, 14, 0), (19, 93, 24, 366), (18, 68, 24, 8), (17, 43, 24, 8), (16, 18, 24, 8), (15, 17, 24, 0), (14, 16, 24, 0), (13, 15, 24, 0), (11, 8, 6, 366), (10, 7, 6, 0), (9, 6, 6, 0), (8, 5, 6, 0), (6, 4, 20, 0), (5, 3, 20, 0), (4, 2, 20, 0), (2, 1, 16, 0)] := (S17.new (n := 14) (k := 27) (by decide) (by decide)).1
  have J := (S17.new (n := 14) (k := 27) (by decide) (by decide)).2
  have I18 := fun j => (J j).trans (I17 j)
  clear J
  generalize setR (mkO g17 100 14) m 27 (some (nx g17)) = g18 at *
  clear S17 I17
  refine wp_aload_n d_49_164 (by rfl) ?_
  refine wp_bipush d_49_165 (by decide) ?_
  refine wp_newa (K := 100) d_49_167 rfl (by decide) ca_100 rfl (by first | omega | decide) (by first | omega | decide) (by decide) (by have := S18.2.1; have := S18.2.2.2.1; omega) (by have := S18.2.2.1; have := S18.2.2.2.2.1; first | omega | (simp; omega)) ?_
  refine wp_putR (28) d_49_169 fl_1_67 rfl rfl (Or.inr ⟨by rfl, by rfl, by rfl⟩) (by have := S18.1; have := S18.2.1; first | assumption | (rw [kd_mkO, up1_ne _ _ (by omega)]; assumption) | (rw [kd_mkM, if_neg (by omega), if_neg (by omega)]; assumption)) ?_
  have S19 : MdS h (setR (mkO g18 100 14) m 28 (some (nx g18))) m 120 11852 [(28, 119, 14, 0), (27, 118, 14, 0), (19, 93, 24, 366), (18, 68, 24, 8), (17, 43, 24, 8), (16, 18, 24, 8), (15, 17, 24, 0), (14, 16, 24, 0), (13, 15, 24, 0), (11, 8, 6, 366), (10, 7, 6, 0), (9, 6, 6, 0), (8, 5, 6, 0), (6, 4, 20, 0), (5, 3, 20, 0), (4, 2, 20, 0), (2, 1, 16, 0)] := (S18.new (n := 14) (k := 28) (by decide) (by decide)).1
  have J := (S18.new (n := 14) (k := 28) (by decide) (by decide)).2
  have I19 := fun j => (J j).trans (I18 j)
  clear J
  generalize setR (mkO g18 100 14) m 28 (some (nx g18)) = g19 at *
  clear S18 I18
  refine wp_aload_n d_49_172 (by rfl) ?_
  refine wp_bipush d_49_173 (by decide) ?_
  refine wp_newa (K := 100) d_49_175 rfl (by decide) ca_100 rfl (by first | omega | decide) (by first | omega | decide) (by decide) (by have := S19.2.1; have := S19.2.2.2.1; omega) (by have := S19.2.2.1; have := S19.2.2.2.2.1; first | omega | (simp; omega)) ?_
  refine wp_putR (29) d_49_177 fl_1_70 rfl rfl (Or.inr ⟨by rfl, by rfl, by rfl⟩) (by have := S19.1; have := S19.2.1; first | assumption | (rw [kd_mkO, up1_ne _ _ (by omega)]; assumption) | (rw [kd_mkM, if_neg (by omega), if_neg (by omega)]; assumption)) ?_
  have S20 : MdS h (setR (mkO g19 100 14) m 29 (some (nx g19))) m 121 11866 [(29, 120, 14, 0), (28, 119, 14, 0), (27, 118, 14, 0), (19, 93, 24, 366), (18, 68, 24, 8), (17, 43, 24, 8), (16, 18, 24, 8), (15, 17, 24, 0), (14, 16, 24, 0), (13, 15, 24, 0), (11, 8, 6, 366), (10, 7, 6, 0), (9, 6, 6, 0), (8, 5, 6, 0), (6, 4, 20, 0), (5, 3, 20, 0), (4, 2, 20, 0), (2, 1, 16, 0)] := (S19.new (n := 14) (k := 29) (by decide) (by decide)).1
  have J := (S19.new (n := 14) (k := 29) (by decide) (by decide)).2
  have I20 := fun j => (J j).trans (I19 j)
  clear J
  generalize setR (mkO g19 100 14) m 29 (some (nx g19)) = g20 at *
  clear S19 I19
  refine wp_aload_n d_49_180 (by rfl) ?_
  refine wp_bipush d_49_181 (by decide) ?_
  refine wp_newa (K := 100) d_49_183 rfl (by decide) ca_100 rfl (by first | omega | decide) (by first | omega | decide) (by decide) (by have := S20.2.1; have := S20.2.2.2.1; omega) (by have := S20.2.2.1; have := S20.2.2.2.2.1; first | omega | (simp; omega)) ?_
  refine wp_putR (30) d_49_185 fl_1_73 rfl rfl (Or.inr ⟨by rfl, by rfl, by rfl⟩) (by have := S20.1; have := S20.2.1; first | assumption | (rw [kd_mkO, up1_ne _ _ (by omega)]; assumption) | (rw [kd_mkM, if_neg (by omega), if_neg (by omega)]; assumption)) ?_
  have S21 : MdS h (setR (mkO g20 100 14) m 30 (some (nx g20))) m 122 11880 [(30, 121, 14, 0), (29, 120, 14, 0), (28, 119, 14, 0), (27, 118, 14, 0), (19, 93, 24, 366), (18, 68, 24, 8), (17, 43, 24, 8), (16, 18, 24, 8), (15, 17, 24, 0), (14, 16, 24, 0), (13, 15, 24, 0), (11, 8, 6, 366), (10, 7, 6, 0), (9, 6, 6, 0), (8, 5, 6, 0), (6, 4, 20, 0), (5, 3, 20, 0), (4, 2, 20, 0), (2, 1, 16, 0)] := (S20.new (n := 14) (k := 30) (by decide) (by decide)).1
  have J := (S20.new (n := 14) (k := 30) (by decide) (by decide)).2
  have I21 := fun j => (J j).trans (I20 j)
  clear J
  generalize setR (mkO g20 100 14) m 30 (some (nx g20)) = g21 at *
  clear S20 I20
  refine wp_aload_n d_49_188 (by rfl) ?_
  refine wp_bipush d_49_189 (by decide) ?_
  refine wp_newa (K := 100) d_49_191 rfl (by decide) ca_100 rfl (by first | omega | decide) (by first | omega | decide) (by decide) (by have := S21.2.1; have := S21.2.2.2.1; omega) (by have := S21.2.2.1; have := S21.2.2.2.2.1; first | omega | (simp; omega)) ?_
  refine wp_putR (31) d_49_193 fl_1_76 rfl rfl (Or.inr ⟨by rfl, by rfl, by rfl⟩) (by have := S21.1; have := S21.2.1; first | assumption | (rw [kd_mkO, up1_ne _ _ (by omega)]; assumption) | (rw [kd_mkM, if_neg (by omega), if_neg (by omega)]; assumption)) ?_
  have S22 : MdS h (setR (mkO g21 100 14) m 31 (some (nx g21))) m 123 11894 [(31, 122, 14, 0), (30, 121, 14, 0), (29, 120, 14, 0), (28, 119, 14, 0), (27, 118, 14, 0), (19, 93, 24, 366), (18, 68, 24, 8), (17, 43, 24, 8), (16, 18, 24, 8), (15, 17, 24, 0), (14, 16, 24, 0), (13, 15, 24, 0), (11, 8, 6, 366), (10, 7, 6, 0), (9, 6, 6, 0), (8, 5, 6, 0), (6, 4, 20, 0), (5, 3, 20, 0), (4, 2, 20, 0), (2, 1, 16, 0)] := (S21.new (n := 14) (k := 31) (by decide) (by decide)).1
  have J := (S21.new (n := 14) (k := 31) (by decide) (by decide)).2
  have I22 := fun j => (J j).trans (I21 j)
  clear J
  generalize setR (mkO g21 100 14) m 31 (some (nx g21)) = g22 at *
  clear S21 I21
  refine wp_aload_n d_49_196 (by rfl) ?_
  refine wp_bipush d_49_197 (by decide) ?_
  refine wp_newa (K := 100) d_49_199 rfl (by decide) ca_100 rfl (by first | omega | decide) (by first | omega | decide) (by decide) (by have := S22.2.1; have := S22.2.2.2.1; omega) (by have := S22.2.2.1; have := S22.2.2.2.2.1; first | omega | (simp; omega)) ?_
  refine wp_putR (32) d_49_201 fl_1_79 rfl rfl (Or.inr ⟨by rfl, by rfl, by rfl⟩) (by have := S22.1; have := S22.2.1; first | assumption | (rw [kd_mkO, up1_ne _ _ (by omega)]; assumption) | (rw [kd_mkM, if_neg (by omega), if_neg (by omega)]; assumption)) ?_
  have S23 : MdS h (setR (mkO g22 100 14) m 32 (some (nx g22))) m 124 11908 [(32, 123, 14, 0), (31, 122, 14, 0), (30, 121, 14, 0), (29, 120, 14, 0), (28, 119, 14, 0), (27, 118, 14, 0), (19, 93, 24, 366), (18, 68, 24, 8), (17, 43, 24, 8), (16, 18, 24, 8), (15, 17, 24, 0), (14, 16, 24, 0), (13, 15, 24, 0), (11, 8, 6, 366), (10, 7, 6, 0), (9, 6, 6, 0), (8, 5, 6, 0), (6, 4, 20, 0), (5, 3, 20, 0), (4, 2, 20, 0), (2, 1, 16, 0)] := (S22.new (n := 14) (k := 32) (by decide) (by decide)).1
  have J := (S22.new (n := 14) (k := 32) (by decide) (by decide)).2
  have I23 := fun j => (J j).trans (I22 j)
  clear J
  generalize setR (mkO g22 100 14) m 32 (some (nx g22)) = g23 at *
  clear S22 I22
  refine wp_aload_n d_49_204 (by rfl) ?_
  refine wp_bipush d_49_205 (by decide) ?_
  refine wp_newa (K := 100) d_49_207 rfl (by decide) ca_100 rfl (by first | omega | decide) (by first | omega | decide) (by decide) (by have := S23.2.1; have := S23.2.2.2.1; omega) (by have := S23.2.2.1; have := S23.2.2.2.2.1; first | omega | (simp; omega)) ?_
  refine wp_putR (33) d_49_209 fl_1_82 rfl rfl (Or.inr ⟨by rfl, by rfl, by rfl⟩) (by have := S23.1; have := S23.2.1; first | assumption | (rw [kd_mkO, up1_ne _ _ (by omega)]; assumption) | (rw [kd_mkM, if_neg (by omega), if_neg (by omega)]; assumption)) ?_
  have S24 : MdS h (setR (mkO g23 100 14) m 33 (some (nx g23))) m 125 11922 [(33, 124, 14, 0), (32, 123, 14, 0), (31, 122, 14, 0), (30, 121, 14, 0), (29, 120, 14, 0), (28, 119, 14, 0), (27, 118, 14, 0), (19, 93, 24, 366), (18, 68, 24, 8), (17, 43, 24, 8), (16, 18, 24, 8), (15, 17, 24, 0), (14, 16, 24, 0), (13, 15, 24, 0), (11, 8, 6, 366), (10, 7, 6, 0), (9, 6, 6, 0), (8, 5, 6, 0), (6, 4, 20, 0), (5, 3, 20, 0), (4, 2, 20, 0), (2, 1, 16, 0)] := (S23.new (n := 14) (k := 33) (by decide) (by decide)).1
  have J := (S23.new (n := 14) (k := 33) (by decide) (by decide)).2
  have I24 := fun j => (J j).trans (I23 j)
  clear J
  generalize setR (mkO g23 100 14) m 33 (some (nx g23)) = g24 at *
  clear S23 I23
  refine wp_aload_n d_49_212 (by rfl) ?_
  refine wp_bipush d_49_213 (by decide) ?_
  refine wp_newa (K := 100) d_49_215 rfl (by decide) ca_100 rfl (by first | omega | decide) (by first | omega | decide) (by decide) (by have := S24.2.1; have := S24.2.2.2.1; omega) (by have := S24.2.2.1; have := S24.2.2.2.2.1; first | omega | (simp; omega)) ?_
  refine wp_putR (34) d_49_217 fl_1_85 rfl rfl (Or.inr ⟨by rfl, by rfl, by rfl⟩) (by have := S24.1; have := S24.2.1; first | assumption | (rw [kd_mkO, up1_ne _ _ (by omega)]; assumption) | (rw [kd_mkM, if_neg (by omega), if_neg (by omega)]; assumption)) ?_
  have S25 : MdS h (setR (mkO g24 100 14) m 34 (some (nx g24))) m 126 11936 [(34, 125, 14, 0), (33, 124, 14, 0), (32, 123, 14, 0), (31, 122, 14, 0), (30, 121, 14, 0), (29, 120, 14, 0), (28, 119, 14, 0), (27, 118, 14, 0), (19, 93, 24, 366), (18, 68, 24, 8), (17, 43, 24, 8), (16, 18, 24, 8), (15, 17, 24, 0), (14, 16, 24, 0), (13, 15, 24, 0), (11, 8, 6, 366), (10, 7, 6, 0), (9, 6, 6, 0), (8, 5, 6, 0), (6, 4, 20, 0), (5, 3, 20, 0), (4, 2, 20, 0), (2, 1, 16, 0)] := (S24.new (n := 14) (k := 34) (by decide) (by decide)).1
  have J := (S24.new (n := 14) (k := 34) (by decide) (by decide)).2
  have I25 := fun j => (J j).trans (I24 j)
  clear J
  generalize setR (mkO g24 100 14) m 34 (some (nx g24)) = g25 at *
  clear S24 I24
  refine wp_vret d_49_220 rfl ?_
  exact ⟨rfl, S25, I25⟩
end
section
/-! ===== the class where nothing but stops is told ===== -/
/-- the same heap but for whole numbers at P -/
def sh (P : Nat → Prop) (h h' : Hp) : Prop := kd h' = kd h ∧ ln h' = ln h ∧ hr h' = hr h ∧ hl h' = hl h ∧ nx h' = nx h ∧ us h' = us h ∧ cn h' = cn h ∧ cs h' = cs h ∧ ∀ a k, ¬ P a → hi h' a k = hi h a k
theorem sh.rfl {P : Nat → Prop} {h : Hp} : sh P h h := ⟨Eq.refl _, Eq.refl _, Eq.refl _, Eq.refl _, Eq.refl _, Eq.refl _, Eq.refl _, Eq.refl _, fun _ _ _ => Eq.refl _⟩
theorem sh.trans {P : Nat → Prop} {h h1 h2 : Hp} (a : sh P h h1) (b : sh P h1 h2) : sh P h h2 := by
  obtain ⟨a1, a2, a3, a4, a5, a6, a7, a8, a9⟩ := a
  obtain ⟨b1, b2, b3, b4, b5, b6, b7, b8, b9⟩ := b
  exact ⟨b1.trans a1, b2.trans a2, b3.trans a3, b4.trans a4, b5.trans a5, b6.trans a6, b7.trans a7, b8.trans a8, fun x k n => (b9 x k n).trans (a9 x k n)⟩
theorem sh.mono {P P' : Nat → Prop} {h h1 : Hp} (a : sh P h h1) (q : ∀ x, P x → P' x) : sh P' h h1 := by
  obtain ⟨a1, a2, a3, a4, a5, a6, a7, a8, a9⟩ := a
  exact ⟨a1, a2, a3, a4, a5, a6, a7, a8, fun x k n => a9 x k (fun z => n (q x z))⟩
theorem sh_setI {P : Nat → Prop} {h : Hp} {a : Nat} {k v : Int} (q : P a) : sh P h (setI h a k v) := ⟨Eq.refl _, Eq.refl _, Eq.refl _, Eq.refl _, Eq.refl _, Eq.refl _, Eq.refl _, Eq.refl _, fun x j n => by
  rw [hi_setI]
  exact up2_ne _ _ (fun z => n (by rw [z.1]; exact q))⟩
theorem sh_cpI {P : Nat → Prop} {h : Hp} {a b : Nat} {s d n : Int} (q : P b) : sh P h (cpI h a s b d n) := ⟨Eq.refl _, Eq.refl _, Eq.refl _, Eq.refl _, Eq.refl _, Eq.refl _, Eq.refl _, Eq.refl _, fun x j m => by
  rw [hi_cpI]
  exact if_neg (fun z => m (by rw [z.1]; exact q))⟩
/-- the class's rows and parts stand where its constructor laid them -/
def Cs (h : Hp) (w : Nat) : Prop := kd h w = 1 ∧ hr h w 0 = some (w + 1) ∧ hr h w 1 = some (w + 6) ∧ hr h w 4 = some (w + 30) ∧ (kd h (w + 1) = 9 ∧ hr h (w + 1) 0 = some (w + 2) ∧ kd h (w + 2) = 100 ∧ ln h (w + 2) = 16) ∧ kd h (w + 6) = 12 ∧ (kd h (w + 30) = 3 ∧ hr h (w + 30) 0 = some (w + 31) ∧ hr h (w + 30) 1 = some (w + 39) ∧ kd h (w + 31) = 103 ∧ ln h (w + 31) = 7 ∧ kd h (w + 39) = 103 ∧ ln h (w + 39) = 7) ∧ ∀ j : Nat, j < 7 → hr h (w + 31) j = some (w + 32 + j) ∧ hr h (w + 39) j = some (w + 40 + j) ∧ kd h (w + 32 + j) = 100 ∧ ln h (w + 32 + j) = 16 ∧ kd h (w + 40 + j) = 100 ∧ ln h (w + 40 + j) = 16
theorem Cs.kept {P : Nat → Prop} {h h' : Hp} {w : Nat} (q : Cs h w) (e : sh P h h') : Cs h' w := by
  obtain ⟨e1, e2, e3, -⟩ := e
  unfold Cs
  rw [e1, e2, e3]
  exact q
/-- n stops, their changes in bounds, no footway, no trip -/
def Cn (h : Hp) (w : Nat) (n : Int) : Prop := hi h (w + 1) 4 = n ∧ hi h (w + 1) 5 = 0 ∧ hi h (w + 1) 7 = 0 ∧ ∀ k, 0 ≤ hi h (w + 2) k ∧ hi h (w + 2) k ≤ 30
theorem Cn.kept {P : Nat → Prop} {h h' : Hp} {w : Nat} {n : Int} (q : Cn h w n) (e : sh P h h') (n1 : ¬ P (w + 1)) (n2 : ¬ P (w + 2)) : Cn h' w n := by
  have e9 := e.2.2.2.2.2.2.2.2
  unfold Cn
  rw [e9 _ _ n1, e9 _ _ n1, e9 _ _ n1]
  exact ⟨q.1, q.2.1, q.2.2.1, fun k => by rw [e9 _ _ n2]; exact q.2.2.2 k⟩
set_option maxRecDepth 100000 in
set_option maxHeartbeats 4000000 in
theorem l_fill {a : Nat} {x N : Int} (hx : inR x) (hN : 0 ≤ N ∧ N ≤ 1000000) {Q : Option AV → Hp → Prop} : ∀ (n : Nat) (j : Int) (h : Hp), j + n = N → 0 ≤ j → kd h a = 100 → ln h a = N → (∀ h', sh (· = a) h h' → (∀ k, 0 ≤ k → k < N → hi h' a k = if j ≤ k then x else hi h a k) → Q none h') → wp 216 5 [some (vR (some a)), some (vI x), some (vI j), some (vI N)] [] h Q noX := by
  intro n
  induction n with
  | zero =>
    intro j h e0 e1 hk hl k
    refine wp_iload_n d_216_5 (by rfl) ?_
    refine wp_iload_n d_216_6 (by rfl) ?_
    refine wp_icmp_ge (tgt := 20) d_216_7 (by decide) (by omega) (by omega) (fun c_7 => ?_) (fun c_7 => absurd c_7 (by omega))
    refine wp_vret d_216_20 rfl ?_
    exact k h sh.rfl (fun k h0 h1 => (if_neg (by omega)).symm)
  | succ n ih =>
    intro j h e0 e1 hk hl k
    refine wp_iload_n d_216_5 (by rfl) ?_
    refine wp_iload_n d_216_6 (by rfl) ?_
    refine wp_icmp_ge (tgt := 20) d_216_7 (by decide) (by omega) (by omega) (fun c_7 => ?_) (fun c_7 => ?_)
    · refine wp_vret d_216_20 rfl ?_
      exact absurd c_7 (by omega)
    · refine wp_aload_n d_216_10 (by rfl) ?_
      refine wp_iload_n d_216_11 (by rfl) ?_
      refine wp_iload_n d_216_12 (by rfl) ?_
      refine wp_iast d_216_13 (by assumption) (by omega) (by omega) (by omega) ?_
      refine wp_iinc d_216_14 (by rfl) (by decide) ?_
      refine wp_goto (tgt := 5) d_216_17 (by decide) ?_
      refine ih (j + 1) (setI h a j x) (by omega) (by omega) hk hl (fun h' e e2 => ?_)
      refine k h' ((sh_setI (P := (· = a)) rfl).trans e) (fun k h0 h1 => ?_)
      rw [e2 k h0 h1, hi_setI]
      unfold up2
      by_cases c : j + 1 ≤ k
      · rw [if_pos c, if_pos (by omega)]
      · rw [if_neg c]
        by_cases c2 : k = j
        · rw [if_pos ⟨rfl, c2⟩, if_pos (by omega)]
        · rw [if_neg (fun z => c2 z.2), if_neg (by omega)]
set_option maxRecDepth 100000 in
set_option maxHeartbeats 4000000 in
theorem s_fill {a : Nat} {x N : Int} {h : Hp} (hx : inR x) (hN : 0 ≤ N ∧ N ≤ 1000000) (hk : kd h a = 100) (hl : ln h a = N) : wp 216 0 (entL [vR (some a), vI x] (mL 216)) [] h (fun v h' => v = none ∧ sh (· = a) h h' ∧ ∀ k, 0 ≤ k → k < N → hi h' a k = x) noX := by
  refine wp_iconst d_216_0 ?_
  refine wp_istore_n d_216_1 (by decide) ?_
  refine wp_aload_n d_216_2 (by rfl) ?_
  refine wp_alen d_216_3 (by omega) ?_
  refine wp_istore_n d_216_4 (by decide) ?_
  rw [hl]
  refine wp_to [some (vR (some a)), some (vI x), some (vI 0), some (vI N)] ⟨rfl, rfl, rfl, rfl, trivial⟩ ?_
  exact l_fill hx hN N.toNat 0 h (by omega) (by omega) hk hl (fun h' e e2 => ⟨rfl, e, fun k h0 h1 => by rw [e2 k h0 h1, if_pos h0]⟩)
set_option maxRecDepth 100000 in
set_option maxHeartbeats 4000000 in
theorem s_min {x y : Int} {h : Hp} (hx : inR x) (hy : inR y) : wp 215 0 (entL [vI x, vI y] (mL 215)) [] h (fun v h' => v = some (vI (min x y)) ∧ h' = h) noX := by
  refine wp_iload_n d_215_0 (by rfl) ?_
  refine wp_iload_n d_215_1 (by rfl) ?_
  refine wp_icmp_gt (tgt := 9) d_215_2 (by decide) (by omega) (by omega) (fun c_2 => ?_) (fun c_2 => ?_)
  · refine wp_iload_n d_215_9 (by rfl) ?_
    refine wp_iret d_215_10 rfl ?_
    exact ⟨congrArg (fun z => some (vI z)) (by omega), rfl⟩
  · refine wp_iload_n d_215_5 (by rfl) ?_
    refine wp_goto (tgt := 10) d_215_6 (by decide) ?_
    refine wp_iret d_215_10 rfl ?_
    exact ⟨congrArg (fun z => some (vI z)) (by omega), rfl⟩
set_option maxRecDepth 100000 in
set_option maxHeartbeats 4000000 in
theorem s_coll {w : Nat} {n a b : Int} {h : Hp} (hs : Cs h w) (hc : Cn h w n) (ha : -10000 ≤ a ∧ a ≤ 1000000) (hb : -10000 ≤ b ∧ b ≤ 1000000) : wp 174 0 (entL [vR (some (w + 6)), vR (some (w + 1)), vI a, vI b] (mL 174)) [] h (fun v h' => v = none ∧ sh (· = w + 6) h h' ∧ hi h' (w + 6) 3 = 0) noX := by
  obtain ⟨kw, rw0, rw1, rw4, ⟨kn, rn0, kc, lc⟩, kr, ⟨kb, rb0, rb1, kB, lB, kA, lA⟩, rows⟩ := hs
  have hc7 := hc.2.2.1
  refine wp_aload_n d_174_0 (by rfl) ?_
  refine wp_iconst d_174_1 ?_
  refine wp_putI (3) d_174_2 fl_11_24 rfl rfl (Or.inl (by rfl)) (by first | assumption | (simp only [kd_setI, kd_cpI]; assumption)) (by omega) (fun q => nomatch q) ?_
  refine wp_iconst d_174_5 ?_
  refine wp_iload_n d_174_6 (by rfl) ?_
  refine wp_sipush d_174_7 (by decide) ?_
  refine wp_isub d_174_10 ?_
  refine wp_sipush d_174_11 (by decide) ?_
  refine wp_isub d_174_14 ?_
  refine wp_sipush d_174_15 (by decide) ?_
  refine wp_callS d_174_18 c_174_28 rfl (by rfl) (by rfl) (by exact Nat.le_of_ble_eq_true rfl) (by exact Nat.le_of_ble_eq_true rfl) (s_floorDiv (by omega) (by omega) (by omega)) (fun v_18 h_18 q_18 => ?_) (fun _ _ q => q.elim)
  obtain ⟨rfl, rfl⟩ := q_18
  refine wp_callS d_174_21 c_174_34 rfl (by rfl) (by rfl) (by exact Nat.le_of_ble_eq_true rfl) (by exact Nat.le_of_ble_eq_true rfl) (s_max (by omega) (by omega)) (fun v_21 h_21 q_21 => ?_) (fun _ _ q => q.elim)
  obtain ⟨rfl, rfl⟩ := q_21
  refine wp_istore d_174_24 (by decide) ?_
  refine wp_sipush d_174_26 (by decide) ?_
  refine wp_iload_n d_174_29 (by rfl) ?_
  refine wp_sipush d_174_30 (by decide) ?_
  refine wp_callS d_174_33 c_174_28 rfl (by rfl) (by rfl) (by exact Nat.le_of_ble_eq_true rfl) (by exact Nat.le_of_ble_eq_true rfl) (s_floorDiv (by omega) (by omega) (by omega)) (fun v_33 h_33 q_33 => ?_) (fun _ _ q => q.elim)
  obtain ⟨rfl, rfl⟩ := q_33
  refine wp_callS d_174_36 c_174_37 rfl (by rfl) (by rfl) (by exact Nat.le_of_ble_eq_true rfl) (by exact Nat.le_of_ble_eq_true rfl) (s_min (by omega) (by omega)) (fun v_36 h_36 q_36 => ?_) (fun _ _ q => q.elim)
  obtain ⟨rfl, rfl⟩ := q_36
  refine wp_istore d_174_39 (by decide) ?_
  refine wp_iconst d_174_41 ?_
  refine wp_istore d_174_42 (by decide) ?_
  refine wp_iload d_174_44 (by rfl) ?_
  refine wp_aload_n d_174_46 (by rfl) ?_
  refine wp_getI (7) d_174_47 fl_11_40 rfl rfl (by first | assumption | (simp only [kd_setI, kd_cpI]; assumption)) (fun x_47 e_47 r_47 => ?_)
  rw [hi_setI, up2_ne _ _ (by omega), hc7] at e_47
  refine wp_icmp_ge (tgt := 114) d_174_50 (by decide) (by omega) (by omega) (fun c_50 => ?_) (fun c_50 => ?_)
  · refine wp_vret d_174_114 rfl ?_
    exact ⟨rfl, sh_setI (P := (· = w + 6)) rfl, by rw [hi_setI, up2_same]⟩
  · exact absurd c_50 (by omega)
set_option maxRecDepth 100000 in
set_option maxHeartbeats 4000000 in
theorem l_alight {w L : Nat} {n : Int} (hL : L < 7) (hn : 0 ≤ n ∧ n ≤ 16) {Q : Option AV → Hp → Prop} : ∀ (m : Nat) (j : Int) (h : Hp), j + m = n → 0 ≤ j → Cs h w → Cn h w n → (∀ k, 0 ≤ k → k < 16 → hi h (w + 32 + L) k = -1000000000) → (∀ h', sh (· = w + 40 + L) h h' → Q none h') → wp 120 2 [some (vR (some (w + 30))), some (vR (some (w + 1))), some (vI L), some (vI j)] [] h Q noX := by
  intro m
  induction m with
  | zero =>
    intro j h e0 e1 hs hc hT k
    obtain ⟨kw, rw0, rw1, rw4, ⟨kn, rn0, kc, lc⟩, kr, ⟨kb, rb0, rb1, kB, lB, kA, lA⟩, rows⟩ := hs
    obtain ⟨hc4, hc5, hc7, hch⟩ := hc
    refine wp_iload_n d_120_2 (by rfl) ?_
    refine wp_aload_n d_120_3 (by rfl) ?_
    refine wp_getI (4) d_120_4 fl_2_106 rfl rfl (by first | assumption | (simp only [kd_setI, kd_cpI]; assumption)) (fun x_4 e_4 r_4 => ?_)
    refine wp_icmp_ge (tgt := 54) d_120_7 (by decide) (by omega) (by omega) (fun c_7 => ?_) (fun c_7 => ?_)
    · refine wp_iconst d_120_54 ?_
      refine wp_istore_n d_120_55 (by decide) ?_
      refine wp_iload_n d_120_56 (by rfl) ?_
      refine wp_aload_n d_120_57 (by rfl) ?_
      refine wp_getI (5) d_120_58 fl_2_56 rfl rfl (by first | assumption | (simp only [kd_setI, kd_cpI]; assumption)) (fun x_58 e_58 r_58 => ?_)
      refine wp_icmp_ge (tgt := 118) d_120_61 (by decide) (by omega) (by omega) (fun c_61 => ?_) (fun c_61 => ?_)
      · refine wp_vret d_120_118 rfl ?_
        exact k h sh.rfl
      · exact absurd c_61 (by omega)
    · exact absurd c_7 (by omega)
  | succ m ih =>
    intro j h e0 e1 hs hc hT k
    have hs0 := hs
    have hc0 := hc
    obtain ⟨kw, rw0, rw1, rw4, ⟨kn, rn0, kc, lc⟩, kr, ⟨kb, rb0, rb1, kB, lB, kA, lA⟩, rows⟩ := hs
    obtain ⟨hc4, hc5, hc7, hch⟩ := hc
    obtain ⟨rB, rA, kBL, lBL, kAL, lAL⟩ := rows L hL
    refine wp_iload_n d_120_2 (by rfl) ?_
    refine wp_aload_n d_120_3 (by rfl) ?_
    refine wp_getI (4) d_120_4 fl_2_106 rfl rfl (by first | assumption | (simp only [kd_setI, kd_cpI]; assumption)) (fun x_4 e_4 r_4 => ?_)
    refine wp_icmp_ge (tgt := 54) d_120_7 (by decide) (by omega) (by omega) (fun c_7 => ?_) (fun c_7 => ?_)
    · exact absurd c_7 (by omega)
    · refine wp_aload_n d_120_10 (by rfl) ?_
      refine wp_getR (1) d_120_11 fl_2_16 rfl rfl (by first | assumption | (simp only [kd_setI, kd_cpI]; assumption)) (by first | assumption | (simp only [hr_setI, hr_cpI]; assumption)) ?_
      refine wp_iload_n d_120_14 (by rfl) ?_
      refine wp_aald d_120_15 (by first | omega | (simp only [kd_setI, kd_cpI]; omega)) (by first | omega | (simp only [kd_setI, kd_cpI]; omega)) (by first | (simp only [*]; rfl) | (simp only [kd_setI, kd_cpI, *]; rfl)) (by omega) (by omega) (by first | assumption | (simp only [hr_setI, hr_cpI]; assumption)) ?_
      refine wp_iload_n d_120_16 (by rfl) ?_
      refine wp_iload_n d_120_17 (by rfl) ?_
      refine wp_aload_n d_120_18 (by rfl) ?_
      refine wp_getI (2) d_120_19 fl_2_19 rfl rfl (by first | assumption | (simp only [kd_setI, kd_cpI]; assumption)) (fun x_19 e_19 r_19 => ?_)
      refine wp_icmp_ne (tgt := 32) d_120_22 (by decide) (by omega) (by omega) (fun c_22 => ?_) (fun c_22 => ?_)
      · refine wp_aload_n d_120_32 (by rfl) ?_
        refine wp_getR (0) d_120_33 fl_2_11 rfl rfl (by first | assumption | (simp only [kd_setI, kd_cpI]; assumption)) (by first | assumption | (simp only [hr_setI, hr_cpI]; assumption)) ?_
        refine wp_iload_n d_120_36 (by rfl) ?_
        refine wp_aald d_120_37 (by first | omega | (simp only [kd_setI, kd_cpI]; omega)) (by first | omega | (simp only [kd_setI, kd_cpI]; omega)) (by first | (simp only [*]; rfl) | (simp only [kd_setI, kd_cpI, *]; rfl)) (by omega) (by omega) (by first | assumption | (simp only [hr_setI, hr_cpI]; assumption)) ?_
        refine wp_iload_n d_120_38 (by rfl) ?_
        refine wp_iald d_120_39 (Or.inl (by first | assumption | (simp only [kd_setI, kd_cpI]; assumption))) (by omega) (by omega) (fun x_39 e_39 r_39 => ?_)
        refine wp_aload_n d_120_40 (by rfl) ?_
        refine wp_getR (0) d_120_41 fl_2_109 rfl rfl (by first | assumption | (simp only [kd_setI, kd_cpI]; assumption)) (by first | assumption | (simp only [hr_setI, hr_cpI]; assumption)) ?_
        refine wp_iload_n d_120_44 (by rfl) ?_
        have hcj := hch j
        refine wp_iald d_120_45 (Or.inl (by first | assumption | (simp only [kd_setI, kd_cpI]; assumption))) (by omega) (by omega) (fun x_45 e_45 r_45 => ?_)
        have hTj := hT j e1 (by omega)
        refine wp_isub d_120_46 ?_
        refine wp_iast d_120_47 (by first | assumption | (simp only [kd_setI, kd_cpI]; assumption)) (by omega) (by omega) (by omega) ?_
        refine wp_iinc d_120_48 (by rfl) (by decide) ?_
        refine wp_goto (tgt := 2) d_120_51 (by decide) ?_
        refine ih (j + 1) _ (by omega) (by omega) (hs0.kept (sh_setI (P := (· = w + 40 + L)) rfl)) (hc0.kept (sh_setI (P := (· = w + 40 + L)) rfl) (by omega) (by omega)) (fun k h0 h1 => ?_) (fun h' e => k h' ((sh_setI (P := (· = w + 40 + L)) rfl).trans e))
        rw [hi_setI, up2_ne _ _ (by omega)]
        exact hT k h0 h1
      · refine wp_aload_n d_120_25 (by rfl) ?_
        refine wp_getI (3) d_120_26 fl_2_23 rfl rfl (by first | assumption | (simp only [kd_setI, kd_cpI]; assumption)) (fun x_26 e_26 r_26 => ?_)
        refine wp_goto (tgt := 47) d_120_29 (by decide) ?_
        refine wp_iast d_120_47 (by first | assumption | (simp only [kd_setI, kd_cpI]; assumption)) (by omega) (by omega) (by omega) ?_
        refine wp_iinc d_120_48 (by rfl) (by decide) ?_
        refine wp_goto (tgt := 2) d_120_51 (by decide) ?_
        refine ih (j + 1) _ (by omega) (by omega) (hs0.kept (sh_setI (P := (· = w + 40 + L)) rfl)) (hc0.kept (sh_setI (P := (· = w + 40 + L)) rfl) (by omega) (by omega)) (fun k h0 h1 => ?_) (fun h' e => k h' ((sh_setI (P := (· = w + 40 + L)) rfl).trans e))
        rw [hi_setI, up2_ne _ _ (by omega)]
        exact hT k h0 h1
set_option maxRecDepth 100000 in
set_option maxHeartbeats 4000000 in
theorem s_alight {w L : Nat} {n : Int} {h : Hp} (hL : L < 7) (hn : 0 ≤ n ∧ n ≤ 16) (hs : Cs h w) (hc : Cn h w n) (hT : ∀ k, 0 ≤ k → k < 16 → hi h (w + 32 + L) k = -1000000000) : wp 120 0 (entL [vR (some (w + 30)), vR (some (w + 1)), vI L] (mL 120)) [] h (fun v h' => v = none ∧ sh (· = w + 40 + L) h h') noX := by
  refine wp_iconst d_120_0 ?_
  refine wp_istore_n d_120_1 (by decide) ?_
  refine wp_to [some (vR (some (w + 30))), some (vR (some (w + 1))), some (vI L), some (vI 0)] ⟨rfl, rfl, rfl, rfl, trivial⟩ ?_
  exact l_alight hL hn n.toNat 0 h (by omega) (by omega) hs hc hT (fun h' e => ⟨rfl, e⟩)
set_option maxRecDepth 100000 in
set_option maxHeartbeats 4000000 in
theorem s_latestAt {w L : Nat} {s : Int} {h : Hp} (hL : L < 7) (hss : 0 ≤ s ∧ s < 16) (hs : Cs h w) (ht : s ≠ hi h (w + 30) 2) (hT : hi h (w + 32 + L) s = -1000000000) : wp 122 0 (entL [vR (some (w + 30)), vI s, vI L] (mL 122)) [] h (fun v h' => v = some (vI (-1000000000)) ∧ h' = h) noX := by
  obtain ⟨kw, rw0, rw1, rw4, ⟨kn, rn0, kc, lc⟩, kr, ⟨kb, rb0, rb1, kB, lB, kA, lA⟩, rows⟩ := hs
  obtain ⟨rB, rA, kBL, lBL, kAL, lAL⟩ := rows L hL
  refine wp_iload_n d_122_0 (by rfl) ?_
  refine wp_aload_n d_122_1 (by rfl) ?_
  refine wp_getI (2) d_122_2 fl_2_19 rfl rfl (by first | assumption | (simp only [kd_setI, kd_cpI]; assumption)) (fun x_2 e_2 r_2 => ?_)
  refine wp_icmp_ne (tgt := 15) d_122_5 (by decide) (by omega) (by omega) (fun c_5 => ?_) (fun c_5 => ?_)
  · refine wp_aload_n d_122_15 (by rfl) ?_
    refine wp_getR (0) d_122_16 fl_2_11 rfl rfl (by first | assumption | (simp only [kd_setI, kd_cpI]; assumption)) (by first | assumption | (simp only [hr_setI, hr_cpI]; assumption)) ?_
    refine wp_iload_n d_122_19 (by rfl) ?_
    refine wp_aald d_122_20 (by first | omega | (simp only [kd_setI, kd_cpI]; omega)) (by first | omega | (simp only [kd_setI, kd_cpI]; omega)) (by first | (simp only [*]; rfl) | (simp only [kd_setI, kd_cpI, *]; rfl)) (by omega) (by omega) (by first | assumption | (simp only [hr_setI, hr_cpI]; assumption)) ?_
    refine wp_iload_n d_122_21 (by rfl) ?_
    refine wp_iald d_122_22 (Or.inl (by first | assumption | (simp only [kd_setI, kd_cpI]; assumption))) (by omega) (by omega) (fun x_22 e_22 r_22 => ?_)
    refine wp_iret d_122_23 rfl ?_
    exact ⟨congrArg (fun z => some (vI z)) (by omega), rfl⟩
  · exact absurd c_5 (by omega)
set_option maxRecDepth 100000 in
set_option maxHeartbeats 4000000 in
theorem s_latestBegin {w L : Nat} {s n : Int} {h : Hp} (hL : L < 7) (hss : 0 ≤ s ∧ s < 16) (hs : Cs h w) (hc : Cn h w n) (ht : s ≠ hi h (w + 30) 2) (hT : hi h (w + 32 + L) s = -1000000000) : wp 125 0 (entL [vR (some (w + 30)), vR (some (w + 1)), vI s, vI L] (mL 125)) [] h (fun v h' => v = some (vI (-1000000000)) ∧ h' = h) noX := by
  have hs0 := hs
  obtain ⟨kw, rw0, rw1, rw4, ⟨kn, rn0, kc, lc⟩, kr, ⟨kb, rb0, rb1, kB, lB, kA, lA⟩, rows⟩ := hs
  have hc5 := hc.2.1
  refine wp_aload_n d_125_0 (by rfl) ?_
  refine wp_iload_n d_125_1 (by rfl) ?_
  refine wp_iload_n d_125_2 (by rfl) ?_
  refine wp_callV d_125_3 c_125_53 rfl (by rfl) (by rfl) ⟨2, rfl, rfl, by decide⟩ (by first | assumption | (simp only [kd_setI, kd_cpI]; assumption)) (by exact Nat.le_of_ble_eq_true rfl) (by exact Nat.le_of_ble_eq_true rfl) (s_latestAt hL hss hs0 ht hT) (fun v_3 h_3 q_3 => ?_) (fun _ _ q => q.elim)
  obtain ⟨rfl, rfl⟩ := q_3
  refine wp_istore d_125_6 (by decide) ?_
  refine wp_iconst d_125_8 ?_
  refine wp_istore d_125_9 (by decide) ?_
  refine wp_iload d_125_11 (by rfl) ?_
  refine wp_aload_n d_125_13 (by rfl) ?_
  refine wp_getI (5) d_125_14 fl_2_56 rfl rfl (by first | assumption | (simp only [kd_setI, kd_cpI]; assumption)) (fun x_14 e_14 r_14 => ?_)
  refine wp_icmp_ge (tgt := 69) d_125_17 (by decide) (by omega) (by omega) (fun c_17 => ?_) (fun c_17 => ?_)
  · refine wp_iload d_125_69 (by rfl) ?_
    refine wp_iret d_125_71 rfl ?_
    exact ⟨rfl, rfl⟩
  · exact absurd c_17 (by omega)
set_option maxRecDepth 100000 in
set_option maxHeartbeats 4000000 in
theorem s_ride0 {w a b : Nat} {h : Hp} (hs : Cs h w) (h0 : hi h (w + 6) 3 = 0) : wp 123 0 (entL [vR (some (w + 30)), vR (some (w + 6)), vR (some a), vR (some b)] (mL 123)) [] h (fun v h' => v = some (vI 0) ∧ h' = h) noX := by
  obtain ⟨kw, rw0, rw1, rw4, ⟨kn, rn0, kc, lc⟩, kr, ⟨kb, rb0, rb1, kB, lB, kA, lA⟩, rows⟩ := hs
  refine wp_iconst d_123_0 ?_
  refine wp_istore d_123_1 (by decide) ?_
  refine wp_iconst d_123_3 ?_
  refine wp_istore d_123_4 (by decide) ?_
  refine wp_iload d_123_6 (by rfl) ?_
  refine wp_aload_n d_123_8 (by rfl) ?_
  refine wp_getI (3) d_123_9 fl_2_77 rfl rfl (by first | assumption | (simp only [kd_setI, kd_cpI]; assumption)) (fun x_9 e_9 r_9 => ?_)
  refine wp_icmp_ge (tgt := 56) d_123_12 (by decide) (by omega) (by omega) (fun c_12 => ?_) (fun c_12 => ?_)
  · refine wp_iload d_123_56 (by rfl) ?_
    refine wp_zret d_123_58 rfl (by omega) ?_
    exact ⟨rfl, rfl⟩
  · exact absurd c_12 (by omega)
theorem cp_nat : okw (.native arraycopyName) := okk_w (k := 862) (by decide +kernel)
theorem cp_sta : okw (.static arraycopyName) := okk_w (k := 861) (by decide +kernel)
theorem cp_ini : okw (.initialized "java/lang/System") := okk_w (k := 79) (by decide +kernel)
theorem cp_WhistleStopOnward_46 : okw (.methodLink "WhistleStop$Onward" 46 arraycopyName) := okk_w (k := 860) (by decide +kernel)
theorem cp_javautilArrays_150 : okw (.methodLink "java/util/Arrays" 150 arraycopyName) := okk_w (k := 941) (by decide +kernel)
theorem cp_WhistleStopOffers_31 : okw (.methodLink "WhistleStop$Offers" 31 arraycopyName) := okk_w (k := 942) (by decide +kernel)
theorem cp_WhistleStopBackward_43 : okw (.methodLink "WhistleStop$Backward" 43 arraycopyName) := okk_w (k := 996) (by decide +kernel)
theorem cp_WhistleStopModel_167 : okw (.methodLink "WhistleStopModel" 167 arraycopyName) := okk_w (k := 1394) (by decide +kernel)
set_option maxRecDepth 100000 in
set_option maxHeartbeats 4000000 in
theorem l_seek {w : Nat} {n t d : Int} (hn : 0 ≤ n ∧ n ≤ 16) {Q : Option AV → Hp → Prop} : ∀ (m K : Nat) (b : Int) (h : Hp), K + m = 6 → (b = 0 ∨ b = 1) → Cs h w → Cn h w n → hi h (w + 6) 3 = 0 → (∀ k, 0 ≤ k → k < 16 → hi h (w + 32 + K) k = -1000000000) → (∀ h', sh (fun a => w + 32 ≤ a ∧ a ≤ w + 46) h h' → (∀ k, 0 ≤ k → k < 16 → hi h' (w + 32 + 6) k = -1000000000) → Q none h') → wp 119 34 [some (vR (some (w + 30))), some (vR (some (w + 1))), some (vR (some (w + 6))), some (vI t), some (vI d), some (vI 6), some (vI b), some (vI ((K : Int) + 1))] [] h Q noX := by
  intro m
  induction m with
  | zero =>
    intro K b h e0 eb hs hc h6 hT k
    refine wp_iload d_119_34 (by rfl) ?_
    refine wp_iload d_119_36 (by rfl) ?_
    refine wp_bipush d_119_38 (by decide) ?_
    refine wp_callS d_119_40 c_119_37 rfl (by rfl) (by rfl) (by exact Nat.le_of_ble_eq_true rfl) (by exact Nat.le_of_ble_eq_true rfl) (s_min (by omega) (by omega)) (fun v_40 h_40 q_40 => ?_) (fun _ _ q => q.elim)
    obtain ⟨rfl, q_40⟩ := q_40
    replace q_40 := q_40.symm
    subst q_40
    refine wp_icmp_gt (tgt := 133) d_119_43 (by decide) (by omega) (by omega) (fun c_43 => ?_) (fun c_43 => ?_)
    · refine wp_vret d_119_133 rfl ?_
      obtain rfl : K = 6 := by omega
      exact k _ sh.rfl hT
    · exact absurd c_43 (by omega)
  | succ m ih =>
    intro K b h e0 eb hs hc h6 hT k
    have hs0 := hs
    have hc0 := hc
    obtain ⟨kw, rw0, rw1, rw4, ⟨kn, rn0, kc, lc⟩, kr, ⟨kb, rb0, rb1, kB, lB, kA, lA⟩, rows⟩ := hs

    have e1 : (K : Int) + 1 - 1 = (K : Int) := by omega
    have i0 : hr h (w + 31) ((K : Int) + 1 - 1) = some (w + 32 + K) := by rw [e1]; exact (rows K (by omega)).1
    have i1 : hr h (w + 31) ((K : Int) + 1) = some (w + 32 + (K + 1)) := (rows (K + 1) (by omega)).1
    have i2 : hr h (w + 39) ((K : Int) + 1 - 1) = some (w + 40 + K) := by rw [e1]; exact (rows K (by omega)).2.1
    have i3 : hr h (w + 39) ((K : Int) + 1) = some (w + 40 + (K + 1)) := (rows (K + 1) (by omega)).2.1
    obtain ⟨-, -, k0, l0, k2, l2⟩ := rows K (by omega)
    obtain ⟨-, -, k1, l1, k3, l3⟩ := rows (K + 1) (by omega)
    have hK : K + 1 < 7 := by omega
    refine wp_iload d_119_34 (by rfl) ?_
    refine wp_iload d_119_36 (by rfl) ?_
    refine wp_bipush d_119_38 (by decide) ?_
    refine wp_callS d_119_40 c_119_37 rfl (by rfl) (by rfl) (by exact Nat.le_of_ble_eq_true rfl) (by exact Nat.le_of_ble_eq_true rfl) (s_min (by omega) (by omega)) (fun v_40 h_40 q_40 => ?_) (fun _ _ q => q.elim)
    obtain ⟨rfl, q_40⟩ := q_40
    replace q_40 := q_40.symm
    subst q_40
    refine wp_icmp_gt (tgt := 133) d_119_43 (by decide) (by first | omega | (simp only [ln_setI, ln_cpI]; omega) | decide) (by first | omega | (simp only [ln_setI, ln_cpI]; omega) | decide) (fun c_43 => ?_) (fun c_43 => ?_)
    · exact absurd c_43 (by omega)
    · refine wp_aload_n d_119_46 (by rfl) ?_
      refine wp_getR (0) d_119_47 fl_2_11 rfl rfl (by first | assumption | (simp only [kd_setI, kd_cpI]; assumption)) (by first | assumption | (simp only [hr_setI, hr_cpI]; assumption)) ?_
      refine wp_iload d_119_50 (by rfl) ?_
      refine wp_iconst d_119_52 ?_
      refine wp_isub d_119_53 ?_
      refine wp_aald d_119_54 (by first | omega | (simp only [kd_setI, kd_cpI]; omega)) (by first | omega | (simp only [kd_setI, kd_cpI]; omega)) (by first | (simp only [*]; rfl) | (simp only [kd_setI, kd_cpI, *]; rfl)) (by first | omega | (simp only [ln_setI, ln_cpI]; omega) | decide) (by first | omega | (simp only [ln_setI, ln_cpI]; omega) | decide) (by first | assumption | (simp only [hr_setI, hr_cpI]; assumption)) ?_
      refine wp_iconst d_119_55 ?_
      refine wp_aload_n d_119_56 (by rfl) ?_
      refine wp_getR (0) d_119_57 fl_2_11 rfl rfl (by first | assumption | (simp only [kd_setI, kd_cpI]; assumption)) (by first | assumption | (simp only [hr_setI, hr_cpI]; assumption)) ?_
      refine wp_iload d_119_60 (by rfl) ?_
      refine wp_aald d_119_62 (by first | omega | (simp only [kd_setI, kd_cpI]; omega)) (by first | omega | (simp only [kd_setI, kd_cpI]; omega)) (by first | (simp only [*]; rfl) | (simp only [kd_setI, kd_cpI, *]; rfl)) (by first | omega | (simp only [ln_setI, ln_cpI]; omega) | decide) (by first | omega | (simp only [ln_setI, ln_cpI]; omega) | decide) (by first | assumption | (simp only [hr_setI, hr_cpI]; assumption)) ?_
      refine wp_iconst d_119_63 ?_
      refine wp_bipush d_119_64 (by decide) ?_
      refine wp_copy d_119_66 cp_WhistleStopBackward_43 cp_nat cp_sta cp_ini (by first | assumption | (simp only [kd_setI, kd_cpI]; assumption)) (by first | assumption | (simp only [kd_setI, kd_cpI]; assumption)) (by first | omega | (simp only [ln_setI, ln_cpI]; omega) | decide) (by first | omega | (simp only [ln_setI, ln_cpI]; omega) | decide) (by first | omega | (simp only [ln_setI, ln_cpI]; omega) | decide) (by first | omega | (simp only [ln_setI, ln_cpI]; omega) | decide) (by first | omega | (simp only [ln_setI, ln_cpI]; omega) | decide) (by decide) (by decide) ?_
      refine wp_aload_n d_119_69 (by rfl) ?_
      refine wp_getR (1) d_119_70 fl_2_16 rfl rfl (by first | assumption | (simp only [kd_setI, kd_cpI]; assumption)) (by first | assumption | (simp only [hr_setI, hr_cpI]; assumption)) ?_
      refine wp_iload d_119_73 (by rfl) ?_
      refine wp_iconst d_119_75 ?_
      refine wp_isub d_119_76 ?_
      refine wp_aald d_119_77 (by first | omega | (simp only [kd_setI, kd_cpI]; omega)) (by first | omega | (simp only [kd_setI, kd_cpI]; omega)) (by first | (simp only [*]; rfl) | (simp only [kd_setI, kd_cpI, *]; rfl)) (by first | omega | (simp only [ln_setI, ln_cpI]; omega) | decide) (by first | omega | (simp only [ln_setI, ln_cpI]; omega) | decide) (by first | assumption | (simp only [hr_setI, hr_cpI]; assumption)) ?_
      refine wp_iconst d_119_78 ?_
      refine wp_aload_n d_119_79 (by rfl) ?_
      refine wp_getR (1) d_119_80 fl_2_16 rfl rfl (by first | assumption | (simp only [kd_setI, kd_cpI]; assumption)) (by first | assumption | (simp only [hr_setI, hr_cpI]; assumption)) ?_
      refine wp_iload d_119_83 (by rfl) ?_
      refine wp_aald d_119_85 (by first | omega | (simp only [kd_setI, kd_cpI]; omega)) (by first | omega | (simp only [kd_setI, kd_cpI]; omega)) (by first | (simp only [*]; rfl) | (simp only [kd_setI, kd_cpI, *]; rfl)) (by first | omega | (simp only [ln_setI, ln_cpI]; omega) | decide) (by first | omega | (simp only [ln_setI, ln_cpI]; omega) | decide) (by first | assumption | (simp only [hr_setI, hr_cpI]; assumption)) ?_
      refine wp_iconst d_119_86 ?_
      refine wp_bipush d_119_87 (by decide) ?_
      refine wp_copy d_119_89 cp_WhistleStopBackward_43 cp_nat cp_sta cp_ini (by first | assumption | (simp only [kd_setI, kd_cpI]; assumption)) (by first | assumption | (simp only [kd_setI, kd_cpI]; assumption)) (by first | omega | (simp only [ln_setI, ln_cpI]; omega) | decide) (by first | omega | (simp only [ln_setI, ln_cpI]; omega) | decide) (by first | omega | (simp only [ln_setI, ln_cpI]; omega) | decide) (by first | omega | (simp only [ln_setI, ln_cpI]; omega) | decide) (by first | omega | (simp only [ln_setI, ln_cpI]; omega) | decide) (by decide) (by decide) ?_
      have E1 : sh (fun a => w + 32 ≤ a ∧ a ≤ w + 46) h (cpI (cpI h (w + 32 + K) 0 (w + 32 + (K + 1)) 0 16) (w + 40 + K) 0 (w + 40 + (K + 1)) 0 16) := (sh_cpI (P := fun a => w + 32 ≤ a ∧ a ≤ w + 46) ⟨by omega, by omega⟩).trans (sh_cpI (P := fun a => w + 32 ≤ a ∧ a ≤ w + 46) ⟨by omega, by omega⟩)
      have T1 : ∀ k, 0 ≤ k → k < 16 → hi (cpI (cpI h (w + 32 + K) 0 (w + 32 + (K + 1)) 0 16) (w + 40 + K) 0 (w + 40 + (K + 1)) 0 16) (w + 32 + (K + 1)) k = -1000000000 := fun k h0 h1 => by
        rw [hi_cpI]
        show (if _ then _ else _) = _
        rw [if_neg (fun z => absurd z.1 (by omega)), hi_cpI]
        show (if _ then _ else _) = _
        rw [if_pos ⟨rfl, by omega, by omega⟩, show (0 : Int) + (k - 0) = k by omega]
        exact hT k h0 h1
      have S6 : hi (cpI (cpI h (w + 32 + K) 0 (w + 32 + (K + 1)) 0 16) (w + 40 + K) 0 (w + 40 + (K + 1)) 0 16) (w + 6) 3 = 0 := (E1.2.2.2.2.2.2.2.2 _ _ (by omega)).trans h6
      have hs1 := hs0.kept E1
      have hc1 := hc0.kept E1 (by omega) (by omega)
      have r1 := (congrFun (congrFun E1.2.2.1 (w + 31)) ((K : Int) + 1)).trans i1
      have r2 := (congrFun (congrFun E1.2.2.1 (w + 39)) ((K : Int) + 1 - 1)).trans i2
      have q0 := (congrFun (congrFun E1.2.2.1 (w + 30)) 0).trans rb0
      have q1 := (congrFun (congrFun E1.2.2.1 (w + 30)) 1).trans rb1
      have q2 := (congrFun E1.1 (w + 30)).trans kb
      have q3 := (congrFun E1.1 (w + 31)).trans kB
      have q4 := (congrFun E1.1 (w + 39)).trans kA
      have q5 := (congrFun E1.2.1 (w + 31)).trans lB
      have q6 := (congrFun E1.2.1 (w + 39)).trans lA
      generalize (cpI (cpI h (w + 32 + K) 0 (w + 32 + (K + 1)) 0 16) (w + 40 + K) 0 (w + 40 + (K + 1)) 0 16) = g at *
      refine wp_iload d_119_92 (by rfl) ?_
      refine wp_if_eq (tgt := 127) d_119_94 (by decide) (by first | omega | (simp only [ln_setI, ln_cpI]; omega) | decide) (fun c_94 => ?_) (fun c_94 => ?_)
      · refine wp_iinc d_119_127 (by rfl) (by decide) ?_
        refine wp_goto (tgt := 34) d_119_130 (by decide) ?_
        refine wp_to [some (vR (some (w + 30))), some (vR (some (w + 1))), some (vR (some (w + 6))), some (vI t), some (vI d), some (vI 6), some (vI b), some (vI (((K + 1 : Nat) : Int) + 1))] ⟨rfl, rfl, rfl, rfl, rfl, rfl, rfl, rfl, trivial⟩ ?_
        exact ih (K + 1) b g (by omega) eb hs1 hc1 S6 T1 (fun h' e e2 => k h' (E1.trans e) e2)
      · refine wp_aload_n d_119_97 (by rfl) ?_
        refine wp_aload_n d_119_98 (by rfl) ?_
        refine wp_aload_n d_119_99 (by rfl) ?_
        refine wp_getR (0) d_119_100 fl_2_11 rfl rfl (by first | assumption | (simp only [kd_setI, kd_cpI]; assumption)) (by first | assumption | (simp only [hr_setI, hr_cpI]; assumption)) ?_
        refine wp_iload d_119_103 (by rfl) ?_
        refine wp_aald d_119_105 (by first | omega | (simp only [kd_setI, kd_cpI]; omega)) (by first | omega | (simp only [kd_setI, kd_cpI]; omega)) (by first | (simp only [*]; rfl) | (simp only [kd_setI, kd_cpI, *]; rfl)) (by first | omega | (simp only [ln_setI, ln_cpI]; omega) | decide) (by first | omega | (simp only [ln_setI, ln_cpI]; omega) | decide) (by first | assumption | (simp only [hr_setI, hr_cpI]; assumption)) ?_
        refine wp_aload_n d_119_106 (by rfl) ?_
        refine wp_getR (1) d_119_107 fl_2_16 rfl rfl (by first | assumption | (simp only [kd_setI, kd_cpI]; assumption)) (by first | assumption | (simp only [hr_setI, hr_cpI]; assumption)) ?_
        refine wp_iload d_119_110 (by rfl) ?_
        refine wp_iconst d_119_112 ?_
        refine wp_isub d_119_113 ?_
        refine wp_aald d_119_114 (by first | omega | (simp only [kd_setI, kd_cpI]; omega)) (by first | omega | (simp only [kd_setI, kd_cpI]; omega)) (by first | (simp only [*]; rfl) | (simp only [kd_setI, kd_cpI, *]; rfl)) (by first | omega | (simp only [ln_setI, ln_cpI]; omega) | decide) (by first | omega | (simp only [ln_setI, ln_cpI]; omega) | decide) (by first | assumption | (simp only [hr_setI, hr_cpI]; assumption)) ?_
        refine wp_callV d_119_115 c_119_49 rfl (by rfl) (by rfl) ⟨2, rfl, rfl, by decide⟩ (by first | assumption | (simp only [kd_setI, kd_cpI]; assumption)) (by exact Nat.le_of_ble_eq_true rfl) (by exact Nat.le_of_ble_eq_true rfl) (s_ride0 hs1 S6) (fun v_115 h_115 q_115 => ?_) (fun _ _ q => q.elim)
        obtain ⟨rfl, q_115⟩ := q_115
        replace q_115 := q_115.symm
        subst q_115
        refine wp_istore d_119_118 (by decide) ?_
        refine wp_aload_n d_119_120 (by rfl) ?_
        refine wp_aload_n d_119_121 (by rfl) ?_
        refine wp_iload d_119_122 (by rfl) ?_
        refine wp_callV d_119_124 c_119_33 rfl (by rfl) (by rfl) ⟨2, rfl, rfl, by decide⟩ (by first | assumption | (simp only [kd_setI, kd_cpI]; assumption)) (by exact Nat.le_of_ble_eq_true rfl) (by exact Nat.le_of_ble_eq_true rfl) (s_alight (L := K + 1) hK hn hs1 hc1 T1) (fun v_124 h_124 q_124 => ?_) (fun _ _ q => q.elim)
        obtain ⟨rfl, e_124⟩ := q_124
        refine wp_iinc d_119_127 (by rfl) (by decide) ?_
        refine wp_goto (tgt := 34) d_119_130 (by decide) ?_
        have E2 : sh (fun a => w + 32 ≤ a ∧ a ≤ w + 46) g h_124 := e_124.mono (fun x hx => ⟨by omega, by omega⟩)
        refine wp_to [some (vR (some (w + 30))), some (vR (some (w + 1))), some (vR (some (w + 6))), some (vI t), some (vI d), some (vI 6), some (vI 0), some (vI (((K + 1 : Nat) : Int) + 1))] ⟨rfl, rfl, rfl, rfl, rfl, rfl, rfl, rfl, trivial⟩ ?_
        exact ih (K + 1) 0 h_124 (by omega) (Or.inl rfl) (hs1.kept E2) (hc1.kept E2 (by omega) (by omega)) ((e_124.2.2.2.2.2.2.2.2 _ _ (by omega)).trans S6) (fun k h0 h1 => (e_124.2.2.2.2.2.2.2.2 _ _ (by omega)).trans (T1 k h0 h1)) (fun h' e e2 => k h' ((E1.trans E2).trans e) e2)
set_option maxRecDepth 100000 in
set_option maxHeartbeats 4000000 in
theorem s_seek {w : Nat} {n t d : Int} {h : Hp} (hn : 0 ≤ n ∧ n ≤ 16) (ht : inR t) (hd : inR d) (hs : Cs h w) (hc : Cn h w n) (h6 : hi h (w + 6) 3 = 0) : wp 119 0 (entL [vR (some (w + 30)), vR (some (w + 1)), vR (some (w + 6)), vI t, vI d, vI 6] (mL 119)) [] h (fun v h' => v = none ∧ sh (fun a => w + 30 ≤ a ∧ a ≤ w + 46) h h' ∧ hi h' (w + 30) 2 = t ∧ ∀ k, 0 ≤ k → k < 16 → hi h' (w + 32 + 6) k = -1000000000) noX := by
  have hs0 := hs
  obtain ⟨kw, rw0, rw1, rw4, ⟨kn, rn0, kc, lc⟩, kr, ⟨kb, rb0, rb1, kB, lB, kA, lA⟩, rows⟩ := hs
  have i0 : hr h (w + 31) 0 = some (w + 32 + 0) := (rows 0 (by decide)).1
  obtain ⟨-, -, k0, l0, -, -⟩ := rows 0 (by decide)
  refine wp_aload_n d_119_0 (by rfl) ?_
  refine wp_iload_n d_119_1 (by rfl) ?_
  refine wp_putI (2) d_119_2 fl_2_19 rfl rfl (Or.inl (by rfl)) (by first | assumption | (simp only [kd_setI, kd_cpI]; assumption)) (by first | omega | (simp only [ln_setI, ln_cpI]; omega) | decide) (fun q => nomatch q) ?_
  refine wp_aload_n d_119_5 (by rfl) ?_
  refine wp_iload d_119_6 (by rfl) ?_
  refine wp_putI (3) d_119_8 fl_2_23 rfl rfl (Or.inl (by rfl)) (by first | assumption | (simp only [kd_setI, kd_cpI]; assumption)) (by first | omega | (simp only [ln_setI, ln_cpI]; omega) | decide) (fun q => nomatch q) ?_
  refine wp_aload_n d_119_11 (by rfl) ?_
  refine wp_getR (0) d_119_12 fl_2_11 rfl rfl (by first | assumption | (simp only [kd_setI, kd_cpI]; assumption)) (by first | assumption | (simp only [hr_setI, hr_cpI]; assumption)) ?_
  refine wp_iconst d_119_15 ?_
  refine wp_aald d_119_16 (by first | omega | (simp only [kd_setI, kd_cpI]; omega)) (by first | omega | (simp only [kd_setI, kd_cpI]; omega)) (by first | (simp only [*]; rfl) | (simp only [kd_setI, kd_cpI, *]; rfl)) (by first | omega | (simp only [ln_setI, ln_cpI]; omega) | decide) (by first | omega | (simp only [ln_setI, ln_cpI]; omega) | decide) (by first | assumption | (simp only [hr_setI, hr_cpI]; assumption)) ?_
  refine wp_ldc (-1000000000) d_119_17 ck_2_26 (by decide) ?_
  refine wp_callS d_119_19 c_119_27 rfl (by rfl) (by rfl) (by exact Nat.le_of_ble_eq_true rfl) (by exact Nat.le_of_ble_eq_true rfl) (s_fill (N := 16) (by omega) (by omega) k0 l0) (fun v_19 h_19 q_19 => ?_) (fun _ _ q => q.elim)
  obtain ⟨rfl, e_19, z_19⟩ := q_19
  have E1 : sh ((fun a => w + 30 ≤ a ∧ a ≤ w + 46)) h h_19 := ((sh_setI (P := (fun a => w + 30 ≤ a ∧ a ≤ w + 46)) ⟨by omega, by omega⟩).trans (sh_setI (P := (fun a => w + 30 ≤ a ∧ a ≤ w + 46)) ⟨by omega, by omega⟩)).trans (e_19.mono (fun x hx => ⟨by omega, by omega⟩))
  have hs1 := hs0.kept E1
  have hc1 := hc.kept E1 (by omega) (by omega)
  have S6 := (E1.2.2.2.2.2.2.2.2 (w + 6) 3 (by omega)).trans h6
  have Z2 : hi h_19 (w + 30) 2 = t := (e_19.2.2.2.2.2.2.2.2 (w + 30) 2 (by omega)).trans (by rw [hi_setI, up2_ne _ _ (by omega), hi_setI, up2_same])
  have kb1 := (congrFun E1.1 (w + 30)).trans kb
  refine wp_aload_n d_119_22 (by rfl) ?_
  refine wp_aload_n d_119_23 (by rfl) ?_
  refine wp_iconst d_119_24 ?_
  refine wp_callV d_119_25 c_119_33 rfl (by rfl) (by rfl) ⟨2, rfl, rfl, by decide⟩ (by first | assumption | (simp only [kd_setI, kd_cpI]; assumption)) (by exact Nat.le_of_ble_eq_true rfl) (by exact Nat.le_of_ble_eq_true rfl) (s_alight (L := 0) (by decide) hn hs1 hc1 z_19) (fun v_25 h_25 q_25 => ?_) (fun _ _ q => q.elim)
  obtain ⟨rfl, e_25⟩ := q_25
  refine wp_iconst d_119_28 ?_
  refine wp_istore d_119_29 (by decide) ?_
  refine wp_iconst d_119_31 ?_
  refine wp_istore d_119_32 (by decide) ?_
  have E2 : sh (fun a => w + 30 ≤ a ∧ a ≤ w + 46) h_19 h_25 := e_25.mono (fun x hx => ⟨by omega, by omega⟩)
  refine wp_to [some (vR (some (w + 30))), some (vR (some (w + 1))), some (vR (some (w + 6))), some (vI t), some (vI d), some (vI 6), some (vI 1), some (vI (((0 : Nat) : Int) + 1))] ⟨rfl, rfl, rfl, rfl, rfl, rfl, rfl, rfl, trivial⟩ ?_
  refine l_seek hn 6 0 1 h_25 rfl (Or.inr rfl) (hs1.kept E2) (hc1.kept E2 (by omega) (by omega)) ((e_25.2.2.2.2.2.2.2.2 _ _ (by omega)).trans S6) (fun k h0 h1 => (e_25.2.2.2.2.2.2.2.2 _ _ (by omega)).trans (z_19 k h0 h1)) (fun h' e e2 => ⟨rfl, (E1.trans E2).trans (e.mono (fun x hx => ⟨by omega, by omega⟩)), ?_, e2⟩)
  exact (e.2.2.2.2.2.2.2.2 _ _ (by omega)).trans ((e_25.2.2.2.2.2.2.2.2 _ _ (by omega)).trans Z2)
set_option maxRecDepth 100000 in
set_option maxHeartbeats 4000000 in
theorem s_needArg1 {x : Int} {h : Hp} (hx : x = 1) : wp 14 0 (entL [vI x] (mL 14)) [] h (fun v h' => v = none ∧ h' = h) noX := by
  refine wp_iload_n d_14_0 (by rfl) ?_
  refine wp_if_ne (tgt := 15) d_14_1 (by decide) (by omega) (fun c_1 => ?_) (fun c_1 => ?_)
  · refine wp_vret d_14_15 rfl ?_
    exact ⟨rfl, rfl⟩
  · exact absurd c_1 (by omega)
set_option maxRecDepth 100000 in
set_option maxHeartbeats 4000000 in
theorem s_needState1 {x : Int} {h : Hp} (hx : x = 1) : wp 15 0 (entL [vI x] (mL 15)) [] h (fun v h' => v = none ∧ h' = h) noX := by
  refine wp_iload_n d_15_0 (by rfl) ?_
  refine wp_if_ne (tgt := 15) d_15_1 (by decide) (by omega) (fun c_1 => ?_) (fun c_1 => ?_)
  · refine wp_vret d_15_15 rfl ?_
    exact ⟨rfl, rfl⟩
  · exact absurd c_1 (by omega)
set_option maxRecDepth 100000 in
set_option maxHeartbeats 4000000 in
theorem s_needIndex1 {x y : Int} {h : Hp} (hx : 0 ≤ x ∧ x < y) (hy : inR y) : wp 9 0 (entL [vI x, vI y] (mL 9)) [] h (fun v h' => v = none ∧ h' = h) noX := by
  refine wp_iload_n d_9_0 (by rfl) ?_
  refine wp_if_lt (tgt := 9) d_9_1 (by decide) (by omega) (fun c_1 => ?_) (fun c_1 => ?_)
  · exact absurd hx (by omega)
  · refine wp_iload_n d_9_4 (by rfl) ?_
    refine wp_iload_n d_9_5 (by rfl) ?_
    refine wp_icmp_lt (tgt := 20) d_9_6 (by decide) (by omega) (by omega) (fun c_6 => ?_) (fun c_6 => ?_)
    · refine wp_vret d_9_20 rfl ?_
      exact ⟨rfl, rfl⟩
    · exact absurd hx (by omega)
set_option maxRecDepth 100000 in
set_option maxHeartbeats 4000000 in
theorem s_needStop1 {w : Nat} {x n : Int} {h : Hp} (hs : Cs h w) (hc : Cn h w n) (hn : 0 ≤ n ∧ n ≤ 16) (hx : 0 ≤ x ∧ x < n) : wp 17 0 (entL [vR (some w), vI x] (mL 17)) [] h (fun v h' => v = none ∧ h' = h) noX := by
  obtain ⟨kw, rw0, rw1, rw4, ⟨kn, rn0, kc, lc⟩, kr, ⟨kb, rb0, rb1, kB, lB, kA, lA⟩, rows⟩ := hs
  have hc4 := hc.1
  refine wp_iload_n d_17_0 (by rfl) ?_
  refine wp_aload_n d_17_1 (by rfl) ?_
  refine wp_getR (0) d_17_2 fl_0_12 rfl rfl (by first | assumption | (simp only [kd_setI, kd_cpI]; assumption)) (by first | assumption | (simp only [hr_setI, hr_cpI]; assumption)) ?_
  refine wp_getI (4) d_17_5 fl_0_66 rfl rfl (by first | assumption | (simp only [kd_setI, kd_cpI]; assumption)) (fun x_5 e_5 r_5 => ?_)
  refine wp_callS d_17_8 c_17_107 rfl (by rfl) (by rfl) (by exact Nat.le_of_ble_eq_true rfl) (by exact Nat.le_of_ble_eq_true rfl) (s_needIndex1 (by omega) (by omega)) (fun v_8 h_8 q_8 => ?_) (fun _ _ q => q.elim)
  obtain ⟨rfl, rfl⟩ := q_8
  refine wp_vret d_17_11 rfl ?_
  exact ⟨rfl, rfl⟩
set_option maxRecDepth 100000 in
set_option maxHeartbeats 4000000 in
theorem s_needTime1 {x : Int} {h : Hp} (hx : 0 ≤ x ∧ x ≤ 500000) : wp 29 0 (entL [vI x] (mL 29)) [] h (fun v h' => v = none ∧ h' = h) noX := by
  refine wp_iload_n d_29_0 (by rfl) ?_
  refine wp_iconst d_29_1 ?_
  refine wp_ldcw (500000) d_29_2 ck_0_294 (by decide) ?_
  refine wp_callS d_29_5 c_29_58 rfl (by rfl) (by rfl) (by exact Nat.le_of_ble_eq_true rfl) (by exact Nat.le_of_ble_eq_true rfl) (s_isWithin (by omega) (by omega) (by omega)) (fun v_5 h_5 q_5 => ?_) (fun _ _ q => q.elim)
  obtain ⟨rfl, rfl⟩ := q_5
  refine wp_callS d_29_8 c_29_62 rfl (by rfl) (by rfl) (by exact Nat.le_of_ble_eq_true rfl) (by exact Nat.le_of_ble_eq_true rfl) (s_needArg1 (if_pos hx)) (fun v_8 h_8 q_8 => ?_) (fun _ _ q => q.elim)
  obtain ⟨rfl, rfl⟩ := q_8
  refine wp_vret d_29_11 rfl ?_
  exact ⟨rfl, rfl⟩
set_option maxRecDepth 100000 in
set_option maxHeartbeats 4000000 in
theorem s_addStop {w : Nat} {c n : Int} {h : Hp} (hs : Cs h w) (hc : Cn h w n) (hn : 0 ≤ n ∧ n < 16) (hx : 0 ≤ c ∧ c ≤ 30) : wp 13 0 (entL [vR (some w), vI c] (mL 13)) [] h (fun v h' => v = some (vI n) ∧ sh (fun a => a = w + 1 ∨ a = w + 2) h h' ∧ Cn h' w (n + 1)) noX := by
  obtain ⟨kw, rw0, rw1, rw4, ⟨kn, rn0, kc, lc⟩, kr, ⟨kb, rb0, rb1, kB, lB, kA, lA⟩, rows⟩ := hs
  obtain ⟨hc4, hc5, hc7, hch⟩ := hc
  refine wp_iload_n d_13_0 (by rfl) ?_
  refine wp_iconst d_13_1 ?_
  refine wp_bipush d_13_2 (by decide) ?_
  refine wp_callS d_13_4 c_13_58 rfl (by rfl) (by rfl) (by exact Nat.le_of_ble_eq_true rfl) (by exact Nat.le_of_ble_eq_true rfl) (s_isWithin (by omega) (by omega) (by omega)) (fun v_4 h_4 q_4 => ?_) (fun _ _ q => q.elim)
  obtain ⟨rfl, q_4⟩ := q_4
  replace q_4 := q_4.symm
  subst q_4
  refine wp_callS d_13_7 c_13_62 rfl (by rfl) (by rfl) (by exact Nat.le_of_ble_eq_true rfl) (by exact Nat.le_of_ble_eq_true rfl) (s_needArg1 (if_pos hx)) (fun v_7 h_7 q_7 => ?_) (fun _ _ q => q.elim)
  obtain ⟨rfl, q_7⟩ := q_7
  replace q_7 := q_7.symm
  subst q_7
  refine wp_aload_n d_13_10 (by rfl) ?_
  refine wp_getR (0) d_13_11 fl_0_12 rfl rfl (by first | assumption | (simp only [kd_setI, kd_cpI]; assumption)) (by first | assumption | (simp only [hr_setI, hr_cpI]; assumption)) ?_
  refine wp_getI (4) d_13_14 fl_0_66 rfl rfl (by first | assumption | (simp only [kd_setI, kd_cpI]; assumption)) (fun x_14 e_14 r_14 => ?_)
  refine wp_bipush d_13_17 (by decide) ?_
  refine wp_icmp_ge (tgt := 26) d_13_19 (by decide) (by first | omega | (simp only [ln_setI, ln_cpI]; omega) | decide) (by first | omega | (simp only [ln_setI, ln_cpI]; omega) | decide) (fun c_19 => ?_) (fun c_19 => ?_)
  · exact absurd c_19 (by omega)
  · refine wp_iconst d_13_22 ?_
    refine wp_goto (tgt := 27) d_13_23 (by decide) ?_
    refine wp_callS d_13_27 c_13_70 rfl (by rfl) (by rfl) (by exact Nat.le_of_ble_eq_true rfl) (by exact Nat.le_of_ble_eq_true rfl) (s_needState1 rfl) (fun v_27 h_27 q_27 => ?_) (fun _ _ q => q.elim)
    obtain ⟨rfl, q_27⟩ := q_27
    replace q_27 := q_27.symm
    subst q_27
    refine wp_aload_n d_13_30 (by rfl) ?_
    refine wp_getR (0) d_13_31 fl_0_12 rfl rfl (by first | assumption | (simp only [kd_setI, kd_cpI]; assumption)) (by first | assumption | (simp only [hr_setI, hr_cpI]; assumption)) ?_
    refine wp_getR (0) d_13_34 fl_0_73 rfl rfl (by first | assumption | (simp only [kd_setI, kd_cpI]; assumption)) (by first | assumption | (simp only [hr_setI, hr_cpI]; assumption)) ?_
    refine wp_aload_n d_13_37 (by rfl) ?_
    refine wp_getR (0) d_13_38 fl_0_12 rfl rfl (by first | assumption | (simp only [kd_setI, kd_cpI]; assumption)) (by first | assumption | (simp only [hr_setI, hr_cpI]; assumption)) ?_
    refine wp_getI (4) d_13_41 fl_0_66 rfl rfl (by first | assumption | (simp only [kd_setI, kd_cpI]; assumption)) (fun x_41 e_41 r_41 => ?_)
    refine wp_iload_n d_13_44 (by rfl) ?_
    refine wp_iast d_13_45 (by first | assumption | (simp only [kd_setI, kd_cpI]; assumption)) (by first | omega | (simp only [ln_setI, ln_cpI]; omega) | decide) (by first | omega | (simp only [ln_setI, ln_cpI]; omega) | decide) (by first | omega | (simp only [ln_setI, ln_cpI]; omega) | decide) ?_
    refine wp_aload_n d_13_46 (by rfl) ?_
    refine wp_getR (0) d_13_47 fl_0_12 rfl rfl (by first | assumption | (simp only [kd_setI, kd_cpI]; assumption)) (by first | assumption | (simp only [hr_setI, hr_cpI]; assumption)) ?_
    refine wp_dup d_13_50 (by rfl) ?_
    refine wp_getI (4) d_13_51 fl_0_66 rfl rfl (by first | assumption | (simp only [kd_setI, kd_cpI]; assumption)) (fun x_51 e_51 r_51 => ?_)
    rw [hi_setI, up2_ne _ _ (by omega)] at e_51
    refine wp_iconst d_13_54 ?_
    refine wp_iadd d_13_55 ?_
    refine wp_putI (4) d_13_56 fl_0_66 rfl rfl (Or.inl (by rfl)) (by first | assumption | (simp only [kd_setI, kd_cpI]; assumption)) (by first | omega | (simp only [ln_setI, ln_cpI]; omega) | decide) (fun q => nomatch q) ?_
    refine wp_aload_n d_13_59 (by rfl) ?_
    refine wp_getR (0) d_13_60 fl_0_12 rfl rfl (by first | assumption | (simp only [kd_setI, kd_cpI]; assumption)) (by first | assumption | (simp only [hr_setI, hr_cpI]; assumption)) ?_
    refine wp_getI (4) d_13_63 fl_0_66 rfl rfl (by first | assumption | (simp only [kd_setI, kd_cpI]; assumption)) (fun x_63 e_63 r_63 => ?_)
    rw [hi_setI, up2_same] at e_63
    refine wp_iconst d_13_66 ?_
    refine wp_isub d_13_67 ?_
    refine wp_iret d_13_68 rfl ?_
    refine ⟨congrArg (fun z => some (vI z)) (by omega), (sh_setI (P := fun a => a = w + 1 ∨ a = w + 2) (Or.inr rfl)).trans (sh_setI (P := fun a => a = w + 1 ∨ a = w + 2) (Or.inl rfl)), ?_, ?_, ?_, fun k => ?_⟩
    · rw [hi_setI, up2_same]
      omega
    · rw [hi_setI, up2_ne _ _ (by omega), hi_setI, up2_ne _ _ (by omega)]
      exact hc5
    · rw [hi_setI, up2_ne _ _ (by omega), hi_setI, up2_ne _ _ (by omega)]
      exact hc7
    · rw [hi_setI, up2_ne _ _ (by omega), hi_setI]
      unfold up2
      have := hch k
      by_cases q : w + 2 = w + 2 ∧ k = x_41
      · rw [if_pos q]
        omega
      · rw [if_neg q]
        omega
set_option maxRecDepth 100000 in
set_option maxHeartbeats 4000000 in
theorem l_latest {w : Nat} {n f t a : Int} (hn : 0 ≤ n ∧ n ≤ 16) (hf : 0 ≤ f ∧ f < 16) (ht : 0 ≤ t ∧ t < 16) (hft : f ≠ t) {Q : Option AV → Hp → Prop} : ∀ (m : Nat) (d : Int) (h : Hp), d < m → d ≤ 500000 → -1 ≤ d → Cs h w → Cn h w n → (∀ h', sh (fun a => a = w + 6 ∨ (w + 30 ≤ a ∧ a ≤ w + 46)) h h' → Q (some (vI (-1))) h') → wp 37 17 [some (vR (some w)), some (vI f), some (vI t), some (vI a), some (vI d), none, none] [] h Q noX := by
  intro m
  induction m with
  | zero =>
    intro d h e0 e1 e2 hs hc k
    refine wp_iload d_37_17 (by rfl) ?_
    refine wp_if_lt (tgt := 140) d_37_19 (by decide) (by first | omega | (simp only [ln_setI, ln_cpI]; omega) | decide) (fun c_19 => ?_) (fun c_19 => ?_)
    · refine wp_iconst d_37_140 ?_
      refine wp_iret d_37_141 rfl ?_
      exact k h sh.rfl
    · exact absurd c_19 (by omega)
  | succ m ih =>
    intro d h e0 e1 e2 hs hc k
    have hs0 := hs
    obtain ⟨kw, rw0, rw1, rw4, ⟨kn, rn0, kc, lc⟩, kr, ⟨kb, rb0, rb1, kB, lB, kA, lA⟩, rows⟩ := hs
    refine wp_iload d_37_17 (by rfl) ?_
    refine wp_if_lt (tgt := 140) d_37_19 (by decide) (by first | omega | (simp only [ln_setI, ln_cpI]; omega) | decide) (fun c_19 => ?_) (fun c_19 => ?_)
    · refine wp_iconst d_37_140 ?_
      refine wp_iret d_37_141 rfl ?_
      exact k h sh.rfl
    · refine wp_aload_n d_37_22 (by rfl) ?_
      refine wp_getR (1) d_37_23 fl_0_19 rfl rfl (by first | assumption | (simp only [kd_setI, kd_cpI]; assumption)) (by first | assumption | (simp only [hr_setI, hr_cpI]; assumption)) ?_
      refine wp_aload_n d_37_26 (by rfl) ?_
      refine wp_getR (0) d_37_27 fl_0_12 rfl rfl (by first | assumption | (simp only [kd_setI, kd_cpI]; assumption)) (by first | assumption | (simp only [hr_setI, hr_cpI]; assumption)) ?_
      refine wp_iload d_37_30 (by rfl) ?_
      refine wp_sipush d_37_32 (by decide) ?_
      refine wp_isub d_37_35 ?_
      refine wp_iload d_37_36 (by rfl) ?_
      refine wp_callV d_37_38 c_37_183 rfl (by rfl) (by rfl) ⟨11, rfl, rfl, by decide⟩ (by first | assumption | (simp only [kd_setI, kd_cpI]; assumption)) (by exact Nat.le_of_ble_eq_true rfl) (by exact Nat.le_of_ble_eq_true rfl) (s_coll hs0 hc (by omega) (by omega)) (fun v_38 h_38 q_38 => ?_) (fun _ _ q => q.elim)
      obtain ⟨rfl, e_38, z_38⟩ := q_38
      have E1 : sh (fun a => a = w + 6 ∨ (w + 30 ≤ a ∧ a ≤ w + 46)) h h_38 := e_38.mono (fun x hx => Or.inl hx)
      have hs1 := hs0.kept E1
      have hc1 := hc.kept E1 (by omega) (by omega)
      have kw1 := (congrFun E1.1 w).trans kw
      have r11 := (congrFun (congrFun E1.2.2.1 w) 0).trans rw0
      have r12 := (congrFun (congrFun E1.2.2.1 w) 1).trans rw1
      have r14 := (congrFun (congrFun E1.2.2.1 w) 4).trans rw4
      have kb1 := (congrFun E1.1 (w + 30)).trans kb
      refine wp_aload_n d_37_41 (by rfl) ?_
      refine wp_getR (4) d_37_42 fl_0_40 rfl rfl (by first | assumption | (simp only [kd_setI, kd_cpI]; assumption)) (by first | assumption | (simp only [hr_setI, hr_cpI]; assumption)) ?_
      refine wp_aload_n d_37_45 (by rfl) ?_
      refine wp_getR (0) d_37_46 fl_0_12 rfl rfl (by first | assumption | (simp only [kd_setI, kd_cpI]; assumption)) (by first | assumption | (simp only [hr_setI, hr_cpI]; assumption)) ?_
      refine wp_aload_n d_37_49 (by rfl) ?_
      refine wp_getR (1) d_37_50 fl_0_19 rfl rfl (by first | assumption | (simp only [kd_setI, kd_cpI]; assumption)) (by first | assumption | (simp only [hr_setI, hr_cpI]; assumption)) ?_
      refine wp_iload_n d_37_53 (by rfl) ?_
      refine wp_iload d_37_54 (by rfl) ?_
      refine wp_bipush d_37_56 (by decide) ?_
      refine wp_callV d_37_58 c_37_198 rfl (by rfl) (by rfl) ⟨2, rfl, rfl, by decide⟩ (by first | assumption | (simp only [kd_setI, kd_cpI]; assumption)) (by exact Nat.le_of_ble_eq_true rfl) (by exact Nat.le_of_ble_eq_true rfl) (s_seek hn (by omega) (by omega) hs1 hc1 z_38) (fun v_58 h_58 q_58 => ?_) (fun _ _ q => q.elim)
      obtain ⟨rfl, e_58, t_58, z_58⟩ := q_58
      have E2 : sh (fun a => a = w + 6 ∨ (w + 30 ≤ a ∧ a ≤ w + 46)) h_38 h_58 := e_58.mono (fun x hx => Or.inr hx)
      have hs2 := hs1.kept E2
      have hc2 := hc1.kept E2 (by omega) (by omega)
      have kw2 := (congrFun E2.1 w).trans kw1
      have r21 := (congrFun (congrFun E2.2.2.1 w) 0).trans r11
      have r22 := (congrFun (congrFun E2.2.2.1 w) 1).trans r12
      have r24 := (congrFun (congrFun E2.2.2.1 w) 4).trans r14
      have kb2 := (congrFun E2.1 (w + 30)).trans kb1
      have ne2 : f ≠ hi h_58 (w + 30) 2 := by rw [t_58]; exact hft
      refine wp_aload_n d_37_61 (by rfl) ?_
      refine wp_getR (4) d_37_62 fl_0_40 rfl rfl (by first | assumption | (simp only [kd_setI, kd_cpI]; assumption)) (by first | assumption | (simp only [hr_setI, hr_cpI]; assumption)) ?_
      refine wp_aload_n d_37_65 (by rfl) ?_
      refine wp_getR (0) d_37_66 fl_0_12 rfl rfl (by first | assumption | (simp only [kd_setI, kd_cpI]; assumption)) (by first | assumption | (simp only [hr_setI, hr_cpI]; assumption)) ?_
      refine wp_iload_n d_37_69 (by rfl) ?_
      refine wp_bipush d_37_70 (by decide) ?_
      refine wp_callV d_37_72 c_37_199 rfl (by rfl) (by rfl) ⟨2, rfl, rfl, by decide⟩ (by first | assumption | (simp only [kd_setI, kd_cpI]; assumption)) (by exact Nat.le_of_ble_eq_true rfl) (by exact Nat.le_of_ble_eq_true rfl) (s_latestBegin (L := 6) (by decide) hf hs2 hc2 ne2 (z_58 f hf.1 hf.2)) (fun v_72 h_72 q_72 => ?_) (fun _ _ q => q.elim)
      obtain ⟨rfl, q_72⟩ := q_72
      replace q_72 := q_72.symm
      subst q_72
      refine wp_istore d_37_75 (by decide) ?_
      refine wp_iload d_37_77 (by rfl) ?_
      refine wp_iload d_37_79 (by rfl) ?_
      refine wp_sipush d_37_81 (by decide) ?_
      refine wp_isub d_37_84 ?_
      refine wp_icmp_lt (tgt := 100) d_37_85 (by decide) (by first | omega | (simp only [ln_setI, ln_cpI]; omega) | decide) (by first | omega | (simp only [ln_setI, ln_cpI]; omega) | decide) (fun c_85 => ?_) (fun c_85 => ?_)
      · refine wp_iload d_37_100 (by rfl) ?_
        refine wp_iload d_37_102 (by rfl) ?_
        refine wp_sipush d_37_104 (by decide) ?_
        refine wp_isub d_37_107 ?_
        refine wp_iconst d_37_108 ?_
        refine wp_isub d_37_109 ?_
        refine wp_callS d_37_110 c_37_203 rfl (by rfl) (by rfl) (by exact Nat.le_of_ble_eq_true rfl) (by exact Nat.le_of_ble_eq_true rfl) (s_max (by omega) (by omega)) (fun v_110 h_110 q_110 => ?_) (fun _ _ q => q.elim)
        obtain ⟨rfl, q_110⟩ := q_110
        replace q_110 := q_110.symm
        subst q_110
        refine wp_istore d_37_113 (by decide) ?_
        refine wp_iload d_37_115 (by rfl) ?_
        refine wp_if_ge (tgt := 122) d_37_117 (by decide) (by first | omega | (simp only [ln_setI, ln_cpI]; omega) | decide) (fun c_117 => ?_) (fun c_117 => ?_)
        · refine wp_iload d_37_122 (by rfl) ?_
          refine wp_iconst d_37_124 ?_
          refine wp_isub d_37_125 ?_
          refine wp_iload d_37_126 (by rfl) ?_
          refine wp_sipush d_37_128 (by decide) ?_
          refine wp_iadd d_37_131 ?_
          refine wp_callS d_37_132 c_37_187 rfl (by rfl) (by rfl) (by exact Nat.le_of_ble_eq_true rfl) (by exact Nat.le_of_ble_eq_true rfl) (s_min (by omega) (by omega)) (fun v_132 h_132 q_132 => ?_) (fun _ _ q => q.elim)
          obtain ⟨rfl, q_132⟩ := q_132
          replace q_132 := q_132.symm
          subst q_132
          refine wp_istore d_37_135 (by decide) ?_
          refine wp_goto (tgt := 17) d_37_137 (by decide) ?_
          refine wp_to [some (vR (some w)), some (vI f), some (vI t), some (vI a), some (vI (min (d - 1) (max (-1000000000) (d - 5760 - 1) + 2880))), none, none] ⟨rfl, rfl, rfl, rfl, rfl, trivial⟩ ?_
          exact ih _ h_58 (by omega) (by omega) (by omega) hs2 hc2 (fun h' e => k h' ((E1.trans E2).trans e))
        · refine wp_iconst d_37_120 ?_
          refine wp_iret d_37_121 rfl ?_
          exact k _ (E1.trans E2)
      · exact absurd c_85 (by omega)
set_option maxRecDepth 100000 in
set_option maxHeartbeats 4000000 in
theorem s_latest {w : Nat} {n f t a : Int} {h : Hp} (hn : 0 ≤ n ∧ n ≤ 16) (hf : 0 ≤ f ∧ f < n) (ht : 0 ≤ t ∧ t < n) (hft : f ≠ t) (ha : 0 ≤ a ∧ a ≤ 500000) (hs : Cs h w) (hc : Cn h w n) : wp 37 0 (entL [vR (some w), vI f, vI t, vI a] (mL 37)) [] h (fun v h' => v = some (vI (-1)) ∧ sh (fun a => a = w + 6 ∨ (w + 30 ≤ a ∧ a ≤ w + 46)) h h') noX := by
  have hs0 := hs
  obtain ⟨kw, rw0, rw1, rw4, ⟨kn, rn0, kc, lc⟩, kr, ⟨kb, rb0, rb1, kB, lB, kA, lA⟩, rows⟩ := hs
  refine wp_aload_n d_37_0 (by rfl) ?_
  refine wp_iload_n d_37_1 (by rfl) ?_
  refine wp_callV d_37_2 c_37_77 rfl (by rfl) (by rfl) ⟨0, rfl, rfl, by decide⟩ (by first | assumption | (simp only [kd_setI, kd_cpI]; assumption)) (by exact Nat.le_of_ble_eq_true rfl) (by exact Nat.le_of_ble_eq_true rfl) (s_needStop1 hs0 hc hn (by omega)) (fun v_2 h_2 q_2 => ?_) (fun _ _ q => q.elim)
  obtain ⟨rfl, q_2⟩ := q_2
  replace q_2 := q_2.symm
  subst q_2
  refine wp_aload_n d_37_5 (by rfl) ?_
  refine wp_iload_n d_37_6 (by rfl) ?_
  refine wp_callV d_37_7 c_37_77 rfl (by rfl) (by rfl) ⟨0, rfl, rfl, by decide⟩ (by first | assumption | (simp only [kd_setI, kd_cpI]; assumption)) (by exact Nat.le_of_ble_eq_true rfl) (by exact Nat.le_of_ble_eq_true rfl) (s_needStop1 hs0 hc hn (by omega)) (fun v_7 h_7 q_7 => ?_) (fun _ _ q => q.elim)
  obtain ⟨rfl, q_7⟩ := q_7
  replace q_7 := q_7.symm
  subst q_7
  refine wp_iload_n d_37_10 (by rfl) ?_
  refine wp_callS d_37_11 c_37_154 rfl (by rfl) (by rfl) (by exact Nat.le_of_ble_eq_true rfl) (by exact Nat.le_of_ble_eq_true rfl) (s_needTime1 ha) (fun v_11 h_11 q_11 => ?_) (fun _ _ q => q.elim)
  obtain ⟨rfl, q_11⟩ := q_11
  replace q_11 := q_11.symm
  subst q_11
  refine wp_iload_n d_37_14 (by rfl) ?_
  refine wp_istore d_37_15 (by decide) ?_
  refine wp_to [some (vR (some w)), some (vI f), some (vI t), some (vI a), some (vI a), none, none] ⟨rfl, rfl, rfl, rfl, rfl, trivial⟩ ?_
  exact l_latest hn (by omega) (by omega) hft 500001 a h (by omega) (by omega) (by omega) hs0 hc (fun h' e => ⟨rfl, e⟩)
end
section
/-! ===== the reference where nothing but stops is told ===== -/
def Ms (h : Hp) (m : Nat) (n : Int) : Prop := kd h m = 2 ∧ hr h m 2 = some (m + 1) ∧ kd h (m + 1) = 100 ∧ ln h (m + 1) = 16 ∧ hi h m 1 = n ∧ hi h m 3 = 0 ∧ hi h m 12 = 0
theorem Ms.kept {h h' : Hp} {m : Nat} {n : Int} (q : Ms h m n) (e : eqA h h' m) (e1 : eqA h h' (m + 1)) : Ms h' m n := by
  obtain ⟨q1, q2, q3, q4, q5, q6, q7⟩ := q
  exact ⟨e.1.trans q1, (e.2.2.2.1 _).trans q2, e1.1.trans q3, e1.2.1.trans q4, (e.2.2.1 _).trans q5, (e.2.2.1 _).trans q6, (e.2.2.1 _).trans q7⟩
theorem sh.eqA {P : Nat → Prop} {h h' : Hp} {b : Nat} (e : sh P h h') (n : ¬ P b) : eqA h h' b := by
  obtain ⟨e1, e2, e3, e4, e5, e6, e7, e8, e9⟩ := e
  exact ⟨by rw [e1], by rw [e2], fun k => e9 _ _ n, fun k => by rw [e3], fun k => by rw [e4]⟩
/-- grown by c cells and u places, all that was there is there -/
def gr (c u : Nat) (h h' : Hp) : Prop := nx h' = nx h + c ∧ us h' = us h + u ∧ cn h' = cn h ∧ cs h' = cs h ∧ ∀ b, b < nx h → eqA h h' b
theorem gr.trans {c u c' u' : Nat} {h h1 h2 : Hp} (a : gr c u h h1) (b : gr c' u' h1 h2) : gr (c + c') (u + u') h h2 := by
  obtain ⟨a1, a2, a3, a4, a5⟩ := a
  obtain ⟨b1, b2, b3, b4, b5⟩ := b
  exact ⟨by omega, by omega, b3.trans a3, b4.trans a4, fun x hx => (a5 x hx).trans (b5 x (by omega))⟩
set_option maxRecDepth 100000 in
set_option maxHeartbeats 4000000 in
theorem s_isIn {x a b : Int} {h : Hp} (hx : inR x) (ha : inR a) (hb : inR b) : wp 52 0 (entL [vI x, vI a, vI b] (mL 52)) [] h (fun v h' => v = some (vI (if a ≤ x ∧ x ≤ b then 1 else 0)) ∧ h' = h) noX := by
  refine wp_iload_n d_52_0 (by rfl) ?_
  refine wp_iload_n d_52_1 (by rfl) ?_
  refine wp_icmp_lt (tgt := 14) d_52_2 (by decide) (by omega) (by omega) (fun c_2 => ?_) (fun c_2 => ?_)
  · refine wp_iconst d_52_14 ?_
    refine wp_zret d_52_15 rfl (by omega) ?_
    exact ⟨congrArg (fun z => some (vI z)) (by first | (rw [if_pos (by omega)]) | (rw [if_neg (by omega)])), rfl⟩
  · refine wp_iload_n d_52_5 (by rfl) ?_
    refine wp_iload_n d_52_6 (by rfl) ?_
    refine wp_icmp_gt (tgt := 14) d_52_7 (by decide) (by omega) (by omega) (fun c_7 => ?_) (fun c_7 => ?_)
    · refine wp_iconst d_52_14 ?_
      refine wp_zret d_52_15 rfl (by omega) ?_
      exact ⟨congrArg (fun z => some (vI z)) (by first | (rw [if_pos (by omega)]) | (rw [if_neg (by omega)])), rfl⟩
    · refine wp_iconst d_52_10 ?_
      refine wp_goto (tgt := 15) d_52_11 (by decide) ?_
      refine wp_zret d_52_15 rfl (by omega) ?_
      exact ⟨congrArg (fun z => some (vI z)) (by first | (rw [if_pos (by omega)]) | (rw [if_neg (by omega)])), rfl⟩
set_option maxRecDepth 100000 in
set_option maxHeartbeats 4000000 in
theorem s_isStop {m : Nat} {x n : Int} {h : Hp} (hx : 0 ≤ x ∧ x < n) (hn : n ≤ 16) (hs : Ms h m n) : wp 55 0 (entL [vR (some m), vI x] (mL 55)) [] h (fun v h' => v = some (vI 1) ∧ h' = h) noX := by
  obtain ⟨k2, r2, k1, l1, i1, i3, i12⟩ := hs
  refine wp_iload_n d_55_0 (by rfl) ?_
  refine wp_iconst d_55_1 ?_
  refine wp_aload_n d_55_2 (by rfl) ?_
  refine wp_getI (1) d_55_3 fl_1_91 rfl rfl (by first | assumption | (simp only [kd_setI, kd_cpI]; assumption)) (fun x_3 e_3 r_3 => ?_)
  refine wp_iconst d_55_6 ?_
  refine wp_isub d_55_7 ?_
  refine wp_callS d_55_8 c_55_94 rfl (by rfl) (by rfl) (by exact Nat.le_of_ble_eq_true rfl) (by exact Nat.le_of_ble_eq_true rfl) (s_isIn (by omega) (by omega) (by omega)) (fun v_8 h_8 q_8 => ?_) (fun _ _ q => q.elim)
  obtain ⟨rfl, rfl⟩ := q_8
  refine wp_zret d_55_11 rfl (Or.inr (if_pos (by omega))) ?_
  exact ⟨congrArg (fun z => some (vI z)) (if_pos (by omega)), rfl⟩
set_option maxRecDepth 100000 in
set_option maxHeartbeats 4000000 in
theorem s_question {m : Nat} {f t a n : Int} {h : Hp} (hf : 0 ≤ f ∧ f < n) (ht : 0 ≤ t ∧ t < n) (ha : 0 ≤ a ∧ a ≤ 500000) (hn : n ≤ 16) (hs : Ms h m n) : wp 81 0 (entL [vR (some m), vI f, vI t, vI a] (mL 81)) [] h (fun v h' => v = some (vI 0) ∧ h' = h) noX := by
  refine wp_aload_n d_81_0 (by rfl) ?_
  refine wp_iload_n d_81_1 (by rfl) ?_
  refine wp_callV d_81_2 c_81_105 rfl (by rfl) (by rfl) ⟨1, rfl, rfl, by decide⟩ hs.1 (by exact Nat.le_of_ble_eq_true rfl) (by exact Nat.le_of_ble_eq_true rfl) (s_isStop (by omega) hn hs) (fun v_2 h_2 q_2 => ?_) (fun _ _ q => q.elim)
  obtain ⟨rfl, q_2⟩ := q_2
  replace q_2 := q_2.symm
  subst q_2
  refine wp_if_eq (tgt := 16) d_81_5 (by decide) (by first | omega | decide | (split <;> decide)) (fun c_5 => ?_) (fun c_5 => ?_)
  · exact absurd c_5 (by decide)
  · refine wp_aload_n d_81_8 (by rfl) ?_
    refine wp_iload_n d_81_9 (by rfl) ?_
    refine wp_callV d_81_10 c_81_105 rfl (by rfl) (by rfl) ⟨1, rfl, rfl, by decide⟩ hs.1 (by exact Nat.le_of_ble_eq_true rfl) (by exact Nat.le_of_ble_eq_true rfl) (s_isStop (by omega) hn hs) (fun v_10 h_10 q_10 => ?_) (fun _ _ q => q.elim)
    obtain ⟨rfl, q_10⟩ := q_10
    replace q_10 := q_10.symm
    subst q_10
    refine wp_if_ne (tgt := 20) d_81_13 (by decide) (by first | omega | decide | (split <;> decide)) (fun c_13 => ?_) (fun c_13 => ?_)
    · refine wp_iload_n d_81_20 (by rfl) ?_
      refine wp_iconst d_81_21 ?_
      refine wp_ldc (500000) d_81_22 ck_1_152 (by decide) ?_
      refine wp_callS d_81_24 c_81_94 rfl (by rfl) (by rfl) (by exact Nat.le_of_ble_eq_true rfl) (by exact Nat.le_of_ble_eq_true rfl) (s_isIn (by omega) (by omega) (by omega)) (fun v_24 h_24 q_24 => ?_) (fun _ _ q => q.elim)
      obtain ⟨rfl, q_24⟩ := q_24
      replace q_24 := q_24.symm
      subst q_24
      refine wp_if_eq (tgt := 34) d_81_27 (by decide) (by first | omega | decide | (split <;> decide)) (fun c_27 => ?_) (fun c_27 => ?_)
      · exact absurd c_27 (by rw [if_pos ha]; decide)
      · refine wp_iconst d_81_30 ?_
        refine wp_goto (tgt := 35) d_81_31 (by decide) ?_
        refine wp_iret d_81_35 rfl ?_
        exact ⟨rfl, rfl⟩
    · exact absurd c_13 (by decide)
set_option maxRecDepth 100000 in
set_option maxHeartbeats 4000000 in
theorem l_row {a : Nat} {x : Int} (hx : inR x) {Q : Option AV → Hp → Prop} : ∀ (n : Nat) (j : Int) (h : Hp), j + n = 16 → 0 ≤ j → kd h a = 100 → ln h a = 16 → (∀ h', sh (· = a) h h' → (∀ k, 0 ≤ k → k < 16 → hi h' a k = if j ≤ k then x else hi h a k) → Q (some (vR (some a))) h') → wp 84 7 [some (vI x), some (vR (some a)), some (vI j)] [] h Q noX := by
  intro n
  induction n with
  | zero =>
    intro j h e0 e1 hk hl k
    refine wp_iload_n d_84_7 (by rfl) ?_
    refine wp_bipush d_84_8 (by decide) ?_
    refine wp_icmp_ge (tgt := 23) d_84_10 (by decide) (by omega) (by omega) (fun c_10 => ?_) (fun c_10 => ?_)
    · refine wp_aload_n d_84_23 (by rfl) ?_
      refine wp_aret d_84_24 rfl rfl ?_
      exact k h sh.rfl (fun k h0 h1 => (if_neg (by omega)).symm)
    · exact absurd c_10 (by omega)
  | succ n ih =>
    intro j h e0 e1 hk hl k
    refine wp_iload_n d_84_7 (by rfl) ?_
    refine wp_bipush d_84_8 (by decide) ?_
    refine wp_icmp_ge (tgt := 23) d_84_10 (by decide) (by omega) (by omega) (fun c_10 => ?_) (fun c_10 => ?_)
    · exact absurd c_10 (by omega)
    · refine wp_aload_n d_84_13 (by rfl) ?_
      refine wp_iload_n d_84_14 (by rfl) ?_
      refine wp_iload_n d_84_15 (by rfl) ?_
      refine wp_iast d_84_16 (by assumption) (by omega) (by omega) (by omega) ?_
      refine wp_iinc d_84_17 (by rfl) (by decide) ?_
      refine wp_goto (tgt := 7) d_84_20 (by decide) ?_
      refine ih (j + 1) (setI h a j x) (by omega) (by omega) hk hl (fun h' e e2 => ?_)
      refine k h' ((sh_setI (P := (· = a)) rfl).trans e) (fun k h0 h1 => ?_)
      rw [e2 k h0 h1, hi_setI]
      unfold up2
      by_cases c : j + 1 ≤ k
      · rw [if_pos c, if_pos (by omega)]
      · rw [if_neg c]
        by_cases c2 : k = j
        · rw [if_pos ⟨rfl, c2⟩, if_pos (by omega)]
        · rw [if_neg (fun z => c2 z.2), if_neg (by omega)]
set_option maxRecDepth 100000 in
set_option maxHeartbeats 4000000 in
theorem s_row {x : Int} {h : Hp} (hx : inR x) (r1 : nx h + 1 ≤ cn h) (r2 : us h + 16 ≤ cs h) : wp 84 0 (entL [vI x] (mL 84)) [] h (fun v h' => v = some (vR (some (nx h))) ∧ gr 1 16 h h' ∧ kd h' (nx h) = 100 ∧ ln h' (nx h) = 16 ∧ ∀ k, 0 ≤ k → k < 16 → hi h' (nx h) k = x) noX := by
  refine wp_bipush d_84_0 (by decide) ?_
  refine wp_newa (K := 100) d_84_2 rfl (by decide) ca_100 rfl (by omega) (by omega) (by decide) (by omega) (by simp; omega) ?_
  refine wp_astore_n d_84_4 (by decide) ?_
  refine wp_iconst d_84_5 ?_
  refine wp_istore_n d_84_6 (by decide) ?_
  refine wp_to [some (vI x), some (vR (some (nx h))), some (vI 0)] ⟨rfl, rfl, rfl, trivial⟩ ?_
  refine l_row hx 16 0 _ rfl (by omega) (by rw [kd_mkO, up1_same]) (by rw [ln_mkO, up1_same]) (fun h' e e2 => ⟨rfl, ⟨?_, ?_, ?_, ?_, fun b hb => ?_⟩, ?_, ?_, fun k h0 h1 => ?_⟩)
  · rw [e.2.2.2.2.1, nx_mkO]
  · rw [e.2.2.2.2.2.1, us_mkO]
    rfl
  · rw [e.2.2.2.2.2.2.1]
    rfl
  · rw [e.2.2.2.2.2.2.2.1]
    rfl
  · exact (eqA_mkO hb).trans (e.eqA (by omega))
  · rw [e.1, kd_mkO, up1_same]
  · rw [e.2.1, ln_mkO, up1_same]
  · rw [e2 k h0 h1, if_pos h0]
set_option maxRecDepth 100000 in
set_option maxHeartbeats 4000000 in
theorem l_backwards {m A : Nat} {t b lo n : Int} {Q : Option AV → Hp → Prop} : ∀ (r K : Nat) (g : Hp), K + r = 6 → m + 1 < A → Ms g m n → hr g A K = some (A + 1 + K) → kd g (A + 1 + K) = 100 → ln g (A + 1 + K) = 16 → (∀ k, 0 ≤ k → k < 16 → hi g (A + 1 + K) k = -268435456) → kd g A = 103 → ln g A = 7 → nx g = A + 2 + K → nx g + r ≤ cn g → us g + 16 * r ≤ cs g → (∀ h', nx h' = A + 8 → us h' = us g + 16 * r → cn h' = cn g → cs h' = cs g → (∀ x, x < A → eqA g h' x) → kd h' A = 103 → ln h' A = 7 → hr h' A 6 = some (A + 7) → kd h' (A + 7) = 100 → ln h' (A + 7) = 16 → (∀ k, 0 ≤ k → k < 16 → hi h' (A + 7) k = -268435456) → Q (some (vR (some A))) h') → wp 98 19 [some (vR (some m)), some (vI t), some (vI b), some (vI lo), some (vR (some A)), some (vI ((K : Int) + 1)), none, none, none, none, none, none, none] [] g Q noX := by
  intro r
  induction r with
  | zero =>
    intro K g e0 em hs i0 i1 i2 i3 i4 i5 i6 r1 r2 k
    obtain rfl : K = 6 := by omega
    refine wp_iload d_98_19 (by rfl) ?_
    refine wp_bipush d_98_21 (by decide) ?_
    refine wp_icmp_gt (tgt := 253) d_98_23 (by decide) (by first | omega | decide) (by first | omega | decide) (fun c_23 => ?_) (fun c_23 => ?_)
    · refine wp_aload d_98_253 (by rfl) ?_
      refine wp_aret d_98_255 rfl rfl ?_
      exact k g (by omega) (by omega) rfl rfl (fun _ _ => eqA.rfl) i4 i5 i0 i1 i2 i3
    · exact absurd c_23 (by omega)
  | succ r ih =>
    intro K g e0 em hs i0 i1 i2 i3 i4 i5 i6 r1 r2 k
    have ix : (K : Int) + 1 - 1 = (K : Int) := by omega
    refine wp_iload d_98_19 (by rfl) ?_
    refine wp_bipush d_98_21 (by decide) ?_
    refine wp_icmp_gt (tgt := 253) d_98_23 (by decide) (by first | omega | decide) (by first | omega | decide) (fun c_23 => ?_) (fun c_23 => ?_)
    · exact absurd c_23 (by omega)
    · refine wp_aload d_98_26 (by rfl) ?_
      refine wp_iload d_98_28 (by rfl) ?_
      refine wp_bipush d_98_30 (by decide) ?_
      refine wp_newa (K := 100) d_98_32 rfl (by decide) ca_100 rfl (by first | omega | decide) (by first | omega | decide) (by decide) (by omega) (by simp; omega) ?_
      refine wp_aastA d_98_34 (by rw [kd_mkO, up1_ne _ _ (by omega)]; exact i4) (by rw [kd_mkO, up1_same]) (by omega) (by rw [ln_mkO, up1_ne _ _ (by omega)]; omega) ?_
      have j0 : hr (setR (mkO g 100 16) A ((K : Int) + 1) (some (nx g))) A ((K : Int) + 1 - 1) = some (A + 1 + K) := by
        rw [hr_setR, up2_ne _ _ (fun z => absurd z.2 (by omega)), hr_mkO, up1_ne _ _ (by omega), ix]
        exact i0
      have j1 : hr (setR (mkO g 100 16) A ((K : Int) + 1) (some (nx g))) A ((K : Int) + 1) = some (nx g) := by rw [hr_setR, up2_same]
      have j2 : kd (setR (mkO g 100 16) A ((K : Int) + 1) (some (nx g))) A = 103 := by rw [kd_setR, kd_mkO, up1_ne _ _ (by omega)]; exact i4
      have j3 : ln (setR (mkO g 100 16) A ((K : Int) + 1) (some (nx g))) A = 7 := by rw [ln_setR, ln_mkO, up1_ne _ _ (by omega)]; exact i5
      have j4 : kd (setR (mkO g 100 16) A ((K : Int) + 1) (some (nx g))) (A + 1 + K) = 100 := by rw [kd_setR, kd_mkO, up1_ne _ _ (by omega)]; exact i1
      have j5 : ln (setR (mkO g 100 16) A ((K : Int) + 1) (some (nx g))) (A + 1 + K) = 16 := by rw [ln_setR, ln_mkO, up1_ne _ _ (by omega)]; exact i2
      have j6 : kd (setR (mkO g 100 16) A ((K : Int) + 1) (some (nx g))) (nx g) = 100 := by rw [kd_setR, kd_mkO, up1_same]
      have j7 : ln (setR (mkO g 100 16) A ((K : Int) + 1) (some (nx g))) (nx g) = 16 := by rw [ln_setR, ln_mkO, up1_same]
      have F : ∀ x, x < A → eqA g (setR (mkO g 100 16) A ((K : Int) + 1) (some (nx g))) x := fun x hx => (eqA_mkO (by omega)).trans (eqA_setR (by omega))
      have j8 : ∀ k, 0 ≤ k → k < 16 → hi (setR (mkO g 100 16) A ((K : Int) + 1) (some (nx g))) (A + 1 + K) k = -268435456 := fun k h0 h1 => by rw [hi_setR, hi_mkO, up1_ne _ _ (by omega)]; exact i3 k h0 h1
      have j9 : nx (setR (mkO g 100 16) A ((K : Int) + 1) (some (nx g))) = nx g + 1 := rfl
      have j10 : us (setR (mkO g 100 16) A ((K : Int) + 1) (some (nx g))) = us g + 16 := rfl
      have j11 : cn (setR (mkO g 100 16) A ((K : Int) + 1) (some (nx g))) = cn g := rfl
      have j12 : cs (setR (mkO g 100 16) A ((K : Int) + 1) (some (nx g))) = cs g := rfl
      generalize setR (mkO g 100 16) A ((K : Int) + 1) (some (nx g)) = g1 at *
      refine wp_aload d_98_35 (by rfl) ?_
      refine wp_iload d_98_37 (by rfl) ?_
      refine wp_iconst d_98_39 ?_
      refine wp_isub d_98_40 ?_
      refine wp_aald d_98_41 (by first | omega | (simp only [kd_setI, kd_cpI]; omega)) (by first | omega | (simp only [kd_setI, kd_cpI]; omega)) (by first | (simp only [*]; rfl) | (simp only [kd_setI, kd_cpI, *]; rfl)) (by first | omega | decide) (by first | omega | decide) (by assumption) ?_
      refine wp_iconst d_98_42 ?_
      refine wp_aload d_98_43 (by rfl) ?_
      refine wp_iload d_98_45 (by rfl) ?_
      refine wp_aald d_98_47 (by first | omega | (simp only [kd_setI, kd_cpI]; omega)) (by first | omega | (simp only [kd_setI, kd_cpI]; omega)) (by first | (simp only [*]; rfl) | (simp only [kd_setI, kd_cpI, *]; rfl)) (by first | omega | decide) (by first | omega | decide) (by assumption) ?_
      refine wp_iconst d_98_48 ?_
      refine wp_bipush d_98_49 (by decide) ?_
      refine wp_copy d_98_51 cp_WhistleStopModel_167 cp_nat cp_sta cp_ini (by first | assumption | (rw [kd_mkO, up1_same])) (by first | assumption | (rw [kd_mkO, up1_same])) (by first | omega | decide) (by first | omega | decide) (by first | omega | decide) (by first | omega | decide) (by first | omega | decide) (by decide) (by decide) ?_
      have E1 : sh (· = nx g) g1 (cpI g1 (A + 1 + K) 0 (nx g) 0 16) := sh_cpI (P := (· = nx g)) rfl
      have T1 : ∀ k, 0 ≤ k → k < 16 → hi (cpI g1 (A + 1 + K) 0 (nx g) 0 16) (nx g) k = -268435456 := fun k h0 h1 => by
        rw [hi_cpI]
        show (if _ then _ else _) = _
        rw [if_pos ⟨rfl, by omega, by omega⟩, show (0 : Int) + (k - 0) = k by omega]
        exact j8 k h0 h1
      generalize cpI g1 (A + 1 + K) 0 (nx g) 0 16 = g2 at *
      have F2 : ∀ x, x < A → eqA g g2 x := fun x hx => (F x hx).trans (E1.eqA (by omega))
      have hs2 : Ms g2 m n := hs.kept (F2 _ (by omega)) (F2 _ (by omega))
      have km := hs2.1
      have e12 := hs2.2.2.2.2.2.2
      refine wp_iconst d_98_54 ?_
      refine wp_istore d_98_55 (by decide) ?_
      refine wp_iload d_98_57 (by rfl) ?_
      refine wp_aload_n d_98_59 (by rfl) ?_
      refine wp_getI (12) d_98_60 fl_1_98 rfl rfl (by first | assumption | (rw [kd_mkO, up1_same])) (fun x_60 e_60 r_60 => ?_)
      refine wp_icmp_ge (tgt := 247) d_98_63 (by decide) (by first | omega | decide) (by first | omega | decide) (fun c_63 => ?_) (fun c_63 => ?_)
      · refine wp_iinc d_98_247 (by rfl) (by decide) ?_
        refine wp_goto (tgt := 19) d_98_250 (by decide) ?_
        obtain ⟨s1, s2, s3, s4, s5, s6, s7, s8, s9⟩ := E1
        refine wp_to [some (vR (some m)), some (vI t), some (vI b), some (vI lo), some (vR (some A)), some (vI (((K + 1 : Nat) : Int) + 1)), none, none, none, none, none, none, none] ⟨rfl, rfl, rfl, rfl, rfl, rfl, trivial⟩ ?_
        have en : nx g = A + 1 + (K + 1) := by omega
        refine ih (K + 1) g2 (by omega) em hs2 ?_ ?_ ?_ ?_ ?_ ?_ ?_ ?_ ?_ (fun h' q1 q2 q3 q4 q5 q6 q7 q8 q9 q10 q11 => k h' q1 ?_ ?_ ?_ (fun x hx => (F2 x hx).trans (q5 x hx)) q6 q7 q8 q9 q10 q11)
        · rw [s3, ← en]
          exact j1
        · rw [s1, ← en]
          exact j6
        · rw [s2, ← en]
          exact j7
        · rw [← en]
          exact T1
        · rw [s1]
          exact j2
        · rw [s2]
          exact j3
        · omega
        · omega
        · omega
        · omega
        · omega
        · omega
      · exact absurd c_63 (by omega)
set_option maxRecDepth 100000 in
set_option maxHeartbeats 4000000 in
theorem s_backwards {m : Nat} {t b lo n : Int} {h : Hp} (hs : Ms h m n) (hm : m + 1 < nx h) (r1 : nx h + 8 ≤ cn h) (r2 : us h + 119 ≤ cs h) : wp 98 0 (entL [vR (some m), vI t, vI b, vI lo] (mL 98)) [] h (fun v h' => v = some (vR (some (nx h))) ∧ gr 8 119 h h' ∧ kd h' (nx h) = 103 ∧ ln h' (nx h) = 7 ∧ hr h' (nx h) 6 = some (nx h + 7) ∧ kd h' (nx h + 7) = 100 ∧ ln h' (nx h + 7) = 16 ∧ ∀ k, 0 ≤ k → k < 16 → hi h' (nx h + 7) k = -268435456) noX := by
  refine wp_bipush d_98_0 (by decide) ?_
  refine wp_anewA d_98_2 cl_1_157 ca_103 (by first | omega | decide) (by first | omega | decide) (by omega) (by simp; omega) ?_
  refine wp_astore d_98_5 (by decide) ?_
  refine wp_aload d_98_7 (by rfl) ?_
  refine wp_iconst d_98_9 ?_
  refine wp_ldc (-268435456) d_98_10 ck_1_215 (by decide) ?_
  refine wp_callS d_98_12 c_98_159 rfl (by rfl) (by rfl) (by exact Nat.le_of_ble_eq_true rfl) (by exact Nat.le_of_ble_eq_true rfl) (s_row (by omega) (by rw [nx_mkO, cn_mkO]; omega) (by rw [us_mkO, cs_mkO]; simp; omega)) (fun v_12 h_12 q_12 => ?_) (fun _ _ q => q.elim)
  obtain ⟨rfl, ⟨f1, f2, f3, f4, f5⟩, f6, f7, f8⟩ := q_12
  rw [nx_mkO] at f1 f5 f6 f7 f8 ⊢
  rw [us_mkO] at f2
  rw [cn_mkO] at f3
  rw [cs_mkO] at f4
  have f2 : us h_12 = us h + 23 := by simp at f2; omega
  have F := f5 (nx h) (by omega)
  have k4 : kd h_12 (nx h) = 103 := F.1.trans (by rw [kd_mkO, up1_same])
  have l4 : ln h_12 (nx h) = 7 := F.2.1.trans (by rw [ln_mkO, up1_same])
  have F2 : ∀ x, x < nx h → eqA h h_12 x := fun x hx => (eqA_mkO hx).trans (f5 x (by omega))
  refine wp_aastA d_98_15 k4 f6 (by omega) (by omega) ?_
  refine wp_iconst d_98_16 ?_
  refine wp_istore d_98_17 (by decide) ?_
  refine wp_to [some (vR (some m)), some (vI t), some (vI b), some (vI lo), some (vR (some (nx h))), some (vI (((0 : Nat) : Int) + 1)), none, none, none, none, none, none, none] ⟨rfl, rfl, rfl, rfl, rfl, rfl, trivial⟩ ?_
  have G : ∀ x, x < nx h → eqA h (setR h_12 (nx h) 0 (some (nx h + 1))) x := fun x hx => (F2 x hx).trans (eqA_setR (by omega))
  refine l_backwards (A := nx h) (n := n) 6 0 _ rfl hm (hs.kept (G _ (by omega)) (G _ (by omega))) (by rw [hr_setR]; exact up2_same _ _ _ _) f6 f7 f8 k4 l4 f1 ?_ ?_ (fun h' q1 q2 q3 q4 q5 q6 q7 q8 q9 q10 q11 => ⟨rfl, ⟨q1, ?_, ?_, ?_, fun x hx => (G x hx).trans (q5 x hx)⟩, q6, q7, q8, q9, q10, q11⟩)
  · rw [nx_setR, cn_setR]
    omega
  · rw [us_setR, cs_setR]
    omega
  · rw [q2, us_setR]
    omega
  · rw [q3, cn_setR, f3]
  · rw [q4, cs_setR, f4]
set_option maxRecDepth 100000 in
set_option maxHeartbeats 4000000 in
theorem l_latestNow {m : Nat} {f t a n : Int} (hf : 0 ≤ f ∧ f < 16) (ha : 0 ≤ a ∧ a ≤ 500000) {Q : Option AV → Hp → Prop} : ∀ (T : Nat) (d : Int) (h : Hp), 1441 * (T : Int) - 1441 ≤ d → d < 1441 * T → -1 ≤ d → d ≤ 500000 → Ms h m n → m + 1 < nx h → nx h + 8 * T ≤ cn h → us h + 119 * T ≤ cs h → (∀ h', gr (8 * T) (119 * T) h h' → Q (some (vI (-1))) h') → wp 97 10 [some (vR (some m)), some (vI f), some (vI t), some (vI a), some (vI d), none, none, none, none, none, none] [] h Q noX := by
  intro T
  induction T with
  | zero =>
    intro d h e0 e1 e2 e3 hs hm r1 r2 k
    refine wp_iload d_97_10 (by rfl) ?_
    refine wp_if_lt (tgt := 227) d_97_12 (by decide) (by first | omega | (simp only [ln_setI, ln_cpI]; omega) | decide) (fun c_12 => ?_) (fun c_12 => ?_)
    · refine wp_iconst d_97_227 ?_
      refine wp_iret d_97_228 rfl ?_
      exact k h ⟨rfl, rfl, rfl, rfl, fun _ _ => eqA.rfl⟩
    · exact absurd c_12 (by omega)
  | succ T ih =>
    intro d h e0 e1 e2 e3 hs hm r1 r2 k
    have km0 := hs.1
    refine wp_iload d_97_10 (by rfl) ?_
    refine wp_if_lt (tgt := 227) d_97_12 (by decide) (by first | omega | (simp only [ln_setI, ln_cpI]; omega) | decide) (fun c_12 => ?_) (fun c_12 => ?_)
    · exact absurd c_12 (by omega)
    · refine wp_iconst d_97_15 ?_
      refine wp_iload d_97_16 (by rfl) ?_
      refine wp_sipush d_97_18 (by decide) ?_
      refine wp_isub d_97_21 ?_
      refine wp_callS d_97_22 c_97_138 rfl (by rfl) (by rfl) (by exact Nat.le_of_ble_eq_true rfl) (by exact Nat.le_of_ble_eq_true rfl) (s_max (by omega) (by omega)) (fun v_22 h_22 q_22 => ?_) (fun _ _ q => q.elim)
      obtain ⟨rfl, q_22⟩ := q_22
      replace q_22 := q_22.symm
      subst q_22
      refine wp_istore d_97_25 (by decide) ?_
      refine wp_iload_n d_97_27 (by rfl) ?_
      refine wp_iload d_97_28 (by rfl) ?_
      refine wp_sipush d_97_30 (by decide) ?_
      refine wp_iadd d_97_33 ?_
      refine wp_callS d_97_34 c_97_143 rfl (by rfl) (by rfl) (by exact Nat.le_of_ble_eq_true rfl) (by exact Nat.le_of_ble_eq_true rfl) (s_min (by omega) (by omega)) (fun v_34 h_34 q_34 => ?_) (fun _ _ q => q.elim)
      obtain ⟨rfl, q_34⟩ := q_34
      replace q_34 := q_34.symm
      subst q_34
      refine wp_istore d_97_37 (by decide) ?_
      refine wp_aload_n d_97_39 (by rfl) ?_
      refine wp_iload_n d_97_40 (by rfl) ?_
      refine wp_iload d_97_41 (by rfl) ?_
      refine wp_iload d_97_43 (by rfl) ?_
      refine wp_callV d_97_45 c_97_220 rfl (by rfl) (by rfl) ⟨1, rfl, rfl, by decide⟩ (by first | assumption | (simp only [kd_setI, kd_cpI]; assumption)) (by exact Nat.le_of_ble_eq_true rfl) (by exact Nat.le_of_ble_eq_true rfl) (s_backwards hs hm (by omega) (by omega)) (fun v_45 h_45 q_45 => ?_) (fun _ _ q => q.elim)
      obtain ⟨rfl, q1, q2, q3, q4, q5, q6, q7⟩ := q_45
      have F := q1.2.2.2.2
      have hs1 : Ms h_45 m n := hs.kept (F _ (by omega)) (F _ (by omega))
      have km := hs1.1
      have i3 := hs1.2.2.2.2.2.1
      have hz := q7 f hf.1 hf.2
      have nn := q1.1
      have uu := q1.2.1
      have cc := q1.2.2.1
      have dd := q1.2.2.2.1
      refine wp_bipush d_97_48 (by decide) ?_
      refine wp_aald d_97_50 (by first | omega | (simp only [kd_setI, kd_cpI]; omega)) (by first | omega | (simp only [kd_setI, kd_cpI]; omega)) (by first | (simp only [*]; rfl) | (simp only [kd_setI, kd_cpI, *]; rfl)) (by first | omega | (simp only [ln_setI, ln_cpI]; omega) | decide) (by first | omega | (simp only [ln_setI, ln_cpI]; omega) | decide) (by first | assumption | (simp only [hr_setI, hr_cpI]; assumption)) ?_
      refine wp_astore d_97_51 (by decide) ?_
      refine wp_iload d_97_53 (by rfl) ?_
      refine wp_aload d_97_55 (by rfl) ?_
      refine wp_iload_n d_97_57 (by rfl) ?_
      refine wp_iald d_97_58 (Or.inl (by first | assumption | (simp only [kd_setI, kd_cpI]; assumption))) (by first | omega | (simp only [ln_setI, ln_cpI]; omega) | decide) (by first | omega | (simp only [ln_setI, ln_cpI]; omega) | decide) (fun x_58 e_58 r_58 => ?_)
      refine wp_callS d_97_59 c_97_143 rfl (by rfl) (by rfl) (by exact Nat.le_of_ble_eq_true rfl) (by exact Nat.le_of_ble_eq_true rfl) (s_min (by omega) (by omega)) (fun v_59 h_59 q_59 => ?_) (fun _ _ q => q.elim)
      obtain ⟨rfl, q_59⟩ := q_59
      replace q_59 := q_59.symm
      subst q_59
      refine wp_istore d_97_62 (by decide) ?_
      refine wp_iconst d_97_64 ?_
      refine wp_istore d_97_65 (by decide) ?_
      refine wp_iload d_97_67 (by rfl) ?_
      refine wp_aload_n d_97_69 (by rfl) ?_
      refine wp_getI (3) d_97_70 fl_1_109 rfl rfl (by first | assumption | (simp only [kd_setI, kd_cpI]; assumption)) (fun x_70 e_70 r_70 => ?_)
      refine wp_icmp_ge (tgt := 181) d_97_73 (by decide) (by first | omega | (simp only [ln_setI, ln_cpI]; omega) | decide) (by first | omega | (simp only [ln_setI, ln_cpI]; omega) | decide) (fun c_73 => ?_) (fun c_73 => ?_)
      · refine wp_iload d_97_181 (by rfl) ?_
        refine wp_iload d_97_183 (by rfl) ?_
        refine wp_icmp_ge (tgt := 206) d_97_185 (by decide) (by first | omega | (simp only [ln_setI, ln_cpI]; omega) | decide) (by first | omega | (simp only [ln_setI, ln_cpI]; omega) | decide) (fun c_185 => ?_) (fun c_185 => ?_)
        · exact absurd c_185 (by omega)
        · refine wp_iload d_97_188 (by rfl) ?_
          refine wp_if_ne (tgt := 197) d_97_190 (by decide) (by first | omega | (simp only [ln_setI, ln_cpI]; omega) | decide) (fun c_190 => ?_) (fun c_190 => ?_)
          · refine wp_iload d_97_197 (by rfl) ?_
            refine wp_iconst d_97_199 ?_
            refine wp_isub d_97_200 ?_
            refine wp_istore d_97_201 (by decide) ?_
            refine wp_goto (tgt := 224) d_97_203 (by decide) ?_
            refine wp_goto (tgt := 10) d_97_224 (by decide) ?_
            refine wp_to [some (vR (some m)), some (vI f), some (vI t), some (vI a), some (vI (max 0 (d - 1440) - 1)), none, none, none, none, none, none] ⟨rfl, rfl, rfl, rfl, rfl, trivial⟩ ?_
            exact ih _ h_45 (by omega) (by omega) (by omega) (by omega) hs1 (by omega) (by omega) (by omega) (fun h' e => k h' (by have := q1.trans e; rw [show 8 * (T + 1) = 8 + 8 * T by omega, show 119 * (T + 1) = 119 + 119 * T by omega]; exact this))
          · refine wp_iconst d_97_193 ?_
            refine wp_goto (tgt := 201) d_97_194 (by decide) ?_
            refine wp_istore d_97_201 (by decide) ?_
            refine wp_goto (tgt := 224) d_97_203 (by decide) ?_
            refine wp_goto (tgt := 10) d_97_224 (by decide) ?_
            refine wp_to [some (vR (some m)), some (vI f), some (vI t), some (vI a), some (vI (-1)), none, none, none, none, none, none] ⟨rfl, rfl, rfl, rfl, rfl, trivial⟩ ?_
            exact ih _ h_45 (by omega) (by omega) (by omega) (by omega) hs1 (by omega) (by omega) (by omega) (fun h' e => k h' (by have := q1.trans e; rw [show 8 * (T + 1) = 8 + 8 * T by omega, show 119 * (T + 1) = 119 + 119 * T by omega]; exact this))
      · exact absurd c_73 (by omega)
set_option maxRecDepth 100000 in
set_option maxHeartbeats 4000000 in
theorem s_latestNow {m T : Nat} {f t a n : Int} {h : Hp} (hf : 0 ≤ f ∧ f < 16) (hft : f ≠ t) (ht : inR t) (ha : 0 ≤ a ∧ a ≤ 500000) (hT : 1441 * (T : Int) - 1441 ≤ a ∧ a < 1441 * T) (hs : Ms h m n) (hm : m + 1 < nx h) (r1 : nx h + 8 * T ≤ cn h) (r2 : us h + 119 * T ≤ cs h) : wp 97 0 (entL [vR (some m), vI f, vI t, vI a] (mL 97)) [] h (fun v h' => v = some (vI (-1)) ∧ gr (8 * T) (119 * T) h h') noX := by
  refine wp_iload_n d_97_0 (by rfl) ?_
  refine wp_iload_n d_97_1 (by rfl) ?_
  refine wp_icmp_ne (tgt := 7) d_97_2 (by decide) (by first | omega | (simp only [ln_setI, ln_cpI]; omega) | decide) (by first | omega | (simp only [ln_setI, ln_cpI]; omega) | decide) (fun c_2 => ?_) (fun c_2 => ?_)
  · refine wp_iload_n d_97_7 (by rfl) ?_
    refine wp_istore d_97_8 (by decide) ?_
    refine wp_to [some (vR (some m)), some (vI f), some (vI t), some (vI a), some (vI a), none, none, none, none, none, none] ⟨rfl, rfl, rfl, rfl, rfl, trivial⟩ ?_
    exact l_latestNow hf ha T a h hT.1 hT.2 (by omega) (by omega) hs hm r1 r2 (fun h' e => ⟨rfl, e⟩)
  · exact absurd c_2 (by omega)
set_option maxRecDepth 100000 in
set_option maxHeartbeats 4000000 in
theorem s_mlatest {m T : Nat} {f t a n : Int} {h : Hp} (hf : 0 ≤ f ∧ f < n) (ht : 0 ≤ t ∧ t < n) (hft : f ≠ t) (ha : 0 ≤ a ∧ a ≤ 500000) (hn : n ≤ 16) (hT : 1441 * (T : Int) - 1441 ≤ a ∧ a < 1441 * T) (hs : Ms h m n) (hm : m + 1 < nx h) (r1 : nx h + 8 * T ≤ cn h) (r2 : us h + 119 * T ≤ cs h) : wp 96 0 (entL [vR (some m), vI f, vI t, vI a] (mL 96)) [] h (fun v h' => v = some (vI (-1)) ∧ gr (8 * T) (119 * T) (setI h m 0 0) h') noX := by
  have hs1 : Ms (setI h m 0 0) m n := by
    obtain ⟨q1, q2, q3, q4, q5, q6, q7⟩ := hs
    exact ⟨q1, q2, q3, q4, by rw [hi_setI, up2_ne _ _ (by omega)]; exact q5, by rw [hi_setI, up2_ne _ _ (by omega)]; exact q6, by rw [hi_setI, up2_ne _ _ (by omega)]; exact q7⟩
  refine wp_aload_n d_96_0 (by rfl) ?_
  refine wp_aload_n d_96_1 (by rfl) ?_
  refine wp_iload_n d_96_2 (by rfl) ?_
  refine wp_iload_n d_96_3 (by rfl) ?_
  refine wp_iload_n d_96_4 (by rfl) ?_
  refine wp_callV d_96_5 c_96_184 rfl (by rfl) (by rfl) ⟨1, rfl, rfl, by decide⟩ (by first | exact hs.1 | exact hs1.1) (by exact Nat.le_of_ble_eq_true rfl) (by exact Nat.le_of_ble_eq_true rfl) (s_question hf ht ha hn hs) (fun v_5 h_5 q_5 => ?_) (fun _ _ q => q.elim)
  obtain ⟨rfl, q_5⟩ := q_5
  replace q_5 := q_5.symm
  subst q_5
  refine wp_putI (0) d_96_8 fl_1_88 rfl rfl (Or.inl (by rfl)) (by first | exact hs.1 | exact hs1.1) (by first | omega | (simp only [ln_setI, ln_cpI]; omega) | decide) (fun q => nomatch q) ?_
  refine wp_aload_n d_96_11 (by rfl) ?_
  refine wp_getI (0) d_96_12 fl_1_88 rfl rfl (by first | exact hs.1 | exact hs1.1) (fun x_12 e_12 r_12 => ?_)
  rw [hi_setI, up2_same] at e_12
  refine wp_if_eq (tgt := 22) d_96_15 (by decide) (by first | omega | (simp only [ln_setI, ln_cpI]; omega) | decide) (fun c_15 => ?_) (fun c_15 => ?_)
  · refine wp_aload_n d_96_22 (by rfl) ?_
    refine wp_iload_n d_96_23 (by rfl) ?_
    refine wp_iload_n d_96_24 (by rfl) ?_
    refine wp_iload_n d_96_25 (by rfl) ?_
    refine wp_callV d_96_26 c_96_224 rfl (by rfl) (by rfl) ⟨1, rfl, rfl, by decide⟩ (by first | exact hs.1 | exact hs1.1) (by exact Nat.le_of_ble_eq_true rfl) (by exact Nat.le_of_ble_eq_true rfl) (s_latestNow (by omega) hft (by omega) ha hT hs1 hm r1 r2) (fun v_26 h_26 q_26 => ?_) (fun _ _ q => q.elim)
    obtain ⟨rfl, q_26⟩ := q_26
    refine wp_iret d_96_29 rfl ?_
    exact ⟨rfl, q_26⟩
  · exact absurd c_15 (by omega)
set_option maxRecDepth 100000 in
set_option maxHeartbeats 4000000 in
theorem s_thrown {m : Nat} {h : Hp} (hk : kd h m = 2) : wp 50 0 (entL [vR (some m)] (mL 50)) [] h (fun v h' => v = some (vI (hi h m 0)) ∧ h' = h) noX := by
  refine wp_aload_n d_50_0 (by rfl) ?_
  refine wp_getI (0) d_50_1 fl_1_88 rfl rfl hk (fun x_1 e_1 r_1 => ?_)
  refine wp_iret d_50_4 rfl ?_
  exact ⟨congrArg (fun z => some (vI z)) e_1, rfl⟩
set_option maxRecDepth 100000 in
set_option maxHeartbeats 4000000 in
theorem s_maddStop {m : Nat} {c n : Int} {h : Hp} (hs : Ms h m n) (hn : 0 ≤ n ∧ n < 16) (hx : 0 ≤ c ∧ c ≤ 30) : wp 51 0 (entL [vR (some m), vI c] (mL 51)) [] h (fun v h' => v = some (vI n) ∧ sh (fun a => a = m ∨ a = m + 1) h h' ∧ Ms h' m (n + 1) ∧ hi h' m 0 = 0) noX := by
  obtain ⟨k2, r2, k1, l1, i1, i3, i12⟩ := hs
  refine wp_aload_n d_51_0 (by rfl) ?_
  refine wp_iconst d_51_1 ?_
  refine wp_putI (0) d_51_2 fl_1_88 rfl rfl (Or.inl (by rfl)) (by first | assumption | (simp only [kd_setI, kd_cpI]; assumption)) (by first | omega | (simp only [ln_setI, ln_cpI]; omega) | decide | (split <;> decide)) (fun q => nomatch q) ?_
  refine wp_iload_n d_51_5 (by rfl) ?_
  refine wp_iconst d_51_6 ?_
  refine wp_bipush d_51_7 (by decide) ?_
  refine wp_callS d_51_9 c_51_94 rfl (by rfl) (by rfl) (by exact Nat.le_of_ble_eq_true rfl) (by exact Nat.le_of_ble_eq_true rfl) (s_isIn (by omega) (by omega) (by omega)) (fun v_9 h_9 q_9 => ?_) (fun _ _ q => q.elim)
  obtain ⟨rfl, q_9⟩ := q_9
  replace q_9 := q_9.symm
  subst q_9
  refine wp_if_ne (tgt := 21) d_51_12 (by decide) (by first | omega | (simp only [ln_setI, ln_cpI]; omega) | decide | (split <;> decide)) (fun c_12 => ?_) (fun c_12 => ?_)
  · refine wp_aload_n d_51_21 (by rfl) ?_
    refine wp_getI (1) d_51_22 fl_1_91 rfl rfl (by first | assumption | (simp only [kd_setI, kd_cpI]; assumption)) (fun x_22 e_22 r_22 => ?_)
    rw [hi_setI, up2_ne _ _ (by omega)] at e_22
    refine wp_bipush d_51_25 (by decide) ?_
    refine wp_icmp_ne (tgt := 36) d_51_27 (by decide) (by first | omega | (simp only [ln_setI, ln_cpI]; omega) | decide | (split <;> decide)) (by first | omega | (simp only [ln_setI, ln_cpI]; omega) | decide | (split <;> decide)) (fun c_27 => ?_) (fun c_27 => ?_)
    · refine wp_aload_n d_51_36 (by rfl) ?_
      refine wp_getR (2) d_51_37 fl_1_9 rfl rfl (by first | assumption | (simp only [kd_setI, kd_cpI]; assumption)) (by first | assumption | (simp only [hr_setI, hr_cpI]; assumption)) ?_
      refine wp_aload_n d_51_40 (by rfl) ?_
      refine wp_getI (1) d_51_41 fl_1_91 rfl rfl (by first | assumption | (simp only [kd_setI, kd_cpI]; assumption)) (fun x_41 e_41 r_41 => ?_)
      rw [hi_setI, up2_ne _ _ (by omega)] at e_41
      refine wp_iload_n d_51_44 (by rfl) ?_
      refine wp_iast d_51_45 (by first | assumption | (simp only [kd_setI, kd_cpI]; assumption)) (by first | omega | (simp only [ln_setI, ln_cpI]; omega) | decide | (split <;> decide)) (by first | omega | (simp only [ln_setI, ln_cpI]; omega) | decide | (split <;> decide)) (by first | omega | (simp only [ln_setI, ln_cpI]; omega) | decide | (split <;> decide)) ?_
      refine wp_aload_n d_51_46 (by rfl) ?_
      refine wp_dup d_51_47 (by rfl) ?_
      refine wp_getI (1) d_51_48 fl_1_91 rfl rfl (by first | assumption | (simp only [kd_setI, kd_cpI]; assumption)) (fun x_48 e_48 r_48 => ?_)
      rw [hi_setI, up2_ne _ _ (by omega), hi_setI, up2_ne _ _ (by omega)] at e_48
      refine wp_dup_x1 d_51_51 (by rfl) (by rfl) ?_
      refine wp_iconst d_51_52 ?_
      refine wp_iadd d_51_53 ?_
      refine wp_putI (1) d_51_54 fl_1_91 rfl rfl (Or.inl (by rfl)) (by first | assumption | (simp only [kd_setI, kd_cpI]; assumption)) (by first | omega | (simp only [ln_setI, ln_cpI]; omega) | decide | (split <;> decide)) (fun q => nomatch q) ?_
      refine wp_iret d_51_57 rfl ?_
      refine ⟨congrArg (fun z => some (vI z)) (by omega), ((sh_setI (P := fun a => a = m ∨ a = m + 1) (Or.inl rfl)).trans (sh_setI (P := fun a => a = m ∨ a = m + 1) (Or.inr rfl))).trans (sh_setI (P := fun a => a = m ∨ a = m + 1) (Or.inl rfl)), ⟨k2, r2, k1, l1, ?_, ?_, ?_⟩, ?_⟩
      · rw [hi_setI, up2_same]
        omega
      · rw [hi_setI, up2_ne _ _ (by omega), hi_setI, up2_ne _ _ (by omega), hi_setI, up2_ne _ _ (by omega)]
        exact i3
      · rw [hi_setI, up2_ne _ _ (by omega), hi_setI, up2_ne _ _ (by omega), hi_setI, up2_ne _ _ (by omega)]
        exact i12
      · rw [hi_setI, up2_ne _ _ (by omega), hi_setI, up2_ne _ _ (by omega), hi_setI, up2_same]
    · exact absurd c_27 (by omega)
  · exact absurd c_12 (by rw [if_pos hx]; decide)
end
section
/-! ===== THE LOGIC, part 7: a static call of a method with an exception table that doesn't throw ===== -/
/-- a call of method j (with a table) at the pool's place idx out of method i, n arguments -/
def cswP (i idx j n : Nat) (hh : List (Nat × Nat × Nat × Nat)) : Prop := okw (.codeWith (mY j) (mB j) (mL j) (mR j) hh) ∧ mX j = tableOf hh ∧ plainName (mY j).cls = true ∧ ((mY j).cls ≠ "java/lang/invoke/MethodHandle" ∧ (mY j).cls ≠ "java/lang/invoke/VarHandle") ∧ okw (.initialized (mY j).cls) ∧ okw (.methodLink (mY i).cls idx (mY j)) ∧ okw (.static (mY j)) ∧ (parseMethodDescriptor (mY j).desc).map (fun d => d.parameters.length) = some n ∧ (mF j + 1 ≤ mF i ∧ 8 + (mL j + 11) + mK j ≤ mK i)
theorem wp_metW {l : Launch} (hfl : l.flags = flags0) {j : Nat} {as : List AV} {h : Hp} {Q : Option AV → Hp → Prop} {hh : List (Nat × Nat × Nat × Nat)} (D : va_G) (DA : Nat → ClassId) (B0 CN CS : Nat) (hcw : okw (.codeWith (mY j) (mB j) (mL j) (mR j) hh)) (hmx : mX j = tableOf hh) (hpl : plainName (mY j).cls = true) (hsl : (lg_sl (as.map conc)).length ≤ mL j) (k : wp j 0 (entL as (mL j)) [] h Q noX) :
    Met l (mY j) [Cond.codeWith (mY j) (mB j) (mL j) (mR j) hh] (rmA j CN CS h) (PcA D DA B0 CN CS as h) (QcA D DA B0 CN CS Q) (CN - nx h) (CS - us h) (fun q => B0 ≤ q) := by
  refine va_MetW (cc := mB j) (maxL := mL j) (ret := mR j) hpl rfl ?_
  intro p e s m args below meth c s₁ B hml hp
  have htab : c.exceptionTable.toList = tableOf hh := vx_table (x := mY j) B (atoms_spec (ws := [Cond.codeWith (mY j) (mB j) (mL j) (mR j) hh]) B.pre _ List.mem_cons_self)
  obtain ⟨rfl, h2, h3, h4, h5⟩ := hp
  have hx := B.exec
  have hb := B.bytes
  have hr := B.returns
  have hown : s.vm.findClass (mY j).cls = some m.cls := findClass_of_methodNamed B.named
  have hname : meth.name = (mY j).name := (name_of_methodNamed B.named B.method).1
  have hsz := h5.1
  have hss := h5.2.1
  have hB0 := h5.2.2.2.2.2.2.1
  rw [lg_entry_eq]
  have hl := lrel.entry (as := as) hsl
  have hE : En j D DA B0 CN CS p (rmA j CN CS h) s m meth c s.heap [] _ (entL as (mL j)) h :=
    ⟨⟨hx, hb, hml, hr, B.notSynchronized, hown, hname, h2, h3, h4, Nat.le_refl _, Nat.le_refl _, by rw [htab, hmx]⟩, h5, hl, (fun q hq => nomatch hq), Nat.le_refl _, Nat.le_refl _, (by rw [hsz]; rfl), (by rw [hss]; rfl), (by rw [hsz]; exact hB0)⟩
  refine W_mono (fun t ht => ?_) (W_tight (k D DA B0 CN CS p l e (rmA j CN CS h) s m _ below meth c s.heap [] _ hfl hE))
  obtain ⟨o, g1, g2, g3⟩ := ht
  rcases g3 with g3 | ⟨q, -, g3⟩
  · exact ⟨o, g1, g2, g3.1, g3.2⟩
  · obtain ⟨E, L, ce, ⟨h', hf, -⟩, -⟩ := g3
    exact hf.elim
section HE
variable {i pc : Nat} {ls : List (Option AV)} {st : List AV} {h : Hp} {Q : Option AV → Hp → Prop} {X : String → Hp → Prop}
theorem wp_callSW {idx j n : Nat} {as : List AV} {Qj : Option AV → Hp → Prop} {hh : List (Nat × Nat × Nat × Nat)} (hd : decode (mB i) pc = .ok (.invokestatic idx, 3)) (hc : cswP i idx j n hh) {st0 : List AV} (hs : st0 = as.reverse ++ st) (hn : as.length = n)
    (hsl : (as.flatMap fun v => if cat2 v = true then [some v, none] else [some v]).length ≤ mL j) (hst : (st.map fun v => if cat2 v = true then 2 else 1).sum ≤ 8)
    (hb : wp j 0 (entL as (mL j)) [] h Qj noX) (kk : ∀ v h', Qj v h' → wp i (pc + 3) ls (v.toList ++ st) h' Q X) : wp i pc ls st0 h Q X := by
  intro D DA B0 CN CS p l e R s m args below meth c H locs ls' hfl hE
  obtain ⟨hcw, hmx, hpl, hmh, hini, hl, hstt, hlen, hroom⟩ := hc
  obtain ⟨hx, hbb, hml, -, -, hown, -, hok, hK, hA, hfr, hlo, -⟩ := hE.1
  have hroom' : mF j + 1 ≤ R.frames ∧ 8 + (mL j + 11) + mK j ≤ R.locals := ⟨by omega, by omega⟩
  have hM := wp_metW hfl D DA B0 CN CS hcw hmx hpl (by rw [lg_sl_le]; exact hsl) hb
  have hcat : ((st.map conc).map fun v => v.category).sum ≤ 8 := by
    rw [List.map_map]
    have : (st.map ((fun v => v.category) ∘ conc)) = st.map fun v => if cat2 v = true then 2 else 1 := by
      apply List.map_congr_left
      intro v _
      exact conc_cat v
    rw [this]
    exact hst
  have hrun := vx_runSW (p := p) (l := l) (e := e) (R := R) (s := s) (m := m) (args := args) (below := below) (meth := meth) (c := c) (H := H) (locs := locs) (cells := H.size - s.heap.size) (slots := ssum H - ssum s.heap) (Ts := []) (own := (mY i).cls) (cc := mB i) (nL := mL i) (hh := hh) (rest := st.map conc) (As := as.map conc) (g := F0 m pc ls' (st0.map conc)) ⟨hx, hbb, hml, hown, fun _ h => by cases h⟩ hM (index := idx) (bytes := mB j) (maxL := mL j) (ret := mR j) (n := n)
    ⟨⟨rfl, rfl, hroom'.1, hroom'.2, (fun w hw a' U hW => by
      have := List.mem_singleton.mp hw
      subst this
      exact okS_warm hW hok _ hcw _), List.mem_cons_self⟩, hok _ hcw _, hok _ hini _, hmh, (fun sig h => by
      rw [h] at hlen
      exact (Option.some.inj hlen).symm), hok _ hl _, hok _ hstt _⟩
    ⟨PcA_blind _ _ _ _ _ _ _, PcA_of hE as⟩ rfl (by rw [List.length_map]; exact hn) hE.2.2.1.1 (by rw [hs]; simp) (lv_room hcat) hd hE.cap
  exact wp_after (Xj := noX) hfl hE (fun T hT XX => Or.inl (hrun T hT XX)) kk (fun _ _ (q : False) => q.elim)
end HE
end
section
/-! ===== rows of the law (its calls of addStop and latest) ===== -/
set_option maxRecDepth 100000 in
theorem c_181_7 : cvP 181 7 13 1 := ⟨cd_13, okk_w (k := 518) (by decide +kernel), okk_w (k := 519) (by decide +kernel), okk_w (k := 520) (by decide +kernel), by decide +kernel, by decide +kernel⟩
set_option maxRecDepth 100000 in
theorem d_181_0 : decode (mB 181) 0 = .ok (.aload_n 2, 1) := by decide +kernel
set_option maxRecDepth 100000 in
theorem d_181_1 : decode (mB 181) 1 = .ok (.iconst 0, 1) := by decide +kernel
set_option maxRecDepth 100000 in
theorem d_181_2 : decode (mB 181) 2 = .ok (.aload_n 0, 1) := by decide +kernel
set_option maxRecDepth 100000 in
theorem d_181_3 : decode (mB 181) 3 = .ok (.iload_n 1, 1) := by decide +kernel
set_option maxRecDepth 100000 in
theorem d_181_4 : decode (mB 181) 4 = .ok (.invokevirtual 7, 3) := by decide +kernel
set_option maxRecDepth 100000 in
theorem d_181_7 : decode (mB 181) 7 = .ok (.i2l, 1) := by decide +kernel
set_option maxRecDepth 100000 in
theorem d_181_8 : decode (mB 181) 8 = .ok (.lastore, 1) := by decide +kernel
set_option maxRecDepth 100000 in
theorem d_181_9 : decode (mB 181) 9 = .ok (.goto 9, 3) := by decide +kernel
set_option maxRecDepth 100000 in
theorem d_181_12 : decode (mB 181) 12 = .ok (.astore_n 3, 1) := by decide +kernel
set_option maxRecDepth 100000 in
theorem d_181_13 : decode (mB 181) 13 = .ok (.iconst 1, 1) := by decide +kernel
set_option maxRecDepth 100000 in
theorem d_181_14 : decode (mB 181) 14 = .ok (.ireturn, 1) := by decide +kernel
set_option maxRecDepth 100000 in
theorem d_181_15 : decode (mB 181) 15 = .ok (.astore_n 3, 1) := by decide +kernel
set_option maxRecDepth 100000 in
theorem d_181_16 : decode (mB 181) 16 = .ok (.iconst 2, 1) := by decide +kernel
set_option maxRecDepth 100000 in
theorem d_181_17 : decode (mB 181) 17 = .ok (.ireturn, 1) := by decide +kernel
set_option maxRecDepth 100000 in
theorem d_181_18 : decode (mB 181) 18 = .ok (.iconst 0, 1) := by decide +kernel
set_option maxRecDepth 100000 in
theorem d_181_19 : decode (mB 181) 19 = .ok (.ireturn, 1) := by decide +kernel
set_option maxRecDepth 100000 in
theorem c_201_81 : cvP 201 81 37 3 := ⟨cd_37, okk_w (k := 972) (by decide +kernel), okk_w (k := 973) (by decide +kernel), okk_w (k := 974) (by decide +kernel), by decide +kernel, by decide +kernel⟩
set_option maxRecDepth 100000 in
theorem d_201_0 : decode (mB 201) 0 = .ok (.aload 4, 2) := by decide +kernel
set_option maxRecDepth 100000 in
theorem d_201_2 : decode (mB 201) 2 = .ok (.iconst 0, 1) := by decide +kernel
set_option maxRecDepth 100000 in
theorem d_201_3 : decode (mB 201) 3 = .ok (.aload_n 0, 1) := by decide +kernel
set_option maxRecDepth 100000 in
theorem d_201_4 : decode (mB 201) 4 = .ok (.iload_n 1, 1) := by decide +kernel
set_option maxRecDepth 100000 in
theorem d_201_5 : decode (mB 201) 5 = .ok (.iload_n 2, 1) := by decide +kernel
set_option maxRecDepth 100000 in
theorem d_201_6 : decode (mB 201) 6 = .ok (.iload_n 3, 1) := by decide +kernel
set_option maxRecDepth 100000 in
theorem d_201_7 : decode (mB 201) 7 = .ok (.invokevirtual 81, 3) := by decide +kernel
set_option maxRecDepth 100000 in
theorem d_201_10 : decode (mB 201) 10 = .ok (.i2l, 1) := by decide +kernel
set_option maxRecDepth 100000 in
theorem d_201_11 : decode (mB 201) 11 = .ok (.lastore, 1) := by decide +kernel
set_option maxRecDepth 100000 in
theorem d_201_12 : decode (mB 201) 12 = .ok (.goto 11, 3) := by decide +kernel
set_option maxRecDepth 100000 in
theorem d_201_15 : decode (mB 201) 15 = .ok (.astore 5, 2) := by decide +kernel
set_option maxRecDepth 100000 in
theorem d_201_17 : decode (mB 201) 17 = .ok (.iconst 1, 1) := by decide +kernel
set_option maxRecDepth 100000 in
theorem d_201_18 : decode (mB 201) 18 = .ok (.ireturn, 1) := by decide +kernel
set_option maxRecDepth 100000 in
theorem d_201_19 : decode (mB 201) 19 = .ok (.astore 5, 2) := by decide +kernel
set_option maxRecDepth 100000 in
theorem d_201_21 : decode (mB 201) 21 = .ok (.iconst 2, 1) := by decide +kernel
set_option maxRecDepth 100000 in
theorem d_201_22 : decode (mB 201) 22 = .ok (.ireturn, 1) := by decide +kernel
set_option maxRecDepth 100000 in
theorem d_201_23 : decode (mB 201) 23 = .ok (.iconst 0, 1) := by decide +kernel
set_option maxRecDepth 100000 in
theorem d_201_24 : decode (mB 201) 24 = .ok (.ireturn, 1) := by decide +kernel
set_option maxRecDepth 100000 in
theorem cl_13_8 : okw (.classLink "WhistleStopLaw" 8 "WhistleStop") := okk_w (k := 80) (by decide +kernel)
set_option maxRecDepth 100000 in
theorem c_212_116 : ciP 212 116 0 0 := ⟨cd_0, okk_w (k := 82) (by decide +kernel), okk_w (k := 83) (by decide +kernel), by decide +kernel, by decide +kernel, by decide +kernel⟩
set_option maxRecDepth 100000 in
theorem cl_13_117 : okw (.classLink "WhistleStopLaw" 117 "WhistleStopModel") := okk_w (k := 1124) (by decide +kernel)
set_option maxRecDepth 100000 in
theorem c_212_119 : ciP 212 119 49 0 := ⟨cd_49, okk_w (k := 1126) (by decide +kernel), okk_w (k := 1127) (by decide +kernel), by decide +kernel, by decide +kernel, by decide +kernel⟩
set_option maxRecDepth 100000 in
theorem c_212_125 : cvP 212 125 51 1 := ⟨cd_51, okk_w (k := 1253) (by decide +kernel), okk_w (k := 1254) (by decide +kernel), okk_w (k := 1255) (by decide +kernel), by decide +kernel, by decide +kernel⟩
set_option maxRecDepth 100000 in
theorem c_212_126 : cvP 212 126 50 0 := ⟨cd_50, okk_w (k := 1249) (by decide +kernel), okk_w (k := 1250) (by decide +kernel), okk_w (k := 1251) (by decide +kernel), by decide +kernel, by decide +kernel⟩
set_option maxRecDepth 100000 in
theorem c_212_200 : cvP 212 200 96 3 := ⟨cd_96, okk_w (k := 1434) (by decide +kernel), okk_w (k := 1435) (by decide +kernel), okk_w (k := 1436) (by decide +kernel), by decide +kernel, by decide +kernel⟩
set_option maxRecDepth 100000 in
theorem d_212_0 : decode (mB 212) 0 = .ok (.new 8, 3) := by decide +kernel
set_option maxRecDepth 100000 in
theorem d_212_3 : decode (mB 212) 3 = .ok (.dup, 1) := by decide +kernel
set_option maxRecDepth 100000 in
theorem d_212_4 : decode (mB 212) 4 = .ok (.invokespecial 116, 3) := by decide +kernel
set_option maxRecDepth 100000 in
theorem d_212_7 : decode (mB 212) 7 = .ok (.astore_n 1, 1) := by decide +kernel
set_option maxRecDepth 100000 in
theorem d_212_8 : decode (mB 212) 8 = .ok (.new 117, 3) := by decide +kernel
set_option maxRecDepth 100000 in
theorem d_212_11 : decode (mB 212) 11 = .ok (.dup, 1) := by decide +kernel
set_option maxRecDepth 100000 in
theorem d_212_12 : decode (mB 212) 12 = .ok (.invokespecial 119, 3) := by decide +kernel
set_option maxRecDepth 100000 in
theorem d_212_15 : decode (mB 212) 15 = .ok (.astore_n 2, 1) := by decide +kernel
set_option maxRecDepth 100000 in
theorem d_212_16 : decode (mB 212) 16 = .ok (.iconst 1, 1) := by decide +kernel
set_option maxRecDepth 100000 in
theorem d_212_17 : decode (mB 212) 17 = .ok (.newarray .long, 2) := by decide +kernel
set_option maxRecDepth 100000 in
theorem d_212_19 : decode (mB 212) 19 = .ok (.astore_n 3, 1) := by decide +kernel
set_option maxRecDepth 100000 in
theorem d_212_20 : decode (mB 212) 20 = .ok (.iconst 0, 1) := by decide +kernel
set_option maxRecDepth 100000 in
theorem d_212_21 : decode (mB 212) 21 = .ok (.istore 4, 2) := by decide +kernel
set_option maxRecDepth 100000 in
theorem d_212_23 : decode (mB 212) 23 = .ok (.iload 4, 2) := by decide +kernel
set_option maxRecDepth 100000 in
theorem d_212_25 : decode (mB 212) 25 = .ok (.aload_n 0, 1) := by decide +kernel
set_option maxRecDepth 100000 in
theorem d_212_26 : decode (mB 212) 26 = .ok (.arraylength, 1) := by decide +kernel
set_option maxRecDepth 100000 in
theorem d_212_27 : decode (mB 212) 27 = .ok (.iconst 5, 1) := by decide +kernel
set_option maxRecDepth 100000 in
theorem d_212_28 : decode (mB 212) 28 = .ok (.isub, 1) := by decide +kernel
set_option maxRecDepth 100000 in
theorem d_212_29 : decode (mB 212) 29 = .ok (.if_icmp .gt 2515, 3) := by decide +kernel
set_option maxRecDepth 100000 in
theorem d_212_32 : decode (mB 212) 32 = .ok (.aload_n 0, 1) := by decide +kernel
set_option maxRecDepth 100000 in
theorem d_212_33 : decode (mB 212) 33 = .ok (.iload 4, 2) := by decide +kernel
set_option maxRecDepth 100000 in
theorem d_212_35 : decode (mB 212) 35 = .ok (.iaload, 1) := by decide +kernel
set_option maxRecDepth 100000 in
theorem d_212_36 : decode (mB 212) 36 = .ok (.bipush 63, 2) := by decide +kernel
set_option maxRecDepth 100000 in
theorem d_212_38 : decode (mB 212) 38 = .ok (.iand, 1) := by decide +kernel
set_option maxRecDepth 100000 in
theorem d_212_39 : decode (mB 212) 39 = .ok (.tableswitch 2499 0 35 #[157, 213, 281, 361, 441, 544, 619, 711, 803, 816, 829, 885, 953, 1033, 1108, 1176, 1244, 1324, 1404, 1484, 1576, 1656, 1748, 1828, 1908, 1988, 2001, 2057, 2113, 2169, 2225, 2269, 2313, 2364, 2444, 2485], 157) := by decide +kernel
set_option maxRecDepth 100000 in
theorem d_212_196 : decode (mB 212) 196 = .ok (.aload_n 1, 1) := by decide +kernel
set_option maxRecDepth 100000 in
theorem d_212_197 : decode (mB 212) 197 = .ok (.aload_n 0, 1) := by decide +kernel
set_option maxRecDepth 100000 in
theorem d_212_198 : decode (mB 212) 198 = .ok (.iload 4, 2) := by decide +kernel
set_option maxRecDepth 100000 in
theorem d_212_200 : decode (mB 212) 200 = .ok (.iconst 1, 1) := by decide +kernel
set_option maxRecDepth 100000 in
theorem d_212_201 : decode (mB 212) 201 = .ok (.iadd, 1) := by decide +kernel
set_option maxRecDepth 100000 in
theorem d_212_202 : decode (mB 212) 202 = .ok (.iaload, 1) := by decide +kernel
set_option maxRecDepth 100000 in
theorem d_212_203 : decode (mB 212) 203 = .ok (.aload_n 3, 1) := by decide +kernel
set_option maxRecDepth 100000 in
theorem d_212_204 : decode (mB 212) 204 = .ok (.invokestatic 120, 3) := by decide +kernel
set_option maxRecDepth 100000 in
theorem d_212_207 : decode (mB 212) 207 = .ok (.istore 5, 2) := by decide +kernel
set_option maxRecDepth 100000 in
theorem d_212_209 : decode (mB 212) 209 = .ok (.aload_n 2, 1) := by decide +kernel
set_option maxRecDepth 100000 in
theorem d_212_210 : decode (mB 212) 210 = .ok (.aload_n 0, 1) := by decide +kernel
set_option maxRecDepth 100000 in
theorem d_212_211 : decode (mB 212) 211 = .ok (.iload 4, 2) := by decide +kernel
set_option maxRecDepth 100000 in
theorem d_212_213 : decode (mB 212) 213 = .ok (.iconst 1, 1) := by decide +kernel
set_option maxRecDepth 100000 in
theorem d_212_214 : decode (mB 212) 214 = .ok (.iadd, 1) := by decide +kernel
set_option maxRecDepth 100000 in
theorem d_212_215 : decode (mB 212) 215 = .ok (.iaload, 1) := by decide +kernel
set_option maxRecDepth 100000 in
theorem d_212_216 : decode (mB 212) 216 = .ok (.invokevirtual 125, 3) := by decide +kernel
set_option maxRecDepth 100000 in
theorem d_212_219 : decode (mB 212) 219 = .ok (.istore 6, 2) := by decide +kernel
set_option maxRecDepth 100000 in
theorem d_212_221 : decode (mB 212) 221 = .ok (.aload_n 2, 1) := by decide +kernel
set_option maxRecDepth 100000 in
theorem d_212_222 : decode (mB 212) 222 = .ok (.invokevirtual 126, 3) := by decide +kernel
set_option maxRecDepth 100000 in
theorem d_212_225 : decode (mB 212) 225 = .ok (.iload 5, 2) := by decide +kernel
set_option maxRecDepth 100000 in
theorem d_212_227 : decode (mB 212) 227 = .ok (.if_icmp .eq 5, 3) := by decide +kernel
set_option maxRecDepth 100000 in
theorem d_212_230 : decode (mB 212) 230 = .ok (.iconst 0, 1) := by decide +kernel
set_option maxRecDepth 100000 in
theorem d_212_231 : decode (mB 212) 231 = .ok (.ireturn, 1) := by decide +kernel
set_option maxRecDepth 100000 in
theorem d_212_232 : decode (mB 212) 232 = .ok (.iload 5, 2) := by decide +kernel
set_option maxRecDepth 100000 in
theorem d_212_234 : decode (mB 212) 234 = .ok (.ifCond .ne 15, 3) := by decide +kernel
set_option maxRecDepth 100000 in
theorem d_212_237 : decode (mB 212) 237 = .ok (.aload_n 3, 1) := by decide +kernel
set_option maxRecDepth 100000 in
theorem d_212_238 : decode (mB 212) 238 = .ok (.iconst 0, 1) := by decide +kernel
set_option maxRecDepth 100000 in
theorem d_212_239 : decode (mB 212) 239 = .ok (.laload, 1) := by decide +kernel
set_option maxRecDepth 100000 in
theorem d_212_240 : decode (mB 212) 240 = .ok (.iload 6, 2) := by decide +kernel
set_option maxRecDepth 100000 in
theorem d_212_242 : decode (mB 212) 242 = .ok (.i2l, 1) := by decide +kernel
set_option maxRecDepth 100000 in
theorem d_212_243 : decode (mB 212) 243 = .ok (.lcmp, 1) := by decide +kernel
set_option maxRecDepth 100000 in
theorem d_212_244 : decode (mB 212) 244 = .ok (.ifCond .eq 5, 3) := by decide +kernel
set_option maxRecDepth 100000 in
theorem d_212_247 : decode (mB 212) 247 = .ok (.iconst 0, 1) := by decide +kernel
set_option maxRecDepth 100000 in
theorem d_212_248 : decode (mB 212) 248 = .ok (.ireturn, 1) := by decide +kernel
set_option maxRecDepth 100000 in
theorem d_212_249 : decode (mB 212) 249 = .ok (.goto 2289, 3) := by decide +kernel
set_option maxRecDepth 100000 in
theorem d_212_1787 : decode (mB 212) 1787 = .ok (.aload_n 1, 1) := by decide +kernel
set_option maxRecDepth 100000 in
theorem d_212_1788 : decode (mB 212) 1788 = .ok (.aload_n 0, 1) := by decide +kernel
set_option maxRecDepth 100000 in
theorem d_212_1789 : decode (mB 212) 1789 = .ok (.iload 4, 2) := by decide +kernel
set_option maxRecDepth 100000 in
theorem d_212_1791 : decode (mB 212) 1791 = .ok (.iconst 1, 1) := by decide +kernel
set_option maxRecDepth 100000 in
theorem d_212_1792 : decode (mB 212) 1792 = .ok (.iadd, 1) := by decide +kernel
set_option maxRecDepth 100000 in
theorem d_212_1793 : decode (mB 212) 1793 = .ok (.iaload, 1) := by decide +kernel
set_option maxRecDepth 100000 in
theorem d_212_1794 : decode (mB 212) 1794 = .ok (.aload_n 0, 1) := by decide +kernel
set_option maxRecDepth 100000 in
theorem d_212_1795 : decode (mB 212) 1795 = .ok (.iload 4, 2) := by decide +kernel
set_option maxRecDepth 100000 in
theorem d_212_1797 : decode (mB 212) 1797 = .ok (.iconst 2, 1) := by decide +kernel
set_option maxRecDepth 100000 in
theorem d_212_1798 : decode (mB 212) 1798 = .ok (.iadd, 1) := by decide +kernel
set_option maxRecDepth 100000 in
theorem d_212_1799 : decode (mB 212) 1799 = .ok (.iaload, 1) := by decide +kernel
set_option maxRecDepth 100000 in
theorem d_212_1800 : decode (mB 212) 1800 = .ok (.aload_n 0, 1) := by decide +kernel
set_option maxRecDepth 100000 in
theorem d_212_1801 : decode (mB 212) 1801 = .ok (.iload 4, 2) := by decide +kernel
set_option maxRecDepth 100000 in
theorem d_212_1803 : decode (mB 212) 1803 = .ok (.iconst 3, 1) := by decide +kernel
set_option maxRecDepth 100000 in
theorem d_212_1804 : decode (mB 212) 1804 = .ok (.iadd, 1) := by decide +kernel
set_option maxRecDepth 100000 in
theorem d_212_1805 : decode (mB 212) 1805 = .ok (.iaload, 1) := by decide +kernel
set_option maxRecDepth 100000 in
theorem d_212_1806 : decode (mB 212) 1806 = .ok (.aload_n 3, 1) := by decide +kernel
set_option maxRecDepth 100000 in
theorem d_212_1807 : decode (mB 212) 1807 = .ok (.invokestatic 198, 3) := by decide +kernel
set_option maxRecDepth 100000 in
theorem d_212_1810 : decode (mB 212) 1810 = .ok (.istore 5, 2) := by decide +kernel
set_option maxRecDepth 100000 in
theorem d_212_1812 : decode (mB 212) 1812 = .ok (.aload_n 2, 1) := by decide +kernel
set_option maxRecDepth 100000 in
theorem d_212_1813 : decode (mB 212) 1813 = .ok (.aload_n 0, 1) := by decide +kernel
set_option maxRecDepth 100000 in
theorem d_212_1814 : decode (mB 212) 1814 = .ok (.iload 4, 2) := by decide +kernel
set_option maxRecDepth 100000 in
theorem d_212_1816 : decode (mB 212) 1816 = .ok (.iconst 1, 1) := by decide +kernel
set_option maxRecDepth 100000 in
theorem d_212_1817 : decode (mB 212) 1817 = .ok (.iadd, 1) := by decide +kernel
set_option maxRecDepth 100000 in
theorem d_212_1818 : decode (mB 212) 1818 = .ok (.iaload, 1) := by decide +kernel
set_option maxRecDepth 100000 in
theorem d_212_1819 : decode (mB 212) 1819 = .ok (.aload_n 0, 1) := by decide +kernel
set_option maxRecDepth 100000 in
theorem d_212_1820 : decode (mB 212) 1820 = .ok (.iload 4, 2) := by decide +kernel
set_option maxRecDepth 100000 in
theorem d_212_1822 : decode (mB 212) 1822 = .ok (.iconst 2, 1) := by decide +kernel
set_option maxRecDepth 100000 in
theorem d_212_1823 : decode (mB 212) 1823 = .ok (.iadd, 1) := by decide +kernel
set_option maxRecDepth 100000 in
theorem d_212_1824 : decode (mB 212) 1824 = .ok (.iaload, 1) := by decide +kernel
set_option maxRecDepth 100000 in
theorem d_212_1825 : decode (mB 212) 1825 = .ok (.aload_n 0, 1) := by decide +kernel
set_option maxRecDepth 100000 in
theorem d_212_1826 : decode (mB 212) 1826 = .ok (.iload 4, 2) := by decide +kernel
set_option maxRecDepth 100000 in
theorem d_212_1828 : decode (mB 212) 1828 = .ok (.iconst 3, 1) := by decide +kernel
set_option maxRecDepth 100000 in
theorem d_212_1829 : decode (mB 212) 1829 = .ok (.iadd, 1) := by decide +kernel
set_option maxRecDepth 100000 in
theorem d_212_1830 : decode (mB 212) 1830 = .ok (.iaload, 1) := by decide +kernel
set_option maxRecDepth 100000 in
theorem d_212_1831 : decode (mB 212) 1831 = .ok (.invokevirtual 200, 3) := by decide +kernel
set_option maxRecDepth 100000 in
theorem d_212_1834 : decode (mB 212) 1834 = .ok (.istore 6, 2) := by decide +kernel
set_option maxRecDepth 100000 in
theorem d_212_1836 : decode (mB 212) 1836 = .ok (.aload_n 2, 1) := by decide +kernel
set_option maxRecDepth 100000 in
theorem d_212_1837 : decode (mB 212) 1837 = .ok (.invokevirtual 126, 3) := by decide +kernel
set_option maxRecDepth 100000 in
theorem d_212_1840 : decode (mB 212) 1840 = .ok (.iload 5, 2) := by decide +kernel
set_option maxRecDepth 100000 in
theorem d_212_1842 : decode (mB 212) 1842 = .ok (.if_icmp .eq 5, 3) := by decide +kernel
set_option maxRecDepth 100000 in
theorem d_212_1845 : decode (mB 212) 1845 = .ok (.iconst 0, 1) := by decide +kernel
set_option maxRecDepth 100000 in
theorem d_212_1846 : decode (mB 212) 1846 = .ok (.ireturn, 1) := by decide +kernel
set_option maxRecDepth 100000 in
theorem d_212_1847 : decode (mB 212) 1847 = .ok (.iload 5, 2) := by decide +kernel
set_option maxRecDepth 100000 in
theorem d_212_1849 : decode (mB 212) 1849 = .ok (.ifCond .ne 15, 3) := by decide +kernel
set_option maxRecDepth 100000 in
theorem d_212_1852 : decode (mB 212) 1852 = .ok (.aload_n 3, 1) := by decide +kernel
set_option maxRecDepth 100000 in
theorem d_212_1853 : decode (mB 212) 1853 = .ok (.iconst 0, 1) := by decide +kernel
set_option maxRecDepth 100000 in
theorem d_212_1854 : decode (mB 212) 1854 = .ok (.laload, 1) := by decide +kernel
set_option maxRecDepth 100000 in
theorem d_212_1855 : decode (mB 212) 1855 = .ok (.iload 6, 2) := by decide +kernel
set_option maxRecDepth 100000 in
theorem d_212_1857 : decode (mB 212) 1857 = .ok (.i2l, 1) := by decide +kernel
set_option maxRecDepth 100000 in
theorem d_212_1858 : decode (mB 212) 1858 = .ok (.lcmp, 1) := by decide +kernel
set_option maxRecDepth 100000 in
theorem d_212_1859 : decode (mB 212) 1859 = .ok (.ifCond .eq 5, 3) := by decide +kernel
set_option maxRecDepth 100000 in
theorem d_212_1862 : decode (mB 212) 1862 = .ok (.iconst 0, 1) := by decide +kernel
set_option maxRecDepth 100000 in
theorem d_212_1863 : decode (mB 212) 1863 = .ok (.ireturn, 1) := by decide +kernel
set_option maxRecDepth 100000 in
theorem d_212_1864 : decode (mB 212) 1864 = .ok (.goto 674, 3) := by decide +kernel
set_option maxRecDepth 100000 in
theorem d_212_2538 : decode (mB 212) 2538 = .ok (.iinc 4 5, 3) := by decide +kernel
set_option maxRecDepth 100000 in
theorem d_212_2541 : decode (mB 212) 2541 = .ok (.goto (-2518), 3) := by decide +kernel
set_option maxRecDepth 100000 in
theorem d_212_2544 : decode (mB 212) 2544 = .ok (.iconst 1, 1) := by decide +kernel
set_option maxRecDepth 100000 in
theorem d_212_2545 : decode (mB 212) 2545 = .ok (.ireturn, 1) := by decide +kernel
set_option maxRecDepth 100000 in
theorem cw_212_120 : cswP 212 120 181 3 [((0 : Nat), (9 : Nat), (12 : Nat), (13 : Nat)), ((0 : Nat), (9 : Nat), (15 : Nat), (15 : Nat))] := ⟨okk_w (k := 515) (by decide +kernel), rfl, by decide +kernel, by decide +kernel, okk_w (k := 57) (by decide +kernel), okk_w (k := 513) (by decide +kernel), okk_w (k := 514) (by decide +kernel), by decide +kernel, by decide +kernel⟩
set_option maxRecDepth 100000 in
theorem cw_212_198 : cswP 212 198 201 5 [((0 : Nat), (12 : Nat), (15 : Nat), (21 : Nat)), ((0 : Nat), (12 : Nat), (19 : Nat), (13 : Nat))] := ⟨okk_w (k := 971) (by decide +kernel), rfl, by decide +kernel, by decide +kernel, okk_w (k := 57) (by decide +kernel), okk_w (k := 969) (by decide +kernel), okk_w (k := 970) (by decide +kernel), by decide +kernel, by decide +kernel⟩
/-! more instructions -/
abbrev inL (x : Int) : Prop := -9223372036854775808 ≤ x ∧ x ≤ 9223372036854775807
theorem l_toInt {x : Int} (h : inL x) : (Int64.ofInt x).toInt = x := Int64.toInt_ofInt_of_le (by omega) (by omega)
theorem l_lt {x y : Int} (hx : inL x) (hy : inL y) : Int64.ofInt x < Int64.ofInt y ↔ x < y := by rw [Int64.lt_iff_toInt_lt, l_toInt hx, l_toInt hy]
theorem l_eq {x y : Int} (hx : inL x) (hy : inL y) : Int64.ofInt x = Int64.ofInt y ↔ x = y := by rw [← Int64.toInt_inj, l_toInt hx, l_toInt hy]
section HF
variable {p : Program} {l : Launch} {e : Env} {R : Room} {s : State} {m : MethodId} {args : Array Value} {below : List Frame} {meth : Method} {c : Code} {H : Heap} {locs : List Loc} {cells slots : Nat} {Q : State → Prop}
theorem lv_lcmp {cc : ByteArray} {pc : Nat} {ls : Array Slot} {rest : List Value} (hexec : p.tables.exec = Jvm.exec) (hb : c.code = cc) {x y : Int64} (hdg : decode cc pc = .ok (.lcmp, 1))
    (k : W p l e R s m args below meth c H locs cells slots Q (F0 m (pc + 1) ls (.int (if x > y then 1 else if x == y then 0 else -1) :: rest))) : W p l e R s m args below meth c H locs cells slots Q (F0 m pc ls (.long y :: .long x :: rest)) := by
  intro T hT X
  obtain ⟨t, a, b⟩ := k T hT X
  refine ⟨t, ?_, b⟩
  jvm_step X.here [X.here.top, hexec, hb, hdg]
  by_cases h1 : x > y
  · simp only [h1, if_true] at a ⊢
    exact a
  · by_cases h2 : x = y
    · simp [h2] at a ⊢
      exact a
    · simp [h1, h2] at a ⊢
      exact a
end HF
section HG
variable {i pc : Nat} {ls : List (Option AV)} {st : List AV} {h : Hp} {Q : Option AV → Hp → Prop} {X : String → Hp → Prop}
theorem wp_lcmp {x y : Int} (hd : decode (mB i) pc = .ok (.lcmp, 1)) (hx : inL x) (hy : inL y) (k : wp i (pc + 1) ls (vI (if y < x then 1 else if x = y then 0 else -1) :: st) h Q X) : wp i pc ls (vL y :: vL x :: st) h Q X := by
  intro D DA B0 CN CS p l e R s m args below meth c H locs ls' hfl hE
  have kk := k D DA B0 CN CS p l e R s m args below meth c H locs ls' hfl hE
  have ev : Int32.ofInt (if y < x then 1 else if x = y then 0 else -1) = (if Int64.ofInt x > Int64.ofInt y then 1 else if Int64.ofInt x == Int64.ofInt y then 0 else -1) := by
    by_cases h1 : y < x
    · rw [if_pos h1, if_pos ((l_lt hy hx).mpr h1)]
      rfl
    · rw [if_neg h1, if_neg (fun z => h1 ((l_lt hy hx).mp z))]
      by_cases h2 : x = y
      · rw [if_pos h2, if_pos (by simp [h2])]
        rfl
      · rw [if_neg h2, if_neg (by simpa using fun z => h2 ((l_eq hx hy).mp z))]
        rfl
  refine lv_lcmp hE.1.1 hE.1.2.1 hd ?_
  rw [← ev]
  exact kk
theorem wp_table {dflt lo hi : Int} {offs : Array Int} {len : Nat} {x : Int} {off : Int} {tgt : Nat} (hd : decode (mB i) pc = .ok (.tableswitch dflt lo hi offs, len)) (hx : inR x) (h1 : lo ≤ x) (h2 : x ≤ hi) (ho : offs[(x - lo).toNat]? = some off) (ht : (pc : Int) + off = (tgt : Int)) (k : wp i tgt ls st h Q X) : wp i pc ls (vI x :: st) h Q X := by
  intro D DA B0 CN CS p l e R s m args below meth c H locs ls' hfl hE
  have kk := k D DA B0 CN CS p l e R s m args below meth c H locs ls' hfl hE
  have e1 := i_toInt hx
  exact lv_tableIn hE.1.1 hE.1.2.1 hd (by rw [e1]; omega) (by rw [e1]; omega) (by rw [e1]; exact ho) ht kk
theorem wp_tableOut {dflt lo hi : Int} {offs : Array Int} {len : Nat} {x : Int} {tgt : Nat} (hd : decode (mB i) pc = .ok (.tableswitch dflt lo hi offs, len)) (hx : inR x) (h1 : x < lo ∨ hi < x) (ht : (pc : Int) + dflt = (tgt : Int)) (k : wp i tgt ls st h Q X) : wp i pc ls (vI x :: st) h Q X := by
  intro D DA B0 CN CS p l e R s m args below meth c H locs ls' hfl hE
  have kk := k D DA B0 CN CS p l e R s m args below meth c H locs ls' hfl hE
  have e1 := i_toInt hx
  exact lv_tableOut hE.1.1 hE.1.2.1 hd (by rw [e1]; exact h1) ht kk
end HG
end
section
/-! ===== the law over two addStop's and many latest's ===== -/
/-- the same heap but for whole numbers at P, and long numbers -/
def sk (P : Nat → Prop) (h h' : Hp) : Prop := kd h' = kd h ∧ ln h' = ln h ∧ hr h' = hr h ∧ nx h' = nx h ∧ us h' = us h ∧ cn h' = cn h ∧ cs h' = cs h ∧ ∀ a k, ¬ P a → hi h' a k = hi h a k
theorem sh.sk {P : Nat → Prop} {h h' : Hp} (e : sh P h h') : sk P h h' := by
  obtain ⟨e1, e2, e3, e4, e5, e6, e7, e8, e9⟩ := e
  exact ⟨e1, e2, e3, e5, e6, e7, e8, e9⟩
theorem sk.setL {P : Nat → Prop} {h h' : Hp} {a : Nat} {k v : Int} (e : sk P h h') : sk P h (setL h' a k v) := e
theorem Cs.keptK {P : Nat → Prop} {h h' : Hp} {w : Nat} (q : Cs h w) (e : sk P h h') : Cs h' w := by
  obtain ⟨e1, e2, e3, -⟩ := e
  unfold Cs
  rw [e1, e2, e3]
  exact q
theorem Cn.keptK {P : Nat → Prop} {h h' : Hp} {w : Nat} {n : Int} (q : Cn h w n) (e : sk P h h') (n1 : ¬ P (w + 1)) (n2 : ¬ P (w + 2)) : Cn h' w n := by
  have e9 := e.2.2.2.2.2.2.2
  unfold Cn
  rw [e9 _ _ n1, e9 _ _ n1, e9 _ _ n1]
  exact ⟨q.1, q.2.1, q.2.2.1, fun k => by rw [e9 _ _ n2]; exact q.2.2.2 k⟩
theorem Ms.keptK {P : Nat → Prop} {h h' : Hp} {m : Nat} {n : Int} (q : Ms h m n) (e : sk P h h') (n1 : ¬ P m) : Ms h' m n := by
  have e9 := e.2.2.2.2.2.2.2
  unfold Ms
  rw [e9 _ _ n1, e9 _ _ n1, e9 _ _ n1, e.1, e.2.1, e.2.2.1]
  exact q
theorem Cs.keptA {h h' : Hp} {w : Nat} (q : Cs h w) (e : ∀ b, w ≤ b → b < w + 47 → eqA h h' b) : Cs h' w := by
  have a0 := e w (by omega) (by omega)
  have a1 := e (w + 1) (by omega) (by omega)
  have a2 := e (w + 2) (by omega) (by omega)
  have a6 := e (w + 6) (by omega) (by omega)
  have a30 := e (w + 30) (by omega) (by omega)
  have a31 := e (w + 31) (by omega) (by omega)
  have a39 := e (w + 39) (by omega) (by omega)
  obtain ⟨k1, k2, k3, k4, ⟨k5, k6, k7, k8⟩, k9, ⟨l1, l2, l3, l4, l5, l6, l7⟩, rows⟩ := q
  refine ⟨a0.1.trans k1, (a0.2.2.2.1 _).trans k2, (a0.2.2.2.1 _).trans k3, (a0.2.2.2.1 _).trans k4, ⟨a1.1.trans k5, (a1.2.2.2.1 _).trans k6, a2.1.trans k7, a2.2.1.trans k8⟩, a6.1.trans k9, ⟨a30.1.trans l1, (a30.2.2.2.1 _).trans l2, (a30.2.2.2.1 _).trans l3, a31.1.trans l4, a31.2.1.trans l5, a39.1.trans l6, a39.2.1.trans l7⟩, fun j hj => ?_⟩
  obtain ⟨r1, r2, r3, r4, r5, r6⟩ := rows j hj
  have b1 := e (w + 32 + j) (by omega) (by omega)
  have b2 := e (w + 40 + j) (by omega) (by omega)
  exact ⟨(a31.2.2.2.1 _).trans r1, (a39.2.2.2.1 _).trans r2, b1.1.trans r3, b1.2.1.trans r4, b2.1.trans r5, b2.2.1.trans r6⟩
theorem Cn.keptA {h h' : Hp} {w : Nat} {n : Int} (q : Cn h w n) (e1 : eqA h h' (w + 1)) (e2 : eqA h h' (w + 2)) : Cn h' w n :=
  ⟨(e1.2.2.1 _).trans q.1, (e1.2.2.1 _).trans q.2.1, (e1.2.2.1 _).trans q.2.2.1, fun k => by rw [e2.2.2.1 k]; exact q.2.2.2 k⟩
/-- the script: two addStop(0), then latest(0, 1, 500000) -/
def Sc (h : Hp) (s : Nat) (K : Int) : Prop := kd h s = 200 ∧ ln h s = 5 * K ∧ (∀ q : Int, 0 ≤ q → q < 2 → hi h s (5 * q) = 0 ∧ hi h s (5 * q + 1) = 0) ∧ ∀ q : Int, 2 ≤ q → q < K → hi h s (5 * q) = 22 ∧ hi h s (5 * q + 1) = 0 ∧ hi h s (5 * q + 2) = 1 ∧ hi h s (5 * q + 3) = 500000
theorem Sc.kept {h h' : Hp} {s : Nat} {K : Int} (q : Sc h s K) (k1 : kd h' s = kd h s) (k2 : ln h' s = ln h s) (k3 : ∀ k, hi h' s k = hi h s k) : Sc h' s K :=
  ⟨k1.trans q.1, k2.trans q.2.1, fun j h0 h1 => ⟨(k3 _).trans (q.2.2.1 j h0 h1).1, (k3 _).trans (q.2.2.1 j h0 h1).2⟩, fun j h0 h1 => ⟨(k3 _).trans (q.2.2.2 j h0 h1).1, (k3 _).trans (q.2.2.2 j h0 h1).2.1, (k3 _).trans (q.2.2.2 j h0 h1).2.2.1, (k3 _).trans (q.2.2.2 j h0 h1).2.2.2⟩⟩
/-- how things stand between two calls: n stops told -/
def LawI (h : Hp) (w s : Nat) (n K : Int) : Prop := Cs h w ∧ Cn h w n ∧ Ms h (w + 154) n ∧ (kd h (w + 280) = 101 ∧ ln h (w + 280) = 1) ∧ w + 281 ≤ nx h ∧ s < w ∧ Sc h s K
theorem v22 : vand 22 63 = 22 := by decide +kernel
theorem v00 : vand 0 63 = 0 := by decide +kernel
set_option maxRecDepth 100000 in
set_option maxHeartbeats 4000000 in
theorem s_lawAdd {w o : Nat} {c n : Int} {h : Hp} (hs : Cs h w) (hc : Cn h w n) (hn : 0 ≤ n ∧ n < 16) (hx : 0 ≤ c ∧ c ≤ 30) (k1 : kd h o = 101) (l1 : ln h o = 1) : wp 181 0 (entL [vR (some w), vI c, vR (some o)] (mL 181)) [] h (fun v h' => v = some (vI 0) ∧ sk (fun a => a = w + 1 ∨ a = w + 2) h h' ∧ Cn h' w (n + 1) ∧ hl h' o 0 = n) noX := by
  refine wp_aload_n d_181_0 (by rfl) ?_
  refine wp_iconst d_181_1 ?_
  refine wp_aload_n d_181_2 (by rfl) ?_
  refine wp_iload_n d_181_3 (by rfl) ?_
  refine wp_callV d_181_4 c_181_7 rfl (by rfl) (by rfl) ⟨0, rfl, rfl, by decide⟩ (by first | exact hs.1 | (rw [q_4.1.1]; exact k1)) (by exact Nat.le_of_ble_eq_true rfl) (by exact Nat.le_of_ble_eq_true rfl) (s_addStop hs hc hn hx) (fun v_4 h_4 q_4 => ?_) (fun _ _ q => q.elim)
  obtain ⟨rfl, q_4⟩ := q_4
  refine wp_i2l d_181_7 (by first | omega | (rw [q_4.1.2.1, l1]; decide)) ?_
  refine wp_last d_181_8 (by first | exact hs.1 | (rw [q_4.1.1]; exact k1)) (by first | omega | (rw [q_4.1.2.1, l1]; decide)) (by first | omega | (rw [q_4.1.2.1, l1]; decide)) ?_
  refine wp_goto (tgt := 18) d_181_9 (by decide) ?_
  refine wp_iconst d_181_18 ?_
  refine wp_iret d_181_19 rfl ?_
  exact ⟨rfl, (q_4.1.sk (P := fun a => a = w + 1 ∨ a = w + 2)).setL, q_4.2, by rw [hl_setL, up2_same]⟩
set_option maxRecDepth 100000 in
set_option maxHeartbeats 4000000 in
theorem s_lawLat {w o : Nat} {f t a n : Int} {h : Hp} (hn : 0 ≤ n ∧ n ≤ 16) (hf : 0 ≤ f ∧ f < n) (ht : 0 ≤ t ∧ t < n) (hft : f ≠ t) (ha : 0 ≤ a ∧ a ≤ 500000) (hs : Cs h w) (hc : Cn h w n) (k1 : kd h o = 101) (l1 : ln h o = 1) : wp 201 0 (entL [vR (some w), vI f, vI t, vI a, vR (some o)] (mL 201)) [] h (fun v h' => v = some (vI 0) ∧ sk (fun a => a = w + 6 ∨ (w + 30 ≤ a ∧ a ≤ w + 46)) h h' ∧ hl h' o 0 = -1) noX := by
  refine wp_aload d_201_0 (by rfl) ?_
  refine wp_iconst d_201_2 ?_
  refine wp_aload_n d_201_3 (by rfl) ?_
  refine wp_iload_n d_201_4 (by rfl) ?_
  refine wp_iload_n d_201_5 (by rfl) ?_
  refine wp_iload_n d_201_6 (by rfl) ?_
  refine wp_callV d_201_7 c_201_81 rfl (by rfl) (by rfl) ⟨0, rfl, rfl, by decide⟩ (by first | exact hs.1 | (rw [q_7.1]; exact k1)) (by exact Nat.le_of_ble_eq_true rfl) (by exact Nat.le_of_ble_eq_true rfl) (s_latest hn hf ht hft ha hs hc) (fun v_7 h_7 q_7 => ?_) (fun _ _ q => q.elim)
  obtain ⟨rfl, q_7⟩ := q_7
  refine wp_i2l d_201_10 (by first | omega | (rw [q_7.2.1, l1]; decide)) ?_
  refine wp_last d_201_11 (by first | exact hs.1 | (rw [q_7.1]; exact k1)) (by first | omega | (rw [q_7.2.1, l1]; decide)) (by first | omega | (rw [q_7.2.1, l1]; decide)) ?_
  refine wp_goto (tgt := 23) d_201_12 (by decide) ?_
  refine wp_iconst d_201_23 ?_
  refine wp_iret d_201_24 rfl ?_
  exact ⟨rfl, (q_7.sk (P := fun a => a = w + 6 ∨ (w + 30 ≤ a ∧ a ≤ w + 46))).setL, by rw [hl_setL, up2_same]⟩
/-! ===== from the loop head on: the call at place q is latest ===== -/
set_option maxRecDepth 100000 in
set_option maxHeartbeats 4000000 in
theorem l_lawLat {s w : Nat} {K : Int} (hK : K ≤ 512) {Q : Option AV → Hp → Prop} {q : Int} {h : Hp} (hq0 : 2 ≤ q) (hq1 : q < K) (hI : LawI h w s 2 K) (r1 : nx h + 2776 ≤ cn h) (r2 : us h + 41293 ≤ cs h) (kk : ∀ h', LawI h' w s 2 K → nx h' = nx h + 2776 → us h' = us h + 41293 → cn h' = cn h → cs h' = cs h → wp 212 23 [some (vR (some s)), some (vR (some w)), some (vR (some (w + 154))), some (vR (some (w + 280))), some (vI (5 * (q + 1))), none, none, none, none] [] h' Q noX) : wp 212 23 [some (vR (some s)), some (vR (some w)), some (vR (some (w + 154))), some (vR (some (w + 280))), some (vI (5 * q)), none, none, none, none] [] h Q noX := by
  obtain ⟨hs, hc, hm, ⟨ko, lo⟩, hnx, hsw, sc⟩ := hI
  have ks := sc.1
  have ls := sc.2.1
  obtain ⟨x0, x1, x2, x3⟩ := sc.2.2.2 q hq0 hq1
  refine wp_iload d_212_23 (by rfl) ?_
  refine wp_aload_n d_212_25 (by rfl) ?_
  refine wp_alen d_212_26 (by omega) ?_
  refine wp_iconst d_212_27 ?_
  refine wp_isub d_212_28 ?_
  refine wp_icmp_gt (tgt := 2544) d_212_29 (by decide) (by first | omega | decide) (by first | omega | decide) (fun c_29 => ?_) (fun c_29 => ?_)
  · exact absurd c_29 (by omega)
  · refine wp_aload_n d_212_32 (by rfl) ?_
    refine wp_iload d_212_33 (by rfl) ?_
    refine wp_iald d_212_35 (Or.inr (by assumption)) (by first | omega | decide) (by first | omega | decide) (fun x_35 e_35 r_35 => ?_)
    refine wp_bipush d_212_36 (by decide) ?_
    refine wp_iand d_212_38 ?_
    rw [show x_35 = 22 from e_35.trans x0, v22]
    refine wp_table (off := 1748) (tgt := 1787) d_212_39 (by decide) (by decide) (by decide) (by rfl) (by decide) ?_
    refine wp_aload_n d_212_1787 (by rfl) ?_
    refine wp_aload_n d_212_1788 (by rfl) ?_
    refine wp_iload d_212_1789 (by rfl) ?_
    refine wp_iconst d_212_1791 ?_
    refine wp_iadd d_212_1792 ?_
    refine wp_iald d_212_1793 (Or.inr (by assumption)) (by first | omega | decide) (by first | omega | decide) (fun x_1793 e_1793 r_1793 => ?_)
    refine wp_aload_n d_212_1794 (by rfl) ?_
    refine wp_iload d_212_1795 (by rfl) ?_
    refine wp_iconst d_212_1797 ?_
    refine wp_iadd d_212_1798 ?_
    refine wp_iald d_212_1799 (Or.inr (by assumption)) (by first | omega | decide) (by first | omega | decide) (fun x_1799 e_1799 r_1799 => ?_)
    refine wp_aload_n d_212_1800 (by rfl) ?_
    refine wp_iload d_212_1801 (by rfl) ?_
    refine wp_iconst d_212_1803 ?_
    refine wp_iadd d_212_1804 ?_
    refine wp_iald d_212_1805 (Or.inr (by assumption)) (by first | omega | decide) (by first | omega | decide) (fun x_1805 e_1805 r_1805 => ?_)
    refine wp_aload_n d_212_1806 (by rfl) ?_
    refine wp_callSW d_212_1807 cw_212_198 (by rfl) (by rfl) (by exact Nat.le_of_ble_eq_true rfl) (by exact Nat.le_of_ble_eq_true rfl) (s_lawLat (f := x_1793) (t := x_1799) (a := x_1805) (n := 2) (by omega) (by omega) (by omega) (by omega) (by omega) hs hc ko lo) (fun v_1807 h_1807 q_1807 => ?_)
    obtain ⟨rfl, E1, z1⟩ := q_1807
    have hs1 : Cs h_1807 w := hs.keptK E1
    have hc1 : Cn h_1807 w 2 := hc.keptK E1 (by omega) (by omega)
    have hm1 : Ms h_1807 (w + 154) 2 := hm.keptK E1 (by omega)
    have sc1 : Sc h_1807 s K := sc.kept (by rw [E1.1]) (by rw [E1.2.1]) (fun k => E1.2.2.2.2.2.2.2 _ _ (by omega))
    have n1 : nx h_1807 = nx h := E1.2.2.2.1
    have u1 : us h_1807 = us h := E1.2.2.2.2.1
    have c1 : cn h_1807 = cn h := E1.2.2.2.2.2.1
    have d1 : cs h_1807 = cs h := E1.2.2.2.2.2.2.1
    have ko1 : kd h_1807 (w + 280) = 101 := by rw [E1.1]; exact ko
    have lo1 : ln h_1807 (w + 280) = 1 := by rw [E1.2.1]; exact lo
    have km1 := hm1.1
    have ks1 := sc1.1
    have ls1 := sc1.2.1
    obtain ⟨y0, y1, y2, y3⟩ := sc1.2.2.2 q hq0 hq1
    refine wp_istore d_212_1810 (by decide) ?_
    refine wp_aload_n d_212_1812 (by rfl) ?_
    refine wp_aload_n d_212_1813 (by rfl) ?_
    refine wp_iload d_212_1814 (by rfl) ?_
    refine wp_iconst d_212_1816 ?_
    refine wp_iadd d_212_1817 ?_
    refine wp_iald d_212_1818 (Or.inr (by assumption)) (by first | omega | decide) (by first | omega | decide) (fun x_1818 e_1818 r_1818 => ?_)
    refine wp_aload_n d_212_1819 (by rfl) ?_
    refine wp_iload d_212_1820 (by rfl) ?_
    refine wp_iconst d_212_1822 ?_
    refine wp_iadd d_212_1823 ?_
    refine wp_iald d_212_1824 (Or.inr (by assumption)) (by first | omega | decide) (by first | omega | decide) (fun x_1824 e_1824 r_1824 => ?_)
    refine wp_aload_n d_212_1825 (by rfl) ?_
    refine wp_iload d_212_1826 (by rfl) ?_
    refine wp_iconst d_212_1828 ?_
    refine wp_iadd d_212_1829 ?_
    refine wp_iald d_212_1830 (Or.inr (by assumption)) (by first | omega | decide) (by first | omega | decide) (fun x_1830 e_1830 r_1830 => ?_)
    refine wp_callV d_212_1831 c_212_200 rfl (by rfl) (by rfl) ⟨1, rfl, rfl, by decide⟩ (by first | assumption | (left; assumption)) (by exact Nat.le_of_ble_eq_true rfl) (by exact Nat.le_of_ble_eq_true rfl) (s_mlatest (T := 347) (f := x_1818) (t := x_1824) (a := x_1830) (n := 2) (by omega) (by omega) (by omega) (by omega) (by omega) (by omega) hm1 (by omega) (by omega) (by omega)) (fun v_1831 h_1831 q_1831 => ?_) (fun _ _ q => q.elim)
    obtain ⟨rfl, G⟩ := q_1831
    obtain ⟨g1, g2, g3, g4, g5⟩ := G
    rw [nx_setI] at g1 g5
    rw [us_setI] at g2
    rw [cn_setI] at g3
    rw [cs_setI] at g4
    have F : ∀ b, b < nx h_1807 → b ≠ w + 154 → eqA h_1807 h_1831 b := fun b hb hm => (eqA_setI hm).trans (g5 b hb)
    have em := g5 (w + 154) (by omega)
    have km2 : kd h_1831 (w + 154) = 2 := em.1.trans hm1.1
    have th : hi h_1831 (w + 154) 0 = 0 := (em.2.2.1 0).trans (by rw [hi_setI, up2_same])
    have eo := F (w + 280) (by omega) (by omega)
    have ko2 : kd h_1831 (w + 280) = 101 := eo.1.trans ko1
    have lo2 : ln h_1831 (w + 280) = 1 := eo.2.1.trans lo1
    have z2 : hl h_1831 (w + 280) 0 = -1 := (eo.2.2.2.2 0).trans z1
    have es := F s (by omega) (by omega)
    have INV : LawI h_1831 w s 2 K := ⟨hs1.keptA (fun b h0 h1 => F b (by omega) (by omega)), hc1.keptA (F _ (by omega) (by omega)) (F _ (by omega) (by omega)), by
      obtain ⟨q1, q2, q3, q4, q5, q6, q7⟩ := hm1
      have e1 := F (w + 154 + 1) (by omega) (by omega)
      exact ⟨km2, (em.2.2.2.1 _).trans q2, e1.1.trans q3, e1.2.1.trans q4, (em.2.2.1 _).trans ((by rw [hi_setI, up2_ne _ _ (by omega)] : hi (setI h_1807 (w + 154) 0 0) (w + 154) 1 = hi h_1807 (w + 154) 1).trans q5), (em.2.2.1 _).trans ((by rw [hi_setI, up2_ne _ _ (by omega)] : hi (setI h_1807 (w + 154) 0 0) (w + 154) 3 = hi h_1807 (w + 154) 3).trans q6), (em.2.2.1 _).trans ((by rw [hi_setI, up2_ne _ _ (by omega)] : hi (setI h_1807 (w + 154) 0 0) (w + 154) 12 = hi h_1807 (w + 154) 12).trans q7)⟩, ⟨ko2, lo2⟩, by omega, hsw, sc1.kept es.1 es.2.1 es.2.2.1⟩
    refine wp_istore d_212_1834 (by decide) ?_
    refine wp_aload_n d_212_1836 (by rfl) ?_
    refine wp_callV d_212_1837 c_212_126 rfl (by rfl) (by rfl) ⟨1, rfl, rfl, by decide⟩ (by first | assumption | (left; assumption)) (by exact Nat.le_of_ble_eq_true rfl) (by exact Nat.le_of_ble_eq_true rfl) (s_thrown km2) (fun v_1837 h_1837 q_1837 => ?_) (fun _ _ q => q.elim)
    obtain ⟨rfl, q_1837⟩ := q_1837
    replace q_1837 := q_1837.symm
    subst q_1837
    rw [th]
    refine wp_iload d_212_1840 (by rfl) ?_
    refine wp_icmp_eq (tgt := 1847) d_212_1842 (by decide) (by first | omega | decide) (by first | omega | decide) (fun c_1842 => ?_) (fun c_1842 => ?_)
    · refine wp_iload d_212_1847 (by rfl) ?_
      refine wp_if_ne (tgt := 1864) d_212_1849 (by decide) (by first | omega | decide) (fun c_1849 => ?_) (fun c_1849 => ?_)
      · refine wp_goto (tgt := 2538) d_212_1864 (by decide) ?_
        refine wp_iinc d_212_2538 (by rfl) (by decide) ?_
        refine wp_goto (tgt := 23) d_212_2541 (by decide) ?_
        refine wp_to [some (vR (some s)), some (vR (some w)), some (vR (some (w + 154))), some (vR (some (w + 280))), some (vI (5 * (q + 1))), none, none, none, none] ⟨rfl, rfl, rfl, rfl, congrArg (fun z => some (vI z)) (by omega), trivial⟩ ?_
        exact kk h_1831 INV (by omega) (by omega) (by omega) (by omega)
      · refine wp_aload_n d_212_1852 (by rfl) ?_
        refine wp_iconst d_212_1853 ?_
        refine wp_lald d_212_1854 (by first | assumption | (left; assumption)) (by first | omega | decide) (by first | omega | decide) ?_
        rw [z2]
        refine wp_iload d_212_1855 (by rfl) ?_
        refine wp_i2l d_212_1857 (by first | omega | decide) ?_
        refine wp_lcmp d_212_1858 (by first | omega | decide) (by first | omega | decide) ?_
        refine wp_if_eq (tgt := 1864) d_212_1859 (by decide) (by first | omega | decide) (fun c_1859 => ?_) (fun c_1859 => ?_)
        · refine wp_goto (tgt := 2538) d_212_1864 (by decide) ?_
          refine wp_iinc d_212_2538 (by rfl) (by decide) ?_
          refine wp_goto (tgt := 23) d_212_2541 (by decide) ?_
          refine wp_to [some (vR (some s)), some (vR (some w)), some (vR (some (w + 154))), some (vR (some (w + 280))), some (vI (5 * (q + 1))), none, none, none, none] ⟨rfl, rfl, rfl, rfl, congrArg (fun z => some (vI z)) (by omega), trivial⟩ ?_
          exact kk h_1831 INV (by omega) (by omega) (by omega) (by omega)
        · exact absurd c_1859 (by decide)
    · exact absurd c_1842 (by first | (intro z; exact z rfl) | decide | omega)
end
