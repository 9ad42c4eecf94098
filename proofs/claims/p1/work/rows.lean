section
-- ===== PART A: goes FIRST, ahead of the names: the tables' words, and 'selects' of the private methods out of them =====
/-- a private method of a class that the tables say can be made, by its rows of tables_1 -/
def lw_okq (q : MethodName × Nat) : Prop := (q.1.cls ≠ "java/lang/invoke/MethodHandle" ∧ q.1.cls ≠ "java/lang/invoke/VarHandle") ∧ Cond.instantiable q.1.cls q.2 ∈ tables_1 ∧ Cond.privateMethod q.1 ∈ tables_1 ∧ Cond.instanceMethod q.1 ∈ tables_1
theorem lw_p0 : lw_okq (⟨"EggSpoons", "refuse", "(I)I"⟩, 14) := ⟨⟨by decide +kernel, by decide +kernel⟩, List.mem_of_getElem? (i := 21) (by decide +kernel), List.mem_of_getElem? (i := 313) (by decide +kernel), List.mem_of_getElem? (i := 314) (by decide +kernel)⟩
theorem lw_p1 : lw_okq (⟨"EggSpoons$Reader", "takeItem", "(LEggSpoons$Race;Z)V"⟩, 7) := ⟨⟨by decide +kernel, by decide +kernel⟩, List.mem_of_getElem? (i := 164) (by decide +kernel), List.mem_of_getElem? (i := 353) (by decide +kernel), List.mem_of_getElem? (i := 354) (by decide +kernel)⟩
theorem lw_p2 : lw_okq (⟨"EggSpoons$Reader", "nextToken", "()V"⟩, 7) := ⟨⟨by decide +kernel, by decide +kernel⟩, List.mem_of_getElem? (i := 164) (by decide +kernel), List.mem_of_getElem? (i := 357) (by decide +kernel), List.mem_of_getElem? (i := 358) (by decide +kernel)⟩
theorem lw_p3 : lw_okq (⟨"EggSpoons$Reader", "skipBlanks", "()V"⟩, 7) := ⟨⟨by decide +kernel, by decide +kernel⟩, List.mem_of_getElem? (i := 164) (by decide +kernel), List.mem_of_getElem? (i := 361) (by decide +kernel), List.mem_of_getElem? (i := 362) (by decide +kernel)⟩
theorem lw_p4 : lw_okq (⟨"EggSpoons$Reader", "takeLetters", "()V"⟩, 7) := ⟨⟨by decide +kernel, by decide +kernel⟩, List.mem_of_getElem? (i := 164) (by decide +kernel), List.mem_of_getElem? (i := 368) (by decide +kernel), List.mem_of_getElem? (i := 369) (by decide +kernel)⟩
theorem lw_p5 : lw_okq (⟨"EggSpoons$Reader", "takeFigures", "()V"⟩, 7) := ⟨⟨by decide +kernel, by decide +kernel⟩, List.mem_of_getElem? (i := 164) (by decide +kernel), List.mem_of_getElem? (i := 375) (by decide +kernel), List.mem_of_getElem? (i := 376) (by decide +kernel)⟩
theorem lw_p6 : lw_okq (⟨"EggSpoons$Reader", "spells", "(Ljava/lang/String;)Z"⟩, 7) := ⟨⟨by decide +kernel, by decide +kernel⟩, List.mem_of_getElem? (i := 164) (by decide +kernel), List.mem_of_getElem? (i := 380) (by decide +kernel), List.mem_of_getElem? (i := 381) (by decide +kernel)⟩
theorem lw_p7 : lw_okq (⟨"EggSpoons$Reader", "takeLength", "(LEggSpoons$Race;)V"⟩, 7) := ⟨⟨by decide +kernel, by decide +kernel⟩, List.mem_of_getElem? (i := 164) (by decide +kernel), List.mem_of_getElem? (i := 432) (by decide +kernel), List.mem_of_getElem? (i := 433) (by decide +kernel)⟩
theorem lw_p8 : lw_okq (⟨"EggSpoons$Reader", "number", "(II)I"⟩, 7) := ⟨⟨by decide +kernel, by decide +kernel⟩, List.mem_of_getElem? (i := 164) (by decide +kernel), List.mem_of_getElem? (i := 436) (by decide +kernel), List.mem_of_getElem? (i := 437) (by decide +kernel)⟩
theorem lw_p9 : lw_okq (⟨"EggSpoons$Reader", "ended", "()Z"⟩, 7) := ⟨⟨by decide +kernel, by decide +kernel⟩, List.mem_of_getElem? (i := 164) (by decide +kernel), List.mem_of_getElem? (i := 440) (by decide +kernel), List.mem_of_getElem? (i := 441) (by decide +kernel)⟩
theorem lw_p10 : lw_okq (⟨"EggSpoons$Reader", "takeRunner", "(LEggSpoons$Race;)V"⟩, 7) := ⟨⟨by decide +kernel, by decide +kernel⟩, List.mem_of_getElem? (i := 164) (by decide +kernel), List.mem_of_getElem? (i := 446) (by decide +kernel), List.mem_of_getElem? (i := 447) (by decide +kernel)⟩
theorem lw_p11 : lw_okq (⟨"EggSpoons$Reader", "takeSpeed", "(LEggSpoons$Race;)V"⟩, 7) := ⟨⟨by decide +kernel, by decide +kernel⟩, List.mem_of_getElem? (i := 164) (by decide +kernel), List.mem_of_getElem? (i := 452) (by decide +kernel), List.mem_of_getElem? (i := 453) (by decide +kernel)⟩
theorem lw_p12 : lw_okq (⟨"EggSpoons$Reader", "takeStart", "(LEggSpoons$Race;)V"⟩, 7) := ⟨⟨by decide +kernel, by decide +kernel⟩, List.mem_of_getElem? (i := 164) (by decide +kernel), List.mem_of_getElem? (i := 457) (by decide +kernel), List.mem_of_getElem? (i := 458) (by decide +kernel)⟩
theorem lw_p13 : lw_okq (⟨"EggSpoons$Reader", "takeTicks", "(LEggSpoons$Race;)V"⟩, 7) := ⟨⟨by decide +kernel, by decide +kernel⟩, List.mem_of_getElem? (i := 164) (by decide +kernel), List.mem_of_getElem? (i := 469) (by decide +kernel), List.mem_of_getElem? (i := 470) (by decide +kernel)⟩
theorem lw_p14 : lw_okq (⟨"EggSpoons", "there", "(I)Z"⟩, 14) := ⟨⟨by decide +kernel, by decide +kernel⟩, List.mem_of_getElem? (i := 21) (by decide +kernel), List.mem_of_getElem? (i := 514) (by decide +kernel), List.mem_of_getElem? (i := 515) (by decide +kernel)⟩
theorem lw_p15 : lw_okq (⟨"EggSpoons", "homeBehind", "(II)I"⟩, 14) := ⟨⟨by decide +kernel, by decide +kernel⟩, List.mem_of_getElem? (i := 21) (by decide +kernel), List.mem_of_getElem? (i := 560) (by decide +kernel), List.mem_of_getElem? (i := 561) (by decide +kernel)⟩
def lw_privs_1 : List (MethodName × Nat) := [(⟨"EggSpoons", "refuse", "(I)I"⟩, 14), (⟨"EggSpoons$Reader", "takeItem", "(LEggSpoons$Race;Z)V"⟩, 7), (⟨"EggSpoons$Reader", "nextToken", "()V"⟩, 7), (⟨"EggSpoons$Reader", "skipBlanks", "()V"⟩, 7), (⟨"EggSpoons$Reader", "takeLetters", "()V"⟩, 7), (⟨"EggSpoons$Reader", "takeFigures", "()V"⟩, 7), (⟨"EggSpoons$Reader", "spells", "(Ljava/lang/String;)Z"⟩, 7), (⟨"EggSpoons$Reader", "takeLength", "(LEggSpoons$Race;)V"⟩, 7), (⟨"EggSpoons$Reader", "number", "(II)I"⟩, 7), (⟨"EggSpoons$Reader", "ended", "()Z"⟩, 7), (⟨"EggSpoons$Reader", "takeRunner", "(LEggSpoons$Race;)V"⟩, 7), (⟨"EggSpoons$Reader", "takeSpeed", "(LEggSpoons$Race;)V"⟩, 7), (⟨"EggSpoons$Reader", "takeStart", "(LEggSpoons$Race;)V"⟩, 7), (⟨"EggSpoons$Reader", "takeTicks", "(LEggSpoons$Race;)V"⟩, 7), (⟨"EggSpoons", "there", "(I)Z"⟩, 14), (⟨"EggSpoons", "homeBehind", "(II)I"⟩, 14)]
theorem lw_r1 : ∀ q ∈ lw_privs_1, lw_okq q := List.forall_mem_cons.mpr ⟨lw_p0, List.forall_mem_cons.mpr ⟨lw_p1, List.forall_mem_cons.mpr ⟨lw_p2, List.forall_mem_cons.mpr ⟨lw_p3, List.forall_mem_cons.mpr ⟨lw_p4, List.forall_mem_cons.mpr ⟨lw_p5, List.forall_mem_cons.mpr ⟨lw_p6, List.forall_mem_cons.mpr ⟨lw_p7, List.forall_mem_cons.mpr ⟨lw_p8, List.forall_mem_cons.mpr ⟨lw_p9, List.forall_mem_cons.mpr ⟨lw_p10, List.forall_mem_cons.mpr ⟨lw_p11, List.forall_mem_cons.mpr ⟨lw_p12, List.forall_mem_cons.mpr ⟨lw_p13, List.forall_mem_cons.mpr ⟨lw_p14, List.forall_mem_cons.mpr ⟨lw_p15, fun _ h => absurd h List.not_mem_nil⟩⟩⟩⟩⟩⟩⟩⟩⟩⟩⟩⟩⟩⟩⟩⟩
theorem lw_p16 : lw_okq (⟨"EggSpoons", "rankAll", "()V"⟩, 14) := ⟨⟨by decide +kernel, by decide +kernel⟩, List.mem_of_getElem? (i := 21) (by decide +kernel), List.mem_of_getElem? (i := 576) (by decide +kernel), List.mem_of_getElem? (i := 577) (by decide +kernel)⟩
theorem lw_p17 : lw_okq (⟨"EggSpoons", "aheadOf", "(I)I"⟩, 14) := ⟨⟨by decide +kernel, by decide +kernel⟩, List.mem_of_getElem? (i := 21) (by decide +kernel), List.mem_of_getElem? (i := 580) (by decide +kernel), List.mem_of_getElem? (i := 581) (by decide +kernel)⟩
theorem lw_p18 : lw_okq (⟨"EggSpoons", "homeTurning", "(IIII)I"⟩, 14) := ⟨⟨by decide +kernel, by decide +kernel⟩, List.mem_of_getElem? (i := 21) (by decide +kernel), List.mem_of_getElem? (i := 592) (by decide +kernel), List.mem_of_getElem? (i := 593) (by decide +kernel)⟩
theorem lw_p19 : lw_okq (⟨"EggSpoons", "areTwo", "(II)Z"⟩, 14) := ⟨⟨by decide +kernel, by decide +kernel⟩, List.mem_of_getElem? (i := 21) (by decide +kernel), List.mem_of_getElem? (i := 601) (by decide +kernel), List.mem_of_getElem? (i := 602) (by decide +kernel)⟩
theorem lw_p20 : lw_okq (⟨"EggSpoons", "nextLook", "(LEggSpoons$Runner;III)I"⟩, 14) := ⟨⟨by decide +kernel, by decide +kernel⟩, List.mem_of_getElem? (i := 21) (by decide +kernel), List.mem_of_getElem? (i := 647) (by decide +kernel), List.mem_of_getElem? (i := 648) (by decide +kernel)⟩
theorem lw_p21 : lw_okq (⟨"EggSpoons", "mostAlike", "(LEggSpoons$Runner;III)I"⟩, 14) := ⟨⟨by decide +kernel, by decide +kernel⟩, List.mem_of_getElem? (i := 21) (by decide +kernel), List.mem_of_getElem? (i := 651) (by decide +kernel), List.mem_of_getElem? (i := 652) (by decide +kernel)⟩
theorem lw_p22 : lw_okq (⟨"EggSpoons", "placeBehindFive", "(II)I"⟩, 14) := ⟨⟨by decide +kernel, by decide +kernel⟩, List.mem_of_getElem? (i := 21) (by decide +kernel), List.mem_of_getElem? (i := 716) (by decide +kernel), List.mem_of_getElem? (i := 717) (by decide +kernel)⟩
theorem lw_p23 : lw_okq (⟨"EggSpoonsModel", "bad", "(I)I"⟩, 18) := ⟨⟨by decide +kernel, by decide +kernel⟩, List.mem_of_getElem? (i := 833) (by decide +kernel), List.mem_of_getElem? (i := 906) (by decide +kernel), List.mem_of_getElem? (i := 907) (by decide +kernel)⟩
theorem lw_p24 : lw_okq (⟨"EggSpoonsModel", "many", "()I"⟩, 18) := ⟨⟨by decide +kernel, by decide +kernel⟩, List.mem_of_getElem? (i := 833) (by decide +kernel), List.mem_of_getElem? (i := 910) (by decide +kernel), List.mem_of_getElem? (i := 911) (by decide +kernel)⟩
theorem lw_p25 : lw_okq (⟨"EggSpoonsModel", "full", "()I"⟩, 18) := ⟨⟨by decide +kernel, by decide +kernel⟩, List.mem_of_getElem? (i := 833) (by decide +kernel), List.mem_of_getElem? (i := 926) (by decide +kernel), List.mem_of_getElem? (i := 927) (by decide +kernel)⟩
theorem lw_p26 : lw_okq (⟨"EggSpoonsModel", "save", "()V"⟩, 18) := ⟨⟨by decide +kernel, by decide +kernel⟩, List.mem_of_getElem? (i := 833) (by decide +kernel), List.mem_of_getElem? (i := 937) (by decide +kernel), List.mem_of_getElem? (i := 938) (by decide +kernel)⟩
theorem lw_p27 : lw_okq (⟨"EggSpoonsModel", "isOne", "(I)Z"⟩, 18) := ⟨⟨by decide +kernel, by decide +kernel⟩, List.mem_of_getElem? (i := 833) (by decide +kernel), List.mem_of_getElem? (i := 972) (by decide +kernel), List.mem_of_getElem? (i := 973) (by decide +kernel)⟩
theorem lw_p28 : lw_okq (⟨"EggSpoonsModel", "no", "()I"⟩, 18) := ⟨⟨by decide +kernel, by decide +kernel⟩, List.mem_of_getElem? (i := 833) (by decide +kernel), List.mem_of_getElem? (i := 979) (by decide +kernel), List.mem_of_getElem? (i := 980) (by decide +kernel)⟩
theorem lw_p29 : lw_okq (⟨"EggSpoonsModel", "toldOf", "(II)I"⟩, 18) := ⟨⟨by decide +kernel, by decide +kernel⟩, List.mem_of_getElem? (i := 833) (by decide +kernel), List.mem_of_getElem? (i := 996) (by decide +kernel), List.mem_of_getElem? (i := 997) (by decide +kernel)⟩
theorem lw_p30 : lw_okq (⟨"EggSpoonsModel", "layHand", "()V"⟩, 18) := ⟨⟨by decide +kernel, by decide +kernel⟩, List.mem_of_getElem? (i := 833) (by decide +kernel), List.mem_of_getElem? (i := 1004) (by decide +kernel), List.mem_of_getElem? (i := 1005) (by decide +kernel)⟩
theorem lw_p31 : lw_okq (⟨"EggSpoonsModel", "goAhead", "(I)V"⟩, 18) := ⟨⟨by decide +kernel, by decide +kernel⟩, List.mem_of_getElem? (i := 833) (by decide +kernel), List.mem_of_getElem? (i := 1008) (by decide +kernel), List.mem_of_getElem? (i := 1009) (by decide +kernel)⟩
def lw_privs_2 : List (MethodName × Nat) := [(⟨"EggSpoons", "rankAll", "()V"⟩, 14), (⟨"EggSpoons", "aheadOf", "(I)I"⟩, 14), (⟨"EggSpoons", "homeTurning", "(IIII)I"⟩, 14), (⟨"EggSpoons", "areTwo", "(II)Z"⟩, 14), (⟨"EggSpoons", "nextLook", "(LEggSpoons$Runner;III)I"⟩, 14), (⟨"EggSpoons", "mostAlike", "(LEggSpoons$Runner;III)I"⟩, 14), (⟨"EggSpoons", "placeBehindFive", "(II)I"⟩, 14), (⟨"EggSpoonsModel", "bad", "(I)I"⟩, 18), (⟨"EggSpoonsModel", "many", "()I"⟩, 18), (⟨"EggSpoonsModel", "full", "()I"⟩, 18), (⟨"EggSpoonsModel", "save", "()V"⟩, 18), (⟨"EggSpoonsModel", "isOne", "(I)Z"⟩, 18), (⟨"EggSpoonsModel", "no", "()I"⟩, 18), (⟨"EggSpoonsModel", "toldOf", "(II)I"⟩, 18), (⟨"EggSpoonsModel", "layHand", "()V"⟩, 18), (⟨"EggSpoonsModel", "goAhead", "(I)V"⟩, 18)]
theorem lw_r2 : ∀ q ∈ lw_privs_2, lw_okq q := List.forall_mem_cons.mpr ⟨lw_p16, List.forall_mem_cons.mpr ⟨lw_p17, List.forall_mem_cons.mpr ⟨lw_p18, List.forall_mem_cons.mpr ⟨lw_p19, List.forall_mem_cons.mpr ⟨lw_p20, List.forall_mem_cons.mpr ⟨lw_p21, List.forall_mem_cons.mpr ⟨lw_p22, List.forall_mem_cons.mpr ⟨lw_p23, List.forall_mem_cons.mpr ⟨lw_p24, List.forall_mem_cons.mpr ⟨lw_p25, List.forall_mem_cons.mpr ⟨lw_p26, List.forall_mem_cons.mpr ⟨lw_p27, List.forall_mem_cons.mpr ⟨lw_p28, List.forall_mem_cons.mpr ⟨lw_p29, List.forall_mem_cons.mpr ⟨lw_p30, List.forall_mem_cons.mpr ⟨lw_p31, fun _ h => absurd h List.not_mem_nil⟩⟩⟩⟩⟩⟩⟩⟩⟩⟩⟩⟩⟩⟩⟩⟩
theorem lw_p32 : lw_okq (⟨"EggSpoonsModel", "homeOf", "(I)I"⟩, 18) := ⟨⟨by decide +kernel, by decide +kernel⟩, List.mem_of_getElem? (i := 833) (by decide +kernel), List.mem_of_getElem? (i := 1016) (by decide +kernel), List.mem_of_getElem? (i := 1017) (by decide +kernel)⟩
theorem lw_p33 : lw_okq (⟨"EggSpoonsModel", "homeAtHand", "(II)I"⟩, 18) := ⟨⟨by decide +kernel, by decide +kernel⟩, List.mem_of_getElem? (i := 833) (by decide +kernel), List.mem_of_getElem? (i := 1020) (by decide +kernel), List.mem_of_getElem? (i := 1021) (by decide +kernel)⟩
theorem lw_p34 : lw_okq (⟨"EggSpoonsModel", "legsOf", "(I)I"⟩, 18) := ⟨⟨by decide +kernel, by decide +kernel⟩, List.mem_of_getElem? (i := 833) (by decide +kernel), List.mem_of_getElem? (i := 1061) (by decide +kernel), List.mem_of_getElem? (i := 1062) (by decide +kernel)⟩
theorem lw_p35 : lw_okq (⟨"EggSpoonsModel", "mostAlike", "(I)I"⟩, 18) := ⟨⟨by decide +kernel, by decide +kernel⟩, List.mem_of_getElem? (i := 833) (by decide +kernel), List.mem_of_getElem? (i := 1072) (by decide +kernel), List.mem_of_getElem? (i := 1073) (by decide +kernel)⟩
theorem lw_p36 : lw_okq (⟨"EggSpoonsModel", "kindsOfOne", "(I)I"⟩, 18) := ⟨⟨by decide +kernel, by decide +kernel⟩, List.mem_of_getElem? (i := 833) (by decide +kernel), List.mem_of_getElem? (i := 1092) (by decide +kernel), List.mem_of_getElem? (i := 1093) (by decide +kernel)⟩
theorem lw_p37 : lw_okq (⟨"EggSpoonsModel", "kindsOfEgg", "(I)I"⟩, 18) := ⟨⟨by decide +kernel, by decide +kernel⟩, List.mem_of_getElem? (i := 833) (by decide +kernel), List.mem_of_getElem? (i := 1104) (by decide +kernel), List.mem_of_getElem? (i := 1105) (by decide +kernel)⟩
theorem lw_p38 : lw_okq (⟨"EggSpoonsModel", "rests", "(IIII)Z"⟩, 18) := ⟨⟨by decide +kernel, by decide +kernel⟩, List.mem_of_getElem? (i := 833) (by decide +kernel), List.mem_of_getElem? (i := 1116) (by decide +kernel), List.mem_of_getElem? (i := 1117) (by decide +kernel)⟩
theorem lw_p39 : lw_okq (⟨"EggSpoonsModel", "getsBy", "(III)I"⟩, 18) := ⟨⟨by decide +kernel, by decide +kernel⟩, List.mem_of_getElem? (i := 833) (by decide +kernel), List.mem_of_getElem? (i := 1120) (by decide +kernel), List.mem_of_getElem? (i := 1121) (by decide +kernel)⟩
theorem lw_p40 : lw_okq (⟨"EggSpoonsModel", "fraction", "(JJ)V"⟩, 18) := ⟨⟨by decide +kernel, by decide +kernel⟩, List.mem_of_getElem? (i := 833) (by decide +kernel), List.mem_of_getElem? (i := 1129) (by decide +kernel), List.mem_of_getElem? (i := 1130) (by decide +kernel)⟩
theorem lw_p41 : lw_okq (⟨"EggSpoonsModel", "lookAt", "(I)V"⟩, 18) := ⟨⟨by decide +kernel, by decide +kernel⟩, List.mem_of_getElem? (i := 833) (by decide +kernel), List.mem_of_getElem? (i := 1156) (by decide +kernel), List.mem_of_getElem? (i := 1157) (by decide +kernel)⟩
theorem lw_p42 : lw_okq (⟨"EggSpoonsModel", "spells", "(IIIIIII)Z"⟩, 18) := ⟨⟨by decide +kernel, by decide +kernel⟩, List.mem_of_getElem? (i := 833) (by decide +kernel), List.mem_of_getElem? (i := 1170) (by decide +kernel), List.mem_of_getElem? (i := 1171) (by decide +kernel)⟩
theorem lw_p43 : lw_okq (⟨"EggSpoonsModel", "goBehind", "()V"⟩, 18) := ⟨⟨by decide +kernel, by decide +kernel⟩, List.mem_of_getElem? (i := 833) (by decide +kernel), List.mem_of_getElem? (i := 1174) (by decide +kernel), List.mem_of_getElem? (i := 1175) (by decide +kernel)⟩
theorem lw_p44 : lw_okq (⟨"EggSpoonsModel", "takes", "(III)Z"⟩, 18) := ⟨⟨by decide +kernel, by decide +kernel⟩, List.mem_of_getElem? (i := 833) (by decide +kernel), List.mem_of_getElem? (i := 1178) (by decide +kernel), List.mem_of_getElem? (i := 1179) (by decide +kernel)⟩
theorem lw_p45 : lw_okq (⟨"EggSpoonsModel", "takesItem", "()Z"⟩, 18) := ⟨⟨by decide +kernel, by decide +kernel⟩, List.mem_of_getElem? (i := 833) (by decide +kernel), List.mem_of_getElem? (i := 1182) (by decide +kernel), List.mem_of_getElem? (i := 1183) (by decide +kernel)⟩
theorem lw_p46 : lw_okq (⟨"EggSpoonsModel", "takesOne", "()Z"⟩, 18) := ⟨⟨by decide +kernel, by decide +kernel⟩, List.mem_of_getElem? (i := 833) (by decide +kernel), List.mem_of_getElem? (i := 1186) (by decide +kernel), List.mem_of_getElem? (i := 1187) (by decide +kernel)⟩
theorem lw_p47 : lw_okq (⟨"EggSpoonsModel", "takesSpeed", "()Z"⟩, 18) := ⟨⟨by decide +kernel, by decide +kernel⟩, List.mem_of_getElem? (i := 833) (by decide +kernel), List.mem_of_getElem? (i := 1190) (by decide +kernel), List.mem_of_getElem? (i := 1191) (by decide +kernel)⟩
def lw_privs_3 : List (MethodName × Nat) := [(⟨"EggSpoonsModel", "homeOf", "(I)I"⟩, 18), (⟨"EggSpoonsModel", "homeAtHand", "(II)I"⟩, 18), (⟨"EggSpoonsModel", "legsOf", "(I)I"⟩, 18), (⟨"EggSpoonsModel", "mostAlike", "(I)I"⟩, 18), (⟨"EggSpoonsModel", "kindsOfOne", "(I)I"⟩, 18), (⟨"EggSpoonsModel", "kindsOfEgg", "(I)I"⟩, 18), (⟨"EggSpoonsModel", "rests", "(IIII)Z"⟩, 18), (⟨"EggSpoonsModel", "getsBy", "(III)I"⟩, 18), (⟨"EggSpoonsModel", "fraction", "(JJ)V"⟩, 18), (⟨"EggSpoonsModel", "lookAt", "(I)V"⟩, 18), (⟨"EggSpoonsModel", "spells", "(IIIIIII)Z"⟩, 18), (⟨"EggSpoonsModel", "goBehind", "()V"⟩, 18), (⟨"EggSpoonsModel", "takes", "(III)Z"⟩, 18), (⟨"EggSpoonsModel", "takesItem", "()Z"⟩, 18), (⟨"EggSpoonsModel", "takesOne", "()Z"⟩, 18), (⟨"EggSpoonsModel", "takesSpeed", "()Z"⟩, 18)]
theorem lw_r3 : ∀ q ∈ lw_privs_3, lw_okq q := List.forall_mem_cons.mpr ⟨lw_p32, List.forall_mem_cons.mpr ⟨lw_p33, List.forall_mem_cons.mpr ⟨lw_p34, List.forall_mem_cons.mpr ⟨lw_p35, List.forall_mem_cons.mpr ⟨lw_p36, List.forall_mem_cons.mpr ⟨lw_p37, List.forall_mem_cons.mpr ⟨lw_p38, List.forall_mem_cons.mpr ⟨lw_p39, List.forall_mem_cons.mpr ⟨lw_p40, List.forall_mem_cons.mpr ⟨lw_p41, List.forall_mem_cons.mpr ⟨lw_p42, List.forall_mem_cons.mpr ⟨lw_p43, List.forall_mem_cons.mpr ⟨lw_p44, List.forall_mem_cons.mpr ⟨lw_p45, List.forall_mem_cons.mpr ⟨lw_p46, List.forall_mem_cons.mpr ⟨lw_p47, fun _ h => absurd h List.not_mem_nil⟩⟩⟩⟩⟩⟩⟩⟩⟩⟩⟩⟩⟩⟩⟩⟩
theorem lw_p48 : lw_okq (⟨"EggSpoonsModel", "takesStart", "()Z"⟩, 18) := ⟨⟨by decide +kernel, by decide +kernel⟩, List.mem_of_getElem? (i := 833) (by decide +kernel), List.mem_of_getElem? (i := 1194) (by decide +kernel), List.mem_of_getElem? (i := 1195) (by decide +kernel)⟩
theorem lw_p49 : lw_okq (⟨"EggSpoonsModel", "takesGo", "()Z"⟩, 18) := ⟨⟨by decide +kernel, by decide +kernel⟩, List.mem_of_getElem? (i := 833) (by decide +kernel), List.mem_of_getElem? (i := 1198) (by decide +kernel), List.mem_of_getElem? (i := 1199) (by decide +kernel)⟩
theorem lw_p50 : lw_okq (⟨"EggSpoonsModel", "counted", "(I)I"⟩, 18) := ⟨⟨by decide +kernel, by decide +kernel⟩, List.mem_of_getElem? (i := 833) (by decide +kernel), List.mem_of_getElem? (i := 1222) (by decide +kernel), List.mem_of_getElem? (i := 1223) (by decide +kernel)⟩
theorem lw_p51 : lw_okq (⟨"EggSpoonsModel", "sumOf", "(I)I"⟩, 18) := ⟨⟨by decide +kernel, by decide +kernel⟩, List.mem_of_getElem? (i := 833) (by decide +kernel), List.mem_of_getElem? (i := 1226) (by decide +kernel), List.mem_of_getElem? (i := 1227) (by decide +kernel)⟩
theorem lw_p52 : lw_okq (⟨"EggSpoonsModel", "sums", "(JII)J"⟩, 18) := ⟨⟨by decide +kernel, by decide +kernel⟩, List.mem_of_getElem? (i := 833) (by decide +kernel), List.mem_of_getElem? (i := 1236) (by decide +kernel), List.mem_of_getElem? (i := 1237) (by decide +kernel)⟩
def lw_privs_4 : List (MethodName × Nat) := [(⟨"EggSpoonsModel", "takesStart", "()Z"⟩, 18), (⟨"EggSpoonsModel", "takesGo", "()Z"⟩, 18), (⟨"EggSpoonsModel", "counted", "(I)I"⟩, 18), (⟨"EggSpoonsModel", "sumOf", "(I)I"⟩, 18), (⟨"EggSpoonsModel", "sums", "(JII)J"⟩, 18)]
theorem lw_r4 : ∀ q ∈ lw_privs_4, lw_okq q := List.forall_mem_cons.mpr ⟨lw_p48, List.forall_mem_cons.mpr ⟨lw_p49, List.forall_mem_cons.mpr ⟨lw_p50, List.forall_mem_cons.mpr ⟨lw_p51, List.forall_mem_cons.mpr ⟨lw_p52, fun _ h => absurd h List.not_mem_nil⟩⟩⟩⟩⟩
def lw_privs : List (MethodName × Nat) := lw_privs_1 ++ (lw_privs_2 ++ (lw_privs_3 ++ (lw_privs_4)))
def lw_tbl : List Cond := k2_sels lw_privs ++ tables_1
theorem lw_privs_ok : ∀ q ∈ lw_privs, lw_okq q := by
  show ∀ q ∈ lw_privs_1 ++ (lw_privs_2 ++ (lw_privs_3 ++ (lw_privs_4))), lw_okq q
  exact List.forall_mem_append.mpr ⟨lw_r1, List.forall_mem_append.mpr ⟨lw_r2, List.forall_mem_append.mpr ⟨lw_r3, lw_r4⟩⟩⟩
end
section
theorem goodIn_r {big : List Cond} (ws : List Cond) (ps : List Nat) (hp : ws = ps.filterMap (fun i => big[i]?)) (h : ws.all goodWord = true) : GoodIn big ws := by
  intro w hw
  have h1 := List.all_eq_true.mp h w hw
  rw [hp] at hw
  obtain ⟨i, -, hi⟩ := List.mem_filterMap.mp hw
  have hm : w ∈ big := by first | exact List.mem_of_getElem? hi | exact List.getElem?_mem hi
  exact ⟨hm, good_of_word h1⟩
theorem goodIn_app {big a b : List Cond} (ha : GoodIn big a) (hb : GoodIn big b) : GoodIn big (a ++ b) := fun w h => (List.mem_append.mp h).elim (ha w) (hb w)
theorem goodIn_ca {big a b : List Cond} {c : Cond} (ha : GoodIn big (c :: a)) (hb : GoodIn big b) : GoodIn big (c :: (a ++ b)) := fun w h => (List.mem_cons.mp h).elim (fun e => ha w (List.mem_cons.mpr (Or.inl e))) (fun h => (List.mem_append.mp h).elim (fun h => ha w (List.mem_cons.mpr (Or.inr h))) (hb w))
theorem goodIn_sub {big ws : List Cond} (hm : ∀ w ∈ ws, w ∈ big) (h : ws.all goodWord = true) : GoodIn big ws := fun w hw => ⟨hm w hw, good_of_word (List.all_eq_true.mp h w hw)⟩
def RX0 : String := "EggSpoons$Duel"
def TX0 : u_T := fun k => match k with
  | 0 => ("EggSpoons$Duel", "endsA", "[I", true)
  | 1 => ("EggSpoons$Duel", "endsB", "[I", true)
  | 2 => ("EggSpoons$Duel", "mostA", "[I", true)
  | 3 => ("EggSpoons$Duel", "mostB", "[I", true)
  | _ => ("EggSpoons$Duel", "resting", "[I", true)
def tyX0 : Nat → FieldType := fun k => match k with
  | 0 => .array .int
  | 1 => .array .int
  | 2 => .array .int
  | 3 => .array .int
  | _ => .array .int
abbrev wsX00 : List Cond := u_ws RX0 TX0 5
theorem nmX0 : ∀ a, a < 5 → ∀ b, b < 5 → a ≠ b → (TX0 a).2.1 ≠ (TX0 b).2.1 := by decide +kernel
theorem tyX0_ok : ∀ k, k < 5 → parseFieldDescriptor (TX0 k).2.2.1 = some (tyX0 k) := by decide +kernel
abbrev cX0_init : ByteArray := prog_2_method_1_code
def yX0_init : MethodName := ⟨RX0, "<init>", "()V"⟩
abbrev cX0_put : ByteArray := prog_2_method_2_code
def yX0_put : MethodName := ⟨RX0, "put", "(III)V"⟩
abbrev cX0_weigh : ByteArray := prog_2_method_3_code
def yX0_weigh : MethodName := ⟨RX0, "weigh", "(II)I"⟩
abbrev cX0_restingPair : ByteArray := prog_2_method_4_code
def yX0_restingPair : MethodName := ⟨RX0, "restingPair", "(I)I"⟩
abbrev cX0_greatestGain : ByteArray := prog_2_method_5_code
def yX0_greatestGain : MethodName := ⟨RX0, "greatestGain", "([III)I"⟩
abbrev cX0_gain : ByteArray := prog_2_method_6_code
def yX0_gain : MethodName := ⟨RX0, "gain", "(III)I"⟩
def RX1 : String := "EggSpoons$Egg"
def TX1 : u_T := fun k => match k with
  | _ => ("", "", "", false)
def tyX1 : Nat → FieldType := fun k => match k with
  | _ => .int
abbrev wsX10 : List Cond := u_ws RX1 TX1 0
theorem nmX1 : ∀ a, a < 0 → ∀ b, b < 0 → a ≠ b → (TX1 a).2.1 ≠ (TX1 b).2.1 := by decide +kernel
theorem tyX1_ok : ∀ k, k < 0 → parseFieldDescriptor (TX1 k).2.2.1 = some (tyX1 k) := by decide +kernel
abbrev cX1_limit : ByteArray := prog_3_method_2_code
def yX1_limit : MethodName := ⟨RX1, "limit", "(II)I"⟩
def RX2 : String := "EggSpoons$Gait"
def TX2 : u_T := fun k => match k with
  | _ => ("", "", "", false)
def tyX2 : Nat → FieldType := fun k => match k with
  | _ => .int
abbrev wsX20 : List Cond := u_ws RX2 TX2 0
theorem nmX2 : ∀ a, a < 0 → ∀ b, b < 0 → a ≠ b → (TX2 a).2.1 ≠ (TX2 b).2.1 := by decide +kernel
theorem tyX2_ok : ∀ k, k < 0 → parseFieldDescriptor (TX2 k).2.2.1 = some (tyX2 k) := by decide +kernel
abbrev cX2_reach : ByteArray := prog_4_method_2_code
def yX2_reach : MethodName := ⟨RX2, "reach", "(IIII)I"⟩
def RX3 : String := "EggSpoons$Odds"
def TX3 : u_T := fun k => match k with
  | 0 => ("EggSpoons$Odds", "kind", "I", false)
  | 1 => ("EggSpoons$Odds", "legs", "I", false)
  | 2 => ("EggSpoons$Odds", "egg", "I", false)
  | 3 => ("EggSpoons$Odds", "speed", "I", false)
  | 4 => ("EggSpoons$Odds", "length", "I", false)
  | 5 => ("EggSpoons$Odds", "lastTick", "I", false)
  | 6 => ("EggSpoons$Odds", "goal", "I", false)
  | _ => ("EggSpoons$Odds", "tenths", "I", false)
def tyX3 : Nat → FieldType := fun k => match k with
  | 0 => .int
  | 1 => .int
  | 2 => .int
  | 3 => .int
  | 4 => .int
  | 5 => .int
  | 6 => .int
  | _ => .int
abbrev wsX30 : List Cond := u_ws RX3 TX3 8
theorem nmX3 : ∀ a, a < 8 → ∀ b, b < 8 → a ≠ b → (TX3 a).2.1 ≠ (TX3 b).2.1 := by decide +kernel
theorem tyX3_ok : ∀ k, k < 8 → parseFieldDescriptor (TX3 k).2.2.1 = some (tyX3 k) := by decide +kernel
abbrev cX3_init : ByteArray := prog_5_method_1_code
def yX3_init : MethodName := ⟨RX3, "<init>", "()V"⟩
abbrev cX3_pose : ByteArray := prog_5_method_2_code
def yX3_pose : MethodName := ⟨RX3, "pose", "(LEggSpoons$Runner;IIII)V"⟩
abbrev cX3_ways : ByteArray := prog_5_method_3_code
def yX3_ways : MethodName := ⟨RX3, "ways", "(LEggSpoons$Odds;III)J"⟩
abbrev cX3_tenTo : ByteArray := prog_5_method_4_code
def yX3_tenTo : MethodName := ⟨RX3, "tenTo", "(I)J"⟩
abbrev cX3_commonPart : ByteArray := prog_5_method_5_code
def yX3_commonPart : MethodName := ⟨RX3, "commonPart", "(JJ)J"⟩
def RX4 : String := "EggSpoons$Past"
def TX4 : u_T := fun k => match k with
  | 0 => ("EggSpoons$Past", "cells", "[I", true)
  | _ => ("EggSpoons$Past", "size", "I", false)
def tyX4 : Nat → FieldType := fun k => match k with
  | 0 => .array .int
  | _ => .int
abbrev wsX40 : List Cond := u_ws RX4 TX4 2
theorem nmX4 : ∀ a, a < 2 → ∀ b, b < 2 → a ≠ b → (TX4 a).2.1 ≠ (TX4 b).2.1 := by decide +kernel
theorem tyX4_ok : ∀ k, k < 2 → parseFieldDescriptor (TX4 k).2.2.1 = some (tyX4 k) := by decide +kernel
abbrev cX4_init : ByteArray := prog_6_method_1_code
def yX4_init : MethodName := ⟨RX4, "<init>", "()V"⟩
abbrev cX4_push : ByteArray := prog_6_method_2_code
def yX4_push : MethodName := ⟨RX4, "push", "(I[LEggSpoons$Runner;)V"⟩
abbrev cX4_pop : ByteArray := prog_6_method_3_code
def yX4_pop : MethodName := ⟨RX4, "pop", "([LEggSpoons$Runner;)I"⟩
abbrev cX4_copyFrom : ByteArray := prog_6_method_4_code
def yX4_copyFrom : MethodName := ⟨RX4, "copyFrom", "(LEggSpoons$Past;)V"⟩
def RX5 : String := "EggSpoons$Race"
def TX5 : u_T := fun k => match k with
  | 0 => ("EggSpoons$Race", "length", "I", false)
  | 1 => ("EggSpoons$Race", "tick", "I", false)
  | 2 => ("EggSpoons$Race", "runners", "I", false)
  | 3 => ("EggSpoons$Race", "row", "[LEggSpoons$Runner;", true)
  | 4 => ("EggSpoons$Race", "past", "LEggSpoons$Past;", true)
  | 5 => ("EggSpoons$Race", "seenRows", "LEggSpoons$Rows;", true)
  | 6 => ("EggSpoons$Race", "noteRows", "LEggSpoons$Rows;", true)
  | _ => ("EggSpoons$Race", "markRows", "LEggSpoons$Rows;", true)
def tyX5 : Nat → FieldType := fun k => match k with
  | 0 => .int
  | 1 => .int
  | 2 => .int
  | 3 => .array (.object "EggSpoons$Runner")
  | 4 => .object "EggSpoons$Past"
  | 5 => .object "EggSpoons$Rows"
  | 6 => .object "EggSpoons$Rows"
  | _ => .object "EggSpoons$Rows"
abbrev wsX50 : List Cond := u_ws RX5 TX5 8
theorem nmX5 : ∀ a, a < 8 → ∀ b, b < 8 → a ≠ b → (TX5 a).2.1 ≠ (TX5 b).2.1 := by decide +kernel
theorem tyX5_ok : ∀ k, k < 8 → parseFieldDescriptor (TX5 k).2.2.1 = some (tyX5 k) := by decide +kernel
abbrev cX5_init : ByteArray := prog_7_method_1_code
def yX5_init : MethodName := ⟨RX5, "<init>", "()V"⟩
abbrev cX5_restart : ByteArray := prog_7_method_2_code
def yX5_restart : MethodName := ⟨RX5, "restart", "(I)V"⟩
abbrev cX5_welcome : ByteArray := prog_7_method_3_code
def yX5_welcome : MethodName := ⟨RX5, "welcome", "(III)V"⟩
abbrev cX5_copyLine : ByteArray := prog_7_method_4_code
def yX5_copyLine : MethodName := ⟨RX5, "copyLine", "(LEggSpoons$Race;)V"⟩
abbrev cX5_copyFrom : ByteArray := prog_7_method_5_code
def yX5_copyFrom : MethodName := ⟨RX5, "copyFrom", "(LEggSpoons$Race;)V"⟩
abbrev cX5_goOn : ByteArray := prog_7_method_6_code
def yX5_goOn : MethodName := ⟨RX5, "goOn", "()V"⟩
abbrev cX5_keep : ByteArray := prog_7_method_7_code
def yX5_keep : MethodName := ⟨RX5, "keep", "()V"⟩
abbrev cX5_takeBack : ByteArray := prog_7_method_8_code
def yX5_takeBack : MethodName := ⟨RX5, "takeBack", "()Z"⟩
abbrev cX5_homes : ByteArray := prog_7_method_9_code
def yX5_homes : MethodName := ⟨RX5, "homes", "()I"⟩
abbrev cX5_placesTogether : ByteArray := prog_7_method_10_code
def yX5_placesTogether : MethodName := ⟨RX5, "placesTogether", "()I"⟩
abbrev cX5_dropsTogether : ByteArray := prog_7_method_11_code
def yX5_dropsTogether : MethodName := ⟨RX5, "dropsTogether", "()I"⟩
abbrev cX5_legsThatFit : ByteArray := prog_7_method_12_code
def yX5_legsThatFit : MethodName := ⟨RX5, "legsThatFit", "(I)I"⟩
abbrev cX5_kindsThatFit : ByteArray := prog_7_method_13_code
def yX5_kindsThatFit : MethodName := ⟨RX5, "kindsThatFit", "(I)I"⟩
abbrev cX5_eggsThatFit : ByteArray := prog_7_method_14_code
def yX5_eggsThatFit : MethodName := ⟨RX5, "eggsThatFit", "(I)I"⟩
def RX6 : String := "EggSpoons$Reader"
def TX6 : u_T := fun k => match k with
  | 0 => ("EggSpoons$Reader", "bytes", "[I", true)
  | 1 => ("EggSpoons$Reader", "length", "I", false)
  | 2 => ("EggSpoons$Reader", "at", "I", false)
  | 3 => ("EggSpoons$Reader", "tokenAt", "I", false)
  | 4 => ("EggSpoons$Reader", "sort", "I", false)
  | 5 => ("EggSpoons$Reader", "value", "I", false)
  | _ => ("EggSpoons$Reader", "fault", "I", false)
def tyX6 : Nat → FieldType := fun k => match k with
  | 0 => .array .int
  | 1 => .int
  | 2 => .int
  | 3 => .int
  | 4 => .int
  | 5 => .int
  | _ => .int
abbrev wsX60 : List Cond := u_ws RX6 TX6 7
theorem nmX6 : ∀ a, a < 7 → ∀ b, b < 7 → a ≠ b → (TX6 a).2.1 ≠ (TX6 b).2.1 := by decide +kernel
theorem tyX6_ok : ∀ k, k < 7 → parseFieldDescriptor (TX6 k).2.2.1 = some (tyX6 k) := by decide +kernel
abbrev cX6_init : ByteArray := prog_8_method_1_code
def yX6_init : MethodName := ⟨RX6, "<init>", "()V"⟩
abbrev cX6_append : ByteArray := prog_8_method_2_code
def yX6_append : MethodName := ⟨RX6, "append", "(I)Z"⟩
abbrev cX6_takeRace : ByteArray := prog_8_method_3_code
def yX6_takeRace : MethodName := ⟨RX6, "takeRace", "(LEggSpoons$Race;)I"⟩
abbrev cX6_takeItem : ByteArray := prog_8_method_4_code
def yX6_takeItem : MethodName := ⟨RX6, "takeItem", "(LEggSpoons$Race;Z)V"⟩
abbrev cX6_takeLength : ByteArray := prog_8_method_5_code
def yX6_takeLength : MethodName := ⟨RX6, "takeLength", "(LEggSpoons$Race;)V"⟩
abbrev cX6_takeRunner : ByteArray := prog_8_method_6_code
def yX6_takeRunner : MethodName := ⟨RX6, "takeRunner", "(LEggSpoons$Race;)V"⟩
abbrev cX6_takeSpeed : ByteArray := prog_8_method_7_code
def yX6_takeSpeed : MethodName := ⟨RX6, "takeSpeed", "(LEggSpoons$Race;)V"⟩
abbrev cX6_takeStart : ByteArray := prog_8_method_8_code
def yX6_takeStart : MethodName := ⟨RX6, "takeStart", "(LEggSpoons$Race;)V"⟩
abbrev cX6_takeTicks : ByteArray := prog_8_method_9_code
def yX6_takeTicks : MethodName := ⟨RX6, "takeTicks", "(LEggSpoons$Race;)V"⟩
abbrev cX6_number : ByteArray := prog_8_method_10_code
def yX6_number : MethodName := ⟨RX6, "number", "(II)I"⟩
abbrev cX6_ended : ByteArray := prog_8_method_11_code
def yX6_ended : MethodName := ⟨RX6, "ended", "()Z"⟩
abbrev cX6_skipBlanks : ByteArray := prog_8_method_12_code
def yX6_skipBlanks : MethodName := ⟨RX6, "skipBlanks", "()V"⟩
abbrev cX6_nextToken : ByteArray := prog_8_method_13_code
def yX6_nextToken : MethodName := ⟨RX6, "nextToken", "()V"⟩
abbrev cX6_takeLetters : ByteArray := prog_8_method_14_code
def yX6_takeLetters : MethodName := ⟨RX6, "takeLetters", "()V"⟩
abbrev cX6_takeFigures : ByteArray := prog_8_method_15_code
def yX6_takeFigures : MethodName := ⟨RX6, "takeFigures", "()V"⟩
abbrev cX6_spells : ByteArray := prog_8_method_16_code
def yX6_spells : MethodName := ⟨RX6, "spells", "(Ljava/lang/String;)Z"⟩
abbrev cX6_isLetter : ByteArray := prog_8_method_17_code
def yX6_isLetter : MethodName := ⟨RX6, "isLetter", "(I)Z"⟩
abbrev cX6_isFigure : ByteArray := prog_8_method_18_code
def yX6_isFigure : MethodName := ⟨RX6, "isFigure", "(I)Z"⟩
def RX7 : String := "EggSpoons$Rows"
def TX7 : u_T := fun k => match k with
  | 0 => ("EggSpoons$Rows", "most", "I", true)
  | 1 => ("EggSpoons$Rows", "withLegs", "Z", true)
  | 2 => ("EggSpoons$Rows", "withSpeed", "Z", true)
  | 3 => ("EggSpoons$Rows", "cells", "[I", true)
  | _ => ("EggSpoons$Rows", "size", "I", false)
def tyX7 : Nat → FieldType := fun k => match k with
  | 0 => .int
  | 1 => .boolean
  | 2 => .boolean
  | 3 => .array .int
  | _ => .int
abbrev wsX70 : List Cond := u_ws RX7 TX7 5
theorem nmX7 : ∀ a, a < 5 → ∀ b, b < 5 → a ≠ b → (TX7 a).2.1 ≠ (TX7 b).2.1 := by decide +kernel
theorem tyX7_ok : ∀ k, k < 5 → parseFieldDescriptor (TX7 k).2.2.1 = some (tyX7 k) := by decide +kernel
abbrev cX7_init : ByteArray := prog_9_method_1_code
def yX7_init : MethodName := ⟨RX7, "<init>", "(IZZ)V"⟩
abbrev cX7_append : ByteArray := prog_9_method_2_code
def yX7_append : MethodName := ⟨RX7, "append", "(IIIII)Z"⟩
abbrev cX7_copyFrom : ByteArray := prog_9_method_3_code
def yX7_copyFrom : MethodName := ⟨RX7, "copyFrom", "(LEggSpoons$Rows;)V"⟩
abbrev cX7_fitRunner : ByteArray := prog_9_method_4_code
def yX7_fitRunner : MethodName := ⟨RX7, "fitRunner", "(III)Z"⟩
abbrev cX7_fitEgg : ByteArray := prog_9_method_5_code
def yX7_fitEgg : MethodName := ⟨RX7, "fitEgg", "(II)Z"⟩
abbrev cX7_mixInto : ByteArray := prog_9_method_6_code
def yX7_mixInto : MethodName := ⟨RX7, "mixInto", "(J)J"⟩
def RX8 : String := "EggSpoons$Runner"
def TX8 : u_T := fun k => match k with
  | 0 => ("EggSpoons$Runner", "kind", "I", false)
  | 1 => ("EggSpoons$Runner", "legs", "I", false)
  | 2 => ("EggSpoons$Runner", "egg", "I", false)
  | 3 => ("EggSpoons$Runner", "speed", "I", false)
  | 4 => ("EggSpoons$Runner", "place", "I", false)
  | 5 => ("EggSpoons$Runner", "drops", "I", false)
  | 6 => ("EggSpoons$Runner", "waits", "I", false)
  | _ => ("EggSpoons$Runner", "homeAt", "I", false)
def tyX8 : Nat → FieldType := fun k => match k with
  | 0 => .int
  | 1 => .int
  | 2 => .int
  | 3 => .int
  | 4 => .int
  | 5 => .int
  | 6 => .int
  | _ => .int
abbrev wsX80 : List Cond := u_ws RX8 TX8 8
theorem nmX8 : ∀ a, a < 8 → ∀ b, b < 8 → a ≠ b → (TX8 a).2.1 ≠ (TX8 b).2.1 := by decide +kernel
theorem tyX8_ok : ∀ k, k < 8 → parseFieldDescriptor (TX8 k).2.2.1 = some (tyX8 k) := by decide +kernel
abbrev cX8_init : ByteArray := prog_10_method_1_code
def yX8_init : MethodName := ⟨RX8, "<init>", "()V"⟩
abbrev cX8_begin : ByteArray := prog_10_method_2_code
def yX8_begin : MethodName := ⟨RX8, "begin", "(III)V"⟩
abbrev cX8_copyFrom : ByteArray := prog_10_method_3_code
def yX8_copyFrom : MethodName := ⟨RX8, "copyFrom", "(LEggSpoons$Runner;)V"⟩
abbrev cX8_isHome : ByteArray := prog_10_method_4_code
def yX8_isHome : MethodName := ⟨RX8, "isHome", "()Z"⟩
abbrev cX8_fact : ByteArray := prog_10_method_5_code
def yX8_fact : MethodName := ⟨RX8, "fact", "(II)I"⟩
abbrev cX8_step : ByteArray := prog_10_method_6_code
def yX8_step : MethodName := ⟨RX8, "step", "(II)V"⟩
abbrev cX8_ticksToHome : ByteArray := prog_10_method_7_code
def yX8_ticksToHome : MethodName := ⟨RX8, "ticksToHome", "(III)I"⟩
abbrev cX8_placeBehind : ByteArray := prog_10_method_8_code
def yX8_placeBehind : MethodName := ⟨RX8, "placeBehind", "(III)I"⟩
def RX9 : String := "EggSpoons$Tally"
def TX9 : u_T := fun k => match k with
  | 0 => ("EggSpoons$Tally", "counts", "[I", true)
  | _ => ("EggSpoons$Tally", "most", "I", false)
def tyX9 : Nat → FieldType := fun k => match k with
  | 0 => .array .int
  | _ => .int
abbrev wsX90 : List Cond := u_ws RX9 TX9 2
theorem nmX9 : ∀ a, a < 2 → ∀ b, b < 2 → a ≠ b → (TX9 a).2.1 ≠ (TX9 b).2.1 := by decide +kernel
theorem tyX9_ok : ∀ k, k < 2 → parseFieldDescriptor (TX9 k).2.2.1 = some (tyX9 k) := by decide +kernel
abbrev cX9_init : ByteArray := prog_11_method_1_code
def yX9_init : MethodName := ⟨RX9, "<init>", "()V"⟩
abbrev cX9_restart : ByteArray := prog_11_method_2_code
def yX9_restart : MethodName := ⟨RX9, "restart", "()V"⟩
abbrev cX9_see : ByteArray := prog_11_method_3_code
def yX9_see : MethodName := ⟨RX9, "see", "(I)V"⟩
def RX10 : String := "EggSpoons"
def TX10 : u_T := fun k => match k with
  | 0 => ("EggSpoons", "now", "LEggSpoons$Race;", false)
  | 1 => ("EggSpoons", "spare", "LEggSpoons$Race;", false)
  | 2 => ("EggSpoons", "images", "[LEggSpoons$Race;", true)
  | 3 => ("EggSpoons", "imageKept", "[Z", true)
  | 4 => ("EggSpoons", "reader", "LEggSpoons$Reader;", true)
  | 5 => ("EggSpoons", "refused", "[I", true)
  | 6 => ("EggSpoons", "above", "J", false)
  | 7 => ("EggSpoons", "below", "J", false)
  | 8 => ("EggSpoons", "ghost", "LEggSpoons$Runner;", true)
  | 9 => ("EggSpoons", "rival", "LEggSpoons$Runner;", true)
  | 10 => ("EggSpoons", "tally", "LEggSpoons$Tally;", true)
  | 11 => ("EggSpoons", "odds", "LEggSpoons$Odds;", true)
  | 12 => ("EggSpoons", "duel", "LEggSpoons$Duel;", true)
  | _ => ("EggSpoons", "ranks", "[I", true)
def tyX10 : Nat → FieldType := fun k => match k with
  | 0 => .object "EggSpoons$Race"
  | 1 => .object "EggSpoons$Race"
  | 2 => .array (.object "EggSpoons$Race")
  | 3 => .array .boolean
  | 4 => .object "EggSpoons$Reader"
  | 5 => .array .int
  | 6 => .long
  | 7 => .long
  | 8 => .object "EggSpoons$Runner"
  | 9 => .object "EggSpoons$Runner"
  | 10 => .object "EggSpoons$Tally"
  | 11 => .object "EggSpoons$Odds"
  | 12 => .object "EggSpoons$Duel"
  | _ => .array .int
abbrev wsX100 : List Cond := u_ws RX10 TX10 14
theorem nmX10 : ∀ a, a < 14 → ∀ b, b < 14 → a ≠ b → (TX10 a).2.1 ≠ (TX10 b).2.1 := by decide +kernel
theorem tyX10_ok : ∀ k, k < 14 → parseFieldDescriptor (TX10 k).2.2.1 = some (tyX10 k) := by decide +kernel
abbrev cX10_init : ByteArray := prog_1_method_1_code
def yX10_init : MethodName := ⟨RX10, "<init>", "()V"⟩
abbrev cX10_race : ByteArray := prog_1_method_2_code
def yX10_race : MethodName := ⟨RX10, "race", "(I)I"⟩
abbrev cX10_one : ByteArray := prog_1_method_3_code
def yX10_one : MethodName := ⟨RX10, "one", "(III)I"⟩
abbrev cX10_type : ByteArray := prog_1_method_4_code
def yX10_type : MethodName := ⟨RX10, "type", "(I)I"⟩
abbrev cX10_clear : ByteArray := prog_1_method_5_code
def yX10_clear : MethodName := ⟨RX10, "clear", "()I"⟩
abbrev cX10_read : ByteArray := prog_1_method_6_code
def yX10_read : MethodName := ⟨RX10, "read", "()I"⟩
abbrev cX10_ticks : ByteArray := prog_1_method_7_code
def yX10_ticks : MethodName := ⟨RX10, "ticks", "(I)I"⟩
abbrev cX10_speed : ByteArray := prog_1_method_8_code
def yX10_speed : MethodName := ⟨RX10, "speed", "(II)I"⟩
abbrev cX10_start : ByteArray := prog_1_method_9_code
def yX10_start : MethodName := ⟨RX10, "start", "(II)I"⟩
abbrev cX10_undo : ByteArray := prog_1_method_10_code
def yX10_undo : MethodName := ⟨RX10, "undo", "()I"⟩
abbrev cX10_of : ByteArray := prog_1_method_11_code
def yX10_of : MethodName := ⟨RX10, "of", "(II)I"⟩
abbrev cX10_where : ByteArray := prog_1_method_12_code
def yX10_where : MethodName := ⟨RX10, "where", "(II)I"⟩
abbrev cX10_home : ByteArray := prog_1_method_13_code
def yX10_home : MethodName := ⟨RX10, "home", "(I)I"⟩
abbrev cX10_first : ByteArray := prog_1_method_14_code
def yX10_first : MethodName := ⟨RX10, "first", "()I"⟩
abbrev cX10_order : ByteArray := prog_1_method_15_code
def yX10_order : MethodName := ⟨RX10, "order", "(I)I"⟩
abbrev cX10_best : ByteArray := prog_1_method_16_code
def yX10_best : MethodName := ⟨RX10, "best", "(II)I"⟩
abbrev cX10_turn : ByteArray := prog_1_method_17_code
def yX10_turn : MethodName := ⟨RX10, "turn", "(III)I"⟩
abbrev cX10_beats : ByteArray := prog_1_method_18_code
def yX10_beats : MethodName := ⟨RX10, "beats", "(II)I"⟩
abbrev cX10_close : ByteArray := prog_1_method_19_code
def yX10_close : MethodName := ⟨RX10, "close", "(III)I"⟩
abbrev cX10_seen : ByteArray := prog_1_method_20_code
def yX10_seen : MethodName := ⟨RX10, "seen", "(IIII)I"⟩
abbrev cX10_strong : ByteArray := prog_1_method_21_code
def yX10_strong : MethodName := ⟨RX10, "strong", "(II)I"⟩
abbrev cX10_tell : ByteArray := prog_1_method_22_code
def yX10_tell : MethodName := ⟨RX10, "tell", "(I)I"⟩
abbrev cX10_note : ByteArray := prog_1_method_23_code
def yX10_note : MethodName := ⟨RX10, "note", "(IIIII)I"⟩
abbrev cX10_mark : ByteArray := prog_1_method_24_code
def yX10_mark : MethodName := ⟨RX10, "mark", "(III)I"⟩
abbrev cX10_forget : ByteArray := prog_1_method_25_code
def yX10_forget : MethodName := ⟨RX10, "forget", "(I)I"⟩
abbrev cX10_is : ByteArray := prog_1_method_26_code
def yX10_is : MethodName := ⟨RX10, "is", "(I)I"⟩
abbrev cX10_look : ByteArray := prog_1_method_27_code
def yX10_look : MethodName := ⟨RX10, "look", "(I)I"⟩
abbrev cX10_kinds : ByteArray := prog_1_method_28_code
def yX10_kinds : MethodName := ⟨RX10, "kinds", "(I)I"⟩
abbrev cX10_ask : ByteArray := prog_1_method_29_code
def yX10_ask : MethodName := ⟨RX10, "ask", "(I)I"⟩
abbrev cX10_pair : ByteArray := prog_1_method_30_code
def yX10_pair : MethodName := ⟨RX10, "pair", "(III)I"⟩
abbrev cX10_stumble : ByteArray := prog_1_method_31_code
def yX10_stumble : MethodName := ⟨RX10, "stumble", "(IIII)I"⟩
abbrev cX10_races : ByteArray := prog_1_method_32_code
def yX10_races : MethodName := ⟨RX10, "races", "(II)I"⟩
abbrev cX10_part : ByteArray := prog_1_method_33_code
def yX10_part : MethodName := ⟨RX10, "part", "(I)J"⟩
abbrev cX10_image : ByteArray := prog_1_method_34_code
def yX10_image : MethodName := ⟨RX10, "image", "(I)I"⟩
abbrev cX10_from : ByteArray := prog_1_method_35_code
def yX10_from : MethodName := ⟨RX10, "from", "(I)I"⟩
abbrev cX10_status : ByteArray := prog_1_method_36_code
def yX10_status : MethodName := ⟨RX10, "status", "(I)I"⟩
abbrev cX10_count : ByteArray := prog_1_method_37_code
def yX10_count : MethodName := ⟨RX10, "count", "(I)I"⟩
abbrev cX10_digest : ByteArray := prog_1_method_38_code
def yX10_digest : MethodName := ⟨RX10, "digest", "()J"⟩
abbrev cX10_within : ByteArray := prog_1_method_39_code
def yX10_within : MethodName := ⟨RX10, "within", "(III)Z"⟩
abbrev cX10_hasBit : ByteArray := prog_1_method_40_code
def yX10_hasBit : MethodName := ⟨RX10, "hasBit", "(II)Z"⟩
abbrev cX10_there : ByteArray := prog_1_method_41_code
def yX10_there : MethodName := ⟨RX10, "there", "(I)Z"⟩
abbrev cX10_areTwo : ByteArray := prog_1_method_42_code
def yX10_areTwo : MethodName := ⟨RX10, "areTwo", "(II)Z"⟩
abbrev cX10_refuse : ByteArray := prog_1_method_43_code
def yX10_refuse : MethodName := ⟨RX10, "refuse", "(I)I"⟩
abbrev cX10_homeBehind : ByteArray := prog_1_method_44_code
def yX10_homeBehind : MethodName := ⟨RX10, "homeBehind", "(II)I"⟩
abbrev cX10_homeTurning : ByteArray := prog_1_method_45_code
def yX10_homeTurning : MethodName := ⟨RX10, "homeTurning", "(IIII)I"⟩
abbrev cX10_rankAll : ByteArray := prog_1_method_46_code
def yX10_rankAll : MethodName := ⟨RX10, "rankAll", "()V"⟩
abbrev cX10_aheadOf : ByteArray := prog_1_method_47_code
def yX10_aheadOf : MethodName := ⟨RX10, "aheadOf", "(I)I"⟩
abbrev cX10_nextLook : ByteArray := prog_1_method_48_code
def yX10_nextLook : MethodName := ⟨RX10, "nextLook", "(LEggSpoons$Runner;III)I"⟩
abbrev cX10_mostAlike : ByteArray := prog_1_method_49_code
def yX10_mostAlike : MethodName := ⟨RX10, "mostAlike", "(LEggSpoons$Runner;III)I"⟩
abbrev cX10_farBy : ByteArray := prog_1_method_50_code
def yX10_farBy : MethodName := ⟨RX10, "farBy", "(LEggSpoons$Runner;III)I"⟩
abbrev cX10_placeBehindFive : ByteArray := prog_1_method_51_code
def yX10_placeBehindFive : MethodName := ⟨RX10, "placeBehindFive", "(II)I"⟩
def RX11 : String := "EggSpoonsModel"
def TX11 : u_T := fun k => match k with
  | 0 => ("EggSpoonsModel", "all", "[I", true)
  | 1 => ("EggSpoonsModel", "kept", "[I", true)
  | 2 => ("EggSpoonsModel", "isKept", "[Z", true)
  | 3 => ("EggSpoonsModel", "refused", "[I", true)
  | 4 => ("EggSpoonsModel", "above", "J", false)
  | 5 => ("EggSpoonsModel", "below", "J", false)
  | 6 => ("EggSpoonsModel", "hand", "[I", true)
  | 7 => ("EggSpoonsModel", "goesBy", "[I", true)
  | 8 => ("EggSpoonsModel", "tells", "[I", true)
  | 9 => ("EggSpoonsModel", "behindBy", "[I", true)
  | 10 => ("EggSpoonsModel", "bytes", "[I", true)
  | 11 => ("EggSpoonsModel", "bytesLong", "I", false)
  | 12 => ("EggSpoonsModel", "tokenAt", "I", false)
  | 13 => ("EggSpoonsModel", "tokenLong", "I", false)
  | 14 => ("EggSpoonsModel", "token", "I", false)
  | 15 => ("EggSpoonsModel", "value", "I", false)
  | 16 => ("EggSpoonsModel", "anew", "[I", true)
  | _ => ("EggSpoonsModel", "values", "[I", true)
def tyX11 : Nat → FieldType := fun k => match k with
  | 0 => .array .int
  | 1 => .array .int
  | 2 => .array .boolean
  | 3 => .array .int
  | 4 => .long
  | 5 => .long
  | 6 => .array .int
  | 7 => .array .int
  | 8 => .array .int
  | 9 => .array .int
  | 10 => .array .int
  | 11 => .int
  | 12 => .int
  | 13 => .int
  | 14 => .int
  | 15 => .int
  | 16 => .array .int
  | _ => .array .int
abbrev wsX110 : List Cond := u_ws RX11 TX11 18
theorem nmX11 : ∀ a, a < 18 → ∀ b, b < 18 → a ≠ b → (TX11 a).2.1 ≠ (TX11 b).2.1 := by decide +kernel
theorem tyX11_ok : ∀ k, k < 18 → parseFieldDescriptor (TX11 k).2.2.1 = some (tyX11 k) := by decide +kernel
abbrev cX11_init : ByteArray := prog_13_method_1_code
def yX11_init : MethodName := ⟨RX11, "<init>", "()V"⟩
abbrev cX11_in : ByteArray := prog_13_method_3_code
def yX11_in : MethodName := ⟨RX11, "in", "(JJJ)Z"⟩
abbrev cX11_bad : ByteArray := prog_13_method_4_code
def yX11_bad : MethodName := ⟨RX11, "bad", "(I)I"⟩
abbrev cX11_no : ByteArray := prog_13_method_5_code
def yX11_no : MethodName := ⟨RX11, "no", "()I"⟩
abbrev cX11_full : ByteArray := prog_13_method_6_code
def yX11_full : MethodName := ⟨RX11, "full", "()I"⟩
abbrev cX11_has : ByteArray := prog_13_method_7_code
def yX11_has : MethodName := ⟨RX11, "has", "(II)Z"⟩
abbrev cX11_begin : ByteArray := prog_13_method_8_code
def yX11_begin : MethodName := ⟨RX11, "begin", "([II)V"⟩
abbrev cX11_many : ByteArray := prog_13_method_9_code
def yX11_many : MethodName := ⟨RX11, "many", "()I"⟩
abbrev cX11_isOne : ByteArray := prog_13_method_10_code
def yX11_isOne : MethodName := ⟨RX11, "isOne", "(I)Z"⟩
abbrev cX11_isKind : ByteArray := prog_13_method_11_code
def yX11_isKind : MethodName := ⟨RX11, "isKind", "(I)Z"⟩
abbrev cX11_isLegs : ByteArray := prog_13_method_12_code
def yX11_isLegs : MethodName := ⟨RX11, "isLegs", "(I)Z"⟩
abbrev cX11_isSpeed : ByteArray := prog_13_method_13_code
def yX11_isSpeed : MethodName := ⟨RX11, "isSpeed", "(I)Z"⟩
abbrev cX11_race : ByteArray := prog_13_method_14_code
def yX11_race : MethodName := ⟨RX11, "race", "(I)I"⟩
abbrev cX11_layOne : ByteArray := prog_13_method_15_code
def yX11_layOne : MethodName := ⟨RX11, "layOne", "([IIII)V"⟩
abbrev cX11_one : ByteArray := prog_13_method_16_code
def yX11_one : MethodName := ⟨RX11, "one", "(III)I"⟩
abbrev cX11_runsAs : ByteArray := prog_13_method_17_code
def yX11_runsAs : MethodName := ⟨RX11, "runsAs", "(IIII)I"⟩
abbrev cX11_mayAs : ByteArray := prog_13_method_18_code
def yX11_mayAs : MethodName := ⟨RX11, "mayAs", "(II)I"⟩
abbrev cX11_runsOf : ByteArray := prog_13_method_19_code
def yX11_runsOf : MethodName := ⟨RX11, "runsOf", "([III)I"⟩
abbrev cX11_isHome : ByteArray := prog_13_method_20_code
def yX11_isHome : MethodName := ⟨RX11, "isHome", "([II)Z"⟩
abbrev cX11_drop : ByteArray := prog_13_method_21_code
def yX11_drop : MethodName := ⟨RX11, "drop", "([II)V"⟩
abbrev cX11_goOne : ByteArray := prog_13_method_22_code
def yX11_goOne : MethodName := ⟨RX11, "goOne", "([IIZ)V"⟩
abbrev cX11_goTick : ByteArray := prog_13_method_23_code
def yX11_goTick : MethodName := ⟨RX11, "goTick", "([I)V"⟩
abbrev cX11_goTicks : ByteArray := prog_13_method_24_code
def yX11_goTicks : MethodName := ⟨RX11, "goTicks", "([II)V"⟩
abbrev cX11_manyHome : ByteArray := prog_13_method_25_code
def yX11_manyHome : MethodName := ⟨RX11, "manyHome", "([I)I"⟩
abbrev cX11_save : ByteArray := prog_13_method_26_code
def yX11_save : MethodName := ⟨RX11, "save", "()V"⟩
abbrev cX11_ticks : ByteArray := prog_13_method_27_code
def yX11_ticks : MethodName := ⟨RX11, "ticks", "(I)I"⟩
abbrev cX11_speed : ByteArray := prog_13_method_28_code
def yX11_speed : MethodName := ⟨RX11, "speed", "(II)I"⟩
abbrev cX11_start : ByteArray := prog_13_method_29_code
def yX11_start : MethodName := ⟨RX11, "start", "(II)I"⟩
abbrev cX11_undo : ByteArray := prog_13_method_30_code
def yX11_undo : MethodName := ⟨RX11, "undo", "()I"⟩
abbrev cX11_toldOf : ByteArray := prog_13_method_31_code
def yX11_toldOf : MethodName := ⟨RX11, "toldOf", "(II)I"⟩
abbrev cX11_of : ByteArray := prog_13_method_32_code
def yX11_of : MethodName := ⟨RX11, "of", "(II)I"⟩
abbrev cX11_layHand : ByteArray := prog_13_method_33_code
def yX11_layHand : MethodName := ⟨RX11, "layHand", "()V"⟩
abbrev cX11_goAhead : ByteArray := prog_13_method_34_code
def yX11_goAhead : MethodName := ⟨RX11, "goAhead", "(I)V"⟩
abbrev cX11_where : ByteArray := prog_13_method_35_code
def yX11_where : MethodName := ⟨RX11, "where", "(II)I"⟩
abbrev cX11_homeAtHand : ByteArray := prog_13_method_36_code
def yX11_homeAtHand : MethodName := ⟨RX11, "homeAtHand", "(II)I"⟩
abbrev cX11_homeOf : ByteArray := prog_13_method_37_code
def yX11_homeOf : MethodName := ⟨RX11, "homeOf", "(I)I"⟩
abbrev cX11_home : ByteArray := prog_13_method_38_code
def yX11_home : MethodName := ⟨RX11, "home", "(I)I"⟩
abbrev cX11_first : ByteArray := prog_13_method_39_code
def yX11_first : MethodName := ⟨RX11, "first", "()I"⟩
abbrev cX11_order : ByteArray := prog_13_method_40_code
def yX11_order : MethodName := ⟨RX11, "order", "(I)I"⟩
abbrev cX11_best : ByteArray := prog_13_method_41_code
def yX11_best : MethodName := ⟨RX11, "best", "(II)I"⟩
abbrev cX11_turn : ByteArray := prog_13_method_42_code
def yX11_turn : MethodName := ⟨RX11, "turn", "(III)I"⟩
abbrev cX11_beats : ByteArray := prog_13_method_43_code
def yX11_beats : MethodName := ⟨RX11, "beats", "(II)I"⟩
abbrev cX11_close : ByteArray := prog_13_method_44_code
def yX11_close : MethodName := ⟨RX11, "close", "(III)I"⟩
abbrev cX11_seen : ByteArray := prog_13_method_45_code
def yX11_seen : MethodName := ⟨RX11, "seen", "(IIII)I"⟩
abbrev cX11_legsOf : ByteArray := prog_13_method_46_code
def yX11_legsOf : MethodName := ⟨RX11, "legsOf", "(I)I"⟩
abbrev cX11_strong : ByteArray := prog_13_method_47_code
def yX11_strong : MethodName := ⟨RX11, "strong", "(II)I"⟩
abbrev cX11_mostAlike : ByteArray := prog_13_method_48_code
def yX11_mostAlike : MethodName := ⟨RX11, "mostAlike", "(I)I"⟩
abbrev cX11_tell : ByteArray := prog_13_method_49_code
def yX11_tell : MethodName := ⟨RX11, "tell", "(I)I"⟩
abbrev cX11_note : ByteArray := prog_13_method_50_code
def yX11_note : MethodName := ⟨RX11, "note", "(IIIII)I"⟩
abbrev cX11_mark : ByteArray := prog_13_method_51_code
def yX11_mark : MethodName := ⟨RX11, "mark", "(III)I"⟩
abbrev cX11_forget : ByteArray := prog_13_method_52_code
def yX11_forget : MethodName := ⟨RX11, "forget", "(I)I"⟩
abbrev cX11_kindsOfOne : ByteArray := prog_13_method_53_code
def yX11_kindsOfOne : MethodName := ⟨RX11, "kindsOfOne", "(I)I"⟩
abbrev cX11_kindsOfEgg : ByteArray := prog_13_method_54_code
def yX11_kindsOfEgg : MethodName := ⟨RX11, "kindsOfEgg", "(I)I"⟩
abbrev cX11_is : ByteArray := prog_13_method_55_code
def yX11_is : MethodName := ⟨RX11, "is", "(I)I"⟩
abbrev cX11_look : ByteArray := prog_13_method_56_code
def yX11_look : MethodName := ⟨RX11, "look", "(I)I"⟩
abbrev cX11_kinds : ByteArray := prog_13_method_57_code
def yX11_kinds : MethodName := ⟨RX11, "kinds", "(I)I"⟩
abbrev cX11_ask : ByteArray := prog_13_method_58_code
def yX11_ask : MethodName := ⟨RX11, "ask", "(I)I"⟩
abbrev cX11_getsBy : ByteArray := prog_13_method_59_code
def yX11_getsBy : MethodName := ⟨RX11, "getsBy", "(III)I"⟩
abbrev cX11_rests : ByteArray := prog_13_method_60_code
def yX11_rests : MethodName := ⟨RX11, "rests", "(IIII)Z"⟩
abbrev cX11_pair : ByteArray := prog_13_method_61_code
def yX11_pair : MethodName := ⟨RX11, "pair", "(III)I"⟩
abbrev cX11_fraction : ByteArray := prog_13_method_62_code
def yX11_fraction : MethodName := ⟨RX11, "fraction", "(JJ)V"⟩
abbrev cX11_stumble : ByteArray := prog_13_method_63_code
def yX11_stumble : MethodName := ⟨RX11, "stumble", "(IIII)I"⟩
abbrev cX11_races : ByteArray := prog_13_method_64_code
def yX11_races : MethodName := ⟨RX11, "races", "(II)I"⟩
abbrev cX11_type : ByteArray := prog_13_method_65_code
def yX11_type : MethodName := ⟨RX11, "type", "(I)I"⟩
abbrev cX11_clear : ByteArray := prog_13_method_66_code
def yX11_clear : MethodName := ⟨RX11, "clear", "()I"⟩
abbrev cX11_isSmall : ByteArray := prog_13_method_67_code
def yX11_isSmall : MethodName := ⟨RX11, "isSmall", "(I)Z"⟩
abbrev cX11_isFigure : ByteArray := prog_13_method_68_code
def yX11_isFigure : MethodName := ⟨RX11, "isFigure", "(I)Z"⟩
abbrev cX11_lookAt : ByteArray := prog_13_method_69_code
def yX11_lookAt : MethodName := ⟨RX11, "lookAt", "(I)V"⟩
abbrev cX11_goBehind : ByteArray := prog_13_method_70_code
def yX11_goBehind : MethodName := ⟨RX11, "goBehind", "()V"⟩
abbrev cX11_spells : ByteArray := prog_13_method_71_code
def yX11_spells : MethodName := ⟨RX11, "spells", "(IIIIIII)Z"⟩
abbrev cX11_takes : ByteArray := prog_13_method_72_code
def yX11_takes : MethodName := ⟨RX11, "takes", "(III)Z"⟩
abbrev cX11_takesOne : ByteArray := prog_13_method_73_code
def yX11_takesOne : MethodName := ⟨RX11, "takesOne", "()Z"⟩
abbrev cX11_takesSpeed : ByteArray := prog_13_method_74_code
def yX11_takesSpeed : MethodName := ⟨RX11, "takesSpeed", "()Z"⟩
abbrev cX11_takesStart : ByteArray := prog_13_method_75_code
def yX11_takesStart : MethodName := ⟨RX11, "takesStart", "()Z"⟩
abbrev cX11_takesGo : ByteArray := prog_13_method_76_code
def yX11_takesGo : MethodName := ⟨RX11, "takesGo", "()Z"⟩
abbrev cX11_takesItem : ByteArray := prog_13_method_77_code
def yX11_takesItem : MethodName := ⟨RX11, "takesItem", "()Z"⟩
abbrev cX11_read : ByteArray := prog_13_method_78_code
def yX11_read : MethodName := ⟨RX11, "read", "()I"⟩
abbrev cX11_part : ByteArray := prog_13_method_79_code
def yX11_part : MethodName := ⟨RX11, "part", "(I)J"⟩
abbrev cX11_image : ByteArray := prog_13_method_80_code
def yX11_image : MethodName := ⟨RX11, "image", "(I)I"⟩
abbrev cX11_from : ByteArray := prog_13_method_81_code
def yX11_from : MethodName := ⟨RX11, "from", "(I)I"⟩
abbrev cX11_status : ByteArray := prog_13_method_82_code
def yX11_status : MethodName := ⟨RX11, "status", "(I)I"⟩
abbrev cX11_sumOf : ByteArray := prog_13_method_83_code
def yX11_sumOf : MethodName := ⟨RX11, "sumOf", "(I)I"⟩
abbrev cX11_counted : ByteArray := prog_13_method_84_code
def yX11_counted : MethodName := ⟨RX11, "counted", "(I)I"⟩
abbrev cX11_count : ByteArray := prog_13_method_85_code
def yX11_count : MethodName := ⟨RX11, "count", "(I)I"⟩
abbrev cX11_sums : ByteArray := prog_13_method_86_code
def yX11_sums : MethodName := ⟨RX11, "sums", "(JII)J"⟩
abbrev cX11_digest : ByteArray := prog_13_method_87_code
def yX11_digest : MethodName := ⟨RX11, "digest", "()J"⟩
def RJ6 : String := "java/lang/Integer"
def TJ6 : u_T := fun k => match k with
  | _ => ("", "", "", false)
def tyJ6 : Nat → FieldType := fun k => match k with
  | _ => .int
abbrev wsJ60 : List Cond := u_ws RJ6 TJ6 0
theorem nmJ6 : ∀ a, a < 0 → ∀ b, b < 0 → a ≠ b → (TJ6 a).2.1 ≠ (TJ6 b).2.1 := by decide +kernel
theorem tyJ6_ok : ∀ k, k < 0 → parseFieldDescriptor (TJ6 k).2.2.1 = some (tyJ6 k) := by decide +kernel
abbrev cJ6_bitCount_0f7a4 : ByteArray := prog_14_method_49_code
def yJ6_bitCount_0f7a4 : MethodName := ⟨RJ6, "bitCount", "(I)I"⟩
def RJ9 : String := "java/lang/Math"
def TJ9 : u_T := fun k => match k with
  | _ => ("", "", "", false)
def tyJ9 : Nat → FieldType := fun k => match k with
  | _ => .int
abbrev wsJ90 : List Cond := u_ws RJ9 TJ9 0
theorem nmJ9 : ∀ a, a < 0 → ∀ b, b < 0 → a ≠ b → (TJ9 a).2.1 ≠ (TJ9 b).2.1 := by decide +kernel
theorem tyJ9_ok : ∀ k, k < 0 → parseFieldDescriptor (TJ9 k).2.2.1 = some (tyJ9 k) := by decide +kernel
abbrev cJ9_abs_0f7a4 : ByteArray := prog_15_method_59_code
def yJ9_abs_0f7a4 : MethodName := ⟨RJ9, "abs", "(I)I"⟩
abbrev cJ9_max_7cf53 : ByteArray := prog_15_method_65_code
def yJ9_max_7cf53 : MethodName := ⟨RJ9, "max", "(II)I"⟩
abbrev cJ9_min_7cf53 : ByteArray := prog_15_method_69_code
def yJ9_min_7cf53 : MethodName := ⟨RJ9, "min", "(II)I"⟩
def RJ0 : String := "java/lang/String"
def TJ0 : u_T := fun k => match k with
  | _ => ("", "", "", false)
def tyJ0 : Nat → FieldType := fun k => match k with
  | _ => .int
abbrev wsJ00 : List Cond := u_ws RJ0 TJ0 0
theorem nmJ0 : ∀ a, a < 0 → ∀ b, b < 0 → a ≠ b → (TJ0 a).2.1 ≠ (TJ0 b).2.1 := by decide +kernel
theorem tyJ0_ok : ∀ k, k < 0 → parseFieldDescriptor (TJ0 k).2.2.1 = some (tyJ0 k) := by decide +kernel
abbrev cJ0_length_8abf5 : ByteArray := prog_16_method_54_code
def yJ0_length_8abf5 : MethodName := ⟨RJ0, "length", "()I"⟩
abbrev cJ0_charAt_5068e : ByteArray := prog_16_method_56_code
def yJ0_charAt_5068e : MethodName := ⟨RJ0, "charAt", "(I)C"⟩
abbrev cJ0_coder_7d493 : ByteArray := prog_16_method_152_code
def yJ0_coder_7d493 : MethodName := ⟨RJ0, "coder", "()B"⟩
abbrev cJ0_isLatin1_aae02 : ByteArray := prog_16_method_154_code
def yJ0_isLatin1_aae02 : MethodName := ⟨RJ0, "isLatin1", "()Z"⟩
abbrev cJ0_checkIndex_df160 : ByteArray := prog_16_method_155_code
def yJ0_checkIndex_df160 : MethodName := ⟨RJ0, "checkIndex", "(II)V"⟩
def RJ1 : String := "java/lang/StringLatin1"
def TJ1 : u_T := fun k => match k with
  | _ => ("", "", "", false)
def tyJ1 : Nat → FieldType := fun k => match k with
  | _ => .int
abbrev wsJ10 : List Cond := u_ws RJ1 TJ1 0
theorem nmJ1 : ∀ a, a < 0 → ∀ b, b < 0 → a ≠ b → (TJ1 a).2.1 ≠ (TJ1 b).2.1 := by decide +kernel
theorem tyJ1_ok : ∀ k, k < 0 → parseFieldDescriptor (TJ1 k).2.2.1 = some (tyJ1 k) := by decide +kernel
abbrev cJ1_charAt_3b067 : ByteArray := prog_17_method_2_code
def yJ1_charAt_3b067 : MethodName := ⟨RJ1, "charAt", "([BI)C"⟩
def RJ2 : String := "java/lang/StringUTF16"
def TJ2 : u_T := fun k => match k with
  | _ => ("", "", "", false)
def tyJ2 : Nat → FieldType := fun k => match k with
  | _ => .int
abbrev wsJ20 : List Cond := u_ws RJ2 TJ2 0
theorem nmJ2 : ∀ a, a < 0 → ∀ b, b < 0 → a ≠ b → (TJ2 a).2.1 ≠ (TJ2 b).2.1 := by decide +kernel
theorem tyJ2_ok : ∀ k, k < 0 → parseFieldDescriptor (TJ2 k).2.2.1 = some (tyJ2 k) := by decide +kernel
abbrev cJ2_getChar_3b067 : ByteArray := prog_18_method_5_code
def yJ2_getChar_3b067 : MethodName := ⟨RJ2, "getChar", "([BI)C"⟩
abbrev cJ2_length_9d52b : ByteArray := prog_18_method_6_code
def yJ2_length_9d52b : MethodName := ⟨RJ2, "length", "([B)I"⟩
abbrev cJ2_charAt_3b067 : ByteArray := prog_18_method_83_code
def yJ2_charAt_3b067 : MethodName := ⟨RJ2, "charAt", "([BI)C"⟩
abbrev cJ2_checkIndex_2214a : ByteArray := prog_18_method_91_code
def yJ2_checkIndex_2214a : MethodName := ⟨RJ2, "checkIndex", "(I[B)V"⟩
def RJ10 : String := "java/lang/System"
def TJ10 : u_T := fun k => match k with
  | _ => ("", "", "", false)
def tyJ10 : Nat → FieldType := fun k => match k with
  | _ => .int
abbrev wsJ100 : List Cond := u_ws RJ10 TJ10 0
theorem nmJ10 : ∀ a, a < 0 → ∀ b, b < 0 → a ≠ b → (TJ10 a).2.1 ≠ (TJ10 b).2.1 := by decide +kernel
theorem tyJ10_ok : ∀ k, k < 0 → parseFieldDescriptor (TJ10 k).2.2.1 = some (tyJ10 k) := by decide +kernel
def RJ3 : String := "jdk/internal/util/Preconditions"
def TJ3 : u_T := fun k => match k with
  | _ => ("", "", "", false)
def tyJ3 : Nat → FieldType := fun k => match k with
  | _ => .int
abbrev wsJ30 : List Cond := u_ws RJ3 TJ3 0
theorem nmJ3 : ∀ a, a < 0 → ∀ b, b < 0 → a ≠ b → (TJ3 a).2.1 ≠ (TJ3 b).2.1 := by decide +kernel
theorem tyJ3_ok : ∀ k, k < 0 → parseFieldDescriptor (TJ3 k).2.2.1 = some (tyJ3 k) := by decide +kernel
abbrev cJ3_checkIndex_8e157 : ByteArray := prog_20_method_11_code
def yJ3_checkIndex_8e157 : MethodName := ⟨RJ3, "checkIndex", "(IILjava/util/function/BiFunction;)I"⟩
def RL : String := "EggSpoonsLaw"
abbrev cL_law : ByteArray := code
def yL_law : MethodName := ⟨RL, "law", "([I)Z"⟩
def wsX0_init : List Cond := .code yX0_init cX0_init 1 none :: ([.methodLink RX0 3 objectInit, .instanceMethod objectInit, .code objectInit ⟨#[0xb1]⟩ 1 none, .arrayClass .int, .fieldLink RX0 11 "EggSpoons$Duel" "endsA" "[I", .fieldLink RX0 15 "EggSpoons$Duel" "endsB" "[I", .fieldLink RX0 18 "EggSpoons$Duel" "mostA" "[I", .fieldLink RX0 21 "EggSpoons$Duel" "mostB" "[I", .fieldLink RX0 24 "EggSpoons$Duel" "resting" "[I"] ++ wsX00)
def wsX0_put : List Cond := .code yX0_put cX0_put 4 none :: ([.fieldLink RX0 11 "EggSpoons$Duel" "endsA" "[I", .fieldLink RX0 15 "EggSpoons$Duel" "endsB" "[I"] ++ wsX00)
def wsX0_gain : List Cond := .code yX0_gain cX0_gain 3 (some .int) :: ([])
def wsX0_greatestGain : List Cond := .code yX0_greatestGain cX0_greatestGain 5 (some .int) :: ([.methodLink RX0 35 Lib.Math.max.name, .static Lib.Math.max.name, .initialized "java/lang/Math", .code Lib.Math.max.name Lib.Math.max.code 2 (some .int), .methodLink RX0 31 yX0_gain, .static yX0_gain, .initialized RX0, .code yX0_gain cX0_gain 3 (some .int)])
def wsX0_weigh : List Cond := .code yX0_weigh cX0_weigh 7 (some .int) :: ([.fieldLink RX0 18 "EggSpoons$Duel" "mostA" "[I", .fieldLink RX0 11 "EggSpoons$Duel" "endsA" "[I", .fieldLink RX0 15 "EggSpoons$Duel" "endsB" "[I", .fieldLink RX0 21 "EggSpoons$Duel" "mostB" "[I", .fieldLink RX0 24 "EggSpoons$Duel" "resting" "[I", .methodLink RX0 27 yX0_greatestGain, .static yX0_greatestGain, .initialized RX0, .code yX0_greatestGain cX0_greatestGain 5 (some .int), .methodLink RX0 35 Lib.Math.max.name, .static Lib.Math.max.name, .initialized "java/lang/Math", .code Lib.Math.max.name Lib.Math.max.code 2 (some .int), .methodLink RX0 31 yX0_gain, .static yX0_gain, .code yX0_gain cX0_gain 3 (some .int)] ++ wsX00)
def wsX0_restingPair : List Cond := .code yX0_restingPair cX0_restingPair 2 (some .int) :: ([.fieldLink RX0 24 "EggSpoons$Duel" "resting" "[I"] ++ wsX00)
def wsX1_limit : List Cond := .code yX1_limit cX1_limit 5 (some .int) :: ([])
def wsX2_reach : List Cond := .code yX2_reach cX2_reach 7 (some .int) :: ([])
def wsX3_init : List Cond := .code yX3_init cX3_init 1 none :: ([.methodLink RX3 1 objectInit, .instanceMethod objectInit, .code objectInit ⟨#[0xb1]⟩ 1 none])
def wsX3_pose : List Cond := .code yX3_pose cX3_pose 6 none :: ([.fieldLink RX3 7 "EggSpoons$Runner" "kind" "I", .fieldLink RX3 13 "EggSpoons$Odds" "kind" "I", .fieldLink RX3 16 "EggSpoons$Runner" "legs" "I", .fieldLink RX3 19 "EggSpoons$Odds" "legs" "I", .fieldLink RX3 20 "EggSpoons$Runner" "egg" "I", .fieldLink RX3 23 "EggSpoons$Odds" "egg" "I", .fieldLink RX3 24 "EggSpoons$Runner" "speed" "I", .fieldLink RX3 27 "EggSpoons$Odds" "speed" "I", .fieldLink RX3 28 "EggSpoons$Odds" "length" "I", .fieldLink RX3 31 "EggSpoons$Odds" "lastTick" "I", .fieldLink RX3 34 "EggSpoons$Odds" "goal" "I", .fieldLink RX3 37 "EggSpoons$Odds" "tenths" "I"] ++ wsX80 ++ wsX30)
def wsX3_tenTo : List Cond := .code yX3_tenTo cX3_tenTo 4 (some .long) :: ([.constantLong RX3 44 (10)])
def wsX3_ways : List Cond := .code yX3_ways cX3_ways 8 (some .long) :: ([.fieldLink RX3 28 "EggSpoons$Odds" "length" "I", .fieldLink RX3 34 "EggSpoons$Odds" "goal" "I", .constantLong RX3 44 (10), .fieldLink RX3 31 "EggSpoons$Odds" "lastTick" "I", .fieldLink RX3 13 "EggSpoons$Odds" "kind" "I", .fieldLink RX3 19 "EggSpoons$Odds" "legs" "I", .fieldLink RX3 27 "EggSpoons$Odds" "speed" "I", .fieldLink RX3 23 "EggSpoons$Odds" "egg" "I", .fieldLink RX3 37 "EggSpoons$Odds" "tenths" "I", .methodLink RX3 40 yX3_tenTo, .static yX3_tenTo, .initialized RX3, .code yX3_tenTo cX3_tenTo 4 (some .long), .methodLink RX3 46 yX3_ways, .static yX3_ways, .methodLink RX3 50 yX2_reach, .static yX2_reach, .initialized RX2, .code yX2_reach cX2_reach 7 (some .int), .methodLink RX3 56 yX1_limit, .static yX1_limit, .initialized RX1, .code yX1_limit cX1_limit 5 (some .int)] ++ wsX30)
def wsX3_commonPart : List Cond := .code yX3_commonPart cX3_commonPart 11 (some .long) :: ([])
def wsX4_init : List Cond := .code yX4_init cX4_init 1 none :: ([.methodLink RX4 5 objectInit, .instanceMethod objectInit, .code objectInit ⟨#[0xb1]⟩ 1 none, .arrayClass .int, .fieldLink RX4 11 "EggSpoons$Past" "cells" "[I", .fieldLink RX4 15 "EggSpoons$Past" "size" "I"] ++ wsX40)
def wsX4_push : List Cond := .code yX4_push cX4_push 6 none :: ([.fieldLink RX4 15 "EggSpoons$Past" "size" "I", .fieldLink RX4 11 "EggSpoons$Past" "cells" "[I", .methodLink RX4 19 arraycopyName, .native arraycopyName, .static arraycopyName, .initialized "java/lang/System", .fieldLink RX4 25 "EggSpoons$Runner" "speed" "I", .fieldLink RX4 30 "EggSpoons$Runner" "place" "I", .fieldLink RX4 33 "EggSpoons$Runner" "drops" "I", .fieldLink RX4 36 "EggSpoons$Runner" "waits" "I", .fieldLink RX4 39 "EggSpoons$Runner" "homeAt" "I"] ++ wsX40 ++ wsX80)
def wsX4_pop : List Cond := .code yX4_pop cX4_pop 5 (some .int) :: ([.fieldLink RX4 15 "EggSpoons$Past" "size" "I", .fieldLink RX4 11 "EggSpoons$Past" "cells" "[I", .fieldLink RX4 25 "EggSpoons$Runner" "speed" "I", .fieldLink RX4 30 "EggSpoons$Runner" "place" "I", .fieldLink RX4 33 "EggSpoons$Runner" "drops" "I", .fieldLink RX4 36 "EggSpoons$Runner" "waits" "I", .fieldLink RX4 39 "EggSpoons$Runner" "homeAt" "I"] ++ wsX40 ++ wsX80)
def wsX4_copyFrom : List Cond := .code yX4_copyFrom cX4_copyFrom 2 none :: ([.fieldLink RX4 15 "EggSpoons$Past" "size" "I", .fieldLink RX4 11 "EggSpoons$Past" "cells" "[I", .methodLink RX4 19 arraycopyName, .native arraycopyName, .static arraycopyName, .initialized "java/lang/System"] ++ wsX40)
def wsX7_init : List Cond := .code yX7_init cX7_init 4 none :: ([.methodLink RX7 1 objectInit, .instanceMethod objectInit, .code objectInit ⟨#[0xb1]⟩ 1 none, .fieldLink RX7 7 "EggSpoons$Rows" "size" "I", .fieldLink RX7 13 "EggSpoons$Rows" "most" "I", .fieldLink RX7 16 "EggSpoons$Rows" "withLegs" "Z", .fieldLink RX7 20 "EggSpoons$Rows" "withSpeed" "Z", .arrayClass .int, .fieldLink RX7 23 "EggSpoons$Rows" "cells" "[I"] ++ wsX70)
def wsX8_init : List Cond := .code yX8_init cX8_init 1 none :: ([.methodLink RX8 3 objectInit, .instanceMethod objectInit, .code objectInit ⟨#[0xb1]⟩ 1 none])
def wsX5_init_r1 : List Cond := [Cond.methodLink RX5 3 objectInit, Cond.instanceMethod objectInit, Cond.code objectInit ⟨#[0xb1]⟩ 1 none, Cond.fieldLink RX5 9 "EggSpoons$Race" "length" "I", Cond.fieldLink RX5 15 "EggSpoons$Race" "tick" "I", Cond.fieldLink RX5 18 "EggSpoons$Race" "runners" "I", Cond.classLink RX5 21 RX8, Cond.fieldLink RX5 23 "EggSpoons$Race" "row" "[LEggSpoons$Runner;", Cond.classLink RX5 27 RX4, Cond.instantiable RX4 2, Cond.initialized RX4, Cond.fieldLink RX5 30 "EggSpoons$Race" "past" "LEggSpoons$Past;", Cond.classLink RX5 34 RX7, Cond.instantiable RX7 5, Cond.initialized RX7, Cond.fieldLink RX5 39 "EggSpoons$Race" "seenRows" "LEggSpoons$Rows;", Cond.fieldLink RX5 43 "EggSpoons$Race" "noteRows" "LEggSpoons$Rows;", Cond.fieldLink RX5 46 "EggSpoons$Race" "markRows" "LEggSpoons$Rows;", Cond.instantiable RX8 8, Cond.initialized RX8, Cond.instanceMethod yX4_init, Cond.code yX4_init cX4_init 1 none, Cond.methodLink RX4 5 objectInit, Cond.arrayClass .int]
def wsX5_init_r2 : List Cond := [Cond.fieldLink RX4 11 "EggSpoons$Past" "cells" "[I", Cond.fieldLink RX4 15 "EggSpoons$Past" "size" "I", Cond.methodLink RX5 36 yX7_init, Cond.instanceMethod yX7_init, Cond.code yX7_init cX7_init 4 none, Cond.methodLink RX7 1 objectInit, Cond.fieldLink RX7 7 "EggSpoons$Rows" "size" "I", Cond.fieldLink RX7 13 "EggSpoons$Rows" "most" "I", Cond.fieldLink RX7 16 "EggSpoons$Rows" "withLegs" "Z", Cond.fieldLink RX7 20 "EggSpoons$Rows" "withSpeed" "Z", Cond.fieldLink RX7 23 "EggSpoons$Rows" "cells" "[I", Cond.instanceMethod yX8_init, Cond.code yX8_init cX8_init 1 none, Cond.methodLink RX8 3 objectInit]
def wsX5_init : List Cond := .code yX5_init cX5_init 2 none :: ((wsX5_init_r1 ++ wsX5_init_r2) ++ wsX50 ++ wsX40 ++ wsX70 ++ wsX80)
def wsX5_restart : List Cond := .code yX5_restart cX5_restart 2 none :: ([.fieldLink RX5 9 "EggSpoons$Race" "length" "I", .fieldLink RX5 15 "EggSpoons$Race" "tick" "I", .fieldLink RX5 18 "EggSpoons$Race" "runners" "I", .fieldLink RX5 30 "EggSpoons$Race" "past" "LEggSpoons$Past;", .fieldLink RX5 50 "EggSpoons$Past" "size" "I", .fieldLink RX5 39 "EggSpoons$Race" "seenRows" "LEggSpoons$Rows;", .fieldLink RX5 53 "EggSpoons$Rows" "size" "I", .fieldLink RX5 43 "EggSpoons$Race" "noteRows" "LEggSpoons$Rows;", .fieldLink RX5 46 "EggSpoons$Race" "markRows" "LEggSpoons$Rows;"] ++ wsX50 ++ wsX40 ++ wsX70)
def wsX8_begin : List Cond := .code yX8_begin cX8_begin 4 none :: ([.fieldLink RX8 9 "EggSpoons$Runner" "kind" "I", .fieldLink RX8 15 "EggSpoons$Runner" "legs" "I", .fieldLink RX8 18 "EggSpoons$Runner" "egg" "I", .fieldLink RX8 21 "EggSpoons$Runner" "speed" "I", .fieldLink RX8 24 "EggSpoons$Runner" "place" "I", .fieldLink RX8 27 "EggSpoons$Runner" "drops" "I", .fieldLink RX8 30 "EggSpoons$Runner" "waits" "I", .fieldLink RX8 33 "EggSpoons$Runner" "homeAt" "I"] ++ wsX80)
def wsX5_welcome : List Cond := .code yX5_welcome cX5_welcome 4 none :: ([.fieldLink RX5 18 "EggSpoons$Race" "runners" "I", .fieldLink RX5 23 "EggSpoons$Race" "row" "[LEggSpoons$Runner;", .fieldLink RX5 30 "EggSpoons$Race" "past" "LEggSpoons$Past;", .fieldLink RX5 50 "EggSpoons$Past" "size" "I", .methodLink RX5 54 yX8_begin, .instanceMethod yX8_begin, .selects RX8 yX8_begin yX8_begin, .initialized RX8, .code yX8_begin cX8_begin 4 none, .fieldLink RX8 9 "EggSpoons$Runner" "kind" "I", .fieldLink RX8 15 "EggSpoons$Runner" "legs" "I", .fieldLink RX8 18 "EggSpoons$Runner" "egg" "I", .fieldLink RX8 21 "EggSpoons$Runner" "speed" "I", .fieldLink RX8 24 "EggSpoons$Runner" "place" "I", .fieldLink RX8 27 "EggSpoons$Runner" "drops" "I", .fieldLink RX8 30 "EggSpoons$Runner" "waits" "I", .fieldLink RX8 33 "EggSpoons$Runner" "homeAt" "I"] ++ wsX50 ++ wsX40 ++ wsX80)
def wsX8_copyFrom : List Cond := .code yX8_copyFrom cX8_copyFrom 2 none :: ([.fieldLink RX8 9 "EggSpoons$Runner" "kind" "I", .fieldLink RX8 15 "EggSpoons$Runner" "legs" "I", .fieldLink RX8 18 "EggSpoons$Runner" "egg" "I", .fieldLink RX8 21 "EggSpoons$Runner" "speed" "I", .fieldLink RX8 24 "EggSpoons$Runner" "place" "I", .fieldLink RX8 27 "EggSpoons$Runner" "drops" "I", .fieldLink RX8 30 "EggSpoons$Runner" "waits" "I", .fieldLink RX8 33 "EggSpoons$Runner" "homeAt" "I"] ++ wsX80)
def wsX5_copyLine : List Cond := .code yX5_copyLine cX5_copyLine 3 none :: ([.fieldLink RX5 9 "EggSpoons$Race" "length" "I", .fieldLink RX5 15 "EggSpoons$Race" "tick" "I", .fieldLink RX5 18 "EggSpoons$Race" "runners" "I", .fieldLink RX5 23 "EggSpoons$Race" "row" "[LEggSpoons$Runner;", .methodLink RX5 58 yX8_copyFrom, .instanceMethod yX8_copyFrom, .selects RX8 yX8_copyFrom yX8_copyFrom, .initialized RX8, .code yX8_copyFrom cX8_copyFrom 2 none, .fieldLink RX8 9 "EggSpoons$Runner" "kind" "I", .fieldLink RX8 15 "EggSpoons$Runner" "legs" "I", .fieldLink RX8 18 "EggSpoons$Runner" "egg" "I", .fieldLink RX8 21 "EggSpoons$Runner" "speed" "I", .fieldLink RX8 24 "EggSpoons$Runner" "place" "I", .fieldLink RX8 27 "EggSpoons$Runner" "drops" "I", .fieldLink RX8 30 "EggSpoons$Runner" "waits" "I", .fieldLink RX8 33 "EggSpoons$Runner" "homeAt" "I"] ++ wsX50 ++ wsX80)
def wsX7_copyFrom : List Cond := .code yX7_copyFrom cX7_copyFrom 2 none :: ([.fieldLink RX7 7 "EggSpoons$Rows" "size" "I", .fieldLink RX7 23 "EggSpoons$Rows" "cells" "[I", .methodLink RX7 27 Lib.Math.min.name, .static Lib.Math.min.name, .initialized "java/lang/Math", .code Lib.Math.min.name Lib.Math.min.code 2 (some .int), .methodLink RX7 33 arraycopyName, .native arraycopyName, .static arraycopyName, .initialized "java/lang/System"] ++ wsX70)
def wsX5_copyFrom_r1 : List Cond := [Cond.fieldLink RX5 30 "EggSpoons$Race" "past" "LEggSpoons$Past;", Cond.fieldLink RX5 39 "EggSpoons$Race" "seenRows" "LEggSpoons$Rows;", Cond.fieldLink RX5 43 "EggSpoons$Race" "noteRows" "LEggSpoons$Rows;", Cond.fieldLink RX5 46 "EggSpoons$Race" "markRows" "LEggSpoons$Rows;", Cond.methodLink RX5 62 yX5_copyLine, Cond.instanceMethod yX5_copyLine, Cond.selects RX5 yX5_copyLine yX5_copyLine, Cond.initialized RX5, Cond.code yX5_copyLine cX5_copyLine 3 none, Cond.fieldLink RX5 9 "EggSpoons$Race" "length" "I", Cond.fieldLink RX5 15 "EggSpoons$Race" "tick" "I", Cond.fieldLink RX5 18 "EggSpoons$Race" "runners" "I", Cond.fieldLink RX5 23 "EggSpoons$Race" "row" "[LEggSpoons$Runner;", Cond.methodLink RX5 58 yX8_copyFrom, Cond.instanceMethod yX8_copyFrom, Cond.selects RX8 yX8_copyFrom yX8_copyFrom, Cond.initialized RX8, Cond.code yX8_copyFrom cX8_copyFrom 2 none, Cond.fieldLink RX8 9 "EggSpoons$Runner" "kind" "I", Cond.fieldLink RX8 15 "EggSpoons$Runner" "legs" "I", Cond.fieldLink RX8 18 "EggSpoons$Runner" "egg" "I", Cond.fieldLink RX8 21 "EggSpoons$Runner" "speed" "I", Cond.fieldLink RX8 24 "EggSpoons$Runner" "place" "I", Cond.fieldLink RX8 27 "EggSpoons$Runner" "drops" "I"]
def wsX5_copyFrom_r2 : List Cond := [Cond.fieldLink RX8 30 "EggSpoons$Runner" "waits" "I", Cond.fieldLink RX8 33 "EggSpoons$Runner" "homeAt" "I", Cond.methodLink RX5 66 yX4_copyFrom, Cond.instanceMethod yX4_copyFrom, Cond.selects RX4 yX4_copyFrom yX4_copyFrom, Cond.initialized RX4, Cond.code yX4_copyFrom cX4_copyFrom 2 none, Cond.fieldLink RX4 15 "EggSpoons$Past" "size" "I", Cond.fieldLink RX4 11 "EggSpoons$Past" "cells" "[I", Cond.methodLink RX4 19 arraycopyName, Cond.native arraycopyName, Cond.static arraycopyName, Cond.initialized "java/lang/System", Cond.methodLink RX5 69 yX7_copyFrom, Cond.instanceMethod yX7_copyFrom, Cond.selects RX7 yX7_copyFrom yX7_copyFrom, Cond.initialized RX7, Cond.code yX7_copyFrom cX7_copyFrom 2 none, Cond.fieldLink RX7 7 "EggSpoons$Rows" "size" "I", Cond.fieldLink RX7 23 "EggSpoons$Rows" "cells" "[I", Cond.methodLink RX7 27 Lib.Math.min.name, Cond.static Lib.Math.min.name, Cond.initialized "java/lang/Math", Cond.code Lib.Math.min.name Lib.Math.min.code 2 (some .int)]
def wsX5_copyFrom_r3 : List Cond := [Cond.methodLink RX7 33 arraycopyName]
def wsX5_copyFrom : List Cond := .code yX5_copyFrom cX5_copyFrom 2 none :: ((wsX5_copyFrom_r1 ++ (wsX5_copyFrom_r2 ++ wsX5_copyFrom_r3)) ++ wsX50 ++ wsX80 ++ wsX40 ++ wsX70)
def wsX8_isHome : List Cond := .code yX8_isHome cX8_isHome 1 (some .boolean) :: ([.fieldLink RX8 33 "EggSpoons$Runner" "homeAt" "I"] ++ wsX80)
def wsX8_step : List Cond := .code yX8_step cX8_step 4 none :: ([.fieldLink RX8 30 "EggSpoons$Runner" "waits" "I", .fieldLink RX8 9 "EggSpoons$Runner" "kind" "I", .fieldLink RX8 15 "EggSpoons$Runner" "legs" "I", .fieldLink RX8 21 "EggSpoons$Runner" "speed" "I", .fieldLink RX8 18 "EggSpoons$Runner" "egg" "I", .fieldLink RX8 27 "EggSpoons$Runner" "drops" "I", .fieldLink RX8 24 "EggSpoons$Runner" "place" "I", .fieldLink RX8 33 "EggSpoons$Runner" "homeAt" "I", .methodLink RX8 48 yX8_isHome, .instanceMethod yX8_isHome, .selects RX8 yX8_isHome yX8_isHome, .initialized RX8, .code yX8_isHome cX8_isHome 1 (some .boolean), .methodLink RX8 36 yX2_reach, .static yX2_reach, .initialized RX2, .code yX2_reach cX2_reach 7 (some .int), .methodLink RX8 42 yX1_limit, .static yX1_limit, .initialized RX1, .code yX1_limit cX1_limit 5 (some .int)] ++ wsX80)
def wsX5_goOn_r1 : List Cond := [Cond.fieldLink RX5 15 "EggSpoons$Race" "tick" "I", Cond.fieldLink RX5 18 "EggSpoons$Race" "runners" "I", Cond.fieldLink RX5 23 "EggSpoons$Race" "row" "[LEggSpoons$Runner;", Cond.fieldLink RX5 9 "EggSpoons$Race" "length" "I", Cond.methodLink RX5 72 yX8_step, Cond.instanceMethod yX8_step, Cond.selects RX8 yX8_step yX8_step, Cond.initialized RX8, Cond.code yX8_step cX8_step 4 none, Cond.fieldLink RX8 30 "EggSpoons$Runner" "waits" "I", Cond.fieldLink RX8 9 "EggSpoons$Runner" "kind" "I", Cond.fieldLink RX8 15 "EggSpoons$Runner" "legs" "I", Cond.fieldLink RX8 21 "EggSpoons$Runner" "speed" "I", Cond.fieldLink RX8 18 "EggSpoons$Runner" "egg" "I", Cond.fieldLink RX8 27 "EggSpoons$Runner" "drops" "I", Cond.fieldLink RX8 24 "EggSpoons$Runner" "place" "I", Cond.fieldLink RX8 33 "EggSpoons$Runner" "homeAt" "I", Cond.methodLink RX8 48 yX8_isHome, Cond.instanceMethod yX8_isHome, Cond.selects RX8 yX8_isHome yX8_isHome, Cond.code yX8_isHome cX8_isHome 1 (some .boolean), Cond.methodLink RX8 36 yX2_reach, Cond.static yX2_reach, Cond.initialized RX2]
def wsX5_goOn_r2 : List Cond := [Cond.code yX2_reach cX2_reach 7 (some .int), Cond.methodLink RX8 42 yX1_limit, Cond.static yX1_limit, Cond.initialized RX1, Cond.code yX1_limit cX1_limit 5 (some .int)]
def wsX5_goOn : List Cond := .code yX5_goOn cX5_goOn 2 none :: ((wsX5_goOn_r1 ++ wsX5_goOn_r2) ++ wsX50 ++ wsX80)
def wsX5_keep : List Cond := .code yX5_keep cX5_keep 1 none :: ([.fieldLink RX5 30 "EggSpoons$Race" "past" "LEggSpoons$Past;", .fieldLink RX5 15 "EggSpoons$Race" "tick" "I", .fieldLink RX5 23 "EggSpoons$Race" "row" "[LEggSpoons$Runner;", .methodLink RX5 76 yX4_push, .instanceMethod yX4_push, .selects RX4 yX4_push yX4_push, .initialized RX4, .code yX4_push cX4_push 6 none, .fieldLink RX4 15 "EggSpoons$Past" "size" "I", .fieldLink RX4 11 "EggSpoons$Past" "cells" "[I", .methodLink RX4 19 arraycopyName, .native arraycopyName, .static arraycopyName, .initialized "java/lang/System", .fieldLink RX4 25 "EggSpoons$Runner" "speed" "I", .fieldLink RX4 30 "EggSpoons$Runner" "place" "I", .fieldLink RX4 33 "EggSpoons$Runner" "drops" "I", .fieldLink RX4 36 "EggSpoons$Runner" "waits" "I", .fieldLink RX4 39 "EggSpoons$Runner" "homeAt" "I"] ++ wsX50 ++ wsX40 ++ wsX80)
def wsX5_takeBack : List Cond := .code yX5_takeBack cX5_takeBack 2 (some .boolean) :: ([.fieldLink RX5 30 "EggSpoons$Race" "past" "LEggSpoons$Past;", .fieldLink RX5 23 "EggSpoons$Race" "row" "[LEggSpoons$Runner;", .fieldLink RX5 15 "EggSpoons$Race" "tick" "I", .methodLink RX5 80 yX4_pop, .instanceMethod yX4_pop, .selects RX4 yX4_pop yX4_pop, .initialized RX4, .code yX4_pop cX4_pop 5 (some .int), .fieldLink RX4 15 "EggSpoons$Past" "size" "I", .fieldLink RX4 11 "EggSpoons$Past" "cells" "[I", .fieldLink RX4 25 "EggSpoons$Runner" "speed" "I", .fieldLink RX4 30 "EggSpoons$Runner" "place" "I", .fieldLink RX4 33 "EggSpoons$Runner" "drops" "I", .fieldLink RX4 36 "EggSpoons$Runner" "waits" "I", .fieldLink RX4 39 "EggSpoons$Runner" "homeAt" "I"] ++ wsX50 ++ wsX40 ++ wsX80)
def wsX5_homes : List Cond := .code yX5_homes cX5_homes 3 (some .int) :: ([.fieldLink RX5 18 "EggSpoons$Race" "runners" "I", .fieldLink RX5 23 "EggSpoons$Race" "row" "[LEggSpoons$Runner;", .methodLink RX5 84 yX8_isHome, .instanceMethod yX8_isHome, .selects RX8 yX8_isHome yX8_isHome, .initialized RX8, .code yX8_isHome cX8_isHome 1 (some .boolean), .fieldLink RX8 33 "EggSpoons$Runner" "homeAt" "I"] ++ wsX50 ++ wsX80)
def wsX5_placesTogether : List Cond := .code yX5_placesTogether cX5_placesTogether 3 (some .int) :: ([.fieldLink RX5 18 "EggSpoons$Race" "runners" "I", .fieldLink RX5 23 "EggSpoons$Race" "row" "[LEggSpoons$Runner;", .fieldLink RX5 88 "EggSpoons$Runner" "place" "I"] ++ wsX50 ++ wsX80)
def wsX5_dropsTogether : List Cond := .code yX5_dropsTogether cX5_dropsTogether 3 (some .int) :: ([.fieldLink RX5 18 "EggSpoons$Race" "runners" "I", .fieldLink RX5 23 "EggSpoons$Race" "row" "[LEggSpoons$Runner;", .fieldLink RX5 91 "EggSpoons$Runner" "drops" "I"] ++ wsX50 ++ wsX80)
def wsX7_fitRunner : List Cond := .code yX7_fitRunner cX7_fitRunner 7 (some .boolean) :: ([.fieldLink RX7 7 "EggSpoons$Rows" "size" "I", .fieldLink RX7 16 "EggSpoons$Rows" "withLegs" "Z", .fieldLink RX7 23 "EggSpoons$Rows" "cells" "[I", .methodLink RX7 39 yX2_reach, .static yX2_reach, .initialized RX2, .code yX2_reach cX2_reach 7 (some .int)] ++ wsX70)
def wsX5_legsThatFit : List Cond := .code yX5_legsThatFit cX5_legsThatFit 4 (some .int) :: ([.fieldLink RX5 39 "EggSpoons$Race" "seenRows" "LEggSpoons$Rows;", .fieldLink RX5 23 "EggSpoons$Race" "row" "[LEggSpoons$Runner;", .fieldLink RX5 94 "EggSpoons$Runner" "kind" "I", .methodLink RX5 97 yX7_fitRunner, .instanceMethod yX7_fitRunner, .selects RX7 yX7_fitRunner yX7_fitRunner, .initialized RX7, .code yX7_fitRunner cX7_fitRunner 7 (some .boolean), .fieldLink RX7 7 "EggSpoons$Rows" "size" "I", .fieldLink RX7 16 "EggSpoons$Rows" "withLegs" "Z", .fieldLink RX7 23 "EggSpoons$Rows" "cells" "[I", .methodLink RX7 39 yX2_reach, .static yX2_reach, .initialized RX2, .code yX2_reach cX2_reach 7 (some .int)] ++ wsX50 ++ wsX80 ++ wsX70)
def wsX5_kindsThatFit : List Cond := .code yX5_kindsThatFit cX5_kindsThatFit 4 (some .int) :: ([.fieldLink RX5 43 "EggSpoons$Race" "noteRows" "LEggSpoons$Rows;", .methodLink RX5 97 yX7_fitRunner, .instanceMethod yX7_fitRunner, .selects RX7 yX7_fitRunner yX7_fitRunner, .initialized RX7, .code yX7_fitRunner cX7_fitRunner 7 (some .boolean), .fieldLink RX7 7 "EggSpoons$Rows" "size" "I", .fieldLink RX7 16 "EggSpoons$Rows" "withLegs" "Z", .fieldLink RX7 23 "EggSpoons$Rows" "cells" "[I", .methodLink RX7 39 yX2_reach, .static yX2_reach, .initialized RX2, .code yX2_reach cX2_reach 7 (some .int)] ++ wsX50 ++ wsX70)
def wsX7_fitEgg : List Cond := .code yX7_fitEgg cX7_fitEgg 5 (some .boolean) :: ([.fieldLink RX7 7 "EggSpoons$Rows" "size" "I", .fieldLink RX7 23 "EggSpoons$Rows" "cells" "[I", .methodLink RX7 45 yX1_limit, .static yX1_limit, .initialized RX1, .code yX1_limit cX1_limit 5 (some .int)] ++ wsX70)
def wsX5_eggsThatFit : List Cond := .code yX5_eggsThatFit cX5_eggsThatFit 4 (some .int) :: ([.fieldLink RX5 46 "EggSpoons$Race" "markRows" "LEggSpoons$Rows;", .methodLink RX5 101 yX7_fitEgg, .instanceMethod yX7_fitEgg, .selects RX7 yX7_fitEgg yX7_fitEgg, .initialized RX7, .code yX7_fitEgg cX7_fitEgg 5 (some .boolean), .fieldLink RX7 7 "EggSpoons$Rows" "size" "I", .fieldLink RX7 23 "EggSpoons$Rows" "cells" "[I", .methodLink RX7 45 yX1_limit, .static yX1_limit, .initialized RX1, .code yX1_limit cX1_limit 5 (some .int)] ++ wsX50 ++ wsX70)
def wsX6_init : List Cond := .code yX6_init cX6_init 1 none :: ([.methodLink RX6 3 objectInit, .instanceMethod objectInit, .code objectInit ⟨#[0xb1]⟩ 1 none, .arrayClass .int, .fieldLink RX6 11 "EggSpoons$Reader" "bytes" "[I", .fieldLink RX6 15 "EggSpoons$Reader" "length" "I", .fieldLink RX6 19 "EggSpoons$Reader" "at" "I", .fieldLink RX6 22 "EggSpoons$Reader" "tokenAt" "I", .fieldLink RX6 25 "EggSpoons$Reader" "sort" "I", .fieldLink RX6 28 "EggSpoons$Reader" "value" "I", .fieldLink RX6 31 "EggSpoons$Reader" "fault" "I"] ++ wsX60)
def wsX6_append : List Cond := .code yX6_append cX6_append 2 (some .boolean) :: ([.fieldLink RX6 15 "EggSpoons$Reader" "length" "I", .fieldLink RX6 11 "EggSpoons$Reader" "bytes" "[I"] ++ wsX60)
def wsX6_skipBlanks : List Cond := .code yX6_skipBlanks cX6_skipBlanks 1 none :: ([.fieldLink RX6 19 "EggSpoons$Reader" "at" "I", .fieldLink RX6 15 "EggSpoons$Reader" "length" "I", .fieldLink RX6 11 "EggSpoons$Reader" "bytes" "[I"] ++ wsX60)
def wsX6_isLetter : List Cond := .code yX6_isLetter cX6_isLetter 1 (some .boolean) :: ([])
def wsX6_takeLetters : List Cond := .code yX6_takeLetters cX6_takeLetters 1 none :: ([.fieldLink RX6 19 "EggSpoons$Reader" "at" "I", .fieldLink RX6 15 "EggSpoons$Reader" "length" "I", .fieldLink RX6 11 "EggSpoons$Reader" "bytes" "[I", .fieldLink RX6 25 "EggSpoons$Reader" "sort" "I", .methodLink RX6 118 yX6_isLetter, .static yX6_isLetter, .initialized RX6, .code yX6_isLetter cX6_isLetter 1 (some .boolean)] ++ wsX60)
def wsX6_isFigure : List Cond := .code yX6_isFigure cX6_isFigure 1 (some .boolean) :: ([])
def wsX6_takeFigures : List Cond := .code yX6_takeFigures cX6_takeFigures 1 none :: ([.fieldLink RX6 28 "EggSpoons$Reader" "value" "I", .fieldLink RX6 19 "EggSpoons$Reader" "at" "I", .fieldLink RX6 15 "EggSpoons$Reader" "length" "I", .fieldLink RX6 11 "EggSpoons$Reader" "bytes" "[I", .fieldLink RX6 22 "EggSpoons$Reader" "tokenAt" "I", .fieldLink RX6 25 "EggSpoons$Reader" "sort" "I", .methodLink RX6 125 yX6_isFigure, .static yX6_isFigure, .initialized RX6, .code yX6_isFigure cX6_isFigure 1 (some .boolean)] ++ wsX60)
def wsX6_nextToken_r1 : List Cond := [Cond.fieldLink RX6 19 "EggSpoons$Reader" "at" "I", Cond.fieldLink RX6 22 "EggSpoons$Reader" "tokenAt" "I", Cond.fieldLink RX6 15 "EggSpoons$Reader" "length" "I", Cond.fieldLink RX6 25 "EggSpoons$Reader" "sort" "I", Cond.fieldLink RX6 11 "EggSpoons$Reader" "bytes" "[I", Cond.methodLink RX6 38 yX6_skipBlanks, Cond.instanceMethod yX6_skipBlanks, Cond.selects RX6 yX6_skipBlanks yX6_skipBlanks, Cond.initialized RX6, Cond.code yX6_skipBlanks cX6_skipBlanks 1 none, Cond.methodLink RX6 118 yX6_isLetter, Cond.static yX6_isLetter, Cond.code yX6_isLetter cX6_isLetter 1 (some .boolean), Cond.methodLink RX6 122 yX6_takeLetters, Cond.instanceMethod yX6_takeLetters, Cond.selects RX6 yX6_takeLetters yX6_takeLetters, Cond.code yX6_takeLetters cX6_takeLetters 1 none, Cond.methodLink RX6 125 yX6_isFigure, Cond.static yX6_isFigure, Cond.code yX6_isFigure cX6_isFigure 1 (some .boolean), Cond.methodLink RX6 128 yX6_takeFigures, Cond.instanceMethod yX6_takeFigures, Cond.selects RX6 yX6_takeFigures yX6_takeFigures, Cond.code yX6_takeFigures cX6_takeFigures 1 none]
def wsX6_nextToken_r2 : List Cond := [Cond.fieldLink RX6 28 "EggSpoons$Reader" "value" "I"]
def wsX6_nextToken : List Cond := .code yX6_nextToken cX6_nextToken 1 none :: ((wsX6_nextToken_r1 ++ wsX6_nextToken_r2) ++ wsX60)
def wsJ0_coder_7d493 : List Cond := .code yJ0_coder_7d493 cJ0_coder_7d493 1 (some .byte) :: ([.fieldLink RJ0 38 "java/lang/String" "COMPACT_STRINGS" "Z", .fieldLink RJ0 15 "java/lang/String" "coder" "B"])
def wsJ0_length_8abf5 : List Cond := .code yJ0_length_8abf5 cJ0_length_8abf5 1 (some .int) :: ([.fieldLink RJ0 9 "java/lang/String" "value" "[B", .methodLink RJ0 335 yJ0_coder_7d493, .instanceMethod yJ0_coder_7d493, .selects RJ0 yJ0_coder_7d493 yJ0_coder_7d493, .initialized RJ0, .code yJ0_coder_7d493 cJ0_coder_7d493 1 (some .byte), .fieldLink RJ0 38 "java/lang/String" "COMPACT_STRINGS" "Z", .fieldLink RJ0 15 "java/lang/String" "coder" "B"])
def wsJ0_isLatin1_aae02 : List Cond := .code yJ0_isLatin1_aae02 cJ0_isLatin1_aae02 1 (some .boolean) :: ([.fieldLink RJ0 38 "java/lang/String" "COMPACT_STRINGS" "Z", .fieldLink RJ0 15 "java/lang/String" "coder" "B"])
def wsJ3_checkIndex_8e157 : List Cond := .code yJ3_checkIndex_8e157 cJ3_checkIndex_8e157 3 (some .int) :: ([])
def wsJ0_checkIndex_df160 : List Cond := .code yJ0_checkIndex_df160 cJ0_checkIndex_df160 2 none :: ([.fieldLink RJ0 1053 "jdk/internal/util/Preconditions" "SIOOBE_FORMATTER" "Ljava/util/function/BiFunction;", .methodLink RJ0 1059 yJ3_checkIndex_8e157, .static yJ3_checkIndex_8e157, .initialized RJ3, .code yJ3_checkIndex_8e157 cJ3_checkIndex_8e157 3 (some .int)])
def wsJ1_charAt_3b067 : List Cond := .code yJ1_charAt_3b067 cJ1_charAt_3b067 2 (some .char) :: ([.methodLink RJ1 9 yJ0_checkIndex_df160, .static yJ0_checkIndex_df160, .initialized RJ0, .code yJ0_checkIndex_df160 cJ0_checkIndex_df160 2 none, .fieldLink RJ0 1053 "jdk/internal/util/Preconditions" "SIOOBE_FORMATTER" "Ljava/util/function/BiFunction;", .methodLink RJ0 1059 yJ3_checkIndex_8e157, .static yJ3_checkIndex_8e157, .initialized RJ3, .code yJ3_checkIndex_8e157 cJ3_checkIndex_8e157 3 (some .int)])
def wsJ2_length_9d52b : List Cond := .code yJ2_length_9d52b cJ2_length_9d52b 1 (some .int) :: ([])
def wsJ2_checkIndex_2214a : List Cond := .code yJ2_checkIndex_2214a cJ2_checkIndex_2214a 2 none :: ([.methodLink RJ2 48 yJ2_length_9d52b, .static yJ2_length_9d52b, .initialized RJ2, .code yJ2_length_9d52b cJ2_length_9d52b 1 (some .int), .methodLink RJ2 414 yJ0_checkIndex_df160, .static yJ0_checkIndex_df160, .initialized RJ0, .code yJ0_checkIndex_df160 cJ0_checkIndex_df160 2 none, .fieldLink RJ0 1053 "jdk/internal/util/Preconditions" "SIOOBE_FORMATTER" "Ljava/util/function/BiFunction;", .methodLink RJ0 1059 yJ3_checkIndex_8e157, .static yJ3_checkIndex_8e157, .initialized RJ3, .code yJ3_checkIndex_8e157 cJ3_checkIndex_8e157 3 (some .int)])
def wsJ2_getChar_3b067 : List Cond := .code yJ2_getChar_3b067 cJ2_getChar_3b067 2 (some .char) :: ([.fieldLink RJ2 44 "java/lang/StringUTF16" "$assertionsDisabled" "Z", .fieldLink RJ2 59 "java/lang/StringUTF16" "HI_BYTE_SHIFT" "I", .fieldLink RJ2 63 "java/lang/StringUTF16" "LO_BYTE_SHIFT" "I", .methodLink RJ2 48 yJ2_length_9d52b, .static yJ2_length_9d52b, .initialized RJ2, .code yJ2_length_9d52b cJ2_length_9d52b 1 (some .int)])
def wsJ2_charAt_3b067 : List Cond := .code yJ2_charAt_3b067 cJ2_charAt_3b067 2 (some .char) :: ([.methodLink RJ2 67 yJ2_checkIndex_2214a, .static yJ2_checkIndex_2214a, .initialized RJ2, .code yJ2_checkIndex_2214a cJ2_checkIndex_2214a 2 none, .methodLink RJ2 48 yJ2_length_9d52b, .static yJ2_length_9d52b, .code yJ2_length_9d52b cJ2_length_9d52b 1 (some .int), .methodLink RJ2 414 yJ0_checkIndex_df160, .static yJ0_checkIndex_df160, .initialized RJ0, .code yJ0_checkIndex_df160 cJ0_checkIndex_df160 2 none, .fieldLink RJ0 1053 "jdk/internal/util/Preconditions" "SIOOBE_FORMATTER" "Ljava/util/function/BiFunction;", .methodLink RJ0 1059 yJ3_checkIndex_8e157, .static yJ3_checkIndex_8e157, .initialized RJ3, .code yJ3_checkIndex_8e157 cJ3_checkIndex_8e157 3 (some .int), .methodLink RJ2 71 yJ2_getChar_3b067, .static yJ2_getChar_3b067, .code yJ2_getChar_3b067 cJ2_getChar_3b067 2 (some .char), .fieldLink RJ2 44 "java/lang/StringUTF16" "$assertionsDisabled" "Z", .fieldLink RJ2 59 "java/lang/StringUTF16" "HI_BYTE_SHIFT" "I", .fieldLink RJ2 63 "java/lang/StringUTF16" "LO_BYTE_SHIFT" "I"])
def wsJ0_charAt_5068e_r1 : List Cond := [Cond.fieldLink RJ0 9 "java/lang/String" "value" "[B", Cond.methodLink RJ0 492 yJ0_isLatin1_aae02, Cond.instanceMethod yJ0_isLatin1_aae02, Cond.selects RJ0 yJ0_isLatin1_aae02 yJ0_isLatin1_aae02, Cond.initialized RJ0, Cond.code yJ0_isLatin1_aae02 cJ0_isLatin1_aae02 1 (some .boolean), Cond.fieldLink RJ0 38 "java/lang/String" "COMPACT_STRINGS" "Z", Cond.fieldLink RJ0 15 "java/lang/String" "coder" "B", Cond.methodLink RJ0 495 yJ1_charAt_3b067, Cond.static yJ1_charAt_3b067, Cond.initialized RJ1, Cond.code yJ1_charAt_3b067 cJ1_charAt_3b067 2 (some .char), Cond.methodLink RJ1 9 yJ0_checkIndex_df160, Cond.static yJ0_checkIndex_df160, Cond.code yJ0_checkIndex_df160 cJ0_checkIndex_df160 2 none, Cond.fieldLink RJ0 1053 "jdk/internal/util/Preconditions" "SIOOBE_FORMATTER" "Ljava/util/function/BiFunction;", Cond.methodLink RJ0 1059 yJ3_checkIndex_8e157, Cond.static yJ3_checkIndex_8e157, Cond.initialized RJ3, Cond.code yJ3_checkIndex_8e157 cJ3_checkIndex_8e157 3 (some .int), Cond.methodLink RJ0 498 yJ2_charAt_3b067, Cond.static yJ2_charAt_3b067, Cond.initialized RJ2, Cond.code yJ2_charAt_3b067 cJ2_charAt_3b067 2 (some .char)]
def wsJ0_charAt_5068e_r2 : List Cond := [Cond.methodLink RJ2 67 yJ2_checkIndex_2214a, Cond.static yJ2_checkIndex_2214a, Cond.code yJ2_checkIndex_2214a cJ2_checkIndex_2214a 2 none, Cond.methodLink RJ2 48 yJ2_length_9d52b, Cond.static yJ2_length_9d52b, Cond.code yJ2_length_9d52b cJ2_length_9d52b 1 (some .int), Cond.methodLink RJ2 414 yJ0_checkIndex_df160, Cond.methodLink RJ2 71 yJ2_getChar_3b067, Cond.static yJ2_getChar_3b067, Cond.code yJ2_getChar_3b067 cJ2_getChar_3b067 2 (some .char), Cond.fieldLink RJ2 44 "java/lang/StringUTF16" "$assertionsDisabled" "Z", Cond.fieldLink RJ2 59 "java/lang/StringUTF16" "HI_BYTE_SHIFT" "I", Cond.fieldLink RJ2 63 "java/lang/StringUTF16" "LO_BYTE_SHIFT" "I"]
def wsJ0_charAt_5068e : List Cond := .code yJ0_charAt_5068e cJ0_charAt_5068e 2 (some .char) :: ((wsJ0_charAt_5068e_r1 ++ wsJ0_charAt_5068e_r2))
def wsX6_spells_r1 : List Cond := [Cond.fieldLink RX6 19 "EggSpoons$Reader" "at" "I", Cond.fieldLink RX6 22 "EggSpoons$Reader" "tokenAt" "I", Cond.fieldLink RX6 11 "EggSpoons$Reader" "bytes" "[I", Cond.methodLink RX6 131 yJ0_length_8abf5, Cond.instanceMethod yJ0_length_8abf5, Cond.selects RJ0 yJ0_length_8abf5 yJ0_length_8abf5, Cond.initialized RJ0, Cond.code yJ0_length_8abf5 cJ0_length_8abf5 1 (some .int), Cond.fieldLink RJ0 9 "java/lang/String" "value" "[B", Cond.methodLink RJ0 335 yJ0_coder_7d493, Cond.instanceMethod yJ0_coder_7d493, Cond.selects RJ0 yJ0_coder_7d493 yJ0_coder_7d493, Cond.code yJ0_coder_7d493 cJ0_coder_7d493 1 (some .byte), Cond.fieldLink RJ0 38 "java/lang/String" "COMPACT_STRINGS" "Z", Cond.fieldLink RJ0 15 "java/lang/String" "coder" "B", Cond.methodLink RX6 136 yJ0_charAt_5068e, Cond.instanceMethod yJ0_charAt_5068e, Cond.selects RJ0 yJ0_charAt_5068e yJ0_charAt_5068e, Cond.code yJ0_charAt_5068e cJ0_charAt_5068e 2 (some .char), Cond.methodLink RJ0 492 yJ0_isLatin1_aae02, Cond.instanceMethod yJ0_isLatin1_aae02, Cond.selects RJ0 yJ0_isLatin1_aae02 yJ0_isLatin1_aae02, Cond.code yJ0_isLatin1_aae02 cJ0_isLatin1_aae02 1 (some .boolean), Cond.methodLink RJ0 495 yJ1_charAt_3b067]
def wsX6_spells_r2 : List Cond := [Cond.static yJ1_charAt_3b067, Cond.initialized RJ1, Cond.code yJ1_charAt_3b067 cJ1_charAt_3b067 2 (some .char), Cond.methodLink RJ1 9 yJ0_checkIndex_df160, Cond.static yJ0_checkIndex_df160, Cond.code yJ0_checkIndex_df160 cJ0_checkIndex_df160 2 none, Cond.fieldLink RJ0 1053 "jdk/internal/util/Preconditions" "SIOOBE_FORMATTER" "Ljava/util/function/BiFunction;", Cond.methodLink RJ0 1059 yJ3_checkIndex_8e157, Cond.static yJ3_checkIndex_8e157, Cond.initialized RJ3, Cond.code yJ3_checkIndex_8e157 cJ3_checkIndex_8e157 3 (some .int), Cond.methodLink RJ0 498 yJ2_charAt_3b067, Cond.static yJ2_charAt_3b067, Cond.initialized RJ2, Cond.code yJ2_charAt_3b067 cJ2_charAt_3b067 2 (some .char), Cond.methodLink RJ2 67 yJ2_checkIndex_2214a, Cond.static yJ2_checkIndex_2214a, Cond.code yJ2_checkIndex_2214a cJ2_checkIndex_2214a 2 none, Cond.methodLink RJ2 48 yJ2_length_9d52b, Cond.static yJ2_length_9d52b, Cond.code yJ2_length_9d52b cJ2_length_9d52b 1 (some .int), Cond.methodLink RJ2 414 yJ0_checkIndex_df160, Cond.methodLink RJ2 71 yJ2_getChar_3b067, Cond.static yJ2_getChar_3b067]
def wsX6_spells_r3 : List Cond := [Cond.code yJ2_getChar_3b067 cJ2_getChar_3b067 2 (some .char), Cond.fieldLink RJ2 44 "java/lang/StringUTF16" "$assertionsDisabled" "Z", Cond.fieldLink RJ2 59 "java/lang/StringUTF16" "HI_BYTE_SHIFT" "I", Cond.fieldLink RJ2 63 "java/lang/StringUTF16" "LO_BYTE_SHIFT" "I"]
def wsX6_spells : List Cond := .code yX6_spells cX6_spells 3 (some .boolean) :: ((wsX6_spells_r1 ++ (wsX6_spells_r2 ++ wsX6_spells_r3)) ++ wsX60)
def wsX6_number_r1 : List Cond := [Cond.fieldLink RX6 31 "EggSpoons$Reader" "fault" "I", Cond.fieldLink RX6 25 "EggSpoons$Reader" "sort" "I", Cond.fieldLink RX6 28 "EggSpoons$Reader" "value" "I", Cond.fieldLink RX6 22 "EggSpoons$Reader" "tokenAt" "I", Cond.methodLink RX6 41 yX6_nextToken, Cond.instanceMethod yX6_nextToken, Cond.selects RX6 yX6_nextToken yX6_nextToken, Cond.initialized RX6, Cond.code yX6_nextToken cX6_nextToken 1 none, Cond.fieldLink RX6 19 "EggSpoons$Reader" "at" "I", Cond.fieldLink RX6 15 "EggSpoons$Reader" "length" "I", Cond.fieldLink RX6 11 "EggSpoons$Reader" "bytes" "[I", Cond.methodLink RX6 38 yX6_skipBlanks, Cond.instanceMethod yX6_skipBlanks, Cond.selects RX6 yX6_skipBlanks yX6_skipBlanks, Cond.code yX6_skipBlanks cX6_skipBlanks 1 none, Cond.methodLink RX6 118 yX6_isLetter, Cond.static yX6_isLetter, Cond.code yX6_isLetter cX6_isLetter 1 (some .boolean), Cond.methodLink RX6 122 yX6_takeLetters, Cond.instanceMethod yX6_takeLetters, Cond.selects RX6 yX6_takeLetters yX6_takeLetters, Cond.code yX6_takeLetters cX6_takeLetters 1 none, Cond.methodLink RX6 125 yX6_isFigure]
def wsX6_number_r2 : List Cond := [Cond.static yX6_isFigure, Cond.code yX6_isFigure cX6_isFigure 1 (some .boolean), Cond.methodLink RX6 128 yX6_takeFigures, Cond.instanceMethod yX6_takeFigures, Cond.selects RX6 yX6_takeFigures yX6_takeFigures, Cond.code yX6_takeFigures cX6_takeFigures 1 none]
def wsX6_number : List Cond := .code yX6_number cX6_number 3 (some .int) :: ((wsX6_number_r1 ++ wsX6_number_r2) ++ wsX60)
def wsX6_ended_r1 : List Cond := [Cond.fieldLink RX6 31 "EggSpoons$Reader" "fault" "I", Cond.fieldLink RX6 25 "EggSpoons$Reader" "sort" "I", Cond.fieldLink RX6 22 "EggSpoons$Reader" "tokenAt" "I", Cond.methodLink RX6 41 yX6_nextToken, Cond.instanceMethod yX6_nextToken, Cond.selects RX6 yX6_nextToken yX6_nextToken, Cond.initialized RX6, Cond.code yX6_nextToken cX6_nextToken 1 none, Cond.fieldLink RX6 19 "EggSpoons$Reader" "at" "I", Cond.fieldLink RX6 15 "EggSpoons$Reader" "length" "I", Cond.fieldLink RX6 11 "EggSpoons$Reader" "bytes" "[I", Cond.methodLink RX6 38 yX6_skipBlanks, Cond.instanceMethod yX6_skipBlanks, Cond.selects RX6 yX6_skipBlanks yX6_skipBlanks, Cond.code yX6_skipBlanks cX6_skipBlanks 1 none, Cond.methodLink RX6 118 yX6_isLetter, Cond.static yX6_isLetter, Cond.code yX6_isLetter cX6_isLetter 1 (some .boolean), Cond.methodLink RX6 122 yX6_takeLetters, Cond.instanceMethod yX6_takeLetters, Cond.selects RX6 yX6_takeLetters yX6_takeLetters, Cond.code yX6_takeLetters cX6_takeLetters 1 none, Cond.methodLink RX6 125 yX6_isFigure, Cond.static yX6_isFigure]
def wsX6_ended_r2 : List Cond := [Cond.code yX6_isFigure cX6_isFigure 1 (some .boolean), Cond.methodLink RX6 128 yX6_takeFigures, Cond.instanceMethod yX6_takeFigures, Cond.selects RX6 yX6_takeFigures yX6_takeFigures, Cond.code yX6_takeFigures cX6_takeFigures 1 none, Cond.fieldLink RX6 28 "EggSpoons$Reader" "value" "I"]
def wsX6_ended : List Cond := .code yX6_ended cX6_ended 1 (some .boolean) :: ((wsX6_ended_r1 ++ wsX6_ended_r2) ++ wsX60)
def wsX6_takeLength_r1 : List Cond := [Cond.methodLink RX6 79 yX6_number, Cond.instanceMethod yX6_number, Cond.selects RX6 yX6_number yX6_number, Cond.initialized RX6, Cond.code yX6_number cX6_number 3 (some .int), Cond.fieldLink RX6 31 "EggSpoons$Reader" "fault" "I", Cond.fieldLink RX6 25 "EggSpoons$Reader" "sort" "I", Cond.fieldLink RX6 28 "EggSpoons$Reader" "value" "I", Cond.fieldLink RX6 22 "EggSpoons$Reader" "tokenAt" "I", Cond.methodLink RX6 41 yX6_nextToken, Cond.instanceMethod yX6_nextToken, Cond.selects RX6 yX6_nextToken yX6_nextToken, Cond.code yX6_nextToken cX6_nextToken 1 none, Cond.fieldLink RX6 19 "EggSpoons$Reader" "at" "I", Cond.fieldLink RX6 15 "EggSpoons$Reader" "length" "I", Cond.fieldLink RX6 11 "EggSpoons$Reader" "bytes" "[I", Cond.methodLink RX6 38 yX6_skipBlanks, Cond.instanceMethod yX6_skipBlanks, Cond.selects RX6 yX6_skipBlanks yX6_skipBlanks, Cond.code yX6_skipBlanks cX6_skipBlanks 1 none, Cond.methodLink RX6 118 yX6_isLetter, Cond.static yX6_isLetter, Cond.code yX6_isLetter cX6_isLetter 1 (some .boolean), Cond.methodLink RX6 122 yX6_takeLetters]
def wsX6_takeLength_r2 : List Cond := [Cond.instanceMethod yX6_takeLetters, Cond.selects RX6 yX6_takeLetters yX6_takeLetters, Cond.code yX6_takeLetters cX6_takeLetters 1 none, Cond.methodLink RX6 125 yX6_isFigure, Cond.static yX6_isFigure, Cond.code yX6_isFigure cX6_isFigure 1 (some .boolean), Cond.methodLink RX6 128 yX6_takeFigures, Cond.instanceMethod yX6_takeFigures, Cond.selects RX6 yX6_takeFigures yX6_takeFigures, Cond.code yX6_takeFigures cX6_takeFigures 1 none, Cond.methodLink RX6 83 yX6_ended, Cond.instanceMethod yX6_ended, Cond.selects RX6 yX6_ended yX6_ended, Cond.code yX6_ended cX6_ended 1 (some .boolean), Cond.methodLink RX6 87 yX5_restart, Cond.instanceMethod yX5_restart, Cond.selects RX5 yX5_restart yX5_restart, Cond.initialized RX5, Cond.code yX5_restart cX5_restart 2 none, Cond.fieldLink RX5 9 "EggSpoons$Race" "length" "I", Cond.fieldLink RX5 15 "EggSpoons$Race" "tick" "I", Cond.fieldLink RX5 18 "EggSpoons$Race" "runners" "I", Cond.fieldLink RX5 30 "EggSpoons$Race" "past" "LEggSpoons$Past;", Cond.fieldLink RX5 50 "EggSpoons$Past" "size" "I"]
def wsX6_takeLength_r3 : List Cond := [Cond.fieldLink RX5 39 "EggSpoons$Race" "seenRows" "LEggSpoons$Rows;", Cond.fieldLink RX5 53 "EggSpoons$Rows" "size" "I", Cond.fieldLink RX5 43 "EggSpoons$Race" "noteRows" "LEggSpoons$Rows;", Cond.fieldLink RX5 46 "EggSpoons$Race" "markRows" "LEggSpoons$Rows;"]
def wsX6_takeLength : List Cond := .code yX6_takeLength cX6_takeLength 3 none :: ((wsX6_takeLength_r1 ++ (wsX6_takeLength_r2 ++ wsX6_takeLength_r3)) ++ wsX60 ++ wsX50 ++ wsX40 ++ wsX70)
def wsX6_takeRunner_r1 : List Cond := [Cond.methodLink RX6 79 yX6_number, Cond.instanceMethod yX6_number, Cond.selects RX6 yX6_number yX6_number, Cond.initialized RX6, Cond.code yX6_number cX6_number 3 (some .int), Cond.fieldLink RX6 31 "EggSpoons$Reader" "fault" "I", Cond.fieldLink RX6 25 "EggSpoons$Reader" "sort" "I", Cond.fieldLink RX6 28 "EggSpoons$Reader" "value" "I", Cond.fieldLink RX6 22 "EggSpoons$Reader" "tokenAt" "I", Cond.methodLink RX6 41 yX6_nextToken, Cond.instanceMethod yX6_nextToken, Cond.selects RX6 yX6_nextToken yX6_nextToken, Cond.code yX6_nextToken cX6_nextToken 1 none, Cond.fieldLink RX6 19 "EggSpoons$Reader" "at" "I", Cond.fieldLink RX6 15 "EggSpoons$Reader" "length" "I", Cond.fieldLink RX6 11 "EggSpoons$Reader" "bytes" "[I", Cond.methodLink RX6 38 yX6_skipBlanks, Cond.instanceMethod yX6_skipBlanks, Cond.selects RX6 yX6_skipBlanks yX6_skipBlanks, Cond.code yX6_skipBlanks cX6_skipBlanks 1 none, Cond.methodLink RX6 118 yX6_isLetter, Cond.static yX6_isLetter, Cond.code yX6_isLetter cX6_isLetter 1 (some .boolean), Cond.methodLink RX6 122 yX6_takeLetters]
def wsX6_takeRunner_r2 : List Cond := [Cond.instanceMethod yX6_takeLetters, Cond.selects RX6 yX6_takeLetters yX6_takeLetters, Cond.code yX6_takeLetters cX6_takeLetters 1 none, Cond.methodLink RX6 125 yX6_isFigure, Cond.static yX6_isFigure, Cond.code yX6_isFigure cX6_isFigure 1 (some .boolean), Cond.methodLink RX6 128 yX6_takeFigures, Cond.instanceMethod yX6_takeFigures, Cond.selects RX6 yX6_takeFigures yX6_takeFigures, Cond.code yX6_takeFigures cX6_takeFigures 1 none, Cond.methodLink RX6 83 yX6_ended, Cond.instanceMethod yX6_ended, Cond.selects RX6 yX6_ended yX6_ended, Cond.code yX6_ended cX6_ended 1 (some .boolean), Cond.methodLink RX6 91 yX5_welcome, Cond.instanceMethod yX5_welcome, Cond.selects RX5 yX5_welcome yX5_welcome, Cond.initialized RX5, Cond.code yX5_welcome cX5_welcome 4 none, Cond.fieldLink RX5 18 "EggSpoons$Race" "runners" "I", Cond.fieldLink RX5 23 "EggSpoons$Race" "row" "[LEggSpoons$Runner;", Cond.fieldLink RX5 30 "EggSpoons$Race" "past" "LEggSpoons$Past;", Cond.fieldLink RX5 50 "EggSpoons$Past" "size" "I", Cond.methodLink RX5 54 yX8_begin]
def wsX6_takeRunner_r3 : List Cond := [Cond.instanceMethod yX8_begin, Cond.selects RX8 yX8_begin yX8_begin, Cond.initialized RX8, Cond.code yX8_begin cX8_begin 4 none, Cond.fieldLink RX8 9 "EggSpoons$Runner" "kind" "I", Cond.fieldLink RX8 15 "EggSpoons$Runner" "legs" "I", Cond.fieldLink RX8 18 "EggSpoons$Runner" "egg" "I", Cond.fieldLink RX8 21 "EggSpoons$Runner" "speed" "I", Cond.fieldLink RX8 24 "EggSpoons$Runner" "place" "I", Cond.fieldLink RX8 27 "EggSpoons$Runner" "drops" "I", Cond.fieldLink RX8 30 "EggSpoons$Runner" "waits" "I", Cond.fieldLink RX8 33 "EggSpoons$Runner" "homeAt" "I"]
def wsX6_takeRunner : List Cond := .code yX6_takeRunner cX6_takeRunner 5 none :: ((wsX6_takeRunner_r1 ++ (wsX6_takeRunner_r2 ++ wsX6_takeRunner_r3)) ++ wsX60 ++ wsX50 ++ wsX40 ++ wsX80)
def wsX6_takeSpeed_r1 : List Cond := [Cond.fieldLink RX6 56 "EggSpoons$Race" "runners" "I", Cond.fieldLink RX6 95 "EggSpoons$Race" "row" "[LEggSpoons$Runner;", Cond.fieldLink RX6 99 "EggSpoons$Runner" "speed" "I", Cond.methodLink RX6 79 yX6_number, Cond.instanceMethod yX6_number, Cond.selects RX6 yX6_number yX6_number, Cond.initialized RX6, Cond.code yX6_number cX6_number 3 (some .int), Cond.fieldLink RX6 31 "EggSpoons$Reader" "fault" "I", Cond.fieldLink RX6 25 "EggSpoons$Reader" "sort" "I", Cond.fieldLink RX6 28 "EggSpoons$Reader" "value" "I", Cond.fieldLink RX6 22 "EggSpoons$Reader" "tokenAt" "I", Cond.methodLink RX6 41 yX6_nextToken, Cond.instanceMethod yX6_nextToken, Cond.selects RX6 yX6_nextToken yX6_nextToken, Cond.code yX6_nextToken cX6_nextToken 1 none, Cond.fieldLink RX6 19 "EggSpoons$Reader" "at" "I", Cond.fieldLink RX6 15 "EggSpoons$Reader" "length" "I", Cond.fieldLink RX6 11 "EggSpoons$Reader" "bytes" "[I", Cond.methodLink RX6 38 yX6_skipBlanks, Cond.instanceMethod yX6_skipBlanks, Cond.selects RX6 yX6_skipBlanks yX6_skipBlanks, Cond.code yX6_skipBlanks cX6_skipBlanks 1 none, Cond.methodLink RX6 118 yX6_isLetter]
def wsX6_takeSpeed_r2 : List Cond := [Cond.static yX6_isLetter, Cond.code yX6_isLetter cX6_isLetter 1 (some .boolean), Cond.methodLink RX6 122 yX6_takeLetters, Cond.instanceMethod yX6_takeLetters, Cond.selects RX6 yX6_takeLetters yX6_takeLetters, Cond.code yX6_takeLetters cX6_takeLetters 1 none, Cond.methodLink RX6 125 yX6_isFigure, Cond.static yX6_isFigure, Cond.code yX6_isFigure cX6_isFigure 1 (some .boolean), Cond.methodLink RX6 128 yX6_takeFigures, Cond.instanceMethod yX6_takeFigures, Cond.selects RX6 yX6_takeFigures yX6_takeFigures, Cond.code yX6_takeFigures cX6_takeFigures 1 none, Cond.methodLink RX6 83 yX6_ended, Cond.instanceMethod yX6_ended, Cond.selects RX6 yX6_ended yX6_ended, Cond.code yX6_ended cX6_ended 1 (some .boolean)]
def wsX6_takeSpeed : List Cond := .code yX6_takeSpeed cX6_takeSpeed 4 none :: ((wsX6_takeSpeed_r1 ++ wsX6_takeSpeed_r2) ++ wsX50 ++ wsX80 ++ wsX60)
def wsX6_takeStart_r1 : List Cond := [Cond.fieldLink RX6 56 "EggSpoons$Race" "runners" "I", Cond.fieldLink RX6 95 "EggSpoons$Race" "row" "[LEggSpoons$Runner;", Cond.fieldLink RX6 22 "EggSpoons$Reader" "tokenAt" "I", Cond.fieldLink RX6 31 "EggSpoons$Reader" "fault" "I", Cond.fieldLink RX6 106 "EggSpoons$Race" "length" "I", Cond.methodLink RX6 107 Lib.Math.min.name, Cond.static Lib.Math.min.name, Cond.initialized "java/lang/Math", Cond.code Lib.Math.min.name Lib.Math.min.code 2 (some .int), Cond.fieldLink RX6 112 "EggSpoons$Runner" "place" "I", Cond.methodLink RX6 79 yX6_number, Cond.instanceMethod yX6_number, Cond.selects RX6 yX6_number yX6_number, Cond.initialized RX6, Cond.code yX6_number cX6_number 3 (some .int), Cond.fieldLink RX6 25 "EggSpoons$Reader" "sort" "I", Cond.fieldLink RX6 28 "EggSpoons$Reader" "value" "I", Cond.methodLink RX6 41 yX6_nextToken, Cond.instanceMethod yX6_nextToken, Cond.selects RX6 yX6_nextToken yX6_nextToken, Cond.code yX6_nextToken cX6_nextToken 1 none, Cond.fieldLink RX6 19 "EggSpoons$Reader" "at" "I", Cond.fieldLink RX6 15 "EggSpoons$Reader" "length" "I", Cond.fieldLink RX6 11 "EggSpoons$Reader" "bytes" "[I"]
def wsX6_takeStart_r2 : List Cond := [Cond.methodLink RX6 38 yX6_skipBlanks, Cond.instanceMethod yX6_skipBlanks, Cond.selects RX6 yX6_skipBlanks yX6_skipBlanks, Cond.code yX6_skipBlanks cX6_skipBlanks 1 none, Cond.methodLink RX6 118 yX6_isLetter, Cond.static yX6_isLetter, Cond.code yX6_isLetter cX6_isLetter 1 (some .boolean), Cond.methodLink RX6 122 yX6_takeLetters, Cond.instanceMethod yX6_takeLetters, Cond.selects RX6 yX6_takeLetters yX6_takeLetters, Cond.code yX6_takeLetters cX6_takeLetters 1 none, Cond.methodLink RX6 125 yX6_isFigure, Cond.static yX6_isFigure, Cond.code yX6_isFigure cX6_isFigure 1 (some .boolean), Cond.methodLink RX6 128 yX6_takeFigures, Cond.instanceMethod yX6_takeFigures, Cond.selects RX6 yX6_takeFigures yX6_takeFigures, Cond.code yX6_takeFigures cX6_takeFigures 1 none, Cond.methodLink RX6 103 yX8_isHome, Cond.instanceMethod yX8_isHome, Cond.selects RX8 yX8_isHome yX8_isHome, Cond.initialized RX8, Cond.code yX8_isHome cX8_isHome 1 (some .boolean), Cond.fieldLink RX8 33 "EggSpoons$Runner" "homeAt" "I"]
def wsX6_takeStart_r3 : List Cond := [Cond.methodLink RX6 83 yX6_ended, Cond.instanceMethod yX6_ended, Cond.selects RX6 yX6_ended yX6_ended, Cond.code yX6_ended cX6_ended 1 (some .boolean)]
def wsX6_takeStart : List Cond := .code yX6_takeStart cX6_takeStart 5 none :: ((wsX6_takeStart_r1 ++ (wsX6_takeStart_r2 ++ wsX6_takeStart_r3)) ++ wsX50 ++ wsX60 ++ wsX80)
def wsX6_takeTicks_r1 : List Cond := [Cond.methodLink RX6 79 yX6_number, Cond.instanceMethod yX6_number, Cond.selects RX6 yX6_number yX6_number, Cond.initialized RX6, Cond.code yX6_number cX6_number 3 (some .int), Cond.fieldLink RX6 31 "EggSpoons$Reader" "fault" "I", Cond.fieldLink RX6 25 "EggSpoons$Reader" "sort" "I", Cond.fieldLink RX6 28 "EggSpoons$Reader" "value" "I", Cond.fieldLink RX6 22 "EggSpoons$Reader" "tokenAt" "I", Cond.methodLink RX6 41 yX6_nextToken, Cond.instanceMethod yX6_nextToken, Cond.selects RX6 yX6_nextToken yX6_nextToken, Cond.code yX6_nextToken cX6_nextToken 1 none, Cond.fieldLink RX6 19 "EggSpoons$Reader" "at" "I", Cond.fieldLink RX6 15 "EggSpoons$Reader" "length" "I", Cond.fieldLink RX6 11 "EggSpoons$Reader" "bytes" "[I", Cond.methodLink RX6 38 yX6_skipBlanks, Cond.instanceMethod yX6_skipBlanks, Cond.selects RX6 yX6_skipBlanks yX6_skipBlanks, Cond.code yX6_skipBlanks cX6_skipBlanks 1 none, Cond.methodLink RX6 118 yX6_isLetter, Cond.static yX6_isLetter, Cond.code yX6_isLetter cX6_isLetter 1 (some .boolean), Cond.methodLink RX6 122 yX6_takeLetters]
def wsX6_takeTicks_r2 : List Cond := [Cond.instanceMethod yX6_takeLetters, Cond.selects RX6 yX6_takeLetters yX6_takeLetters, Cond.code yX6_takeLetters cX6_takeLetters 1 none, Cond.methodLink RX6 125 yX6_isFigure, Cond.static yX6_isFigure, Cond.code yX6_isFigure cX6_isFigure 1 (some .boolean), Cond.methodLink RX6 128 yX6_takeFigures, Cond.instanceMethod yX6_takeFigures, Cond.selects RX6 yX6_takeFigures yX6_takeFigures, Cond.code yX6_takeFigures cX6_takeFigures 1 none, Cond.methodLink RX6 83 yX6_ended, Cond.instanceMethod yX6_ended, Cond.selects RX6 yX6_ended yX6_ended, Cond.code yX6_ended cX6_ended 1 (some .boolean), Cond.methodLink RX6 115 yX5_goOn, Cond.instanceMethod yX5_goOn, Cond.selects RX5 yX5_goOn yX5_goOn, Cond.initialized RX5, Cond.code yX5_goOn cX5_goOn 2 none, Cond.fieldLink RX5 15 "EggSpoons$Race" "tick" "I", Cond.fieldLink RX5 18 "EggSpoons$Race" "runners" "I", Cond.fieldLink RX5 23 "EggSpoons$Race" "row" "[LEggSpoons$Runner;", Cond.fieldLink RX5 9 "EggSpoons$Race" "length" "I", Cond.methodLink RX5 72 yX8_step]
def wsX6_takeTicks_r3 : List Cond := [Cond.instanceMethod yX8_step, Cond.selects RX8 yX8_step yX8_step, Cond.initialized RX8, Cond.code yX8_step cX8_step 4 none, Cond.fieldLink RX8 30 "EggSpoons$Runner" "waits" "I", Cond.fieldLink RX8 9 "EggSpoons$Runner" "kind" "I", Cond.fieldLink RX8 15 "EggSpoons$Runner" "legs" "I", Cond.fieldLink RX8 21 "EggSpoons$Runner" "speed" "I", Cond.fieldLink RX8 18 "EggSpoons$Runner" "egg" "I", Cond.fieldLink RX8 27 "EggSpoons$Runner" "drops" "I", Cond.fieldLink RX8 24 "EggSpoons$Runner" "place" "I", Cond.fieldLink RX8 33 "EggSpoons$Runner" "homeAt" "I", Cond.methodLink RX8 48 yX8_isHome, Cond.instanceMethod yX8_isHome, Cond.selects RX8 yX8_isHome yX8_isHome, Cond.code yX8_isHome cX8_isHome 1 (some .boolean), Cond.methodLink RX8 36 yX2_reach, Cond.static yX2_reach, Cond.initialized RX2, Cond.code yX2_reach cX2_reach 7 (some .int), Cond.methodLink RX8 42 yX1_limit, Cond.static yX1_limit, Cond.initialized RX1, Cond.code yX1_limit cX1_limit 5 (some .int)]
def wsX6_takeTicks : List Cond := .code yX6_takeTicks cX6_takeTicks 4 none :: ((wsX6_takeTicks_r1 ++ (wsX6_takeTicks_r2 ++ wsX6_takeTicks_r3)) ++ wsX60 ++ wsX50 ++ wsX80)
def wsX6_takeItem_r1 : List Cond := [Cond.fieldLink RX6 25 "EggSpoons$Reader" "sort" "I", Cond.fieldLink RX6 22 "EggSpoons$Reader" "tokenAt" "I", Cond.fieldLink RX6 31 "EggSpoons$Reader" "fault" "I", Cond.fieldLink RX6 56 "EggSpoons$Race" "runners" "I", Cond.methodLink RX6 41 yX6_nextToken, Cond.instanceMethod yX6_nextToken, Cond.selects RX6 yX6_nextToken yX6_nextToken, Cond.initialized RX6, Cond.code yX6_nextToken cX6_nextToken 1 none, Cond.fieldLink RX6 19 "EggSpoons$Reader" "at" "I", Cond.fieldLink RX6 15 "EggSpoons$Reader" "length" "I", Cond.fieldLink RX6 11 "EggSpoons$Reader" "bytes" "[I", Cond.methodLink RX6 38 yX6_skipBlanks, Cond.instanceMethod yX6_skipBlanks, Cond.selects RX6 yX6_skipBlanks yX6_skipBlanks, Cond.code yX6_skipBlanks cX6_skipBlanks 1 none, Cond.methodLink RX6 118 yX6_isLetter, Cond.static yX6_isLetter, Cond.code yX6_isLetter cX6_isLetter 1 (some .boolean), Cond.methodLink RX6 122 yX6_takeLetters, Cond.instanceMethod yX6_takeLetters, Cond.selects RX6 yX6_takeLetters yX6_takeLetters, Cond.code yX6_takeLetters cX6_takeLetters 1 none, Cond.methodLink RX6 125 yX6_isFigure]
def wsX6_takeItem_r2 : List Cond := [Cond.static yX6_isFigure, Cond.code yX6_isFigure cX6_isFigure 1 (some .boolean), Cond.methodLink RX6 128 yX6_takeFigures, Cond.instanceMethod yX6_takeFigures, Cond.selects RX6 yX6_takeFigures yX6_takeFigures, Cond.code yX6_takeFigures cX6_takeFigures 1 none, Cond.fieldLink RX6 28 "EggSpoons$Reader" "value" "I", Cond.methodLink RX6 46 yX6_spells, Cond.instanceMethod yX6_spells, Cond.selects RX6 yX6_spells yX6_spells, Cond.code yX6_spells cX6_spells 3 (some .boolean), Cond.methodLink RX6 131 yJ0_length_8abf5, Cond.instanceMethod yJ0_length_8abf5, Cond.selects RJ0 yJ0_length_8abf5 yJ0_length_8abf5, Cond.initialized RJ0, Cond.code yJ0_length_8abf5 cJ0_length_8abf5 1 (some .int), Cond.fieldLink RJ0 9 "java/lang/String" "value" "[B", Cond.methodLink RJ0 335 yJ0_coder_7d493, Cond.instanceMethod yJ0_coder_7d493, Cond.selects RJ0 yJ0_coder_7d493 yJ0_coder_7d493, Cond.code yJ0_coder_7d493 cJ0_coder_7d493 1 (some .byte), Cond.fieldLink RJ0 38 "java/lang/String" "COMPACT_STRINGS" "Z", Cond.fieldLink RJ0 15 "java/lang/String" "coder" "B", Cond.methodLink RX6 136 yJ0_charAt_5068e]
def wsX6_takeItem_r3 : List Cond := [Cond.instanceMethod yJ0_charAt_5068e, Cond.selects RJ0 yJ0_charAt_5068e yJ0_charAt_5068e, Cond.code yJ0_charAt_5068e cJ0_charAt_5068e 2 (some .char), Cond.methodLink RJ0 492 yJ0_isLatin1_aae02, Cond.instanceMethod yJ0_isLatin1_aae02, Cond.selects RJ0 yJ0_isLatin1_aae02 yJ0_isLatin1_aae02, Cond.code yJ0_isLatin1_aae02 cJ0_isLatin1_aae02 1 (some .boolean), Cond.methodLink RJ0 495 yJ1_charAt_3b067, Cond.static yJ1_charAt_3b067, Cond.initialized RJ1, Cond.code yJ1_charAt_3b067 cJ1_charAt_3b067 2 (some .char), Cond.methodLink RJ1 9 yJ0_checkIndex_df160, Cond.static yJ0_checkIndex_df160, Cond.code yJ0_checkIndex_df160 cJ0_checkIndex_df160 2 none, Cond.fieldLink RJ0 1053 "jdk/internal/util/Preconditions" "SIOOBE_FORMATTER" "Ljava/util/function/BiFunction;", Cond.methodLink RJ0 1059 yJ3_checkIndex_8e157, Cond.static yJ3_checkIndex_8e157, Cond.initialized RJ3, Cond.code yJ3_checkIndex_8e157 cJ3_checkIndex_8e157 3 (some .int), Cond.methodLink RJ0 498 yJ2_charAt_3b067, Cond.static yJ2_charAt_3b067, Cond.initialized RJ2, Cond.code yJ2_charAt_3b067 cJ2_charAt_3b067 2 (some .char), Cond.methodLink RJ2 67 yJ2_checkIndex_2214a]
def wsX6_takeItem_r4 : List Cond := [Cond.static yJ2_checkIndex_2214a, Cond.code yJ2_checkIndex_2214a cJ2_checkIndex_2214a 2 none, Cond.methodLink RJ2 48 yJ2_length_9d52b, Cond.static yJ2_length_9d52b, Cond.code yJ2_length_9d52b cJ2_length_9d52b 1 (some .int), Cond.methodLink RJ2 414 yJ0_checkIndex_df160, Cond.methodLink RJ2 71 yJ2_getChar_3b067, Cond.static yJ2_getChar_3b067, Cond.code yJ2_getChar_3b067 cJ2_getChar_3b067 2 (some .char), Cond.fieldLink RJ2 44 "java/lang/StringUTF16" "$assertionsDisabled" "Z", Cond.fieldLink RJ2 59 "java/lang/StringUTF16" "HI_BYTE_SHIFT" "I", Cond.fieldLink RJ2 63 "java/lang/StringUTF16" "LO_BYTE_SHIFT" "I", Cond.methodLink RX6 50 yX6_takeLength, Cond.instanceMethod yX6_takeLength, Cond.selects RX6 yX6_takeLength yX6_takeLength, Cond.code yX6_takeLength cX6_takeLength 3 none, Cond.methodLink RX6 79 yX6_number, Cond.instanceMethod yX6_number, Cond.selects RX6 yX6_number yX6_number, Cond.code yX6_number cX6_number 3 (some .int), Cond.methodLink RX6 83 yX6_ended, Cond.instanceMethod yX6_ended, Cond.selects RX6 yX6_ended yX6_ended, Cond.code yX6_ended cX6_ended 1 (some .boolean)]
def wsX6_takeItem_r5 : List Cond := [Cond.methodLink RX6 87 yX5_restart, Cond.instanceMethod yX5_restart, Cond.selects RX5 yX5_restart yX5_restart, Cond.initialized RX5, Cond.code yX5_restart cX5_restart 2 none, Cond.fieldLink RX5 9 "EggSpoons$Race" "length" "I", Cond.fieldLink RX5 15 "EggSpoons$Race" "tick" "I", Cond.fieldLink RX5 18 "EggSpoons$Race" "runners" "I", Cond.fieldLink RX5 30 "EggSpoons$Race" "past" "LEggSpoons$Past;", Cond.fieldLink RX5 50 "EggSpoons$Past" "size" "I", Cond.fieldLink RX5 39 "EggSpoons$Race" "seenRows" "LEggSpoons$Rows;", Cond.fieldLink RX5 53 "EggSpoons$Rows" "size" "I", Cond.fieldLink RX5 43 "EggSpoons$Race" "noteRows" "LEggSpoons$Rows;", Cond.fieldLink RX5 46 "EggSpoons$Race" "markRows" "LEggSpoons$Rows;", Cond.methodLink RX6 61 yX6_takeRunner, Cond.instanceMethod yX6_takeRunner, Cond.selects RX6 yX6_takeRunner yX6_takeRunner, Cond.code yX6_takeRunner cX6_takeRunner 5 none, Cond.methodLink RX6 91 yX5_welcome, Cond.instanceMethod yX5_welcome, Cond.selects RX5 yX5_welcome yX5_welcome, Cond.code yX5_welcome cX5_welcome 4 none, Cond.fieldLink RX5 23 "EggSpoons$Race" "row" "[LEggSpoons$Runner;", Cond.methodLink RX5 54 yX8_begin]
def wsX6_takeItem_r6 : List Cond := [Cond.instanceMethod yX8_begin, Cond.selects RX8 yX8_begin yX8_begin, Cond.initialized RX8, Cond.code yX8_begin cX8_begin 4 none, Cond.fieldLink RX8 9 "EggSpoons$Runner" "kind" "I", Cond.fieldLink RX8 15 "EggSpoons$Runner" "legs" "I", Cond.fieldLink RX8 18 "EggSpoons$Runner" "egg" "I", Cond.fieldLink RX8 21 "EggSpoons$Runner" "speed" "I", Cond.fieldLink RX8 24 "EggSpoons$Runner" "place" "I", Cond.fieldLink RX8 27 "EggSpoons$Runner" "drops" "I", Cond.fieldLink RX8 30 "EggSpoons$Runner" "waits" "I", Cond.fieldLink RX8 33 "EggSpoons$Runner" "homeAt" "I", Cond.methodLink RX6 66 yX6_takeSpeed, Cond.instanceMethod yX6_takeSpeed, Cond.selects RX6 yX6_takeSpeed yX6_takeSpeed, Cond.code yX6_takeSpeed cX6_takeSpeed 4 none, Cond.fieldLink RX6 95 "EggSpoons$Race" "row" "[LEggSpoons$Runner;", Cond.fieldLink RX6 99 "EggSpoons$Runner" "speed" "I", Cond.methodLink RX6 71 yX6_takeStart, Cond.instanceMethod yX6_takeStart, Cond.selects RX6 yX6_takeStart yX6_takeStart, Cond.code yX6_takeStart cX6_takeStart 5 none, Cond.fieldLink RX6 106 "EggSpoons$Race" "length" "I", Cond.methodLink RX6 107 Lib.Math.min.name]
def wsX6_takeItem_r7 : List Cond := [Cond.static Lib.Math.min.name, Cond.initialized "java/lang/Math", Cond.code Lib.Math.min.name Lib.Math.min.code 2 (some .int), Cond.fieldLink RX6 112 "EggSpoons$Runner" "place" "I", Cond.methodLink RX6 103 yX8_isHome, Cond.instanceMethod yX8_isHome, Cond.selects RX8 yX8_isHome yX8_isHome, Cond.code yX8_isHome cX8_isHome 1 (some .boolean), Cond.methodLink RX6 76 yX6_takeTicks, Cond.instanceMethod yX6_takeTicks, Cond.selects RX6 yX6_takeTicks yX6_takeTicks, Cond.code yX6_takeTicks cX6_takeTicks 4 none, Cond.methodLink RX6 115 yX5_goOn, Cond.instanceMethod yX5_goOn, Cond.selects RX5 yX5_goOn yX5_goOn, Cond.code yX5_goOn cX5_goOn 2 none, Cond.methodLink RX5 72 yX8_step, Cond.instanceMethod yX8_step, Cond.selects RX8 yX8_step yX8_step, Cond.code yX8_step cX8_step 4 none, Cond.methodLink RX8 48 yX8_isHome, Cond.methodLink RX8 36 yX2_reach, Cond.static yX2_reach, Cond.initialized RX2]
def wsX6_takeItem_r8 : List Cond := [Cond.code yX2_reach cX2_reach 7 (some .int), Cond.methodLink RX8 42 yX1_limit, Cond.static yX1_limit, Cond.initialized RX1, Cond.code yX1_limit cX1_limit 5 (some .int)]
def wsX6_takeItem : List Cond := .code yX6_takeItem cX6_takeItem 3 none :: ((wsX6_takeItem_r1 ++ (wsX6_takeItem_r2 ++ (wsX6_takeItem_r3 ++ (wsX6_takeItem_r4 ++ (wsX6_takeItem_r5 ++ (wsX6_takeItem_r6 ++ (wsX6_takeItem_r7 ++ wsX6_takeItem_r8))))))) ++ wsX60 ++ wsX50 ++ wsX40 ++ wsX70 ++ wsX80)
def wsX6_takeRace_r1 : List Cond := [Cond.fieldLink RX6 19 "EggSpoons$Reader" "at" "I", Cond.fieldLink RX6 31 "EggSpoons$Reader" "fault" "I", Cond.fieldLink RX6 15 "EggSpoons$Reader" "length" "I", Cond.methodLink RX6 34 yX6_takeItem, Cond.instanceMethod yX6_takeItem, Cond.selects RX6 yX6_takeItem yX6_takeItem, Cond.initialized RX6, Cond.code yX6_takeItem cX6_takeItem 3 none, Cond.fieldLink RX6 25 "EggSpoons$Reader" "sort" "I", Cond.fieldLink RX6 22 "EggSpoons$Reader" "tokenAt" "I", Cond.fieldLink RX6 56 "EggSpoons$Race" "runners" "I", Cond.methodLink RX6 41 yX6_nextToken, Cond.instanceMethod yX6_nextToken, Cond.selects RX6 yX6_nextToken yX6_nextToken, Cond.code yX6_nextToken cX6_nextToken 1 none, Cond.fieldLink RX6 11 "EggSpoons$Reader" "bytes" "[I", Cond.methodLink RX6 38 yX6_skipBlanks, Cond.instanceMethod yX6_skipBlanks, Cond.selects RX6 yX6_skipBlanks yX6_skipBlanks, Cond.code yX6_skipBlanks cX6_skipBlanks 1 none, Cond.methodLink RX6 118 yX6_isLetter, Cond.static yX6_isLetter, Cond.code yX6_isLetter cX6_isLetter 1 (some .boolean), Cond.methodLink RX6 122 yX6_takeLetters]
def wsX6_takeRace_r2 : List Cond := [Cond.instanceMethod yX6_takeLetters, Cond.selects RX6 yX6_takeLetters yX6_takeLetters, Cond.code yX6_takeLetters cX6_takeLetters 1 none, Cond.methodLink RX6 125 yX6_isFigure, Cond.static yX6_isFigure, Cond.code yX6_isFigure cX6_isFigure 1 (some .boolean), Cond.methodLink RX6 128 yX6_takeFigures, Cond.instanceMethod yX6_takeFigures, Cond.selects RX6 yX6_takeFigures yX6_takeFigures, Cond.code yX6_takeFigures cX6_takeFigures 1 none, Cond.fieldLink RX6 28 "EggSpoons$Reader" "value" "I", Cond.methodLink RX6 46 yX6_spells, Cond.instanceMethod yX6_spells, Cond.selects RX6 yX6_spells yX6_spells, Cond.code yX6_spells cX6_spells 3 (some .boolean), Cond.methodLink RX6 131 yJ0_length_8abf5, Cond.instanceMethod yJ0_length_8abf5, Cond.selects RJ0 yJ0_length_8abf5 yJ0_length_8abf5, Cond.initialized RJ0, Cond.code yJ0_length_8abf5 cJ0_length_8abf5 1 (some .int), Cond.fieldLink RJ0 9 "java/lang/String" "value" "[B", Cond.methodLink RJ0 335 yJ0_coder_7d493, Cond.instanceMethod yJ0_coder_7d493, Cond.selects RJ0 yJ0_coder_7d493 yJ0_coder_7d493]
def wsX6_takeRace_r3 : List Cond := [Cond.code yJ0_coder_7d493 cJ0_coder_7d493 1 (some .byte), Cond.fieldLink RJ0 38 "java/lang/String" "COMPACT_STRINGS" "Z", Cond.fieldLink RJ0 15 "java/lang/String" "coder" "B", Cond.methodLink RX6 136 yJ0_charAt_5068e, Cond.instanceMethod yJ0_charAt_5068e, Cond.selects RJ0 yJ0_charAt_5068e yJ0_charAt_5068e, Cond.code yJ0_charAt_5068e cJ0_charAt_5068e 2 (some .char), Cond.methodLink RJ0 492 yJ0_isLatin1_aae02, Cond.instanceMethod yJ0_isLatin1_aae02, Cond.selects RJ0 yJ0_isLatin1_aae02 yJ0_isLatin1_aae02, Cond.code yJ0_isLatin1_aae02 cJ0_isLatin1_aae02 1 (some .boolean), Cond.methodLink RJ0 495 yJ1_charAt_3b067, Cond.static yJ1_charAt_3b067, Cond.initialized RJ1, Cond.code yJ1_charAt_3b067 cJ1_charAt_3b067 2 (some .char), Cond.methodLink RJ1 9 yJ0_checkIndex_df160, Cond.static yJ0_checkIndex_df160, Cond.code yJ0_checkIndex_df160 cJ0_checkIndex_df160 2 none, Cond.fieldLink RJ0 1053 "jdk/internal/util/Preconditions" "SIOOBE_FORMATTER" "Ljava/util/function/BiFunction;", Cond.methodLink RJ0 1059 yJ3_checkIndex_8e157, Cond.static yJ3_checkIndex_8e157, Cond.initialized RJ3, Cond.code yJ3_checkIndex_8e157 cJ3_checkIndex_8e157 3 (some .int), Cond.methodLink RJ0 498 yJ2_charAt_3b067]
def wsX6_takeRace_r4 : List Cond := [Cond.static yJ2_charAt_3b067, Cond.initialized RJ2, Cond.code yJ2_charAt_3b067 cJ2_charAt_3b067 2 (some .char), Cond.methodLink RJ2 67 yJ2_checkIndex_2214a, Cond.static yJ2_checkIndex_2214a, Cond.code yJ2_checkIndex_2214a cJ2_checkIndex_2214a 2 none, Cond.methodLink RJ2 48 yJ2_length_9d52b, Cond.static yJ2_length_9d52b, Cond.code yJ2_length_9d52b cJ2_length_9d52b 1 (some .int), Cond.methodLink RJ2 414 yJ0_checkIndex_df160, Cond.methodLink RJ2 71 yJ2_getChar_3b067, Cond.static yJ2_getChar_3b067, Cond.code yJ2_getChar_3b067 cJ2_getChar_3b067 2 (some .char), Cond.fieldLink RJ2 44 "java/lang/StringUTF16" "$assertionsDisabled" "Z", Cond.fieldLink RJ2 59 "java/lang/StringUTF16" "HI_BYTE_SHIFT" "I", Cond.fieldLink RJ2 63 "java/lang/StringUTF16" "LO_BYTE_SHIFT" "I", Cond.methodLink RX6 50 yX6_takeLength, Cond.instanceMethod yX6_takeLength, Cond.selects RX6 yX6_takeLength yX6_takeLength, Cond.code yX6_takeLength cX6_takeLength 3 none, Cond.methodLink RX6 79 yX6_number, Cond.instanceMethod yX6_number, Cond.selects RX6 yX6_number yX6_number, Cond.code yX6_number cX6_number 3 (some .int)]
def wsX6_takeRace_r5 : List Cond := [Cond.methodLink RX6 83 yX6_ended, Cond.instanceMethod yX6_ended, Cond.selects RX6 yX6_ended yX6_ended, Cond.code yX6_ended cX6_ended 1 (some .boolean), Cond.methodLink RX6 87 yX5_restart, Cond.instanceMethod yX5_restart, Cond.selects RX5 yX5_restart yX5_restart, Cond.initialized RX5, Cond.code yX5_restart cX5_restart 2 none, Cond.fieldLink RX5 9 "EggSpoons$Race" "length" "I", Cond.fieldLink RX5 15 "EggSpoons$Race" "tick" "I", Cond.fieldLink RX5 18 "EggSpoons$Race" "runners" "I", Cond.fieldLink RX5 30 "EggSpoons$Race" "past" "LEggSpoons$Past;", Cond.fieldLink RX5 50 "EggSpoons$Past" "size" "I", Cond.fieldLink RX5 39 "EggSpoons$Race" "seenRows" "LEggSpoons$Rows;", Cond.fieldLink RX5 53 "EggSpoons$Rows" "size" "I", Cond.fieldLink RX5 43 "EggSpoons$Race" "noteRows" "LEggSpoons$Rows;", Cond.fieldLink RX5 46 "EggSpoons$Race" "markRows" "LEggSpoons$Rows;", Cond.methodLink RX6 61 yX6_takeRunner, Cond.instanceMethod yX6_takeRunner, Cond.selects RX6 yX6_takeRunner yX6_takeRunner, Cond.code yX6_takeRunner cX6_takeRunner 5 none, Cond.methodLink RX6 91 yX5_welcome, Cond.instanceMethod yX5_welcome]
def wsX6_takeRace_r6 : List Cond := [Cond.selects RX5 yX5_welcome yX5_welcome, Cond.code yX5_welcome cX5_welcome 4 none, Cond.fieldLink RX5 23 "EggSpoons$Race" "row" "[LEggSpoons$Runner;", Cond.methodLink RX5 54 yX8_begin, Cond.instanceMethod yX8_begin, Cond.selects RX8 yX8_begin yX8_begin, Cond.initialized RX8, Cond.code yX8_begin cX8_begin 4 none, Cond.fieldLink RX8 9 "EggSpoons$Runner" "kind" "I", Cond.fieldLink RX8 15 "EggSpoons$Runner" "legs" "I", Cond.fieldLink RX8 18 "EggSpoons$Runner" "egg" "I", Cond.fieldLink RX8 21 "EggSpoons$Runner" "speed" "I", Cond.fieldLink RX8 24 "EggSpoons$Runner" "place" "I", Cond.fieldLink RX8 27 "EggSpoons$Runner" "drops" "I", Cond.fieldLink RX8 30 "EggSpoons$Runner" "waits" "I", Cond.fieldLink RX8 33 "EggSpoons$Runner" "homeAt" "I", Cond.methodLink RX6 66 yX6_takeSpeed, Cond.instanceMethod yX6_takeSpeed, Cond.selects RX6 yX6_takeSpeed yX6_takeSpeed, Cond.code yX6_takeSpeed cX6_takeSpeed 4 none, Cond.fieldLink RX6 95 "EggSpoons$Race" "row" "[LEggSpoons$Runner;", Cond.fieldLink RX6 99 "EggSpoons$Runner" "speed" "I", Cond.methodLink RX6 71 yX6_takeStart, Cond.instanceMethod yX6_takeStart]
def wsX6_takeRace_r7 : List Cond := [Cond.selects RX6 yX6_takeStart yX6_takeStart, Cond.code yX6_takeStart cX6_takeStart 5 none, Cond.fieldLink RX6 106 "EggSpoons$Race" "length" "I", Cond.methodLink RX6 107 Lib.Math.min.name, Cond.static Lib.Math.min.name, Cond.initialized "java/lang/Math", Cond.code Lib.Math.min.name Lib.Math.min.code 2 (some .int), Cond.fieldLink RX6 112 "EggSpoons$Runner" "place" "I", Cond.methodLink RX6 103 yX8_isHome, Cond.instanceMethod yX8_isHome, Cond.selects RX8 yX8_isHome yX8_isHome, Cond.code yX8_isHome cX8_isHome 1 (some .boolean), Cond.methodLink RX6 76 yX6_takeTicks, Cond.instanceMethod yX6_takeTicks, Cond.selects RX6 yX6_takeTicks yX6_takeTicks, Cond.code yX6_takeTicks cX6_takeTicks 4 none, Cond.methodLink RX6 115 yX5_goOn, Cond.instanceMethod yX5_goOn, Cond.selects RX5 yX5_goOn yX5_goOn, Cond.code yX5_goOn cX5_goOn 2 none, Cond.methodLink RX5 72 yX8_step, Cond.instanceMethod yX8_step, Cond.selects RX8 yX8_step yX8_step, Cond.code yX8_step cX8_step 4 none]
def wsX6_takeRace_r8 : List Cond := [Cond.methodLink RX8 48 yX8_isHome, Cond.methodLink RX8 36 yX2_reach, Cond.static yX2_reach, Cond.initialized RX2, Cond.code yX2_reach cX2_reach 7 (some .int), Cond.methodLink RX8 42 yX1_limit, Cond.static yX1_limit, Cond.initialized RX1, Cond.code yX1_limit cX1_limit 5 (some .int)]
def wsX6_takeRace : List Cond := .code yX6_takeRace cX6_takeRace 3 (some .int) :: ((wsX6_takeRace_r1 ++ (wsX6_takeRace_r2 ++ (wsX6_takeRace_r3 ++ (wsX6_takeRace_r4 ++ (wsX6_takeRace_r5 ++ (wsX6_takeRace_r6 ++ (wsX6_takeRace_r7 ++ wsX6_takeRace_r8))))))) ++ wsX60 ++ wsX50 ++ wsX40 ++ wsX70 ++ wsX80)
def wsX7_append : List Cond := .code yX7_append cX7_append 7 (some .boolean) :: ([.fieldLink RX7 7 "EggSpoons$Rows" "size" "I", .fieldLink RX7 13 "EggSpoons$Rows" "most" "I", .fieldLink RX7 23 "EggSpoons$Rows" "cells" "[I"] ++ wsX70)
def wsX7_mixInto : List Cond := .code yX7_mixInto cX7_mixInto 7 (some .long) :: ([.fieldLink RX7 7 "EggSpoons$Rows" "size" "I", .constantLong RX7 50 (31), .fieldLink RX7 23 "EggSpoons$Rows" "cells" "[I", .fieldLink RX7 16 "EggSpoons$Rows" "withLegs" "Z", .fieldLink RX7 20 "EggSpoons$Rows" "withSpeed" "Z"] ++ wsX70)
def wsX8_fact : List Cond := .code yX8_fact cX8_fact 3 (some .int) :: ([.fieldLink RX8 9 "EggSpoons$Runner" "kind" "I", .fieldLink RX8 15 "EggSpoons$Runner" "legs" "I", .fieldLink RX8 18 "EggSpoons$Runner" "egg" "I", .fieldLink RX8 21 "EggSpoons$Runner" "speed" "I", .fieldLink RX8 24 "EggSpoons$Runner" "place" "I", .fieldLink RX8 27 "EggSpoons$Runner" "drops" "I", .fieldLink RX8 30 "EggSpoons$Runner" "waits" "I", .fieldLink RX8 33 "EggSpoons$Runner" "homeAt" "I", .methodLink RX8 36 yX2_reach, .static yX2_reach, .initialized RX2, .code yX2_reach cX2_reach 7 (some .int), .methodLink RX8 42 yX1_limit, .static yX1_limit, .initialized RX1, .code yX1_limit cX1_limit 5 (some .int)] ++ wsX80)
def wsX8_ticksToHome_r1 : List Cond := [Cond.methodLink RX8 48 yX8_isHome, Cond.instanceMethod yX8_isHome, Cond.selects RX8 yX8_isHome yX8_isHome, Cond.initialized RX8, Cond.code yX8_isHome cX8_isHome 1 (some .boolean), Cond.fieldLink RX8 33 "EggSpoons$Runner" "homeAt" "I", Cond.methodLink RX8 52 yX8_step, Cond.instanceMethod yX8_step, Cond.selects RX8 yX8_step yX8_step, Cond.code yX8_step cX8_step 4 none, Cond.fieldLink RX8 30 "EggSpoons$Runner" "waits" "I", Cond.fieldLink RX8 9 "EggSpoons$Runner" "kind" "I", Cond.fieldLink RX8 15 "EggSpoons$Runner" "legs" "I", Cond.fieldLink RX8 21 "EggSpoons$Runner" "speed" "I", Cond.fieldLink RX8 18 "EggSpoons$Runner" "egg" "I", Cond.fieldLink RX8 27 "EggSpoons$Runner" "drops" "I", Cond.fieldLink RX8 24 "EggSpoons$Runner" "place" "I", Cond.methodLink RX8 36 yX2_reach, Cond.static yX2_reach, Cond.initialized RX2, Cond.code yX2_reach cX2_reach 7 (some .int), Cond.methodLink RX8 42 yX1_limit, Cond.static yX1_limit, Cond.initialized RX1]
def wsX8_ticksToHome_r2 : List Cond := [Cond.code yX1_limit cX1_limit 5 (some .int)]
def wsX8_ticksToHome : List Cond := .code yX8_ticksToHome cX8_ticksToHome 5 (some .int) :: ((wsX8_ticksToHome_r1 ++ wsX8_ticksToHome_r2) ++ wsX80)
def wsX8_placeBehind_r1 : List Cond := [Cond.fieldLink RX8 24 "EggSpoons$Runner" "place" "I", Cond.methodLink RX8 52 yX8_step, Cond.instanceMethod yX8_step, Cond.selects RX8 yX8_step yX8_step, Cond.initialized RX8, Cond.code yX8_step cX8_step 4 none, Cond.fieldLink RX8 30 "EggSpoons$Runner" "waits" "I", Cond.fieldLink RX8 9 "EggSpoons$Runner" "kind" "I", Cond.fieldLink RX8 15 "EggSpoons$Runner" "legs" "I", Cond.fieldLink RX8 21 "EggSpoons$Runner" "speed" "I", Cond.fieldLink RX8 18 "EggSpoons$Runner" "egg" "I", Cond.fieldLink RX8 27 "EggSpoons$Runner" "drops" "I", Cond.fieldLink RX8 33 "EggSpoons$Runner" "homeAt" "I", Cond.methodLink RX8 48 yX8_isHome, Cond.instanceMethod yX8_isHome, Cond.selects RX8 yX8_isHome yX8_isHome, Cond.code yX8_isHome cX8_isHome 1 (some .boolean), Cond.methodLink RX8 36 yX2_reach, Cond.static yX2_reach, Cond.initialized RX2, Cond.code yX2_reach cX2_reach 7 (some .int), Cond.methodLink RX8 42 yX1_limit, Cond.static yX1_limit, Cond.initialized RX1]
def wsX8_placeBehind_r2 : List Cond := [Cond.code yX1_limit cX1_limit 5 (some .int)]
def wsX8_placeBehind : List Cond := .code yX8_placeBehind cX8_placeBehind 5 (some .int) :: ((wsX8_placeBehind_r1 ++ wsX8_placeBehind_r2) ++ wsX80)
def wsX9_init : List Cond := .code yX9_init cX9_init 1 none :: ([.methodLink RX9 3 objectInit, .instanceMethod objectInit, .code objectInit ⟨#[0xb1]⟩ 1 none, .arrayClass .int, .fieldLink RX9 9 "EggSpoons$Tally" "counts" "[I", .fieldLink RX9 15 "EggSpoons$Tally" "most" "I"] ++ wsX90)
def wsX9_restart : List Cond := .code yX9_restart cX9_restart 2 none :: ([.fieldLink RX9 9 "EggSpoons$Tally" "counts" "[I", .fieldLink RX9 15 "EggSpoons$Tally" "most" "I"] ++ wsX90)
def wsX9_see : List Cond := .code yX9_see cX9_see 2 none :: ([.fieldLink RX9 9 "EggSpoons$Tally" "counts" "[I", .fieldLink RX9 15 "EggSpoons$Tally" "most" "I", .methodLink RX9 19 Lib.Math.max.name, .static Lib.Math.max.name, .initialized "java/lang/Math", .code Lib.Math.max.name Lib.Math.max.code 2 (some .int)] ++ wsX90)
def wsX10_init_r1 : List Cond := [Cond.methodLink RX10 1 objectInit, Cond.instanceMethod objectInit, Cond.code objectInit ⟨#[0xb1]⟩ 1 none, Cond.classLink RX10 7 RX5, Cond.instantiable RX5 8, Cond.initialized RX5, Cond.fieldLink RX10 10 "EggSpoons" "now" "LEggSpoons$Race;", Cond.fieldLink RX10 16 "EggSpoons" "spare" "LEggSpoons$Race;", Cond.fieldLink RX10 19 "EggSpoons" "images" "[LEggSpoons$Race;", Cond.arrayClass .boolean, Cond.fieldLink RX10 23 "EggSpoons" "imageKept" "[Z", Cond.classLink RX10 27 RX6, Cond.instantiable RX6 7, Cond.initialized RX6, Cond.fieldLink RX10 30 "EggSpoons" "reader" "LEggSpoons$Reader;", Cond.arrayClass .int, Cond.fieldLink RX10 34 "EggSpoons" "refused" "[I", Cond.fieldLink RX10 38 "EggSpoons" "above" "J", Cond.fieldLink RX10 42 "EggSpoons" "below" "J", Cond.classLink RX10 45 RX8, Cond.instantiable RX8 8, Cond.initialized RX8, Cond.fieldLink RX10 48 "EggSpoons" "ghost" "LEggSpoons$Runner;", Cond.fieldLink RX10 52 "EggSpoons" "rival" "LEggSpoons$Runner;"]
def wsX10_init_r2 : List Cond := [Cond.classLink RX10 55 RX9, Cond.instantiable RX9 2, Cond.initialized RX9, Cond.fieldLink RX10 58 "EggSpoons" "tally" "LEggSpoons$Tally;", Cond.classLink RX10 62 RX3, Cond.instantiable RX3 8, Cond.initialized RX3, Cond.fieldLink RX10 65 "EggSpoons" "odds" "LEggSpoons$Odds;", Cond.classLink RX10 69 RX0, Cond.instantiable RX0 5, Cond.initialized RX0, Cond.fieldLink RX10 72 "EggSpoons" "duel" "LEggSpoons$Duel;", Cond.fieldLink RX10 76 "EggSpoons" "ranks" "[I", Cond.methodLink RX10 9 yX5_init, Cond.instanceMethod yX5_init, Cond.code yX5_init cX5_init 2 none, Cond.methodLink RX5 3 objectInit, Cond.fieldLink RX5 9 "EggSpoons$Race" "length" "I", Cond.fieldLink RX5 15 "EggSpoons$Race" "tick" "I", Cond.fieldLink RX5 18 "EggSpoons$Race" "runners" "I", Cond.classLink RX5 21 RX8, Cond.fieldLink RX5 23 "EggSpoons$Race" "row" "[LEggSpoons$Runner;", Cond.classLink RX5 27 RX4, Cond.instantiable RX4 2]
def wsX10_init_r3 : List Cond := [Cond.initialized RX4, Cond.fieldLink RX5 30 "EggSpoons$Race" "past" "LEggSpoons$Past;", Cond.classLink RX5 34 RX7, Cond.instantiable RX7 5, Cond.initialized RX7, Cond.fieldLink RX5 39 "EggSpoons$Race" "seenRows" "LEggSpoons$Rows;", Cond.fieldLink RX5 43 "EggSpoons$Race" "noteRows" "LEggSpoons$Rows;", Cond.fieldLink RX5 46 "EggSpoons$Race" "markRows" "LEggSpoons$Rows;", Cond.instanceMethod yX4_init, Cond.code yX4_init cX4_init 1 none, Cond.methodLink RX4 5 objectInit, Cond.fieldLink RX4 11 "EggSpoons$Past" "cells" "[I", Cond.fieldLink RX4 15 "EggSpoons$Past" "size" "I", Cond.methodLink RX5 36 yX7_init, Cond.instanceMethod yX7_init, Cond.code yX7_init cX7_init 4 none, Cond.methodLink RX7 1 objectInit, Cond.fieldLink RX7 7 "EggSpoons$Rows" "size" "I", Cond.fieldLink RX7 13 "EggSpoons$Rows" "most" "I", Cond.fieldLink RX7 16 "EggSpoons$Rows" "withLegs" "Z", Cond.fieldLink RX7 20 "EggSpoons$Rows" "withSpeed" "Z", Cond.fieldLink RX7 23 "EggSpoons$Rows" "cells" "[I", Cond.instanceMethod yX8_init, Cond.code yX8_init cX8_init 1 none]
def wsX10_init_r4 : List Cond := [Cond.methodLink RX8 3 objectInit, Cond.instanceMethod yX6_init, Cond.code yX6_init cX6_init 1 none, Cond.methodLink RX6 3 objectInit, Cond.fieldLink RX6 11 "EggSpoons$Reader" "bytes" "[I", Cond.fieldLink RX6 15 "EggSpoons$Reader" "length" "I", Cond.fieldLink RX6 19 "EggSpoons$Reader" "at" "I", Cond.fieldLink RX6 22 "EggSpoons$Reader" "tokenAt" "I", Cond.fieldLink RX6 25 "EggSpoons$Reader" "sort" "I", Cond.fieldLink RX6 28 "EggSpoons$Reader" "value" "I", Cond.fieldLink RX6 31 "EggSpoons$Reader" "fault" "I", Cond.instanceMethod yX9_init, Cond.code yX9_init cX9_init 1 none, Cond.methodLink RX9 3 objectInit, Cond.fieldLink RX9 9 "EggSpoons$Tally" "counts" "[I", Cond.fieldLink RX9 15 "EggSpoons$Tally" "most" "I", Cond.instanceMethod yX3_init, Cond.code yX3_init cX3_init 1 none, Cond.methodLink RX3 1 objectInit, Cond.instanceMethod yX0_init, Cond.code yX0_init cX0_init 1 none, Cond.methodLink RX0 3 objectInit, Cond.fieldLink RX0 11 "EggSpoons$Duel" "endsA" "[I", Cond.fieldLink RX0 15 "EggSpoons$Duel" "endsB" "[I"]
def wsX10_init_r5 : List Cond := [Cond.fieldLink RX0 18 "EggSpoons$Duel" "mostA" "[I", Cond.fieldLink RX0 21 "EggSpoons$Duel" "mostB" "[I", Cond.fieldLink RX0 24 "EggSpoons$Duel" "resting" "[I"]
def wsX10_init : List Cond := .code yX10_init cX10_init 1 none :: ((wsX10_init_r1 ++ (wsX10_init_r2 ++ (wsX10_init_r3 ++ (wsX10_init_r4 ++ wsX10_init_r5)))) ++ wsX50 ++ wsX100 ++ wsX60 ++ wsX80 ++ wsX90 ++ wsX30 ++ wsX00 ++ wsX40 ++ wsX70)
def wsX10_within : List Cond := .code yX10_within cX10_within 3 (some .boolean) :: ([])
def wsX10_refuse : List Cond := .code yX10_refuse cX10_refuse 3 (some .int) :: ([.fieldLink RX10 34 "EggSpoons" "refused" "[I"] ++ wsX100)
def wsX10_race_r1 : List Cond := [Cond.fieldLink RX10 10 "EggSpoons" "now" "LEggSpoons$Race;", Cond.fieldLink RX10 87 "EggSpoons$Race" "runners" "I", Cond.methodLink RX10 79 yX10_within, Cond.static yX10_within, Cond.initialized RX10, Cond.code yX10_within cX10_within 3 (some .boolean), Cond.methodLink RX10 83 yX10_refuse, Cond.instanceMethod yX10_refuse, Cond.selects RX10 yX10_refuse yX10_refuse, Cond.code yX10_refuse cX10_refuse 3 (some .int), Cond.fieldLink RX10 34 "EggSpoons" "refused" "[I", Cond.methodLink RX10 91 yX5_restart, Cond.instanceMethod yX5_restart, Cond.selects RX5 yX5_restart yX5_restart, Cond.initialized RX5, Cond.code yX5_restart cX5_restart 2 none, Cond.fieldLink RX5 9 "EggSpoons$Race" "length" "I", Cond.fieldLink RX5 15 "EggSpoons$Race" "tick" "I", Cond.fieldLink RX5 18 "EggSpoons$Race" "runners" "I", Cond.fieldLink RX5 30 "EggSpoons$Race" "past" "LEggSpoons$Past;", Cond.fieldLink RX5 50 "EggSpoons$Past" "size" "I", Cond.fieldLink RX5 39 "EggSpoons$Race" "seenRows" "LEggSpoons$Rows;", Cond.fieldLink RX5 53 "EggSpoons$Rows" "size" "I", Cond.fieldLink RX5 43 "EggSpoons$Race" "noteRows" "LEggSpoons$Rows;"]
def wsX10_race_r2 : List Cond := [Cond.fieldLink RX5 46 "EggSpoons$Race" "markRows" "LEggSpoons$Rows;"]
def wsX10_race : List Cond := .code yX10_race cX10_race 3 (some .int) :: ((wsX10_race_r1 ++ wsX10_race_r2) ++ wsX100 ++ wsX50 ++ wsX40 ++ wsX70)
def wsX10_one_r1 : List Cond := [Cond.fieldLink RX10 10 "EggSpoons" "now" "LEggSpoons$Race;", Cond.fieldLink RX10 87 "EggSpoons$Race" "runners" "I", Cond.methodLink RX10 79 yX10_within, Cond.static yX10_within, Cond.initialized RX10, Cond.code yX10_within cX10_within 3 (some .boolean), Cond.methodLink RX10 83 yX10_refuse, Cond.instanceMethod yX10_refuse, Cond.selects RX10 yX10_refuse yX10_refuse, Cond.code yX10_refuse cX10_refuse 3 (some .int), Cond.fieldLink RX10 34 "EggSpoons" "refused" "[I", Cond.methodLink RX10 95 yX5_welcome, Cond.instanceMethod yX5_welcome, Cond.selects RX5 yX5_welcome yX5_welcome, Cond.initialized RX5, Cond.code yX5_welcome cX5_welcome 4 none, Cond.fieldLink RX5 18 "EggSpoons$Race" "runners" "I", Cond.fieldLink RX5 23 "EggSpoons$Race" "row" "[LEggSpoons$Runner;", Cond.fieldLink RX5 30 "EggSpoons$Race" "past" "LEggSpoons$Past;", Cond.fieldLink RX5 50 "EggSpoons$Past" "size" "I", Cond.methodLink RX5 54 yX8_begin, Cond.instanceMethod yX8_begin, Cond.selects RX8 yX8_begin yX8_begin, Cond.initialized RX8]
def wsX10_one_r2 : List Cond := [Cond.code yX8_begin cX8_begin 4 none, Cond.fieldLink RX8 9 "EggSpoons$Runner" "kind" "I", Cond.fieldLink RX8 15 "EggSpoons$Runner" "legs" "I", Cond.fieldLink RX8 18 "EggSpoons$Runner" "egg" "I", Cond.fieldLink RX8 21 "EggSpoons$Runner" "speed" "I", Cond.fieldLink RX8 24 "EggSpoons$Runner" "place" "I", Cond.fieldLink RX8 27 "EggSpoons$Runner" "drops" "I", Cond.fieldLink RX8 30 "EggSpoons$Runner" "waits" "I", Cond.fieldLink RX8 33 "EggSpoons$Runner" "homeAt" "I"]
def wsX10_one : List Cond := .code yX10_one cX10_one 4 (some .int) :: ((wsX10_one_r1 ++ wsX10_one_r2) ++ wsX100 ++ wsX50 ++ wsX40 ++ wsX80)
def wsX10_type : List Cond := .code yX10_type cX10_type 2 (some .int) :: ([.fieldLink RX10 30 "EggSpoons" "reader" "LEggSpoons$Reader;", .methodLink RX10 79 yX10_within, .static yX10_within, .initialized RX10, .code yX10_within cX10_within 3 (some .boolean), .methodLink RX10 83 yX10_refuse, .instanceMethod yX10_refuse, .selects RX10 yX10_refuse yX10_refuse, .code yX10_refuse cX10_refuse 3 (some .int), .fieldLink RX10 34 "EggSpoons" "refused" "[I", .methodLink RX10 99 yX6_append, .instanceMethod yX6_append, .selects RX6 yX6_append yX6_append, .initialized RX6, .code yX6_append cX6_append 2 (some .boolean), .fieldLink RX6 15 "EggSpoons$Reader" "length" "I", .fieldLink RX6 11 "EggSpoons$Reader" "bytes" "[I"] ++ wsX100 ++ wsX60)
def wsX10_clear : List Cond := .code yX10_clear cX10_clear 2 (some .int) :: ([.fieldLink RX10 30 "EggSpoons" "reader" "LEggSpoons$Reader;"] ++ wsX100 ++ wsX60)
def wsX10_read_r1 : List Cond := [Cond.fieldLink RX10 30 "EggSpoons" "reader" "LEggSpoons$Reader;", Cond.fieldLink RX10 16 "EggSpoons" "spare" "LEggSpoons$Race;", Cond.fieldLink RX10 10 "EggSpoons" "now" "LEggSpoons$Race;", Cond.methodLink RX10 106 yX6_takeRace, Cond.instanceMethod yX6_takeRace, Cond.selects RX6 yX6_takeRace yX6_takeRace, Cond.initialized RX6, Cond.code yX6_takeRace cX6_takeRace 3 (some .int), Cond.fieldLink RX6 19 "EggSpoons$Reader" "at" "I", Cond.fieldLink RX6 31 "EggSpoons$Reader" "fault" "I", Cond.fieldLink RX6 15 "EggSpoons$Reader" "length" "I", Cond.methodLink RX6 34 yX6_takeItem, Cond.instanceMethod yX6_takeItem, Cond.selects RX6 yX6_takeItem yX6_takeItem, Cond.code yX6_takeItem cX6_takeItem 3 none, Cond.fieldLink RX6 25 "EggSpoons$Reader" "sort" "I", Cond.fieldLink RX6 22 "EggSpoons$Reader" "tokenAt" "I", Cond.fieldLink RX6 56 "EggSpoons$Race" "runners" "I", Cond.methodLink RX6 41 yX6_nextToken, Cond.instanceMethod yX6_nextToken, Cond.selects RX6 yX6_nextToken yX6_nextToken, Cond.code yX6_nextToken cX6_nextToken 1 none, Cond.fieldLink RX6 11 "EggSpoons$Reader" "bytes" "[I", Cond.methodLink RX6 38 yX6_skipBlanks]
def wsX10_read_r2 : List Cond := [Cond.instanceMethod yX6_skipBlanks, Cond.selects RX6 yX6_skipBlanks yX6_skipBlanks, Cond.code yX6_skipBlanks cX6_skipBlanks 1 none, Cond.methodLink RX6 118 yX6_isLetter, Cond.static yX6_isLetter, Cond.code yX6_isLetter cX6_isLetter 1 (some .boolean), Cond.methodLink RX6 122 yX6_takeLetters, Cond.instanceMethod yX6_takeLetters, Cond.selects RX6 yX6_takeLetters yX6_takeLetters, Cond.code yX6_takeLetters cX6_takeLetters 1 none, Cond.methodLink RX6 125 yX6_isFigure, Cond.static yX6_isFigure, Cond.code yX6_isFigure cX6_isFigure 1 (some .boolean), Cond.methodLink RX6 128 yX6_takeFigures, Cond.instanceMethod yX6_takeFigures, Cond.selects RX6 yX6_takeFigures yX6_takeFigures, Cond.code yX6_takeFigures cX6_takeFigures 1 none, Cond.fieldLink RX6 28 "EggSpoons$Reader" "value" "I", Cond.methodLink RX6 46 yX6_spells, Cond.instanceMethod yX6_spells, Cond.selects RX6 yX6_spells yX6_spells, Cond.code yX6_spells cX6_spells 3 (some .boolean), Cond.methodLink RX6 131 yJ0_length_8abf5, Cond.instanceMethod yJ0_length_8abf5]
def wsX10_read_r3 : List Cond := [Cond.selects RJ0 yJ0_length_8abf5 yJ0_length_8abf5, Cond.initialized RJ0, Cond.code yJ0_length_8abf5 cJ0_length_8abf5 1 (some .int), Cond.fieldLink RJ0 9 "java/lang/String" "value" "[B", Cond.methodLink RJ0 335 yJ0_coder_7d493, Cond.instanceMethod yJ0_coder_7d493, Cond.selects RJ0 yJ0_coder_7d493 yJ0_coder_7d493, Cond.code yJ0_coder_7d493 cJ0_coder_7d493 1 (some .byte), Cond.fieldLink RJ0 38 "java/lang/String" "COMPACT_STRINGS" "Z", Cond.fieldLink RJ0 15 "java/lang/String" "coder" "B", Cond.methodLink RX6 136 yJ0_charAt_5068e, Cond.instanceMethod yJ0_charAt_5068e, Cond.selects RJ0 yJ0_charAt_5068e yJ0_charAt_5068e, Cond.code yJ0_charAt_5068e cJ0_charAt_5068e 2 (some .char), Cond.methodLink RJ0 492 yJ0_isLatin1_aae02, Cond.instanceMethod yJ0_isLatin1_aae02, Cond.selects RJ0 yJ0_isLatin1_aae02 yJ0_isLatin1_aae02, Cond.code yJ0_isLatin1_aae02 cJ0_isLatin1_aae02 1 (some .boolean), Cond.methodLink RJ0 495 yJ1_charAt_3b067, Cond.static yJ1_charAt_3b067, Cond.initialized RJ1, Cond.code yJ1_charAt_3b067 cJ1_charAt_3b067 2 (some .char), Cond.methodLink RJ1 9 yJ0_checkIndex_df160, Cond.static yJ0_checkIndex_df160]
def wsX10_read_r4 : List Cond := [Cond.code yJ0_checkIndex_df160 cJ0_checkIndex_df160 2 none, Cond.fieldLink RJ0 1053 "jdk/internal/util/Preconditions" "SIOOBE_FORMATTER" "Ljava/util/function/BiFunction;", Cond.methodLink RJ0 1059 yJ3_checkIndex_8e157, Cond.static yJ3_checkIndex_8e157, Cond.initialized RJ3, Cond.code yJ3_checkIndex_8e157 cJ3_checkIndex_8e157 3 (some .int), Cond.methodLink RJ0 498 yJ2_charAt_3b067, Cond.static yJ2_charAt_3b067, Cond.initialized RJ2, Cond.code yJ2_charAt_3b067 cJ2_charAt_3b067 2 (some .char), Cond.methodLink RJ2 67 yJ2_checkIndex_2214a, Cond.static yJ2_checkIndex_2214a, Cond.code yJ2_checkIndex_2214a cJ2_checkIndex_2214a 2 none, Cond.methodLink RJ2 48 yJ2_length_9d52b, Cond.static yJ2_length_9d52b, Cond.code yJ2_length_9d52b cJ2_length_9d52b 1 (some .int), Cond.methodLink RJ2 414 yJ0_checkIndex_df160, Cond.methodLink RJ2 71 yJ2_getChar_3b067, Cond.static yJ2_getChar_3b067, Cond.code yJ2_getChar_3b067 cJ2_getChar_3b067 2 (some .char), Cond.fieldLink RJ2 44 "java/lang/StringUTF16" "$assertionsDisabled" "Z", Cond.fieldLink RJ2 59 "java/lang/StringUTF16" "HI_BYTE_SHIFT" "I", Cond.fieldLink RJ2 63 "java/lang/StringUTF16" "LO_BYTE_SHIFT" "I", Cond.methodLink RX6 50 yX6_takeLength]
def wsX10_read_r5 : List Cond := [Cond.instanceMethod yX6_takeLength, Cond.selects RX6 yX6_takeLength yX6_takeLength, Cond.code yX6_takeLength cX6_takeLength 3 none, Cond.methodLink RX6 79 yX6_number, Cond.instanceMethod yX6_number, Cond.selects RX6 yX6_number yX6_number, Cond.code yX6_number cX6_number 3 (some .int), Cond.methodLink RX6 83 yX6_ended, Cond.instanceMethod yX6_ended, Cond.selects RX6 yX6_ended yX6_ended, Cond.code yX6_ended cX6_ended 1 (some .boolean), Cond.methodLink RX6 87 yX5_restart, Cond.instanceMethod yX5_restart, Cond.selects RX5 yX5_restart yX5_restart, Cond.initialized RX5, Cond.code yX5_restart cX5_restart 2 none, Cond.fieldLink RX5 9 "EggSpoons$Race" "length" "I", Cond.fieldLink RX5 15 "EggSpoons$Race" "tick" "I", Cond.fieldLink RX5 18 "EggSpoons$Race" "runners" "I", Cond.fieldLink RX5 30 "EggSpoons$Race" "past" "LEggSpoons$Past;", Cond.fieldLink RX5 50 "EggSpoons$Past" "size" "I", Cond.fieldLink RX5 39 "EggSpoons$Race" "seenRows" "LEggSpoons$Rows;", Cond.fieldLink RX5 53 "EggSpoons$Rows" "size" "I", Cond.fieldLink RX5 43 "EggSpoons$Race" "noteRows" "LEggSpoons$Rows;"]
def wsX10_read_r6 : List Cond := [Cond.fieldLink RX5 46 "EggSpoons$Race" "markRows" "LEggSpoons$Rows;", Cond.methodLink RX6 61 yX6_takeRunner, Cond.instanceMethod yX6_takeRunner, Cond.selects RX6 yX6_takeRunner yX6_takeRunner, Cond.code yX6_takeRunner cX6_takeRunner 5 none, Cond.methodLink RX6 91 yX5_welcome, Cond.instanceMethod yX5_welcome, Cond.selects RX5 yX5_welcome yX5_welcome, Cond.code yX5_welcome cX5_welcome 4 none, Cond.fieldLink RX5 23 "EggSpoons$Race" "row" "[LEggSpoons$Runner;", Cond.methodLink RX5 54 yX8_begin, Cond.instanceMethod yX8_begin, Cond.selects RX8 yX8_begin yX8_begin, Cond.initialized RX8, Cond.code yX8_begin cX8_begin 4 none, Cond.fieldLink RX8 9 "EggSpoons$Runner" "kind" "I", Cond.fieldLink RX8 15 "EggSpoons$Runner" "legs" "I", Cond.fieldLink RX8 18 "EggSpoons$Runner" "egg" "I", Cond.fieldLink RX8 21 "EggSpoons$Runner" "speed" "I", Cond.fieldLink RX8 24 "EggSpoons$Runner" "place" "I", Cond.fieldLink RX8 27 "EggSpoons$Runner" "drops" "I", Cond.fieldLink RX8 30 "EggSpoons$Runner" "waits" "I", Cond.fieldLink RX8 33 "EggSpoons$Runner" "homeAt" "I", Cond.methodLink RX6 66 yX6_takeSpeed]
def wsX10_read_r7 : List Cond := [Cond.instanceMethod yX6_takeSpeed, Cond.selects RX6 yX6_takeSpeed yX6_takeSpeed, Cond.code yX6_takeSpeed cX6_takeSpeed 4 none, Cond.fieldLink RX6 95 "EggSpoons$Race" "row" "[LEggSpoons$Runner;", Cond.fieldLink RX6 99 "EggSpoons$Runner" "speed" "I", Cond.methodLink RX6 71 yX6_takeStart, Cond.instanceMethod yX6_takeStart, Cond.selects RX6 yX6_takeStart yX6_takeStart, Cond.code yX6_takeStart cX6_takeStart 5 none, Cond.fieldLink RX6 106 "EggSpoons$Race" "length" "I", Cond.methodLink RX6 107 Lib.Math.min.name, Cond.static Lib.Math.min.name, Cond.initialized "java/lang/Math", Cond.code Lib.Math.min.name Lib.Math.min.code 2 (some .int), Cond.fieldLink RX6 112 "EggSpoons$Runner" "place" "I", Cond.methodLink RX6 103 yX8_isHome, Cond.instanceMethod yX8_isHome, Cond.selects RX8 yX8_isHome yX8_isHome, Cond.code yX8_isHome cX8_isHome 1 (some .boolean), Cond.methodLink RX6 76 yX6_takeTicks, Cond.instanceMethod yX6_takeTicks, Cond.selects RX6 yX6_takeTicks yX6_takeTicks, Cond.code yX6_takeTicks cX6_takeTicks 4 none, Cond.methodLink RX6 115 yX5_goOn]
def wsX10_read_r8 : List Cond := [Cond.instanceMethod yX5_goOn, Cond.selects RX5 yX5_goOn yX5_goOn, Cond.code yX5_goOn cX5_goOn 2 none, Cond.methodLink RX5 72 yX8_step, Cond.instanceMethod yX8_step, Cond.selects RX8 yX8_step yX8_step, Cond.code yX8_step cX8_step 4 none, Cond.methodLink RX8 48 yX8_isHome, Cond.methodLink RX8 36 yX2_reach, Cond.static yX2_reach, Cond.initialized RX2, Cond.code yX2_reach cX2_reach 7 (some .int), Cond.methodLink RX8 42 yX1_limit, Cond.static yX1_limit, Cond.initialized RX1, Cond.code yX1_limit cX1_limit 5 (some .int)]
def wsX10_read : List Cond := .code yX10_read cX10_read 3 (some .int) :: ((wsX10_read_r1 ++ (wsX10_read_r2 ++ (wsX10_read_r3 ++ (wsX10_read_r4 ++ (wsX10_read_r5 ++ (wsX10_read_r6 ++ (wsX10_read_r7 ++ wsX10_read_r8))))))) ++ wsX100 ++ wsX60 ++ wsX50 ++ wsX40 ++ wsX70 ++ wsX80)
def wsX10_ticks_r1 : List Cond := [Cond.fieldLink RX10 10 "EggSpoons" "now" "LEggSpoons$Race;", Cond.fieldLink RX10 110 "EggSpoons$Race" "tick" "I", Cond.methodLink RX10 79 yX10_within, Cond.static yX10_within, Cond.initialized RX10, Cond.code yX10_within cX10_within 3 (some .boolean), Cond.methodLink RX10 83 yX10_refuse, Cond.instanceMethod yX10_refuse, Cond.selects RX10 yX10_refuse yX10_refuse, Cond.code yX10_refuse cX10_refuse 3 (some .int), Cond.fieldLink RX10 34 "EggSpoons" "refused" "[I", Cond.methodLink RX10 113 yX5_keep, Cond.instanceMethod yX5_keep, Cond.selects RX5 yX5_keep yX5_keep, Cond.initialized RX5, Cond.code yX5_keep cX5_keep 1 none, Cond.fieldLink RX5 30 "EggSpoons$Race" "past" "LEggSpoons$Past;", Cond.fieldLink RX5 15 "EggSpoons$Race" "tick" "I", Cond.fieldLink RX5 23 "EggSpoons$Race" "row" "[LEggSpoons$Runner;", Cond.methodLink RX5 76 yX4_push, Cond.instanceMethod yX4_push, Cond.selects RX4 yX4_push yX4_push, Cond.initialized RX4, Cond.code yX4_push cX4_push 6 none]
def wsX10_ticks_r2 : List Cond := [Cond.fieldLink RX4 15 "EggSpoons$Past" "size" "I", Cond.fieldLink RX4 11 "EggSpoons$Past" "cells" "[I", Cond.methodLink RX4 19 arraycopyName, Cond.native arraycopyName, Cond.static arraycopyName, Cond.initialized "java/lang/System", Cond.fieldLink RX4 25 "EggSpoons$Runner" "speed" "I", Cond.fieldLink RX4 30 "EggSpoons$Runner" "place" "I", Cond.fieldLink RX4 33 "EggSpoons$Runner" "drops" "I", Cond.fieldLink RX4 36 "EggSpoons$Runner" "waits" "I", Cond.fieldLink RX4 39 "EggSpoons$Runner" "homeAt" "I", Cond.methodLink RX10 116 yX5_goOn, Cond.instanceMethod yX5_goOn, Cond.selects RX5 yX5_goOn yX5_goOn, Cond.code yX5_goOn cX5_goOn 2 none, Cond.fieldLink RX5 18 "EggSpoons$Race" "runners" "I", Cond.fieldLink RX5 9 "EggSpoons$Race" "length" "I", Cond.methodLink RX5 72 yX8_step, Cond.instanceMethod yX8_step, Cond.selects RX8 yX8_step yX8_step, Cond.initialized RX8, Cond.code yX8_step cX8_step 4 none, Cond.fieldLink RX8 30 "EggSpoons$Runner" "waits" "I", Cond.fieldLink RX8 9 "EggSpoons$Runner" "kind" "I"]
def wsX10_ticks_r3 : List Cond := [Cond.fieldLink RX8 15 "EggSpoons$Runner" "legs" "I", Cond.fieldLink RX8 21 "EggSpoons$Runner" "speed" "I", Cond.fieldLink RX8 18 "EggSpoons$Runner" "egg" "I", Cond.fieldLink RX8 27 "EggSpoons$Runner" "drops" "I", Cond.fieldLink RX8 24 "EggSpoons$Runner" "place" "I", Cond.fieldLink RX8 33 "EggSpoons$Runner" "homeAt" "I", Cond.methodLink RX8 48 yX8_isHome, Cond.instanceMethod yX8_isHome, Cond.selects RX8 yX8_isHome yX8_isHome, Cond.code yX8_isHome cX8_isHome 1 (some .boolean), Cond.methodLink RX8 36 yX2_reach, Cond.static yX2_reach, Cond.initialized RX2, Cond.code yX2_reach cX2_reach 7 (some .int), Cond.methodLink RX8 42 yX1_limit, Cond.static yX1_limit, Cond.initialized RX1, Cond.code yX1_limit cX1_limit 5 (some .int), Cond.methodLink RX10 119 yX5_homes, Cond.instanceMethod yX5_homes, Cond.selects RX5 yX5_homes yX5_homes, Cond.code yX5_homes cX5_homes 3 (some .int), Cond.methodLink RX5 84 yX8_isHome]
def wsX10_ticks : List Cond := .code yX10_ticks cX10_ticks 3 (some .int) :: ((wsX10_ticks_r1 ++ (wsX10_ticks_r2 ++ wsX10_ticks_r3)) ++ wsX100 ++ wsX50 ++ wsX40 ++ wsX80)
def wsX10_there : List Cond := .code yX10_there cX10_there 2 (some .boolean) :: ([.fieldLink RX10 10 "EggSpoons" "now" "LEggSpoons$Race;", .fieldLink RX10 87 "EggSpoons$Race" "runners" "I"] ++ wsX100 ++ wsX50)
def wsX10_speed_r1 : List Cond := [Cond.fieldLink RX10 10 "EggSpoons" "now" "LEggSpoons$Race;", Cond.fieldLink RX10 126 "EggSpoons$Race" "row" "[LEggSpoons$Runner;", Cond.fieldLink RX10 130 "EggSpoons$Runner" "speed" "I", Cond.methodLink RX10 123 yX10_there, Cond.instanceMethod yX10_there, Cond.selects RX10 yX10_there yX10_there, Cond.initialized RX10, Cond.code yX10_there cX10_there 2 (some .boolean), Cond.fieldLink RX10 87 "EggSpoons$Race" "runners" "I", Cond.methodLink RX10 79 yX10_within, Cond.static yX10_within, Cond.code yX10_within cX10_within 3 (some .boolean), Cond.methodLink RX10 83 yX10_refuse, Cond.instanceMethod yX10_refuse, Cond.selects RX10 yX10_refuse yX10_refuse, Cond.code yX10_refuse cX10_refuse 3 (some .int), Cond.fieldLink RX10 34 "EggSpoons" "refused" "[I", Cond.methodLink RX10 133 yX8_isHome, Cond.instanceMethod yX8_isHome, Cond.selects RX8 yX8_isHome yX8_isHome, Cond.initialized RX8, Cond.code yX8_isHome cX8_isHome 1 (some .boolean), Cond.fieldLink RX8 33 "EggSpoons$Runner" "homeAt" "I", Cond.methodLink RX10 113 yX5_keep]
def wsX10_speed_r2 : List Cond := [Cond.instanceMethod yX5_keep, Cond.selects RX5 yX5_keep yX5_keep, Cond.initialized RX5, Cond.code yX5_keep cX5_keep 1 none, Cond.fieldLink RX5 30 "EggSpoons$Race" "past" "LEggSpoons$Past;", Cond.fieldLink RX5 15 "EggSpoons$Race" "tick" "I", Cond.fieldLink RX5 23 "EggSpoons$Race" "row" "[LEggSpoons$Runner;", Cond.methodLink RX5 76 yX4_push, Cond.instanceMethod yX4_push, Cond.selects RX4 yX4_push yX4_push, Cond.initialized RX4, Cond.code yX4_push cX4_push 6 none, Cond.fieldLink RX4 15 "EggSpoons$Past" "size" "I", Cond.fieldLink RX4 11 "EggSpoons$Past" "cells" "[I", Cond.methodLink RX4 19 arraycopyName, Cond.native arraycopyName, Cond.static arraycopyName, Cond.initialized "java/lang/System", Cond.fieldLink RX4 25 "EggSpoons$Runner" "speed" "I", Cond.fieldLink RX4 30 "EggSpoons$Runner" "place" "I", Cond.fieldLink RX4 33 "EggSpoons$Runner" "drops" "I", Cond.fieldLink RX4 36 "EggSpoons$Runner" "waits" "I", Cond.fieldLink RX4 39 "EggSpoons$Runner" "homeAt" "I"]
def wsX10_speed : List Cond := .code yX10_speed cX10_speed 5 (some .int) :: ((wsX10_speed_r1 ++ wsX10_speed_r2) ++ wsX100 ++ wsX50 ++ wsX80 ++ wsX40)
def wsX10_start_r1 : List Cond := [Cond.fieldLink RX10 10 "EggSpoons" "now" "LEggSpoons$Race;", Cond.fieldLink RX10 126 "EggSpoons$Race" "row" "[LEggSpoons$Runner;", Cond.fieldLink RX10 137 "EggSpoons$Runner" "place" "I", Cond.fieldLink RX10 140 "EggSpoons$Race" "length" "I", Cond.methodLink RX10 123 yX10_there, Cond.instanceMethod yX10_there, Cond.selects RX10 yX10_there yX10_there, Cond.initialized RX10, Cond.code yX10_there cX10_there 2 (some .boolean), Cond.fieldLink RX10 87 "EggSpoons$Race" "runners" "I", Cond.methodLink RX10 79 yX10_within, Cond.static yX10_within, Cond.code yX10_within cX10_within 3 (some .boolean), Cond.methodLink RX10 83 yX10_refuse, Cond.instanceMethod yX10_refuse, Cond.selects RX10 yX10_refuse yX10_refuse, Cond.code yX10_refuse cX10_refuse 3 (some .int), Cond.fieldLink RX10 34 "EggSpoons" "refused" "[I", Cond.methodLink RX10 133 yX8_isHome, Cond.instanceMethod yX8_isHome, Cond.selects RX8 yX8_isHome yX8_isHome, Cond.initialized RX8, Cond.code yX8_isHome cX8_isHome 1 (some .boolean), Cond.fieldLink RX8 33 "EggSpoons$Runner" "homeAt" "I"]
def wsX10_start_r2 : List Cond := [Cond.methodLink RX10 113 yX5_keep, Cond.instanceMethod yX5_keep, Cond.selects RX5 yX5_keep yX5_keep, Cond.initialized RX5, Cond.code yX5_keep cX5_keep 1 none, Cond.fieldLink RX5 30 "EggSpoons$Race" "past" "LEggSpoons$Past;", Cond.fieldLink RX5 15 "EggSpoons$Race" "tick" "I", Cond.fieldLink RX5 23 "EggSpoons$Race" "row" "[LEggSpoons$Runner;", Cond.methodLink RX5 76 yX4_push, Cond.instanceMethod yX4_push, Cond.selects RX4 yX4_push yX4_push, Cond.initialized RX4, Cond.code yX4_push cX4_push 6 none, Cond.fieldLink RX4 15 "EggSpoons$Past" "size" "I", Cond.fieldLink RX4 11 "EggSpoons$Past" "cells" "[I", Cond.methodLink RX4 19 arraycopyName, Cond.native arraycopyName, Cond.static arraycopyName, Cond.initialized "java/lang/System", Cond.fieldLink RX4 25 "EggSpoons$Runner" "speed" "I", Cond.fieldLink RX4 30 "EggSpoons$Runner" "place" "I", Cond.fieldLink RX4 33 "EggSpoons$Runner" "drops" "I", Cond.fieldLink RX4 36 "EggSpoons$Runner" "waits" "I", Cond.fieldLink RX4 39 "EggSpoons$Runner" "homeAt" "I"]
def wsX10_start : List Cond := .code yX10_start cX10_start 4 (some .int) :: ((wsX10_start_r1 ++ wsX10_start_r2) ++ wsX100 ++ wsX50 ++ wsX80 ++ wsX40)
def wsX10_undo_r1 : List Cond := [Cond.fieldLink RX10 10 "EggSpoons" "now" "LEggSpoons$Race;", Cond.fieldLink RX10 110 "EggSpoons$Race" "tick" "I", Cond.methodLink RX10 141 yX5_takeBack, Cond.instanceMethod yX5_takeBack, Cond.selects RX5 yX5_takeBack yX5_takeBack, Cond.initialized RX5, Cond.code yX5_takeBack cX5_takeBack 2 (some .boolean), Cond.fieldLink RX5 30 "EggSpoons$Race" "past" "LEggSpoons$Past;", Cond.fieldLink RX5 23 "EggSpoons$Race" "row" "[LEggSpoons$Runner;", Cond.fieldLink RX5 15 "EggSpoons$Race" "tick" "I", Cond.methodLink RX5 80 yX4_pop, Cond.instanceMethod yX4_pop, Cond.selects RX4 yX4_pop yX4_pop, Cond.initialized RX4, Cond.code yX4_pop cX4_pop 5 (some .int), Cond.fieldLink RX4 15 "EggSpoons$Past" "size" "I", Cond.fieldLink RX4 11 "EggSpoons$Past" "cells" "[I", Cond.fieldLink RX4 25 "EggSpoons$Runner" "speed" "I", Cond.fieldLink RX4 30 "EggSpoons$Runner" "place" "I", Cond.fieldLink RX4 33 "EggSpoons$Runner" "drops" "I", Cond.fieldLink RX4 36 "EggSpoons$Runner" "waits" "I", Cond.fieldLink RX4 39 "EggSpoons$Runner" "homeAt" "I", Cond.methodLink RX10 83 yX10_refuse, Cond.instanceMethod yX10_refuse]
def wsX10_undo_r2 : List Cond := [Cond.selects RX10 yX10_refuse yX10_refuse, Cond.initialized RX10, Cond.code yX10_refuse cX10_refuse 3 (some .int), Cond.fieldLink RX10 34 "EggSpoons" "refused" "[I"]
def wsX10_undo : List Cond := .code yX10_undo cX10_undo 1 (some .int) :: ((wsX10_undo_r1 ++ wsX10_undo_r2) ++ wsX100 ++ wsX50 ++ wsX40 ++ wsX80)
def wsX10_of_r1 : List Cond := [Cond.fieldLink RX10 10 "EggSpoons" "now" "LEggSpoons$Race;", Cond.fieldLink RX10 126 "EggSpoons$Race" "row" "[LEggSpoons$Runner;", Cond.fieldLink RX10 110 "EggSpoons$Race" "tick" "I", Cond.methodLink RX10 123 yX10_there, Cond.instanceMethod yX10_there, Cond.selects RX10 yX10_there yX10_there, Cond.initialized RX10, Cond.code yX10_there cX10_there 2 (some .boolean), Cond.fieldLink RX10 87 "EggSpoons$Race" "runners" "I", Cond.methodLink RX10 79 yX10_within, Cond.static yX10_within, Cond.code yX10_within cX10_within 3 (some .boolean), Cond.methodLink RX10 83 yX10_refuse, Cond.instanceMethod yX10_refuse, Cond.selects RX10 yX10_refuse yX10_refuse, Cond.code yX10_refuse cX10_refuse 3 (some .int), Cond.fieldLink RX10 34 "EggSpoons" "refused" "[I", Cond.methodLink RX10 144 yX8_fact, Cond.instanceMethod yX8_fact, Cond.selects RX8 yX8_fact yX8_fact, Cond.initialized RX8, Cond.code yX8_fact cX8_fact 3 (some .int), Cond.fieldLink RX8 9 "EggSpoons$Runner" "kind" "I", Cond.fieldLink RX8 15 "EggSpoons$Runner" "legs" "I"]
def wsX10_of_r2 : List Cond := [Cond.fieldLink RX8 18 "EggSpoons$Runner" "egg" "I", Cond.fieldLink RX8 21 "EggSpoons$Runner" "speed" "I", Cond.fieldLink RX8 24 "EggSpoons$Runner" "place" "I", Cond.fieldLink RX8 27 "EggSpoons$Runner" "drops" "I", Cond.fieldLink RX8 30 "EggSpoons$Runner" "waits" "I", Cond.fieldLink RX8 33 "EggSpoons$Runner" "homeAt" "I", Cond.methodLink RX8 36 yX2_reach, Cond.static yX2_reach, Cond.initialized RX2, Cond.code yX2_reach cX2_reach 7 (some .int), Cond.methodLink RX8 42 yX1_limit, Cond.static yX1_limit, Cond.initialized RX1, Cond.code yX1_limit cX1_limit 5 (some .int)]
def wsX10_of : List Cond := .code yX10_of cX10_of 3 (some .int) :: ((wsX10_of_r1 ++ wsX10_of_r2) ++ wsX100 ++ wsX50 ++ wsX80)
def wsX10_where_r1 : List Cond := [Cond.fieldLink RX10 48 "EggSpoons" "ghost" "LEggSpoons$Runner;", Cond.fieldLink RX10 10 "EggSpoons" "now" "LEggSpoons$Race;", Cond.fieldLink RX10 126 "EggSpoons$Race" "row" "[LEggSpoons$Runner;", Cond.fieldLink RX10 110 "EggSpoons$Race" "tick" "I", Cond.fieldLink RX10 140 "EggSpoons$Race" "length" "I", Cond.methodLink RX10 123 yX10_there, Cond.instanceMethod yX10_there, Cond.selects RX10 yX10_there yX10_there, Cond.initialized RX10, Cond.code yX10_there cX10_there 2 (some .boolean), Cond.fieldLink RX10 87 "EggSpoons$Race" "runners" "I", Cond.methodLink RX10 79 yX10_within, Cond.static yX10_within, Cond.code yX10_within cX10_within 3 (some .boolean), Cond.methodLink RX10 83 yX10_refuse, Cond.instanceMethod yX10_refuse, Cond.selects RX10 yX10_refuse yX10_refuse, Cond.code yX10_refuse cX10_refuse 3 (some .int), Cond.fieldLink RX10 34 "EggSpoons" "refused" "[I", Cond.methodLink RX10 148 yX8_copyFrom, Cond.instanceMethod yX8_copyFrom, Cond.selects RX8 yX8_copyFrom yX8_copyFrom, Cond.initialized RX8, Cond.code yX8_copyFrom cX8_copyFrom 2 none]
def wsX10_where_r2 : List Cond := [Cond.fieldLink RX8 9 "EggSpoons$Runner" "kind" "I", Cond.fieldLink RX8 15 "EggSpoons$Runner" "legs" "I", Cond.fieldLink RX8 18 "EggSpoons$Runner" "egg" "I", Cond.fieldLink RX8 21 "EggSpoons$Runner" "speed" "I", Cond.fieldLink RX8 24 "EggSpoons$Runner" "place" "I", Cond.fieldLink RX8 27 "EggSpoons$Runner" "drops" "I", Cond.fieldLink RX8 30 "EggSpoons$Runner" "waits" "I", Cond.fieldLink RX8 33 "EggSpoons$Runner" "homeAt" "I", Cond.methodLink RX10 152 yX8_placeBehind, Cond.instanceMethod yX8_placeBehind, Cond.selects RX8 yX8_placeBehind yX8_placeBehind, Cond.code yX8_placeBehind cX8_placeBehind 5 (some .int), Cond.methodLink RX8 52 yX8_step, Cond.instanceMethod yX8_step, Cond.selects RX8 yX8_step yX8_step, Cond.code yX8_step cX8_step 4 none, Cond.methodLink RX8 48 yX8_isHome, Cond.instanceMethod yX8_isHome, Cond.selects RX8 yX8_isHome yX8_isHome, Cond.code yX8_isHome cX8_isHome 1 (some .boolean), Cond.methodLink RX8 36 yX2_reach, Cond.static yX2_reach, Cond.initialized RX2, Cond.code yX2_reach cX2_reach 7 (some .int)]
def wsX10_where_r3 : List Cond := [Cond.methodLink RX8 42 yX1_limit, Cond.static yX1_limit, Cond.initialized RX1, Cond.code yX1_limit cX1_limit 5 (some .int)]
def wsX10_where : List Cond := .code yX10_where cX10_where 3 (some .int) :: ((wsX10_where_r1 ++ (wsX10_where_r2 ++ wsX10_where_r3)) ++ wsX100 ++ wsX50 ++ wsX80)
def wsX10_homeBehind_r1 : List Cond := [Cond.fieldLink RX10 48 "EggSpoons" "ghost" "LEggSpoons$Runner;", Cond.fieldLink RX10 10 "EggSpoons" "now" "LEggSpoons$Race;", Cond.fieldLink RX10 126 "EggSpoons$Race" "row" "[LEggSpoons$Runner;", Cond.fieldLink RX10 110 "EggSpoons$Race" "tick" "I", Cond.fieldLink RX10 140 "EggSpoons$Race" "length" "I", Cond.methodLink RX10 148 yX8_copyFrom, Cond.instanceMethod yX8_copyFrom, Cond.selects RX8 yX8_copyFrom yX8_copyFrom, Cond.initialized RX8, Cond.code yX8_copyFrom cX8_copyFrom 2 none, Cond.fieldLink RX8 9 "EggSpoons$Runner" "kind" "I", Cond.fieldLink RX8 15 "EggSpoons$Runner" "legs" "I", Cond.fieldLink RX8 18 "EggSpoons$Runner" "egg" "I", Cond.fieldLink RX8 21 "EggSpoons$Runner" "speed" "I", Cond.fieldLink RX8 24 "EggSpoons$Runner" "place" "I", Cond.fieldLink RX8 27 "EggSpoons$Runner" "drops" "I", Cond.fieldLink RX8 30 "EggSpoons$Runner" "waits" "I", Cond.fieldLink RX8 33 "EggSpoons$Runner" "homeAt" "I", Cond.methodLink RX10 165 yX8_ticksToHome, Cond.instanceMethod yX8_ticksToHome, Cond.selects RX8 yX8_ticksToHome yX8_ticksToHome, Cond.code yX8_ticksToHome cX8_ticksToHome 5 (some .int), Cond.methodLink RX8 48 yX8_isHome, Cond.instanceMethod yX8_isHome]
def wsX10_homeBehind_r2 : List Cond := [Cond.selects RX8 yX8_isHome yX8_isHome, Cond.code yX8_isHome cX8_isHome 1 (some .boolean), Cond.methodLink RX8 52 yX8_step, Cond.instanceMethod yX8_step, Cond.selects RX8 yX8_step yX8_step, Cond.code yX8_step cX8_step 4 none, Cond.methodLink RX8 36 yX2_reach, Cond.static yX2_reach, Cond.initialized RX2, Cond.code yX2_reach cX2_reach 7 (some .int), Cond.methodLink RX8 42 yX1_limit, Cond.static yX1_limit, Cond.initialized RX1, Cond.code yX1_limit cX1_limit 5 (some .int)]
def wsX10_homeBehind : List Cond := .code yX10_homeBehind cX10_homeBehind 3 (some .int) :: ((wsX10_homeBehind_r1 ++ wsX10_homeBehind_r2) ++ wsX100 ++ wsX50 ++ wsX80)
def wsX10_home_r1 : List Cond := [Cond.methodLink RX10 123 yX10_there, Cond.instanceMethod yX10_there, Cond.selects RX10 yX10_there yX10_there, Cond.initialized RX10, Cond.code yX10_there cX10_there 2 (some .boolean), Cond.fieldLink RX10 10 "EggSpoons" "now" "LEggSpoons$Race;", Cond.fieldLink RX10 87 "EggSpoons$Race" "runners" "I", Cond.methodLink RX10 156 yX10_homeBehind, Cond.instanceMethod yX10_homeBehind, Cond.selects RX10 yX10_homeBehind yX10_homeBehind, Cond.code yX10_homeBehind cX10_homeBehind 3 (some .int), Cond.fieldLink RX10 48 "EggSpoons" "ghost" "LEggSpoons$Runner;", Cond.fieldLink RX10 126 "EggSpoons$Race" "row" "[LEggSpoons$Runner;", Cond.fieldLink RX10 110 "EggSpoons$Race" "tick" "I", Cond.fieldLink RX10 140 "EggSpoons$Race" "length" "I", Cond.methodLink RX10 148 yX8_copyFrom, Cond.instanceMethod yX8_copyFrom, Cond.selects RX8 yX8_copyFrom yX8_copyFrom, Cond.initialized RX8, Cond.code yX8_copyFrom cX8_copyFrom 2 none, Cond.fieldLink RX8 9 "EggSpoons$Runner" "kind" "I", Cond.fieldLink RX8 15 "EggSpoons$Runner" "legs" "I", Cond.fieldLink RX8 18 "EggSpoons$Runner" "egg" "I", Cond.fieldLink RX8 21 "EggSpoons$Runner" "speed" "I"]
def wsX10_home_r2 : List Cond := [Cond.fieldLink RX8 24 "EggSpoons$Runner" "place" "I", Cond.fieldLink RX8 27 "EggSpoons$Runner" "drops" "I", Cond.fieldLink RX8 30 "EggSpoons$Runner" "waits" "I", Cond.fieldLink RX8 33 "EggSpoons$Runner" "homeAt" "I", Cond.methodLink RX10 165 yX8_ticksToHome, Cond.instanceMethod yX8_ticksToHome, Cond.selects RX8 yX8_ticksToHome yX8_ticksToHome, Cond.code yX8_ticksToHome cX8_ticksToHome 5 (some .int), Cond.methodLink RX8 48 yX8_isHome, Cond.instanceMethod yX8_isHome, Cond.selects RX8 yX8_isHome yX8_isHome, Cond.code yX8_isHome cX8_isHome 1 (some .boolean), Cond.methodLink RX8 52 yX8_step, Cond.instanceMethod yX8_step, Cond.selects RX8 yX8_step yX8_step, Cond.code yX8_step cX8_step 4 none, Cond.methodLink RX8 36 yX2_reach, Cond.static yX2_reach, Cond.initialized RX2, Cond.code yX2_reach cX2_reach 7 (some .int), Cond.methodLink RX8 42 yX1_limit, Cond.static yX1_limit, Cond.initialized RX1, Cond.code yX1_limit cX1_limit 5 (some .int)]
def wsX10_home_r3 : List Cond := [Cond.methodLink RX10 83 yX10_refuse, Cond.instanceMethod yX10_refuse, Cond.selects RX10 yX10_refuse yX10_refuse, Cond.code yX10_refuse cX10_refuse 3 (some .int), Cond.fieldLink RX10 34 "EggSpoons" "refused" "[I"]
def wsX10_home : List Cond := .code yX10_home cX10_home 2 (some .int) :: ((wsX10_home_r1 ++ (wsX10_home_r2 ++ wsX10_home_r3)) ++ wsX100 ++ wsX50 ++ wsX80)
def wsX10_first_r1 : List Cond := [Cond.fieldLink RX10 10 "EggSpoons" "now" "LEggSpoons$Race;", Cond.fieldLink RX10 87 "EggSpoons$Race" "runners" "I", Cond.fieldLink RX10 126 "EggSpoons$Race" "row" "[LEggSpoons$Runner;", Cond.methodLink RX10 133 yX8_isHome, Cond.instanceMethod yX8_isHome, Cond.selects RX8 yX8_isHome yX8_isHome, Cond.initialized RX8, Cond.code yX8_isHome cX8_isHome 1 (some .boolean), Cond.fieldLink RX8 33 "EggSpoons$Runner" "homeAt" "I", Cond.methodLink RX10 156 yX10_homeBehind, Cond.instanceMethod yX10_homeBehind, Cond.selects RX10 yX10_homeBehind yX10_homeBehind, Cond.initialized RX10, Cond.code yX10_homeBehind cX10_homeBehind 3 (some .int), Cond.fieldLink RX10 48 "EggSpoons" "ghost" "LEggSpoons$Runner;", Cond.fieldLink RX10 110 "EggSpoons$Race" "tick" "I", Cond.fieldLink RX10 140 "EggSpoons$Race" "length" "I", Cond.methodLink RX10 148 yX8_copyFrom, Cond.instanceMethod yX8_copyFrom, Cond.selects RX8 yX8_copyFrom yX8_copyFrom, Cond.code yX8_copyFrom cX8_copyFrom 2 none, Cond.fieldLink RX8 9 "EggSpoons$Runner" "kind" "I", Cond.fieldLink RX8 15 "EggSpoons$Runner" "legs" "I", Cond.fieldLink RX8 18 "EggSpoons$Runner" "egg" "I"]
def wsX10_first_r2 : List Cond := [Cond.fieldLink RX8 21 "EggSpoons$Runner" "speed" "I", Cond.fieldLink RX8 24 "EggSpoons$Runner" "place" "I", Cond.fieldLink RX8 27 "EggSpoons$Runner" "drops" "I", Cond.fieldLink RX8 30 "EggSpoons$Runner" "waits" "I", Cond.methodLink RX10 165 yX8_ticksToHome, Cond.instanceMethod yX8_ticksToHome, Cond.selects RX8 yX8_ticksToHome yX8_ticksToHome, Cond.code yX8_ticksToHome cX8_ticksToHome 5 (some .int), Cond.methodLink RX8 48 yX8_isHome, Cond.methodLink RX8 52 yX8_step, Cond.instanceMethod yX8_step, Cond.selects RX8 yX8_step yX8_step, Cond.code yX8_step cX8_step 4 none, Cond.methodLink RX8 36 yX2_reach, Cond.static yX2_reach, Cond.initialized RX2, Cond.code yX2_reach cX2_reach 7 (some .int), Cond.methodLink RX8 42 yX1_limit, Cond.static yX1_limit, Cond.initialized RX1, Cond.code yX1_limit cX1_limit 5 (some .int)]
def wsX10_first : List Cond := .code yX10_first cX10_first 5 (some .int) :: ((wsX10_first_r1 ++ wsX10_first_r2) ++ wsX100 ++ wsX50 ++ wsX80)
def wsX10_rankAll_r1 : List Cond := [Cond.fieldLink RX10 10 "EggSpoons" "now" "LEggSpoons$Race;", Cond.fieldLink RX10 87 "EggSpoons$Race" "runners" "I", Cond.fieldLink RX10 126 "EggSpoons$Race" "row" "[LEggSpoons$Runner;", Cond.fieldLink RX10 76 "EggSpoons" "ranks" "[I", Cond.fieldLink RX10 303 "EggSpoons$Runner" "homeAt" "I", Cond.methodLink RX10 156 yX10_homeBehind, Cond.instanceMethod yX10_homeBehind, Cond.selects RX10 yX10_homeBehind yX10_homeBehind, Cond.initialized RX10, Cond.code yX10_homeBehind cX10_homeBehind 3 (some .int), Cond.fieldLink RX10 48 "EggSpoons" "ghost" "LEggSpoons$Runner;", Cond.fieldLink RX10 110 "EggSpoons$Race" "tick" "I", Cond.fieldLink RX10 140 "EggSpoons$Race" "length" "I", Cond.methodLink RX10 148 yX8_copyFrom, Cond.instanceMethod yX8_copyFrom, Cond.selects RX8 yX8_copyFrom yX8_copyFrom, Cond.initialized RX8, Cond.code yX8_copyFrom cX8_copyFrom 2 none, Cond.fieldLink RX8 9 "EggSpoons$Runner" "kind" "I", Cond.fieldLink RX8 15 "EggSpoons$Runner" "legs" "I", Cond.fieldLink RX8 18 "EggSpoons$Runner" "egg" "I", Cond.fieldLink RX8 21 "EggSpoons$Runner" "speed" "I", Cond.fieldLink RX8 24 "EggSpoons$Runner" "place" "I", Cond.fieldLink RX8 27 "EggSpoons$Runner" "drops" "I"]
def wsX10_rankAll_r2 : List Cond := [Cond.fieldLink RX8 30 "EggSpoons$Runner" "waits" "I", Cond.fieldLink RX8 33 "EggSpoons$Runner" "homeAt" "I", Cond.methodLink RX10 165 yX8_ticksToHome, Cond.instanceMethod yX8_ticksToHome, Cond.selects RX8 yX8_ticksToHome yX8_ticksToHome, Cond.code yX8_ticksToHome cX8_ticksToHome 5 (some .int), Cond.methodLink RX8 48 yX8_isHome, Cond.instanceMethod yX8_isHome, Cond.selects RX8 yX8_isHome yX8_isHome, Cond.code yX8_isHome cX8_isHome 1 (some .boolean), Cond.methodLink RX8 52 yX8_step, Cond.instanceMethod yX8_step, Cond.selects RX8 yX8_step yX8_step, Cond.code yX8_step cX8_step 4 none, Cond.methodLink RX8 36 yX2_reach, Cond.static yX2_reach, Cond.initialized RX2, Cond.code yX2_reach cX2_reach 7 (some .int), Cond.methodLink RX8 42 yX1_limit, Cond.static yX1_limit, Cond.initialized RX1, Cond.code yX1_limit cX1_limit 5 (some .int), Cond.methodLink RX10 133 yX8_isHome]
def wsX10_rankAll : List Cond := .code yX10_rankAll cX10_rankAll 5 none :: ((wsX10_rankAll_r1 ++ wsX10_rankAll_r2) ++ wsX100 ++ wsX50 ++ wsX80)
def wsX10_aheadOf : List Cond := .code yX10_aheadOf cX10_aheadOf 4 (some .int) :: ([.fieldLink RX10 10 "EggSpoons" "now" "LEggSpoons$Race;", .fieldLink RX10 87 "EggSpoons$Race" "runners" "I", .fieldLink RX10 76 "EggSpoons" "ranks" "[I"] ++ wsX100 ++ wsX50)
def wsX10_order_r1 : List Cond := [Cond.fieldLink RX10 10 "EggSpoons" "now" "LEggSpoons$Race;", Cond.fieldLink RX10 87 "EggSpoons$Race" "runners" "I", Cond.methodLink RX10 83 yX10_refuse, Cond.instanceMethod yX10_refuse, Cond.selects RX10 yX10_refuse yX10_refuse, Cond.initialized RX10, Cond.code yX10_refuse cX10_refuse 3 (some .int), Cond.fieldLink RX10 34 "EggSpoons" "refused" "[I", Cond.methodLink RX10 159 yX10_rankAll, Cond.instanceMethod yX10_rankAll, Cond.selects RX10 yX10_rankAll yX10_rankAll, Cond.code yX10_rankAll cX10_rankAll 5 none, Cond.fieldLink RX10 126 "EggSpoons$Race" "row" "[LEggSpoons$Runner;", Cond.fieldLink RX10 76 "EggSpoons" "ranks" "[I", Cond.fieldLink RX10 303 "EggSpoons$Runner" "homeAt" "I", Cond.methodLink RX10 156 yX10_homeBehind, Cond.instanceMethod yX10_homeBehind, Cond.selects RX10 yX10_homeBehind yX10_homeBehind, Cond.code yX10_homeBehind cX10_homeBehind 3 (some .int), Cond.fieldLink RX10 48 "EggSpoons" "ghost" "LEggSpoons$Runner;", Cond.fieldLink RX10 110 "EggSpoons$Race" "tick" "I", Cond.fieldLink RX10 140 "EggSpoons$Race" "length" "I", Cond.methodLink RX10 148 yX8_copyFrom, Cond.instanceMethod yX8_copyFrom]
def wsX10_order_r2 : List Cond := [Cond.selects RX8 yX8_copyFrom yX8_copyFrom, Cond.initialized RX8, Cond.code yX8_copyFrom cX8_copyFrom 2 none, Cond.fieldLink RX8 9 "EggSpoons$Runner" "kind" "I", Cond.fieldLink RX8 15 "EggSpoons$Runner" "legs" "I", Cond.fieldLink RX8 18 "EggSpoons$Runner" "egg" "I", Cond.fieldLink RX8 21 "EggSpoons$Runner" "speed" "I", Cond.fieldLink RX8 24 "EggSpoons$Runner" "place" "I", Cond.fieldLink RX8 27 "EggSpoons$Runner" "drops" "I", Cond.fieldLink RX8 30 "EggSpoons$Runner" "waits" "I", Cond.fieldLink RX8 33 "EggSpoons$Runner" "homeAt" "I", Cond.methodLink RX10 165 yX8_ticksToHome, Cond.instanceMethod yX8_ticksToHome, Cond.selects RX8 yX8_ticksToHome yX8_ticksToHome, Cond.code yX8_ticksToHome cX8_ticksToHome 5 (some .int), Cond.methodLink RX8 48 yX8_isHome, Cond.instanceMethod yX8_isHome, Cond.selects RX8 yX8_isHome yX8_isHome, Cond.code yX8_isHome cX8_isHome 1 (some .boolean), Cond.methodLink RX8 52 yX8_step, Cond.instanceMethod yX8_step, Cond.selects RX8 yX8_step yX8_step, Cond.code yX8_step cX8_step 4 none, Cond.methodLink RX8 36 yX2_reach]
def wsX10_order_r3 : List Cond := [Cond.static yX2_reach, Cond.initialized RX2, Cond.code yX2_reach cX2_reach 7 (some .int), Cond.methodLink RX8 42 yX1_limit, Cond.static yX1_limit, Cond.initialized RX1, Cond.code yX1_limit cX1_limit 5 (some .int), Cond.methodLink RX10 133 yX8_isHome, Cond.methodLink RX10 162 yX10_aheadOf, Cond.instanceMethod yX10_aheadOf, Cond.selects RX10 yX10_aheadOf yX10_aheadOf, Cond.code yX10_aheadOf cX10_aheadOf 4 (some .int)]
def wsX10_order : List Cond := .code yX10_order cX10_order 3 (some .int) :: ((wsX10_order_r1 ++ (wsX10_order_r2 ++ wsX10_order_r3)) ++ wsX100 ++ wsX50 ++ wsX80)
def wsX10_best_r1 : List Cond := [Cond.fieldLink RX10 10 "EggSpoons" "now" "LEggSpoons$Race;", Cond.fieldLink RX10 126 "EggSpoons$Race" "row" "[LEggSpoons$Runner;", Cond.fieldLink RX10 48 "EggSpoons" "ghost" "LEggSpoons$Runner;", Cond.fieldLink RX10 130 "EggSpoons$Runner" "speed" "I", Cond.fieldLink RX10 110 "EggSpoons$Race" "tick" "I", Cond.fieldLink RX10 140 "EggSpoons$Race" "length" "I", Cond.methodLink RX10 123 yX10_there, Cond.instanceMethod yX10_there, Cond.selects RX10 yX10_there yX10_there, Cond.initialized RX10, Cond.code yX10_there cX10_there 2 (some .boolean), Cond.fieldLink RX10 87 "EggSpoons$Race" "runners" "I", Cond.methodLink RX10 79 yX10_within, Cond.static yX10_within, Cond.code yX10_within cX10_within 3 (some .boolean), Cond.methodLink RX10 83 yX10_refuse, Cond.instanceMethod yX10_refuse, Cond.selects RX10 yX10_refuse yX10_refuse, Cond.code yX10_refuse cX10_refuse 3 (some .int), Cond.fieldLink RX10 34 "EggSpoons" "refused" "[I", Cond.methodLink RX10 133 yX8_isHome, Cond.instanceMethod yX8_isHome, Cond.selects RX8 yX8_isHome yX8_isHome, Cond.initialized RX8]
def wsX10_best_r2 : List Cond := [Cond.code yX8_isHome cX8_isHome 1 (some .boolean), Cond.fieldLink RX8 33 "EggSpoons$Runner" "homeAt" "I", Cond.methodLink RX10 148 yX8_copyFrom, Cond.instanceMethod yX8_copyFrom, Cond.selects RX8 yX8_copyFrom yX8_copyFrom, Cond.code yX8_copyFrom cX8_copyFrom 2 none, Cond.fieldLink RX8 9 "EggSpoons$Runner" "kind" "I", Cond.fieldLink RX8 15 "EggSpoons$Runner" "legs" "I", Cond.fieldLink RX8 18 "EggSpoons$Runner" "egg" "I", Cond.fieldLink RX8 21 "EggSpoons$Runner" "speed" "I", Cond.fieldLink RX8 24 "EggSpoons$Runner" "place" "I", Cond.fieldLink RX8 27 "EggSpoons$Runner" "drops" "I", Cond.fieldLink RX8 30 "EggSpoons$Runner" "waits" "I", Cond.methodLink RX10 165 yX8_ticksToHome, Cond.instanceMethod yX8_ticksToHome, Cond.selects RX8 yX8_ticksToHome yX8_ticksToHome, Cond.code yX8_ticksToHome cX8_ticksToHome 5 (some .int), Cond.methodLink RX8 48 yX8_isHome, Cond.methodLink RX8 52 yX8_step, Cond.instanceMethod yX8_step, Cond.selects RX8 yX8_step yX8_step, Cond.code yX8_step cX8_step 4 none, Cond.methodLink RX8 36 yX2_reach, Cond.static yX2_reach]
def wsX10_best_r3 : List Cond := [Cond.initialized RX2, Cond.code yX2_reach cX2_reach 7 (some .int), Cond.methodLink RX8 42 yX1_limit, Cond.static yX1_limit, Cond.initialized RX1, Cond.code yX1_limit cX1_limit 5 (some .int)]
def wsX10_best : List Cond := .code yX10_best cX10_best 8 (some .int) :: ((wsX10_best_r1 ++ (wsX10_best_r2 ++ wsX10_best_r3)) ++ wsX100 ++ wsX50 ++ wsX80)
def wsX10_homeTurning_r1 : List Cond := [Cond.methodLink RX10 300 Lib.Math.min.name, Cond.static Lib.Math.min.name, Cond.initialized "java/lang/Math", Cond.code Lib.Math.min.name Lib.Math.min.code 2 (some .int), Cond.fieldLink RX10 48 "EggSpoons" "ghost" "LEggSpoons$Runner;", Cond.fieldLink RX10 130 "EggSpoons$Runner" "speed" "I", Cond.fieldLink RX10 10 "EggSpoons" "now" "LEggSpoons$Race;", Cond.fieldLink RX10 110 "EggSpoons$Race" "tick" "I", Cond.fieldLink RX10 140 "EggSpoons$Race" "length" "I", Cond.methodLink RX10 156 yX10_homeBehind, Cond.instanceMethod yX10_homeBehind, Cond.selects RX10 yX10_homeBehind yX10_homeBehind, Cond.initialized RX10, Cond.code yX10_homeBehind cX10_homeBehind 3 (some .int), Cond.fieldLink RX10 126 "EggSpoons$Race" "row" "[LEggSpoons$Runner;", Cond.methodLink RX10 148 yX8_copyFrom, Cond.instanceMethod yX8_copyFrom, Cond.selects RX8 yX8_copyFrom yX8_copyFrom, Cond.initialized RX8, Cond.code yX8_copyFrom cX8_copyFrom 2 none, Cond.fieldLink RX8 9 "EggSpoons$Runner" "kind" "I", Cond.fieldLink RX8 15 "EggSpoons$Runner" "legs" "I", Cond.fieldLink RX8 18 "EggSpoons$Runner" "egg" "I", Cond.fieldLink RX8 21 "EggSpoons$Runner" "speed" "I"]
def wsX10_homeTurning_r2 : List Cond := [Cond.fieldLink RX8 24 "EggSpoons$Runner" "place" "I", Cond.fieldLink RX8 27 "EggSpoons$Runner" "drops" "I", Cond.fieldLink RX8 30 "EggSpoons$Runner" "waits" "I", Cond.fieldLink RX8 33 "EggSpoons$Runner" "homeAt" "I", Cond.methodLink RX10 165 yX8_ticksToHome, Cond.instanceMethod yX8_ticksToHome, Cond.selects RX8 yX8_ticksToHome yX8_ticksToHome, Cond.code yX8_ticksToHome cX8_ticksToHome 5 (some .int), Cond.methodLink RX8 48 yX8_isHome, Cond.instanceMethod yX8_isHome, Cond.selects RX8 yX8_isHome yX8_isHome, Cond.code yX8_isHome cX8_isHome 1 (some .boolean), Cond.methodLink RX8 52 yX8_step, Cond.instanceMethod yX8_step, Cond.selects RX8 yX8_step yX8_step, Cond.code yX8_step cX8_step 4 none, Cond.methodLink RX8 36 yX2_reach, Cond.static yX2_reach, Cond.initialized RX2, Cond.code yX2_reach cX2_reach 7 (some .int), Cond.methodLink RX8 42 yX1_limit, Cond.static yX1_limit, Cond.initialized RX1, Cond.code yX1_limit cX1_limit 5 (some .int)]
def wsX10_homeTurning : List Cond := .code yX10_homeTurning cX10_homeTurning 7 (some .int) :: ((wsX10_homeTurning_r1 ++ wsX10_homeTurning_r2) ++ wsX100 ++ wsX80 ++ wsX50)
def wsX10_turn_r1 : List Cond := [Cond.fieldLink RX10 10 "EggSpoons" "now" "LEggSpoons$Race;", Cond.fieldLink RX10 126 "EggSpoons$Race" "row" "[LEggSpoons$Runner;", Cond.methodLink RX10 123 yX10_there, Cond.instanceMethod yX10_there, Cond.selects RX10 yX10_there yX10_there, Cond.initialized RX10, Cond.code yX10_there cX10_there 2 (some .boolean), Cond.fieldLink RX10 87 "EggSpoons$Race" "runners" "I", Cond.methodLink RX10 79 yX10_within, Cond.static yX10_within, Cond.code yX10_within cX10_within 3 (some .boolean), Cond.methodLink RX10 83 yX10_refuse, Cond.instanceMethod yX10_refuse, Cond.selects RX10 yX10_refuse yX10_refuse, Cond.code yX10_refuse cX10_refuse 3 (some .int), Cond.fieldLink RX10 34 "EggSpoons" "refused" "[I", Cond.methodLink RX10 133 yX8_isHome, Cond.instanceMethod yX8_isHome, Cond.selects RX8 yX8_isHome yX8_isHome, Cond.initialized RX8, Cond.code yX8_isHome cX8_isHome 1 (some .boolean), Cond.fieldLink RX8 33 "EggSpoons$Runner" "homeAt" "I", Cond.methodLink RX10 168 yX10_homeTurning, Cond.instanceMethod yX10_homeTurning]
def wsX10_turn_r2 : List Cond := [Cond.selects RX10 yX10_homeTurning yX10_homeTurning, Cond.code yX10_homeTurning cX10_homeTurning 7 (some .int), Cond.methodLink RX10 300 Lib.Math.min.name, Cond.static Lib.Math.min.name, Cond.initialized "java/lang/Math", Cond.code Lib.Math.min.name Lib.Math.min.code 2 (some .int), Cond.fieldLink RX10 48 "EggSpoons" "ghost" "LEggSpoons$Runner;", Cond.fieldLink RX10 130 "EggSpoons$Runner" "speed" "I", Cond.fieldLink RX10 110 "EggSpoons$Race" "tick" "I", Cond.fieldLink RX10 140 "EggSpoons$Race" "length" "I", Cond.methodLink RX10 156 yX10_homeBehind, Cond.instanceMethod yX10_homeBehind, Cond.selects RX10 yX10_homeBehind yX10_homeBehind, Cond.code yX10_homeBehind cX10_homeBehind 3 (some .int), Cond.methodLink RX10 148 yX8_copyFrom, Cond.instanceMethod yX8_copyFrom, Cond.selects RX8 yX8_copyFrom yX8_copyFrom, Cond.code yX8_copyFrom cX8_copyFrom 2 none, Cond.fieldLink RX8 9 "EggSpoons$Runner" "kind" "I", Cond.fieldLink RX8 15 "EggSpoons$Runner" "legs" "I", Cond.fieldLink RX8 18 "EggSpoons$Runner" "egg" "I", Cond.fieldLink RX8 21 "EggSpoons$Runner" "speed" "I", Cond.fieldLink RX8 24 "EggSpoons$Runner" "place" "I", Cond.fieldLink RX8 27 "EggSpoons$Runner" "drops" "I"]
def wsX10_turn_r3 : List Cond := [Cond.fieldLink RX8 30 "EggSpoons$Runner" "waits" "I", Cond.methodLink RX10 165 yX8_ticksToHome, Cond.instanceMethod yX8_ticksToHome, Cond.selects RX8 yX8_ticksToHome yX8_ticksToHome, Cond.code yX8_ticksToHome cX8_ticksToHome 5 (some .int), Cond.methodLink RX8 48 yX8_isHome, Cond.methodLink RX8 52 yX8_step, Cond.instanceMethod yX8_step, Cond.selects RX8 yX8_step yX8_step, Cond.code yX8_step cX8_step 4 none, Cond.methodLink RX8 36 yX2_reach, Cond.static yX2_reach, Cond.initialized RX2, Cond.code yX2_reach cX2_reach 7 (some .int), Cond.methodLink RX8 42 yX1_limit, Cond.static yX1_limit, Cond.initialized RX1, Cond.code yX1_limit cX1_limit 5 (some .int)]
def wsX10_turn : List Cond := .code yX10_turn cX10_turn 9 (some .int) :: ((wsX10_turn_r1 ++ (wsX10_turn_r2 ++ wsX10_turn_r3)) ++ wsX100 ++ wsX50 ++ wsX80)
def wsX10_areTwo : List Cond := .code yX10_areTwo cX10_areTwo 3 (some .boolean) :: ([.methodLink RX10 123 yX10_there, .instanceMethod yX10_there, .selects RX10 yX10_there yX10_there, .initialized RX10, .code yX10_there cX10_there 2 (some .boolean), .fieldLink RX10 10 "EggSpoons" "now" "LEggSpoons$Race;", .fieldLink RX10 87 "EggSpoons$Race" "runners" "I"] ++ wsX100 ++ wsX50)
def wsX10_beats_r1 : List Cond := [Cond.fieldLink RX10 10 "EggSpoons" "now" "LEggSpoons$Race;", Cond.fieldLink RX10 126 "EggSpoons$Race" "row" "[LEggSpoons$Runner;", Cond.fieldLink RX10 137 "EggSpoons$Runner" "place" "I", Cond.fieldLink RX10 140 "EggSpoons$Race" "length" "I", Cond.fieldLink RX10 48 "EggSpoons" "ghost" "LEggSpoons$Runner;", Cond.fieldLink RX10 110 "EggSpoons$Race" "tick" "I", Cond.methodLink RX10 172 yX10_areTwo, Cond.instanceMethod yX10_areTwo, Cond.selects RX10 yX10_areTwo yX10_areTwo, Cond.initialized RX10, Cond.code yX10_areTwo cX10_areTwo 3 (some .boolean), Cond.methodLink RX10 123 yX10_there, Cond.instanceMethod yX10_there, Cond.selects RX10 yX10_there yX10_there, Cond.code yX10_there cX10_there 2 (some .boolean), Cond.fieldLink RX10 87 "EggSpoons$Race" "runners" "I", Cond.methodLink RX10 83 yX10_refuse, Cond.instanceMethod yX10_refuse, Cond.selects RX10 yX10_refuse yX10_refuse, Cond.code yX10_refuse cX10_refuse 3 (some .int), Cond.fieldLink RX10 34 "EggSpoons" "refused" "[I", Cond.methodLink RX10 133 yX8_isHome, Cond.instanceMethod yX8_isHome, Cond.selects RX8 yX8_isHome yX8_isHome]
def wsX10_beats_r2 : List Cond := [Cond.initialized RX8, Cond.code yX8_isHome cX8_isHome 1 (some .boolean), Cond.fieldLink RX8 33 "EggSpoons$Runner" "homeAt" "I", Cond.methodLink RX10 156 yX10_homeBehind, Cond.instanceMethod yX10_homeBehind, Cond.selects RX10 yX10_homeBehind yX10_homeBehind, Cond.code yX10_homeBehind cX10_homeBehind 3 (some .int), Cond.methodLink RX10 148 yX8_copyFrom, Cond.instanceMethod yX8_copyFrom, Cond.selects RX8 yX8_copyFrom yX8_copyFrom, Cond.code yX8_copyFrom cX8_copyFrom 2 none, Cond.fieldLink RX8 9 "EggSpoons$Runner" "kind" "I", Cond.fieldLink RX8 15 "EggSpoons$Runner" "legs" "I", Cond.fieldLink RX8 18 "EggSpoons$Runner" "egg" "I", Cond.fieldLink RX8 21 "EggSpoons$Runner" "speed" "I", Cond.fieldLink RX8 24 "EggSpoons$Runner" "place" "I", Cond.fieldLink RX8 27 "EggSpoons$Runner" "drops" "I", Cond.fieldLink RX8 30 "EggSpoons$Runner" "waits" "I", Cond.methodLink RX10 165 yX8_ticksToHome, Cond.instanceMethod yX8_ticksToHome, Cond.selects RX8 yX8_ticksToHome yX8_ticksToHome, Cond.code yX8_ticksToHome cX8_ticksToHome 5 (some .int), Cond.methodLink RX8 48 yX8_isHome, Cond.methodLink RX8 52 yX8_step]
def wsX10_beats_r3 : List Cond := [Cond.instanceMethod yX8_step, Cond.selects RX8 yX8_step yX8_step, Cond.code yX8_step cX8_step 4 none, Cond.methodLink RX8 36 yX2_reach, Cond.static yX2_reach, Cond.initialized RX2, Cond.code yX2_reach cX2_reach 7 (some .int), Cond.methodLink RX8 42 yX1_limit, Cond.static yX1_limit, Cond.initialized RX1, Cond.code yX1_limit cX1_limit 5 (some .int)]
def wsX10_beats : List Cond := .code yX10_beats cX10_beats 7 (some .int) :: ((wsX10_beats_r1 ++ (wsX10_beats_r2 ++ wsX10_beats_r3)) ++ wsX100 ++ wsX50 ++ wsX80)
def wsX10_close_r1 : List Cond := [Cond.fieldLink RX10 48 "EggSpoons" "ghost" "LEggSpoons$Runner;", Cond.fieldLink RX10 10 "EggSpoons" "now" "LEggSpoons$Race;", Cond.fieldLink RX10 126 "EggSpoons$Race" "row" "[LEggSpoons$Runner;", Cond.fieldLink RX10 52 "EggSpoons" "rival" "LEggSpoons$Runner;", Cond.fieldLink RX10 137 "EggSpoons$Runner" "place" "I", Cond.methodLink RX10 176 Lib.Math.abs.name, Cond.static Lib.Math.abs.name, Cond.initialized "java/lang/Math", Cond.code Lib.Math.abs.name Lib.Math.abs.code 1 (some .int), Cond.fieldLink RX10 110 "EggSpoons$Race" "tick" "I", Cond.fieldLink RX10 140 "EggSpoons$Race" "length" "I", Cond.methodLink RX10 172 yX10_areTwo, Cond.instanceMethod yX10_areTwo, Cond.selects RX10 yX10_areTwo yX10_areTwo, Cond.initialized RX10, Cond.code yX10_areTwo cX10_areTwo 3 (some .boolean), Cond.methodLink RX10 123 yX10_there, Cond.instanceMethod yX10_there, Cond.selects RX10 yX10_there yX10_there, Cond.code yX10_there cX10_there 2 (some .boolean), Cond.fieldLink RX10 87 "EggSpoons$Race" "runners" "I", Cond.methodLink RX10 79 yX10_within, Cond.static yX10_within, Cond.code yX10_within cX10_within 3 (some .boolean)]
def wsX10_close_r2 : List Cond := [Cond.methodLink RX10 83 yX10_refuse, Cond.instanceMethod yX10_refuse, Cond.selects RX10 yX10_refuse yX10_refuse, Cond.code yX10_refuse cX10_refuse 3 (some .int), Cond.fieldLink RX10 34 "EggSpoons" "refused" "[I", Cond.methodLink RX10 148 yX8_copyFrom, Cond.instanceMethod yX8_copyFrom, Cond.selects RX8 yX8_copyFrom yX8_copyFrom, Cond.initialized RX8, Cond.code yX8_copyFrom cX8_copyFrom 2 none, Cond.fieldLink RX8 9 "EggSpoons$Runner" "kind" "I", Cond.fieldLink RX8 15 "EggSpoons$Runner" "legs" "I", Cond.fieldLink RX8 18 "EggSpoons$Runner" "egg" "I", Cond.fieldLink RX8 21 "EggSpoons$Runner" "speed" "I", Cond.fieldLink RX8 24 "EggSpoons$Runner" "place" "I", Cond.fieldLink RX8 27 "EggSpoons$Runner" "drops" "I", Cond.fieldLink RX8 30 "EggSpoons$Runner" "waits" "I", Cond.fieldLink RX8 33 "EggSpoons$Runner" "homeAt" "I", Cond.methodLink RX10 181 yX8_step, Cond.instanceMethod yX8_step, Cond.selects RX8 yX8_step yX8_step, Cond.code yX8_step cX8_step 4 none, Cond.methodLink RX8 48 yX8_isHome, Cond.instanceMethod yX8_isHome]
def wsX10_close_r3 : List Cond := [Cond.selects RX8 yX8_isHome yX8_isHome, Cond.code yX8_isHome cX8_isHome 1 (some .boolean), Cond.methodLink RX8 36 yX2_reach, Cond.static yX2_reach, Cond.initialized RX2, Cond.code yX2_reach cX2_reach 7 (some .int), Cond.methodLink RX8 42 yX1_limit, Cond.static yX1_limit, Cond.initialized RX1, Cond.code yX1_limit cX1_limit 5 (some .int)]
def wsX10_close : List Cond := .code yX10_close cX10_close 8 (some .int) :: ((wsX10_close_r1 ++ (wsX10_close_r2 ++ wsX10_close_r3)) ++ wsX100 ++ wsX50 ++ wsX80)
def wsX10_seen_r1 : List Cond := [Cond.fieldLink RX10 10 "EggSpoons" "now" "LEggSpoons$Race;", Cond.fieldLink RX10 185 "EggSpoons$Race" "seenRows" "LEggSpoons$Rows;", Cond.fieldLink RX10 194 "EggSpoons$Rows" "size" "I", Cond.methodLink RX10 123 yX10_there, Cond.instanceMethod yX10_there, Cond.selects RX10 yX10_there yX10_there, Cond.initialized RX10, Cond.code yX10_there cX10_there 2 (some .boolean), Cond.fieldLink RX10 87 "EggSpoons$Race" "runners" "I", Cond.methodLink RX10 79 yX10_within, Cond.static yX10_within, Cond.code yX10_within cX10_within 3 (some .boolean), Cond.methodLink RX10 83 yX10_refuse, Cond.instanceMethod yX10_refuse, Cond.selects RX10 yX10_refuse yX10_refuse, Cond.code yX10_refuse cX10_refuse 3 (some .int), Cond.fieldLink RX10 34 "EggSpoons" "refused" "[I", Cond.methodLink RX10 189 yX7_append, Cond.instanceMethod yX7_append, Cond.selects RX7 yX7_append yX7_append, Cond.initialized RX7, Cond.code yX7_append cX7_append 7 (some .boolean), Cond.fieldLink RX7 7 "EggSpoons$Rows" "size" "I", Cond.fieldLink RX7 13 "EggSpoons$Rows" "most" "I"]
def wsX10_seen_r2 : List Cond := [Cond.fieldLink RX7 23 "EggSpoons$Rows" "cells" "[I"]
def wsX10_seen : List Cond := .code yX10_seen cX10_seen 5 (some .int) :: ((wsX10_seen_r1 ++ wsX10_seen_r2) ++ wsX100 ++ wsX50 ++ wsX70)
def wsJ6_bitCount_0f7a4 : List Cond := .code yJ6_bitCount_0f7a4 cJ6_bitCount_0f7a4 1 (some .int) :: ([.constant RJ6 265 (1431655765), .constant RJ6 266 (858993459), .constant RJ6 267 (252645135)])
def wsX10_hasBit : List Cond := .code yX10_hasBit cX10_hasBit 2 (some .boolean) :: ([])
def wsX10_strong_r1 : List Cond := [Cond.fieldLink RX10 10 "EggSpoons" "now" "LEggSpoons$Race;", Cond.methodLink RX10 123 yX10_there, Cond.instanceMethod yX10_there, Cond.selects RX10 yX10_there yX10_there, Cond.initialized RX10, Cond.code yX10_there cX10_there 2 (some .boolean), Cond.fieldLink RX10 87 "EggSpoons$Race" "runners" "I", Cond.methodLink RX10 79 yX10_within, Cond.static yX10_within, Cond.code yX10_within cX10_within 3 (some .boolean), Cond.methodLink RX10 83 yX10_refuse, Cond.instanceMethod yX10_refuse, Cond.selects RX10 yX10_refuse yX10_refuse, Cond.code yX10_refuse cX10_refuse 3 (some .int), Cond.fieldLink RX10 34 "EggSpoons" "refused" "[I", Cond.methodLink RX10 197 yX5_legsThatFit, Cond.instanceMethod yX5_legsThatFit, Cond.selects RX5 yX5_legsThatFit yX5_legsThatFit, Cond.initialized RX5, Cond.code yX5_legsThatFit cX5_legsThatFit 4 (some .int), Cond.fieldLink RX5 39 "EggSpoons$Race" "seenRows" "LEggSpoons$Rows;", Cond.fieldLink RX5 23 "EggSpoons$Race" "row" "[LEggSpoons$Runner;", Cond.fieldLink RX5 94 "EggSpoons$Runner" "kind" "I", Cond.methodLink RX5 97 yX7_fitRunner]
def wsX10_strong_r2 : List Cond := [Cond.instanceMethod yX7_fitRunner, Cond.selects RX7 yX7_fitRunner yX7_fitRunner, Cond.initialized RX7, Cond.code yX7_fitRunner cX7_fitRunner 7 (some .boolean), Cond.fieldLink RX7 7 "EggSpoons$Rows" "size" "I", Cond.fieldLink RX7 16 "EggSpoons$Rows" "withLegs" "Z", Cond.fieldLink RX7 23 "EggSpoons$Rows" "cells" "[I", Cond.methodLink RX7 39 yX2_reach, Cond.static yX2_reach, Cond.initialized RX2, Cond.code yX2_reach cX2_reach 7 (some .int), Cond.methodLink RX10 200 yJ6_bitCount_0f7a4, Cond.static yJ6_bitCount_0f7a4, Cond.initialized RJ6, Cond.code yJ6_bitCount_0f7a4 cJ6_bitCount_0f7a4 1 (some .int), Cond.constant RJ6 265 (1431655765), Cond.constant RJ6 266 (858993459), Cond.constant RJ6 267 (252645135), Cond.methodLink RX10 205 yX10_hasBit, Cond.static yX10_hasBit, Cond.code yX10_hasBit cX10_hasBit 2 (some .boolean)]
def wsX10_strong : List Cond := .code yX10_strong cX10_strong 6 (some .int) :: ((wsX10_strong_r1 ++ wsX10_strong_r2) ++ wsX100 ++ wsX50 ++ wsX80 ++ wsX70)
def wsX10_farBy : List Cond := .code yX10_farBy cX10_farBy 4 (some .int) :: ([.fieldLink RX10 320 "EggSpoons$Runner" "kind" "I", .fieldLink RX10 328 "EggSpoons$Runner" "legs" "I", .methodLink RX10 323 yX2_reach, .static yX2_reach, .initialized RX2, .code yX2_reach cX2_reach 7 (some .int), .methodLink RX10 331 yX1_limit, .static yX1_limit, .initialized RX1, .code yX1_limit cX1_limit 5 (some .int)] ++ wsX80)
def wsX10_mostAlike_r1 : List Cond := [Cond.fieldLink RX10 58 "EggSpoons" "tally" "LEggSpoons$Tally;", Cond.fieldLink RX10 317 "EggSpoons$Tally" "most" "I", Cond.methodLink RX10 309 yX9_restart, Cond.instanceMethod yX9_restart, Cond.selects RX9 yX9_restart yX9_restart, Cond.initialized RX9, Cond.code yX9_restart cX9_restart 2 none, Cond.fieldLink RX9 9 "EggSpoons$Tally" "counts" "[I", Cond.fieldLink RX9 15 "EggSpoons$Tally" "most" "I", Cond.methodLink RX10 205 yX10_hasBit, Cond.static yX10_hasBit, Cond.initialized RX10, Cond.code yX10_hasBit cX10_hasBit 2 (some .boolean), Cond.methodLink RX10 311 yX10_farBy, Cond.static yX10_farBy, Cond.code yX10_farBy cX10_farBy 4 (some .int), Cond.fieldLink RX10 320 "EggSpoons$Runner" "kind" "I", Cond.fieldLink RX10 328 "EggSpoons$Runner" "legs" "I", Cond.methodLink RX10 323 yX2_reach, Cond.static yX2_reach, Cond.initialized RX2, Cond.code yX2_reach cX2_reach 7 (some .int), Cond.methodLink RX10 331 yX1_limit, Cond.static yX1_limit]
def wsX10_mostAlike_r2 : List Cond := [Cond.initialized RX1, Cond.code yX1_limit cX1_limit 5 (some .int), Cond.methodLink RX10 314 yX9_see, Cond.instanceMethod yX9_see, Cond.selects RX9 yX9_see yX9_see, Cond.code yX9_see cX9_see 2 none, Cond.methodLink RX9 19 Lib.Math.max.name, Cond.static Lib.Math.max.name, Cond.initialized "java/lang/Math", Cond.code Lib.Math.max.name Lib.Math.max.code 2 (some .int)]
def wsX10_mostAlike : List Cond := .code yX10_mostAlike cX10_mostAlike 6 (some .int) :: ((wsX10_mostAlike_r1 ++ wsX10_mostAlike_r2) ++ wsX100 ++ wsX90 ++ wsX80)
def wsX10_nextLook_r1 : List Cond := [Cond.methodLink RX10 200 yJ6_bitCount_0f7a4, Cond.static yJ6_bitCount_0f7a4, Cond.initialized RJ6, Cond.code yJ6_bitCount_0f7a4 cJ6_bitCount_0f7a4 1 (some .int), Cond.constant RJ6 265 (1431655765), Cond.constant RJ6 266 (858993459), Cond.constant RJ6 267 (252645135), Cond.methodLink RX10 306 yX10_mostAlike, Cond.instanceMethod yX10_mostAlike, Cond.selects RX10 yX10_mostAlike yX10_mostAlike, Cond.initialized RX10, Cond.code yX10_mostAlike cX10_mostAlike 6 (some .int), Cond.fieldLink RX10 58 "EggSpoons" "tally" "LEggSpoons$Tally;", Cond.fieldLink RX10 317 "EggSpoons$Tally" "most" "I", Cond.methodLink RX10 309 yX9_restart, Cond.instanceMethod yX9_restart, Cond.selects RX9 yX9_restart yX9_restart, Cond.initialized RX9, Cond.code yX9_restart cX9_restart 2 none, Cond.fieldLink RX9 9 "EggSpoons$Tally" "counts" "[I", Cond.fieldLink RX9 15 "EggSpoons$Tally" "most" "I", Cond.methodLink RX10 205 yX10_hasBit, Cond.static yX10_hasBit, Cond.code yX10_hasBit cX10_hasBit 2 (some .boolean)]
def wsX10_nextLook_r2 : List Cond := [Cond.methodLink RX10 311 yX10_farBy, Cond.static yX10_farBy, Cond.code yX10_farBy cX10_farBy 4 (some .int), Cond.fieldLink RX10 320 "EggSpoons$Runner" "kind" "I", Cond.fieldLink RX10 328 "EggSpoons$Runner" "legs" "I", Cond.methodLink RX10 323 yX2_reach, Cond.static yX2_reach, Cond.initialized RX2, Cond.code yX2_reach cX2_reach 7 (some .int), Cond.methodLink RX10 331 yX1_limit, Cond.static yX1_limit, Cond.initialized RX1, Cond.code yX1_limit cX1_limit 5 (some .int), Cond.methodLink RX10 314 yX9_see, Cond.instanceMethod yX9_see, Cond.selects RX9 yX9_see yX9_see, Cond.code yX9_see cX9_see 2 none, Cond.methodLink RX9 19 Lib.Math.max.name, Cond.static Lib.Math.max.name, Cond.initialized "java/lang/Math", Cond.code Lib.Math.max.name Lib.Math.max.code 2 (some .int)]
def wsX10_nextLook : List Cond := .code yX10_nextLook cX10_nextLook 9 (some .int) :: ((wsX10_nextLook_r1 ++ wsX10_nextLook_r2) ++ wsX100 ++ wsX90 ++ wsX80)
def wsX10_tell_r1 : List Cond := [Cond.fieldLink RX10 10 "EggSpoons" "now" "LEggSpoons$Race;", Cond.fieldLink RX10 126 "EggSpoons$Race" "row" "[LEggSpoons$Runner;", Cond.methodLink RX10 123 yX10_there, Cond.instanceMethod yX10_there, Cond.selects RX10 yX10_there yX10_there, Cond.initialized RX10, Cond.code yX10_there cX10_there 2 (some .boolean), Cond.fieldLink RX10 87 "EggSpoons$Race" "runners" "I", Cond.methodLink RX10 83 yX10_refuse, Cond.instanceMethod yX10_refuse, Cond.selects RX10 yX10_refuse yX10_refuse, Cond.code yX10_refuse cX10_refuse 3 (some .int), Cond.fieldLink RX10 34 "EggSpoons" "refused" "[I", Cond.methodLink RX10 197 yX5_legsThatFit, Cond.instanceMethod yX5_legsThatFit, Cond.selects RX5 yX5_legsThatFit yX5_legsThatFit, Cond.initialized RX5, Cond.code yX5_legsThatFit cX5_legsThatFit 4 (some .int), Cond.fieldLink RX5 39 "EggSpoons$Race" "seenRows" "LEggSpoons$Rows;", Cond.fieldLink RX5 23 "EggSpoons$Race" "row" "[LEggSpoons$Runner;", Cond.fieldLink RX5 94 "EggSpoons$Runner" "kind" "I", Cond.methodLink RX5 97 yX7_fitRunner, Cond.instanceMethod yX7_fitRunner, Cond.selects RX7 yX7_fitRunner yX7_fitRunner]
def wsX10_tell_r2 : List Cond := [Cond.initialized RX7, Cond.code yX7_fitRunner cX7_fitRunner 7 (some .boolean), Cond.fieldLink RX7 7 "EggSpoons$Rows" "size" "I", Cond.fieldLink RX7 16 "EggSpoons$Rows" "withLegs" "Z", Cond.fieldLink RX7 23 "EggSpoons$Rows" "cells" "[I", Cond.methodLink RX7 39 yX2_reach, Cond.static yX2_reach, Cond.initialized RX2, Cond.code yX2_reach cX2_reach 7 (some .int), Cond.methodLink RX10 208 yX10_nextLook, Cond.instanceMethod yX10_nextLook, Cond.selects RX10 yX10_nextLook yX10_nextLook, Cond.code yX10_nextLook cX10_nextLook 9 (some .int), Cond.methodLink RX10 200 yJ6_bitCount_0f7a4, Cond.static yJ6_bitCount_0f7a4, Cond.initialized RJ6, Cond.code yJ6_bitCount_0f7a4 cJ6_bitCount_0f7a4 1 (some .int), Cond.constant RJ6 265 (1431655765), Cond.constant RJ6 266 (858993459), Cond.constant RJ6 267 (252645135), Cond.methodLink RX10 306 yX10_mostAlike, Cond.instanceMethod yX10_mostAlike, Cond.selects RX10 yX10_mostAlike yX10_mostAlike, Cond.code yX10_mostAlike cX10_mostAlike 6 (some .int)]
def wsX10_tell_r3 : List Cond := [Cond.fieldLink RX10 58 "EggSpoons" "tally" "LEggSpoons$Tally;", Cond.fieldLink RX10 317 "EggSpoons$Tally" "most" "I", Cond.methodLink RX10 309 yX9_restart, Cond.instanceMethod yX9_restart, Cond.selects RX9 yX9_restart yX9_restart, Cond.initialized RX9, Cond.code yX9_restart cX9_restart 2 none, Cond.fieldLink RX9 9 "EggSpoons$Tally" "counts" "[I", Cond.fieldLink RX9 15 "EggSpoons$Tally" "most" "I", Cond.methodLink RX10 205 yX10_hasBit, Cond.static yX10_hasBit, Cond.code yX10_hasBit cX10_hasBit 2 (some .boolean), Cond.methodLink RX10 311 yX10_farBy, Cond.static yX10_farBy, Cond.code yX10_farBy cX10_farBy 4 (some .int), Cond.fieldLink RX10 320 "EggSpoons$Runner" "kind" "I", Cond.fieldLink RX10 328 "EggSpoons$Runner" "legs" "I", Cond.methodLink RX10 323 yX2_reach, Cond.methodLink RX10 331 yX1_limit, Cond.static yX1_limit, Cond.initialized RX1, Cond.code yX1_limit cX1_limit 5 (some .int), Cond.methodLink RX10 314 yX9_see, Cond.instanceMethod yX9_see]
def wsX10_tell_r4 : List Cond := [Cond.selects RX9 yX9_see yX9_see, Cond.code yX9_see cX9_see 2 none, Cond.methodLink RX9 19 Lib.Math.max.name, Cond.static Lib.Math.max.name, Cond.initialized "java/lang/Math", Cond.code Lib.Math.max.name Lib.Math.max.code 2 (some .int)]
def wsX10_tell : List Cond := .code yX10_tell cX10_tell 2 (some .int) :: ((wsX10_tell_r1 ++ (wsX10_tell_r2 ++ (wsX10_tell_r3 ++ wsX10_tell_r4))) ++ wsX100 ++ wsX50 ++ wsX80 ++ wsX70 ++ wsX90)
def wsX10_note_r1 : List Cond := [Cond.fieldLink RX10 10 "EggSpoons" "now" "LEggSpoons$Race;", Cond.fieldLink RX10 212 "EggSpoons$Race" "noteRows" "LEggSpoons$Rows;", Cond.fieldLink RX10 194 "EggSpoons$Rows" "size" "I", Cond.methodLink RX10 123 yX10_there, Cond.instanceMethod yX10_there, Cond.selects RX10 yX10_there yX10_there, Cond.initialized RX10, Cond.code yX10_there cX10_there 2 (some .boolean), Cond.fieldLink RX10 87 "EggSpoons$Race" "runners" "I", Cond.methodLink RX10 79 yX10_within, Cond.static yX10_within, Cond.code yX10_within cX10_within 3 (some .boolean), Cond.methodLink RX10 83 yX10_refuse, Cond.instanceMethod yX10_refuse, Cond.selects RX10 yX10_refuse yX10_refuse, Cond.code yX10_refuse cX10_refuse 3 (some .int), Cond.fieldLink RX10 34 "EggSpoons" "refused" "[I", Cond.methodLink RX10 189 yX7_append, Cond.instanceMethod yX7_append, Cond.selects RX7 yX7_append yX7_append, Cond.initialized RX7, Cond.code yX7_append cX7_append 7 (some .boolean), Cond.fieldLink RX7 7 "EggSpoons$Rows" "size" "I", Cond.fieldLink RX7 13 "EggSpoons$Rows" "most" "I"]
def wsX10_note_r2 : List Cond := [Cond.fieldLink RX7 23 "EggSpoons$Rows" "cells" "[I"]
def wsX10_note : List Cond := .code yX10_note cX10_note 6 (some .int) :: ((wsX10_note_r1 ++ wsX10_note_r2) ++ wsX100 ++ wsX50 ++ wsX70)
def wsX10_mark_r1 : List Cond := [Cond.fieldLink RX10 10 "EggSpoons" "now" "LEggSpoons$Race;", Cond.fieldLink RX10 215 "EggSpoons$Race" "markRows" "LEggSpoons$Rows;", Cond.fieldLink RX10 194 "EggSpoons$Rows" "size" "I", Cond.methodLink RX10 123 yX10_there, Cond.instanceMethod yX10_there, Cond.selects RX10 yX10_there yX10_there, Cond.initialized RX10, Cond.code yX10_there cX10_there 2 (some .boolean), Cond.fieldLink RX10 87 "EggSpoons$Race" "runners" "I", Cond.methodLink RX10 79 yX10_within, Cond.static yX10_within, Cond.code yX10_within cX10_within 3 (some .boolean), Cond.methodLink RX10 83 yX10_refuse, Cond.instanceMethod yX10_refuse, Cond.selects RX10 yX10_refuse yX10_refuse, Cond.code yX10_refuse cX10_refuse 3 (some .int), Cond.fieldLink RX10 34 "EggSpoons" "refused" "[I", Cond.methodLink RX10 189 yX7_append, Cond.instanceMethod yX7_append, Cond.selects RX7 yX7_append yX7_append, Cond.initialized RX7, Cond.code yX7_append cX7_append 7 (some .boolean), Cond.fieldLink RX7 7 "EggSpoons$Rows" "size" "I", Cond.fieldLink RX7 13 "EggSpoons$Rows" "most" "I"]
def wsX10_mark_r2 : List Cond := [Cond.fieldLink RX7 23 "EggSpoons$Rows" "cells" "[I"]
def wsX10_mark : List Cond := .code yX10_mark cX10_mark 4 (some .int) :: ((wsX10_mark_r1 ++ wsX10_mark_r2) ++ wsX100 ++ wsX50 ++ wsX70)
def wsX10_forget : List Cond := .code yX10_forget cX10_forget 4 (some .int) :: ([.fieldLink RX10 10 "EggSpoons" "now" "LEggSpoons$Race;", .fieldLink RX10 185 "EggSpoons$Race" "seenRows" "LEggSpoons$Rows;", .fieldLink RX10 212 "EggSpoons$Race" "noteRows" "LEggSpoons$Rows;", .fieldLink RX10 215 "EggSpoons$Race" "markRows" "LEggSpoons$Rows;", .fieldLink RX10 194 "EggSpoons$Rows" "size" "I", .methodLink RX10 79 yX10_within, .static yX10_within, .initialized RX10, .code yX10_within cX10_within 3 (some .boolean), .methodLink RX10 83 yX10_refuse, .instanceMethod yX10_refuse, .selects RX10 yX10_refuse yX10_refuse, .code yX10_refuse cX10_refuse 3 (some .int), .fieldLink RX10 34 "EggSpoons" "refused" "[I"] ++ wsX100 ++ wsX50 ++ wsX70)
def wsX10_is_r1 : List Cond := [Cond.fieldLink RX10 10 "EggSpoons" "now" "LEggSpoons$Race;", Cond.methodLink RX10 123 yX10_there, Cond.instanceMethod yX10_there, Cond.selects RX10 yX10_there yX10_there, Cond.initialized RX10, Cond.code yX10_there cX10_there 2 (some .boolean), Cond.fieldLink RX10 87 "EggSpoons$Race" "runners" "I", Cond.methodLink RX10 218 yX5_kindsThatFit, Cond.instanceMethod yX5_kindsThatFit, Cond.selects RX5 yX5_kindsThatFit yX5_kindsThatFit, Cond.initialized RX5, Cond.code yX5_kindsThatFit cX5_kindsThatFit 4 (some .int), Cond.fieldLink RX5 43 "EggSpoons$Race" "noteRows" "LEggSpoons$Rows;", Cond.methodLink RX5 97 yX7_fitRunner, Cond.instanceMethod yX7_fitRunner, Cond.selects RX7 yX7_fitRunner yX7_fitRunner, Cond.initialized RX7, Cond.code yX7_fitRunner cX7_fitRunner 7 (some .boolean), Cond.fieldLink RX7 7 "EggSpoons$Rows" "size" "I", Cond.fieldLink RX7 16 "EggSpoons$Rows" "withLegs" "Z", Cond.fieldLink RX7 23 "EggSpoons$Rows" "cells" "[I", Cond.methodLink RX7 39 yX2_reach, Cond.static yX2_reach, Cond.initialized RX2]
def wsX10_is_r2 : List Cond := [Cond.code yX2_reach cX2_reach 7 (some .int), Cond.methodLink RX10 83 yX10_refuse, Cond.instanceMethod yX10_refuse, Cond.selects RX10 yX10_refuse yX10_refuse, Cond.code yX10_refuse cX10_refuse 3 (some .int), Cond.fieldLink RX10 34 "EggSpoons" "refused" "[I"]
def wsX10_is : List Cond := .code yX10_is cX10_is 2 (some .int) :: ((wsX10_is_r1 ++ wsX10_is_r2) ++ wsX100 ++ wsX50 ++ wsX70)
def wsX10_look_r1 : List Cond := [Cond.fieldLink RX10 10 "EggSpoons" "now" "LEggSpoons$Race;", Cond.fieldLink RX10 126 "EggSpoons$Race" "row" "[LEggSpoons$Runner;", Cond.methodLink RX10 123 yX10_there, Cond.instanceMethod yX10_there, Cond.selects RX10 yX10_there yX10_there, Cond.initialized RX10, Cond.code yX10_there cX10_there 2 (some .boolean), Cond.fieldLink RX10 87 "EggSpoons$Race" "runners" "I", Cond.methodLink RX10 83 yX10_refuse, Cond.instanceMethod yX10_refuse, Cond.selects RX10 yX10_refuse yX10_refuse, Cond.code yX10_refuse cX10_refuse 3 (some .int), Cond.fieldLink RX10 34 "EggSpoons" "refused" "[I", Cond.methodLink RX10 218 yX5_kindsThatFit, Cond.instanceMethod yX5_kindsThatFit, Cond.selects RX5 yX5_kindsThatFit yX5_kindsThatFit, Cond.initialized RX5, Cond.code yX5_kindsThatFit cX5_kindsThatFit 4 (some .int), Cond.fieldLink RX5 43 "EggSpoons$Race" "noteRows" "LEggSpoons$Rows;", Cond.methodLink RX5 97 yX7_fitRunner, Cond.instanceMethod yX7_fitRunner, Cond.selects RX7 yX7_fitRunner yX7_fitRunner, Cond.initialized RX7, Cond.code yX7_fitRunner cX7_fitRunner 7 (some .boolean)]
def wsX10_look_r2 : List Cond := [Cond.fieldLink RX7 7 "EggSpoons$Rows" "size" "I", Cond.fieldLink RX7 16 "EggSpoons$Rows" "withLegs" "Z", Cond.fieldLink RX7 23 "EggSpoons$Rows" "cells" "[I", Cond.methodLink RX7 39 yX2_reach, Cond.static yX2_reach, Cond.initialized RX2, Cond.code yX2_reach cX2_reach 7 (some .int), Cond.methodLink RX10 208 yX10_nextLook, Cond.instanceMethod yX10_nextLook, Cond.selects RX10 yX10_nextLook yX10_nextLook, Cond.code yX10_nextLook cX10_nextLook 9 (some .int), Cond.methodLink RX10 200 yJ6_bitCount_0f7a4, Cond.static yJ6_bitCount_0f7a4, Cond.initialized RJ6, Cond.code yJ6_bitCount_0f7a4 cJ6_bitCount_0f7a4 1 (some .int), Cond.constant RJ6 265 (1431655765), Cond.constant RJ6 266 (858993459), Cond.constant RJ6 267 (252645135), Cond.methodLink RX10 306 yX10_mostAlike, Cond.instanceMethod yX10_mostAlike, Cond.selects RX10 yX10_mostAlike yX10_mostAlike, Cond.code yX10_mostAlike cX10_mostAlike 6 (some .int), Cond.fieldLink RX10 58 "EggSpoons" "tally" "LEggSpoons$Tally;", Cond.fieldLink RX10 317 "EggSpoons$Tally" "most" "I"]
def wsX10_look_r3 : List Cond := [Cond.methodLink RX10 309 yX9_restart, Cond.instanceMethod yX9_restart, Cond.selects RX9 yX9_restart yX9_restart, Cond.initialized RX9, Cond.code yX9_restart cX9_restart 2 none, Cond.fieldLink RX9 9 "EggSpoons$Tally" "counts" "[I", Cond.fieldLink RX9 15 "EggSpoons$Tally" "most" "I", Cond.methodLink RX10 205 yX10_hasBit, Cond.static yX10_hasBit, Cond.code yX10_hasBit cX10_hasBit 2 (some .boolean), Cond.methodLink RX10 311 yX10_farBy, Cond.static yX10_farBy, Cond.code yX10_farBy cX10_farBy 4 (some .int), Cond.fieldLink RX10 320 "EggSpoons$Runner" "kind" "I", Cond.fieldLink RX10 328 "EggSpoons$Runner" "legs" "I", Cond.methodLink RX10 323 yX2_reach, Cond.methodLink RX10 331 yX1_limit, Cond.static yX1_limit, Cond.initialized RX1, Cond.code yX1_limit cX1_limit 5 (some .int), Cond.methodLink RX10 314 yX9_see, Cond.instanceMethod yX9_see, Cond.selects RX9 yX9_see yX9_see, Cond.code yX9_see cX9_see 2 none]
def wsX10_look_r4 : List Cond := [Cond.methodLink RX9 19 Lib.Math.max.name, Cond.static Lib.Math.max.name, Cond.initialized "java/lang/Math", Cond.code Lib.Math.max.name Lib.Math.max.code 2 (some .int)]
def wsX10_look : List Cond := .code yX10_look cX10_look 2 (some .int) :: ((wsX10_look_r1 ++ (wsX10_look_r2 ++ (wsX10_look_r3 ++ wsX10_look_r4))) ++ wsX100 ++ wsX50 ++ wsX70 ++ wsX90 ++ wsX80)
def wsX10_kinds_r1 : List Cond := [Cond.fieldLink RX10 10 "EggSpoons" "now" "LEggSpoons$Race;", Cond.methodLink RX10 123 yX10_there, Cond.instanceMethod yX10_there, Cond.selects RX10 yX10_there yX10_there, Cond.initialized RX10, Cond.code yX10_there cX10_there 2 (some .boolean), Cond.fieldLink RX10 87 "EggSpoons$Race" "runners" "I", Cond.methodLink RX10 221 yX5_eggsThatFit, Cond.instanceMethod yX5_eggsThatFit, Cond.selects RX5 yX5_eggsThatFit yX5_eggsThatFit, Cond.initialized RX5, Cond.code yX5_eggsThatFit cX5_eggsThatFit 4 (some .int), Cond.fieldLink RX5 46 "EggSpoons$Race" "markRows" "LEggSpoons$Rows;", Cond.methodLink RX5 101 yX7_fitEgg, Cond.instanceMethod yX7_fitEgg, Cond.selects RX7 yX7_fitEgg yX7_fitEgg, Cond.initialized RX7, Cond.code yX7_fitEgg cX7_fitEgg 5 (some .boolean), Cond.fieldLink RX7 7 "EggSpoons$Rows" "size" "I", Cond.fieldLink RX7 23 "EggSpoons$Rows" "cells" "[I", Cond.methodLink RX7 45 yX1_limit, Cond.static yX1_limit, Cond.initialized RX1, Cond.code yX1_limit cX1_limit 5 (some .int)]
def wsX10_kinds_r2 : List Cond := [Cond.methodLink RX10 83 yX10_refuse, Cond.instanceMethod yX10_refuse, Cond.selects RX10 yX10_refuse yX10_refuse, Cond.code yX10_refuse cX10_refuse 3 (some .int), Cond.fieldLink RX10 34 "EggSpoons" "refused" "[I"]
def wsX10_kinds : List Cond := .code yX10_kinds cX10_kinds 2 (some .int) :: ((wsX10_kinds_r1 ++ wsX10_kinds_r2) ++ wsX100 ++ wsX50 ++ wsX70)
def wsX10_ask_r1 : List Cond := [Cond.fieldLink RX10 10 "EggSpoons" "now" "LEggSpoons$Race;", Cond.fieldLink RX10 126 "EggSpoons$Race" "row" "[LEggSpoons$Runner;", Cond.methodLink RX10 123 yX10_there, Cond.instanceMethod yX10_there, Cond.selects RX10 yX10_there yX10_there, Cond.initialized RX10, Cond.code yX10_there cX10_there 2 (some .boolean), Cond.fieldLink RX10 87 "EggSpoons$Race" "runners" "I", Cond.methodLink RX10 83 yX10_refuse, Cond.instanceMethod yX10_refuse, Cond.selects RX10 yX10_refuse yX10_refuse, Cond.code yX10_refuse cX10_refuse 3 (some .int), Cond.fieldLink RX10 34 "EggSpoons" "refused" "[I", Cond.methodLink RX10 221 yX5_eggsThatFit, Cond.instanceMethod yX5_eggsThatFit, Cond.selects RX5 yX5_eggsThatFit yX5_eggsThatFit, Cond.initialized RX5, Cond.code yX5_eggsThatFit cX5_eggsThatFit 4 (some .int), Cond.fieldLink RX5 46 "EggSpoons$Race" "markRows" "LEggSpoons$Rows;", Cond.methodLink RX5 101 yX7_fitEgg, Cond.instanceMethod yX7_fitEgg, Cond.selects RX7 yX7_fitEgg yX7_fitEgg, Cond.initialized RX7, Cond.code yX7_fitEgg cX7_fitEgg 5 (some .boolean)]
def wsX10_ask_r2 : List Cond := [Cond.fieldLink RX7 7 "EggSpoons$Rows" "size" "I", Cond.fieldLink RX7 23 "EggSpoons$Rows" "cells" "[I", Cond.methodLink RX7 45 yX1_limit, Cond.static yX1_limit, Cond.initialized RX1, Cond.code yX1_limit cX1_limit 5 (some .int), Cond.methodLink RX10 208 yX10_nextLook, Cond.instanceMethod yX10_nextLook, Cond.selects RX10 yX10_nextLook yX10_nextLook, Cond.code yX10_nextLook cX10_nextLook 9 (some .int), Cond.methodLink RX10 200 yJ6_bitCount_0f7a4, Cond.static yJ6_bitCount_0f7a4, Cond.initialized RJ6, Cond.code yJ6_bitCount_0f7a4 cJ6_bitCount_0f7a4 1 (some .int), Cond.constant RJ6 265 (1431655765), Cond.constant RJ6 266 (858993459), Cond.constant RJ6 267 (252645135), Cond.methodLink RX10 306 yX10_mostAlike, Cond.instanceMethod yX10_mostAlike, Cond.selects RX10 yX10_mostAlike yX10_mostAlike, Cond.code yX10_mostAlike cX10_mostAlike 6 (some .int), Cond.fieldLink RX10 58 "EggSpoons" "tally" "LEggSpoons$Tally;", Cond.fieldLink RX10 317 "EggSpoons$Tally" "most" "I", Cond.methodLink RX10 309 yX9_restart]
def wsX10_ask_r3 : List Cond := [Cond.instanceMethod yX9_restart, Cond.selects RX9 yX9_restart yX9_restart, Cond.initialized RX9, Cond.code yX9_restart cX9_restart 2 none, Cond.fieldLink RX9 9 "EggSpoons$Tally" "counts" "[I", Cond.fieldLink RX9 15 "EggSpoons$Tally" "most" "I", Cond.methodLink RX10 205 yX10_hasBit, Cond.static yX10_hasBit, Cond.code yX10_hasBit cX10_hasBit 2 (some .boolean), Cond.methodLink RX10 311 yX10_farBy, Cond.static yX10_farBy, Cond.code yX10_farBy cX10_farBy 4 (some .int), Cond.fieldLink RX10 320 "EggSpoons$Runner" "kind" "I", Cond.fieldLink RX10 328 "EggSpoons$Runner" "legs" "I", Cond.methodLink RX10 323 yX2_reach, Cond.static yX2_reach, Cond.initialized RX2, Cond.code yX2_reach cX2_reach 7 (some .int), Cond.methodLink RX10 331 yX1_limit, Cond.methodLink RX10 314 yX9_see, Cond.instanceMethod yX9_see, Cond.selects RX9 yX9_see yX9_see, Cond.code yX9_see cX9_see 2 none, Cond.methodLink RX9 19 Lib.Math.max.name]
def wsX10_ask_r4 : List Cond := [Cond.static Lib.Math.max.name, Cond.initialized "java/lang/Math", Cond.code Lib.Math.max.name Lib.Math.max.code 2 (some .int)]
def wsX10_ask : List Cond := .code yX10_ask cX10_ask 2 (some .int) :: ((wsX10_ask_r1 ++ (wsX10_ask_r2 ++ (wsX10_ask_r3 ++ wsX10_ask_r4))) ++ wsX100 ++ wsX50 ++ wsX70 ++ wsX90 ++ wsX80)
def wsX10_placeBehindFive_r1 : List Cond := [Cond.fieldLink RX10 48 "EggSpoons" "ghost" "LEggSpoons$Runner;", Cond.fieldLink RX10 10 "EggSpoons" "now" "LEggSpoons$Race;", Cond.fieldLink RX10 126 "EggSpoons$Race" "row" "[LEggSpoons$Runner;", Cond.fieldLink RX10 130 "EggSpoons$Runner" "speed" "I", Cond.fieldLink RX10 110 "EggSpoons$Race" "tick" "I", Cond.fieldLink RX10 140 "EggSpoons$Race" "length" "I", Cond.methodLink RX10 148 yX8_copyFrom, Cond.instanceMethod yX8_copyFrom, Cond.selects RX8 yX8_copyFrom yX8_copyFrom, Cond.initialized RX8, Cond.code yX8_copyFrom cX8_copyFrom 2 none, Cond.fieldLink RX8 9 "EggSpoons$Runner" "kind" "I", Cond.fieldLink RX8 15 "EggSpoons$Runner" "legs" "I", Cond.fieldLink RX8 18 "EggSpoons$Runner" "egg" "I", Cond.fieldLink RX8 21 "EggSpoons$Runner" "speed" "I", Cond.fieldLink RX8 24 "EggSpoons$Runner" "place" "I", Cond.fieldLink RX8 27 "EggSpoons$Runner" "drops" "I", Cond.fieldLink RX8 30 "EggSpoons$Runner" "waits" "I", Cond.fieldLink RX8 33 "EggSpoons$Runner" "homeAt" "I", Cond.methodLink RX10 152 yX8_placeBehind, Cond.instanceMethod yX8_placeBehind, Cond.selects RX8 yX8_placeBehind yX8_placeBehind, Cond.code yX8_placeBehind cX8_placeBehind 5 (some .int), Cond.methodLink RX8 52 yX8_step]
def wsX10_placeBehindFive_r2 : List Cond := [Cond.instanceMethod yX8_step, Cond.selects RX8 yX8_step yX8_step, Cond.code yX8_step cX8_step 4 none, Cond.methodLink RX8 48 yX8_isHome, Cond.instanceMethod yX8_isHome, Cond.selects RX8 yX8_isHome yX8_isHome, Cond.code yX8_isHome cX8_isHome 1 (some .boolean), Cond.methodLink RX8 36 yX2_reach, Cond.static yX2_reach, Cond.initialized RX2, Cond.code yX2_reach cX2_reach 7 (some .int), Cond.methodLink RX8 42 yX1_limit, Cond.static yX1_limit, Cond.initialized RX1, Cond.code yX1_limit cX1_limit 5 (some .int)]
def wsX10_placeBehindFive : List Cond := .code yX10_placeBehindFive cX10_placeBehindFive 3 (some .int) :: ((wsX10_placeBehindFive_r1 ++ wsX10_placeBehindFive_r2) ++ wsX100 ++ wsX50 ++ wsX80)
def wsX10_pair_r1 : List Cond := [Cond.fieldLink RX10 72 "EggSpoons" "duel" "LEggSpoons$Duel;", Cond.fieldLink RX10 10 "EggSpoons" "now" "LEggSpoons$Race;", Cond.fieldLink RX10 126 "EggSpoons$Race" "row" "[LEggSpoons$Runner;", Cond.fieldLink RX10 137 "EggSpoons$Runner" "place" "I", Cond.methodLink RX10 172 yX10_areTwo, Cond.instanceMethod yX10_areTwo, Cond.selects RX10 yX10_areTwo yX10_areTwo, Cond.initialized RX10, Cond.code yX10_areTwo cX10_areTwo 3 (some .boolean), Cond.methodLink RX10 123 yX10_there, Cond.instanceMethod yX10_there, Cond.selects RX10 yX10_there yX10_there, Cond.code yX10_there cX10_there 2 (some .boolean), Cond.fieldLink RX10 87 "EggSpoons$Race" "runners" "I", Cond.methodLink RX10 83 yX10_refuse, Cond.instanceMethod yX10_refuse, Cond.selects RX10 yX10_refuse yX10_refuse, Cond.code yX10_refuse cX10_refuse 3 (some .int), Cond.fieldLink RX10 34 "EggSpoons" "refused" "[I", Cond.methodLink RX10 224 yX10_placeBehindFive, Cond.instanceMethod yX10_placeBehindFive, Cond.selects RX10 yX10_placeBehindFive yX10_placeBehindFive, Cond.code yX10_placeBehindFive cX10_placeBehindFive 3 (some .int), Cond.fieldLink RX10 48 "EggSpoons" "ghost" "LEggSpoons$Runner;"]
def wsX10_pair_r2 : List Cond := [Cond.fieldLink RX10 130 "EggSpoons$Runner" "speed" "I", Cond.fieldLink RX10 110 "EggSpoons$Race" "tick" "I", Cond.fieldLink RX10 140 "EggSpoons$Race" "length" "I", Cond.methodLink RX10 148 yX8_copyFrom, Cond.instanceMethod yX8_copyFrom, Cond.selects RX8 yX8_copyFrom yX8_copyFrom, Cond.initialized RX8, Cond.code yX8_copyFrom cX8_copyFrom 2 none, Cond.fieldLink RX8 9 "EggSpoons$Runner" "kind" "I", Cond.fieldLink RX8 15 "EggSpoons$Runner" "legs" "I", Cond.fieldLink RX8 18 "EggSpoons$Runner" "egg" "I", Cond.fieldLink RX8 21 "EggSpoons$Runner" "speed" "I", Cond.fieldLink RX8 24 "EggSpoons$Runner" "place" "I", Cond.fieldLink RX8 27 "EggSpoons$Runner" "drops" "I", Cond.fieldLink RX8 30 "EggSpoons$Runner" "waits" "I", Cond.fieldLink RX8 33 "EggSpoons$Runner" "homeAt" "I", Cond.methodLink RX10 152 yX8_placeBehind, Cond.instanceMethod yX8_placeBehind, Cond.selects RX8 yX8_placeBehind yX8_placeBehind, Cond.code yX8_placeBehind cX8_placeBehind 5 (some .int), Cond.methodLink RX8 52 yX8_step, Cond.instanceMethod yX8_step, Cond.selects RX8 yX8_step yX8_step, Cond.code yX8_step cX8_step 4 none]
def wsX10_pair_r3 : List Cond := [Cond.methodLink RX8 48 yX8_isHome, Cond.instanceMethod yX8_isHome, Cond.selects RX8 yX8_isHome yX8_isHome, Cond.code yX8_isHome cX8_isHome 1 (some .boolean), Cond.methodLink RX8 36 yX2_reach, Cond.static yX2_reach, Cond.initialized RX2, Cond.code yX2_reach cX2_reach 7 (some .int), Cond.methodLink RX8 42 yX1_limit, Cond.static yX1_limit, Cond.initialized RX1, Cond.code yX1_limit cX1_limit 5 (some .int), Cond.methodLink RX10 227 yX0_put, Cond.instanceMethod yX0_put, Cond.selects RX0 yX0_put yX0_put, Cond.initialized RX0, Cond.code yX0_put cX0_put 4 none, Cond.fieldLink RX0 11 "EggSpoons$Duel" "endsA" "[I", Cond.fieldLink RX0 15 "EggSpoons$Duel" "endsB" "[I", Cond.methodLink RX10 230 yX0_weigh, Cond.instanceMethod yX0_weigh, Cond.selects RX0 yX0_weigh yX0_weigh, Cond.code yX0_weigh cX0_weigh 7 (some .int), Cond.fieldLink RX0 18 "EggSpoons$Duel" "mostA" "[I"]
def wsX10_pair_r4 : List Cond := [Cond.fieldLink RX0 21 "EggSpoons$Duel" "mostB" "[I", Cond.fieldLink RX0 24 "EggSpoons$Duel" "resting" "[I", Cond.methodLink RX0 27 yX0_greatestGain, Cond.static yX0_greatestGain, Cond.code yX0_greatestGain cX0_greatestGain 5 (some .int), Cond.methodLink RX0 35 Lib.Math.max.name, Cond.static Lib.Math.max.name, Cond.initialized "java/lang/Math", Cond.code Lib.Math.max.name Lib.Math.max.code 2 (some .int), Cond.methodLink RX0 31 yX0_gain, Cond.static yX0_gain, Cond.code yX0_gain cX0_gain 3 (some .int), Cond.methodLink RX10 233 yX0_restingPair, Cond.instanceMethod yX0_restingPair, Cond.selects RX0 yX0_restingPair yX0_restingPair, Cond.code yX0_restingPair cX0_restingPair 2 (some .int)]
def wsX10_pair : List Cond := .code yX10_pair cX10_pair 5 (some .int) :: ((wsX10_pair_r1 ++ (wsX10_pair_r2 ++ (wsX10_pair_r3 ++ wsX10_pair_r4))) ++ wsX100 ++ wsX50 ++ wsX80 ++ wsX00)
def wsX10_stumble_r1 : List Cond := [Cond.fieldLink RX10 10 "EggSpoons" "now" "LEggSpoons$Race;", Cond.fieldLink RX10 126 "EggSpoons$Race" "row" "[LEggSpoons$Runner;", Cond.fieldLink RX10 65 "EggSpoons" "odds" "LEggSpoons$Odds;", Cond.fieldLink RX10 140 "EggSpoons$Race" "length" "I", Cond.fieldLink RX10 110 "EggSpoons$Race" "tick" "I", Cond.fieldLink RX10 137 "EggSpoons$Runner" "place" "I", Cond.fieldLink RX10 240 "EggSpoons$Runner" "waits" "I", Cond.fieldLink RX10 38 "EggSpoons" "above" "J", Cond.fieldLink RX10 42 "EggSpoons" "below" "J", Cond.methodLink RX10 123 yX10_there, Cond.instanceMethod yX10_there, Cond.selects RX10 yX10_there yX10_there, Cond.initialized RX10, Cond.code yX10_there cX10_there 2 (some .boolean), Cond.fieldLink RX10 87 "EggSpoons$Race" "runners" "I", Cond.methodLink RX10 79 yX10_within, Cond.static yX10_within, Cond.code yX10_within cX10_within 3 (some .boolean), Cond.methodLink RX10 83 yX10_refuse, Cond.instanceMethod yX10_refuse, Cond.selects RX10 yX10_refuse yX10_refuse, Cond.code yX10_refuse cX10_refuse 3 (some .int), Cond.fieldLink RX10 34 "EggSpoons" "refused" "[I", Cond.methodLink RX10 236 yX3_pose]
def wsX10_stumble_r2 : List Cond := [Cond.instanceMethod yX3_pose, Cond.selects RX3 yX3_pose yX3_pose, Cond.initialized RX3, Cond.code yX3_pose cX3_pose 6 none, Cond.fieldLink RX3 7 "EggSpoons$Runner" "kind" "I", Cond.fieldLink RX3 13 "EggSpoons$Odds" "kind" "I", Cond.fieldLink RX3 16 "EggSpoons$Runner" "legs" "I", Cond.fieldLink RX3 19 "EggSpoons$Odds" "legs" "I", Cond.fieldLink RX3 20 "EggSpoons$Runner" "egg" "I", Cond.fieldLink RX3 23 "EggSpoons$Odds" "egg" "I", Cond.fieldLink RX3 24 "EggSpoons$Runner" "speed" "I", Cond.fieldLink RX3 27 "EggSpoons$Odds" "speed" "I", Cond.fieldLink RX3 28 "EggSpoons$Odds" "length" "I", Cond.fieldLink RX3 31 "EggSpoons$Odds" "lastTick" "I", Cond.fieldLink RX3 34 "EggSpoons$Odds" "goal" "I", Cond.fieldLink RX3 37 "EggSpoons$Odds" "tenths" "I", Cond.static yX3_ways, Cond.code yX3_ways cX3_ways 8 (some .long), Cond.constantLong RX3 44 (10), Cond.methodLink RX3 40 yX3_tenTo, Cond.static yX3_tenTo, Cond.code yX3_tenTo cX3_tenTo 4 (some .long), Cond.methodLink RX3 46 yX3_ways, Cond.methodLink RX3 50 yX2_reach]
def wsX10_stumble_r3 : List Cond := [Cond.static yX2_reach, Cond.initialized RX2, Cond.code yX2_reach cX2_reach 7 (some .int), Cond.methodLink RX3 56 yX1_limit, Cond.static yX1_limit, Cond.initialized RX1, Cond.code yX1_limit cX1_limit 5 (some .int), Cond.methodLink RX10 247 yX3_tenTo, Cond.methodLink RX10 251 yX3_commonPart, Cond.static yX3_commonPart, Cond.code yX3_commonPart cX3_commonPart 11 (some .long)]
def wsX10_stumble : List Cond := .code yX10_stumble cX10_stumble 12 (some .int) :: ((wsX10_stumble_r1 ++ (wsX10_stumble_r2 ++ wsX10_stumble_r3)) ++ wsX100 ++ wsX50 ++ wsX80 ++ wsX30)
def wsX10_races_r1 : List Cond := [Cond.constant RX10 255 (999999), Cond.fieldLink RX10 16 "EggSpoons" "spare" "LEggSpoons$Race;", Cond.fieldLink RX10 10 "EggSpoons" "now" "LEggSpoons$Race;", Cond.constantLong RX10 260 (1103515245), Cond.constantLong RX10 262 (12345), Cond.constantLong RX10 264 (2147483648), Cond.constantLong RX10 266 (65536), Cond.constantLong RX10 268 (6), Cond.fieldLink RX10 87 "EggSpoons$Race" "runners" "I", Cond.fieldLink RX10 126 "EggSpoons$Race" "row" "[LEggSpoons$Runner;", Cond.constantLong RX10 270 (1048576), Cond.constantLong RX10 272 (10), Cond.fieldLink RX10 130 "EggSpoons$Runner" "speed" "I", Cond.methodLink RX10 79 yX10_within, Cond.static yX10_within, Cond.initialized RX10, Cond.code yX10_within cX10_within 3 (some .boolean), Cond.methodLink RX10 83 yX10_refuse, Cond.instanceMethod yX10_refuse, Cond.selects RX10 yX10_refuse yX10_refuse, Cond.code yX10_refuse cX10_refuse 3 (some .int), Cond.fieldLink RX10 34 "EggSpoons" "refused" "[I", Cond.methodLink RX10 256 yX5_copyLine, Cond.instanceMethod yX5_copyLine]
def wsX10_races_r2 : List Cond := [Cond.selects RX5 yX5_copyLine yX5_copyLine, Cond.initialized RX5, Cond.code yX5_copyLine cX5_copyLine 3 none, Cond.fieldLink RX5 9 "EggSpoons$Race" "length" "I", Cond.fieldLink RX5 15 "EggSpoons$Race" "tick" "I", Cond.fieldLink RX5 18 "EggSpoons$Race" "runners" "I", Cond.fieldLink RX5 23 "EggSpoons$Race" "row" "[LEggSpoons$Runner;", Cond.methodLink RX5 58 yX8_copyFrom, Cond.instanceMethod yX8_copyFrom, Cond.selects RX8 yX8_copyFrom yX8_copyFrom, Cond.initialized RX8, Cond.code yX8_copyFrom cX8_copyFrom 2 none, Cond.fieldLink RX8 9 "EggSpoons$Runner" "kind" "I", Cond.fieldLink RX8 15 "EggSpoons$Runner" "legs" "I", Cond.fieldLink RX8 18 "EggSpoons$Runner" "egg" "I", Cond.fieldLink RX8 21 "EggSpoons$Runner" "speed" "I", Cond.fieldLink RX8 24 "EggSpoons$Runner" "place" "I", Cond.fieldLink RX8 27 "EggSpoons$Runner" "drops" "I", Cond.fieldLink RX8 30 "EggSpoons$Runner" "waits" "I", Cond.fieldLink RX8 33 "EggSpoons$Runner" "homeAt" "I", Cond.methodLink RX10 116 yX5_goOn, Cond.instanceMethod yX5_goOn, Cond.selects RX5 yX5_goOn yX5_goOn, Cond.code yX5_goOn cX5_goOn 2 none]
def wsX10_races_r3 : List Cond := [Cond.methodLink RX5 72 yX8_step, Cond.instanceMethod yX8_step, Cond.selects RX8 yX8_step yX8_step, Cond.code yX8_step cX8_step 4 none, Cond.methodLink RX8 48 yX8_isHome, Cond.instanceMethod yX8_isHome, Cond.selects RX8 yX8_isHome yX8_isHome, Cond.code yX8_isHome cX8_isHome 1 (some .boolean), Cond.methodLink RX8 36 yX2_reach, Cond.static yX2_reach, Cond.initialized RX2, Cond.code yX2_reach cX2_reach 7 (some .int), Cond.methodLink RX8 42 yX1_limit, Cond.static yX1_limit, Cond.initialized RX1, Cond.code yX1_limit cX1_limit 5 (some .int), Cond.methodLink RX10 119 yX5_homes, Cond.instanceMethod yX5_homes, Cond.selects RX5 yX5_homes yX5_homes, Cond.code yX5_homes cX5_homes 3 (some .int), Cond.methodLink RX5 84 yX8_isHome]
def wsX10_races : List Cond := .code yX10_races cX10_races 7 (some .int) :: ((wsX10_races_r1 ++ (wsX10_races_r2 ++ wsX10_races_r3)) ++ wsX100 ++ wsX50 ++ wsX80)
def wsX10_part : List Cond := .code yX10_part cX10_part 2 (some .long) :: ([.fieldLink RX10 38 "EggSpoons" "above" "J", .fieldLink RX10 42 "EggSpoons" "below" "J", .methodLink RX10 79 yX10_within, .static yX10_within, .initialized RX10, .code yX10_within cX10_within 3 (some .boolean), .methodLink RX10 83 yX10_refuse, .instanceMethod yX10_refuse, .selects RX10 yX10_refuse yX10_refuse, .code yX10_refuse cX10_refuse 3 (some .int), .fieldLink RX10 34 "EggSpoons" "refused" "[I"] ++ wsX100)
def wsX10_image_r1 : List Cond := [Cond.fieldLink RX10 19 "EggSpoons" "images" "[LEggSpoons$Race;", Cond.fieldLink RX10 10 "EggSpoons" "now" "LEggSpoons$Race;", Cond.fieldLink RX10 23 "EggSpoons" "imageKept" "[Z", Cond.methodLink RX10 79 yX10_within, Cond.static yX10_within, Cond.initialized RX10, Cond.code yX10_within cX10_within 3 (some .boolean), Cond.methodLink RX10 83 yX10_refuse, Cond.instanceMethod yX10_refuse, Cond.selects RX10 yX10_refuse yX10_refuse, Cond.code yX10_refuse cX10_refuse 3 (some .int), Cond.fieldLink RX10 34 "EggSpoons" "refused" "[I", Cond.methodLink RX10 274 yX5_copyFrom, Cond.instanceMethod yX5_copyFrom, Cond.selects RX5 yX5_copyFrom yX5_copyFrom, Cond.initialized RX5, Cond.code yX5_copyFrom cX5_copyFrom 2 none, Cond.fieldLink RX5 30 "EggSpoons$Race" "past" "LEggSpoons$Past;", Cond.fieldLink RX5 39 "EggSpoons$Race" "seenRows" "LEggSpoons$Rows;", Cond.fieldLink RX5 43 "EggSpoons$Race" "noteRows" "LEggSpoons$Rows;", Cond.fieldLink RX5 46 "EggSpoons$Race" "markRows" "LEggSpoons$Rows;", Cond.methodLink RX5 62 yX5_copyLine, Cond.instanceMethod yX5_copyLine, Cond.selects RX5 yX5_copyLine yX5_copyLine]
def wsX10_image_r2 : List Cond := [Cond.code yX5_copyLine cX5_copyLine 3 none, Cond.fieldLink RX5 9 "EggSpoons$Race" "length" "I", Cond.fieldLink RX5 15 "EggSpoons$Race" "tick" "I", Cond.fieldLink RX5 18 "EggSpoons$Race" "runners" "I", Cond.fieldLink RX5 23 "EggSpoons$Race" "row" "[LEggSpoons$Runner;", Cond.methodLink RX5 58 yX8_copyFrom, Cond.instanceMethod yX8_copyFrom, Cond.selects RX8 yX8_copyFrom yX8_copyFrom, Cond.initialized RX8, Cond.code yX8_copyFrom cX8_copyFrom 2 none, Cond.fieldLink RX8 9 "EggSpoons$Runner" "kind" "I", Cond.fieldLink RX8 15 "EggSpoons$Runner" "legs" "I", Cond.fieldLink RX8 18 "EggSpoons$Runner" "egg" "I", Cond.fieldLink RX8 21 "EggSpoons$Runner" "speed" "I", Cond.fieldLink RX8 24 "EggSpoons$Runner" "place" "I", Cond.fieldLink RX8 27 "EggSpoons$Runner" "drops" "I", Cond.fieldLink RX8 30 "EggSpoons$Runner" "waits" "I", Cond.fieldLink RX8 33 "EggSpoons$Runner" "homeAt" "I", Cond.methodLink RX5 66 yX4_copyFrom, Cond.instanceMethod yX4_copyFrom, Cond.selects RX4 yX4_copyFrom yX4_copyFrom, Cond.initialized RX4, Cond.code yX4_copyFrom cX4_copyFrom 2 none, Cond.fieldLink RX4 15 "EggSpoons$Past" "size" "I"]
def wsX10_image_r3 : List Cond := [Cond.fieldLink RX4 11 "EggSpoons$Past" "cells" "[I", Cond.methodLink RX4 19 arraycopyName, Cond.native arraycopyName, Cond.static arraycopyName, Cond.initialized "java/lang/System", Cond.methodLink RX5 69 yX7_copyFrom, Cond.instanceMethod yX7_copyFrom, Cond.selects RX7 yX7_copyFrom yX7_copyFrom, Cond.initialized RX7, Cond.code yX7_copyFrom cX7_copyFrom 2 none, Cond.fieldLink RX7 7 "EggSpoons$Rows" "size" "I", Cond.fieldLink RX7 23 "EggSpoons$Rows" "cells" "[I", Cond.methodLink RX7 27 Lib.Math.min.name, Cond.static Lib.Math.min.name, Cond.initialized "java/lang/Math", Cond.code Lib.Math.min.name Lib.Math.min.code 2 (some .int), Cond.methodLink RX7 33 arraycopyName]
def wsX10_image : List Cond := .code yX10_image cX10_image 2 (some .int) :: ((wsX10_image_r1 ++ (wsX10_image_r2 ++ wsX10_image_r3)) ++ wsX100 ++ wsX50 ++ wsX80 ++ wsX40 ++ wsX70)
def wsX10_from_r1 : List Cond := [Cond.fieldLink RX10 23 "EggSpoons" "imageKept" "[Z", Cond.fieldLink RX10 10 "EggSpoons" "now" "LEggSpoons$Race;", Cond.fieldLink RX10 19 "EggSpoons" "images" "[LEggSpoons$Race;", Cond.methodLink RX10 79 yX10_within, Cond.static yX10_within, Cond.initialized RX10, Cond.code yX10_within cX10_within 3 (some .boolean), Cond.methodLink RX10 83 yX10_refuse, Cond.instanceMethod yX10_refuse, Cond.selects RX10 yX10_refuse yX10_refuse, Cond.code yX10_refuse cX10_refuse 3 (some .int), Cond.fieldLink RX10 34 "EggSpoons" "refused" "[I", Cond.methodLink RX10 274 yX5_copyFrom, Cond.instanceMethod yX5_copyFrom, Cond.selects RX5 yX5_copyFrom yX5_copyFrom, Cond.initialized RX5, Cond.code yX5_copyFrom cX5_copyFrom 2 none, Cond.fieldLink RX5 30 "EggSpoons$Race" "past" "LEggSpoons$Past;", Cond.fieldLink RX5 39 "EggSpoons$Race" "seenRows" "LEggSpoons$Rows;", Cond.fieldLink RX5 43 "EggSpoons$Race" "noteRows" "LEggSpoons$Rows;", Cond.fieldLink RX5 46 "EggSpoons$Race" "markRows" "LEggSpoons$Rows;", Cond.methodLink RX5 62 yX5_copyLine, Cond.instanceMethod yX5_copyLine, Cond.selects RX5 yX5_copyLine yX5_copyLine]
def wsX10_from_r2 : List Cond := [Cond.code yX5_copyLine cX5_copyLine 3 none, Cond.fieldLink RX5 9 "EggSpoons$Race" "length" "I", Cond.fieldLink RX5 15 "EggSpoons$Race" "tick" "I", Cond.fieldLink RX5 18 "EggSpoons$Race" "runners" "I", Cond.fieldLink RX5 23 "EggSpoons$Race" "row" "[LEggSpoons$Runner;", Cond.methodLink RX5 58 yX8_copyFrom, Cond.instanceMethod yX8_copyFrom, Cond.selects RX8 yX8_copyFrom yX8_copyFrom, Cond.initialized RX8, Cond.code yX8_copyFrom cX8_copyFrom 2 none, Cond.fieldLink RX8 9 "EggSpoons$Runner" "kind" "I", Cond.fieldLink RX8 15 "EggSpoons$Runner" "legs" "I", Cond.fieldLink RX8 18 "EggSpoons$Runner" "egg" "I", Cond.fieldLink RX8 21 "EggSpoons$Runner" "speed" "I", Cond.fieldLink RX8 24 "EggSpoons$Runner" "place" "I", Cond.fieldLink RX8 27 "EggSpoons$Runner" "drops" "I", Cond.fieldLink RX8 30 "EggSpoons$Runner" "waits" "I", Cond.fieldLink RX8 33 "EggSpoons$Runner" "homeAt" "I", Cond.methodLink RX5 66 yX4_copyFrom, Cond.instanceMethod yX4_copyFrom, Cond.selects RX4 yX4_copyFrom yX4_copyFrom, Cond.initialized RX4, Cond.code yX4_copyFrom cX4_copyFrom 2 none, Cond.fieldLink RX4 15 "EggSpoons$Past" "size" "I"]
def wsX10_from_r3 : List Cond := [Cond.fieldLink RX4 11 "EggSpoons$Past" "cells" "[I", Cond.methodLink RX4 19 arraycopyName, Cond.native arraycopyName, Cond.static arraycopyName, Cond.initialized "java/lang/System", Cond.methodLink RX5 69 yX7_copyFrom, Cond.instanceMethod yX7_copyFrom, Cond.selects RX7 yX7_copyFrom yX7_copyFrom, Cond.initialized RX7, Cond.code yX7_copyFrom cX7_copyFrom 2 none, Cond.fieldLink RX7 7 "EggSpoons$Rows" "size" "I", Cond.fieldLink RX7 23 "EggSpoons$Rows" "cells" "[I", Cond.methodLink RX7 27 Lib.Math.min.name, Cond.static Lib.Math.min.name, Cond.initialized "java/lang/Math", Cond.code Lib.Math.min.name Lib.Math.min.code 2 (some .int), Cond.methodLink RX7 33 arraycopyName]
def wsX10_from : List Cond := .code yX10_from cX10_from 2 (some .int) :: ((wsX10_from_r1 ++ (wsX10_from_r2 ++ wsX10_from_r3)) ++ wsX100 ++ wsX50 ++ wsX80 ++ wsX40 ++ wsX70)
def wsX10_status : List Cond := .code yX10_status cX10_status 2 (some .int) :: ([.fieldLink RX10 34 "EggSpoons" "refused" "[I", .methodLink RX10 79 yX10_within, .static yX10_within, .initialized RX10, .code yX10_within cX10_within 3 (some .boolean), .methodLink RX10 83 yX10_refuse, .instanceMethod yX10_refuse, .selects RX10 yX10_refuse yX10_refuse, .code yX10_refuse cX10_refuse 3 (some .int)] ++ wsX100)
def wsX10_count_r1 : List Cond := [Cond.fieldLink RX10 10 "EggSpoons" "now" "LEggSpoons$Race;", Cond.fieldLink RX10 87 "EggSpoons$Race" "runners" "I", Cond.fieldLink RX10 140 "EggSpoons$Race" "length" "I", Cond.fieldLink RX10 110 "EggSpoons$Race" "tick" "I", Cond.fieldLink RX10 185 "EggSpoons$Race" "seenRows" "LEggSpoons$Rows;", Cond.fieldLink RX10 194 "EggSpoons$Rows" "size" "I", Cond.fieldLink RX10 212 "EggSpoons$Race" "noteRows" "LEggSpoons$Rows;", Cond.fieldLink RX10 215 "EggSpoons$Race" "markRows" "LEggSpoons$Rows;", Cond.fieldLink RX10 282 "EggSpoons$Race" "past" "LEggSpoons$Past;", Cond.fieldLink RX10 286 "EggSpoons$Past" "size" "I", Cond.fieldLink RX10 30 "EggSpoons" "reader" "LEggSpoons$Reader;", Cond.methodLink RX10 119 yX5_homes, Cond.instanceMethod yX5_homes, Cond.selects RX5 yX5_homes yX5_homes, Cond.initialized RX5, Cond.code yX5_homes cX5_homes 3 (some .int), Cond.fieldLink RX5 18 "EggSpoons$Race" "runners" "I", Cond.fieldLink RX5 23 "EggSpoons$Race" "row" "[LEggSpoons$Runner;", Cond.methodLink RX5 84 yX8_isHome, Cond.instanceMethod yX8_isHome, Cond.selects RX8 yX8_isHome yX8_isHome, Cond.initialized RX8, Cond.code yX8_isHome cX8_isHome 1 (some .boolean), Cond.fieldLink RX8 33 "EggSpoons$Runner" "homeAt" "I"]
def wsX10_count_r2 : List Cond := [Cond.methodLink RX10 276 yX5_placesTogether, Cond.instanceMethod yX5_placesTogether, Cond.selects RX5 yX5_placesTogether yX5_placesTogether, Cond.code yX5_placesTogether cX5_placesTogether 3 (some .int), Cond.fieldLink RX5 88 "EggSpoons$Runner" "place" "I", Cond.methodLink RX10 279 yX5_dropsTogether, Cond.instanceMethod yX5_dropsTogether, Cond.selects RX5 yX5_dropsTogether yX5_dropsTogether, Cond.code yX5_dropsTogether cX5_dropsTogether 3 (some .int), Cond.fieldLink RX5 91 "EggSpoons$Runner" "drops" "I", Cond.methodLink RX10 83 yX10_refuse, Cond.instanceMethod yX10_refuse, Cond.selects RX10 yX10_refuse yX10_refuse, Cond.initialized RX10, Cond.code yX10_refuse cX10_refuse 3 (some .int), Cond.fieldLink RX10 34 "EggSpoons" "refused" "[I"]
def wsX10_count : List Cond := .code yX10_count cX10_count 2 (some .int) :: ((wsX10_count_r1 ++ wsX10_count_r2) ++ wsX100 ++ wsX50 ++ wsX70 ++ wsX40 ++ wsX60 ++ wsX80)
def wsX10_digest_r1 : List Cond := [Cond.constantLong RX10 289 (1789), Cond.constantLong RX10 291 (31), Cond.fieldLink RX10 10 "EggSpoons" "now" "LEggSpoons$Race;", Cond.fieldLink RX10 87 "EggSpoons$Race" "runners" "I", Cond.fieldLink RX10 126 "EggSpoons$Race" "row" "[LEggSpoons$Runner;", Cond.fieldLink RX10 110 "EggSpoons$Race" "tick" "I", Cond.fieldLink RX10 185 "EggSpoons$Race" "seenRows" "LEggSpoons$Rows;", Cond.fieldLink RX10 212 "EggSpoons$Race" "noteRows" "LEggSpoons$Rows;", Cond.fieldLink RX10 215 "EggSpoons$Race" "markRows" "LEggSpoons$Rows;", Cond.fieldLink RX10 38 "EggSpoons" "above" "J", Cond.fieldLink RX10 42 "EggSpoons" "below" "J", Cond.methodLink RX10 293 yX10_count, Cond.instanceMethod yX10_count, Cond.selects RX10 yX10_count yX10_count, Cond.initialized RX10, Cond.code yX10_count cX10_count 2 (some .int), Cond.fieldLink RX10 140 "EggSpoons$Race" "length" "I", Cond.fieldLink RX10 194 "EggSpoons$Rows" "size" "I", Cond.fieldLink RX10 282 "EggSpoons$Race" "past" "LEggSpoons$Past;", Cond.fieldLink RX10 286 "EggSpoons$Past" "size" "I", Cond.fieldLink RX10 30 "EggSpoons" "reader" "LEggSpoons$Reader;", Cond.methodLink RX10 119 yX5_homes, Cond.instanceMethod yX5_homes, Cond.selects RX5 yX5_homes yX5_homes]
def wsX10_digest_r2 : List Cond := [Cond.initialized RX5, Cond.code yX5_homes cX5_homes 3 (some .int), Cond.fieldLink RX5 18 "EggSpoons$Race" "runners" "I", Cond.fieldLink RX5 23 "EggSpoons$Race" "row" "[LEggSpoons$Runner;", Cond.methodLink RX5 84 yX8_isHome, Cond.instanceMethod yX8_isHome, Cond.selects RX8 yX8_isHome yX8_isHome, Cond.initialized RX8, Cond.code yX8_isHome cX8_isHome 1 (some .boolean), Cond.fieldLink RX8 33 "EggSpoons$Runner" "homeAt" "I", Cond.methodLink RX10 276 yX5_placesTogether, Cond.instanceMethod yX5_placesTogether, Cond.selects RX5 yX5_placesTogether yX5_placesTogether, Cond.code yX5_placesTogether cX5_placesTogether 3 (some .int), Cond.fieldLink RX5 88 "EggSpoons$Runner" "place" "I", Cond.methodLink RX10 279 yX5_dropsTogether, Cond.instanceMethod yX5_dropsTogether, Cond.selects RX5 yX5_dropsTogether yX5_dropsTogether, Cond.code yX5_dropsTogether cX5_dropsTogether 3 (some .int), Cond.fieldLink RX5 91 "EggSpoons$Runner" "drops" "I", Cond.methodLink RX10 83 yX10_refuse, Cond.instanceMethod yX10_refuse, Cond.selects RX10 yX10_refuse yX10_refuse, Cond.code yX10_refuse cX10_refuse 3 (some .int)]
def wsX10_digest_r3 : List Cond := [Cond.fieldLink RX10 34 "EggSpoons" "refused" "[I", Cond.methodLink RX10 144 yX8_fact, Cond.instanceMethod yX8_fact, Cond.selects RX8 yX8_fact yX8_fact, Cond.code yX8_fact cX8_fact 3 (some .int), Cond.fieldLink RX8 9 "EggSpoons$Runner" "kind" "I", Cond.fieldLink RX8 15 "EggSpoons$Runner" "legs" "I", Cond.fieldLink RX8 18 "EggSpoons$Runner" "egg" "I", Cond.fieldLink RX8 21 "EggSpoons$Runner" "speed" "I", Cond.fieldLink RX8 24 "EggSpoons$Runner" "place" "I", Cond.fieldLink RX8 27 "EggSpoons$Runner" "drops" "I", Cond.fieldLink RX8 30 "EggSpoons$Runner" "waits" "I", Cond.methodLink RX8 36 yX2_reach, Cond.static yX2_reach, Cond.initialized RX2, Cond.code yX2_reach cX2_reach 7 (some .int), Cond.methodLink RX8 42 yX1_limit, Cond.static yX1_limit, Cond.initialized RX1, Cond.code yX1_limit cX1_limit 5 (some .int), Cond.methodLink RX10 296 yX7_mixInto, Cond.instanceMethod yX7_mixInto, Cond.selects RX7 yX7_mixInto yX7_mixInto, Cond.initialized RX7]
def wsX10_digest_r4 : List Cond := [Cond.code yX7_mixInto cX7_mixInto 7 (some .long), Cond.fieldLink RX7 7 "EggSpoons$Rows" "size" "I", Cond.constantLong RX7 50 (31), Cond.fieldLink RX7 23 "EggSpoons$Rows" "cells" "[I", Cond.fieldLink RX7 16 "EggSpoons$Rows" "withLegs" "Z", Cond.fieldLink RX7 20 "EggSpoons$Rows" "withSpeed" "Z"]
def wsX10_digest : List Cond := .code yX10_digest cX10_digest 5 (some .long) :: ((wsX10_digest_r1 ++ (wsX10_digest_r2 ++ (wsX10_digest_r3 ++ wsX10_digest_r4))) ++ wsX100 ++ wsX50 ++ wsX70 ++ wsX40 ++ wsX60 ++ wsX80)
def wsX11_begin : List Cond := .code yX11_begin cX11_begin 3 none :: ([])
def wsX11_init : List Cond := .code yX11_init cX11_init 1 none :: ([.methodLink RX11 1 objectInit, .instanceMethod objectInit, .code objectInit ⟨#[0xb1]⟩ 1 none, .arrayClass .int, .fieldLink RX11 7 "EggSpoonsModel" "all" "[I", .fieldLink RX11 13 "EggSpoonsModel" "kept" "[I", .arrayClass .boolean, .fieldLink RX11 16 "EggSpoonsModel" "isKept" "[Z", .fieldLink RX11 20 "EggSpoonsModel" "refused" "[I", .fieldLink RX11 23 "EggSpoonsModel" "below" "J", .fieldLink RX11 27 "EggSpoonsModel" "hand" "[I", .fieldLink RX11 30 "EggSpoonsModel" "goesBy" "[I", .fieldLink RX11 33 "EggSpoonsModel" "tells" "[I", .fieldLink RX11 36 "EggSpoonsModel" "behindBy" "[I", .fieldLink RX11 39 "EggSpoonsModel" "bytes" "[I", .fieldLink RX11 42 "EggSpoonsModel" "anew" "[I", .fieldLink RX11 45 "EggSpoonsModel" "values" "[I", .methodLink RX11 48 yX11_begin, .static yX11_begin, .initialized RX11, .code yX11_begin cX11_begin 3 none] ++ wsX110)
def wsX11_in : List Cond := .code yX11_in cX11_in 6 (some .boolean) :: ([])
def wsX11_bad : List Cond := .code yX11_bad cX11_bad 2 (some .int) :: ([.fieldLink RX11 20 "EggSpoonsModel" "refused" "[I"] ++ wsX110)
def wsX11_no : List Cond := .code yX11_no cX11_no 1 (some .int) :: ([.fieldLink RX11 20 "EggSpoonsModel" "refused" "[I"] ++ wsX110)
def wsX11_full : List Cond := .code yX11_full cX11_full 1 (some .int) :: ([.fieldLink RX11 20 "EggSpoonsModel" "refused" "[I"] ++ wsX110)
def wsX11_has : List Cond := .code yX11_has cX11_has 2 (some .boolean) :: ([])
def wsX11_many : List Cond := .code yX11_many cX11_many 1 (some .int) :: ([.fieldLink RX11 7 "EggSpoonsModel" "all" "[I"] ++ wsX110)
def wsX11_isOne : List Cond := .code yX11_isOne cX11_isOne 2 (some .boolean) :: ([.methodLink RX11 52 yX11_many, .instanceMethod yX11_many, .selects RX11 yX11_many yX11_many, .initialized RX11, .code yX11_many cX11_many 1 (some .int), .fieldLink RX11 7 "EggSpoonsModel" "all" "[I", .methodLink RX11 56 yX11_in, .static yX11_in, .code yX11_in cX11_in 6 (some .boolean)] ++ wsX110)
def wsX11_isKind : List Cond := .code yX11_isKind cX11_isKind 1 (some .boolean) :: ([.constantLong RX11 60 (5), .methodLink RX11 56 yX11_in, .static yX11_in, .initialized RX11, .code yX11_in cX11_in 6 (some .boolean)])
def wsX11_isLegs : List Cond := .code yX11_isLegs cX11_isLegs 1 (some .boolean) :: ([.constantLong RX11 62 (9), .methodLink RX11 56 yX11_in, .static yX11_in, .initialized RX11, .code yX11_in cX11_in 6 (some .boolean)])
def wsX11_isSpeed : List Cond := .code yX11_isSpeed cX11_isSpeed 1 (some .boolean) :: ([.constantLong RX11 62 (9), .methodLink RX11 56 yX11_in, .static yX11_in, .initialized RX11, .code yX11_in cX11_in 6 (some .boolean)])
def wsX11_race : List Cond := .code yX11_race cX11_race 3 (some .int) :: ([.constantLong RX11 64 (10), .constantLong RX11 66 (60), .fieldLink RX11 7 "EggSpoonsModel" "all" "[I", .methodLink RX11 56 yX11_in, .static yX11_in, .initialized RX11, .code yX11_in cX11_in 6 (some .boolean), .methodLink RX11 68 yX11_bad, .instanceMethod yX11_bad, .selects RX11 yX11_bad yX11_bad, .code yX11_bad cX11_bad 2 (some .int), .fieldLink RX11 20 "EggSpoonsModel" "refused" "[I", .methodLink RX11 52 yX11_many, .instanceMethod yX11_many, .selects RX11 yX11_many yX11_many, .code yX11_many cX11_many 1 (some .int), .methodLink RX11 48 yX11_begin, .static yX11_begin, .code yX11_begin cX11_begin 3 none] ++ wsX110)
def wsX11_layOne : List Cond := .code yX11_layOne cX11_layOne 5 none :: ([])
def wsX11_one_r1 : List Cond := [Cond.fieldLink RX11 7 "EggSpoonsModel" "all" "[I", Cond.methodLink RX11 72 yX11_isKind, Cond.static yX11_isKind, Cond.initialized RX11, Cond.code yX11_isKind cX11_isKind 1 (some .boolean), Cond.constantLong RX11 60 (5), Cond.methodLink RX11 56 yX11_in, Cond.static yX11_in, Cond.code yX11_in cX11_in 6 (some .boolean), Cond.methodLink RX11 76 yX11_isLegs, Cond.static yX11_isLegs, Cond.code yX11_isLegs cX11_isLegs 1 (some .boolean), Cond.constantLong RX11 62 (9), Cond.methodLink RX11 68 yX11_bad, Cond.instanceMethod yX11_bad, Cond.selects RX11 yX11_bad yX11_bad, Cond.code yX11_bad cX11_bad 2 (some .int), Cond.fieldLink RX11 20 "EggSpoonsModel" "refused" "[I", Cond.methodLink RX11 52 yX11_many, Cond.instanceMethod yX11_many, Cond.selects RX11 yX11_many yX11_many, Cond.code yX11_many cX11_many 1 (some .int), Cond.methodLink RX11 79 yX11_full, Cond.instanceMethod yX11_full]
def wsX11_one_r2 : List Cond := [Cond.selects RX11 yX11_full yX11_full, Cond.code yX11_full cX11_full 1 (some .int), Cond.methodLink RX11 82 yX11_layOne, Cond.static yX11_layOne, Cond.code yX11_layOne cX11_layOne 5 none]
def wsX11_one : List Cond := .code yX11_one cX11_one 4 (some .int) :: ((wsX11_one_r1 ++ wsX11_one_r2) ++ wsX110)
def wsX11_runsAs : List Cond := .code yX11_runsAs cX11_runsAs 7 (some .int) :: ([])
def wsX11_mayAs : List Cond := .code yX11_mayAs cX11_mayAs 3 (some .int) :: ([])
def wsX11_runsOf : List Cond := .code yX11_runsOf cX11_runsOf 3 (some .int) :: ([.methodLink RX11 86 yX11_runsAs, .static yX11_runsAs, .initialized RX11, .code yX11_runsAs cX11_runsAs 7 (some .int)])
def wsX11_isHome : List Cond := .code yX11_isHome cX11_isHome 2 (some .boolean) :: ([])
def wsX11_drop : List Cond := .code yX11_drop cX11_drop 2 none :: ([])
def wsX11_goOne : List Cond := .code yX11_goOne cX11_goOne 5 none :: ([.methodLink RX11 90 yX11_runsOf, .static yX11_runsOf, .initialized RX11, .code yX11_runsOf cX11_runsOf 3 (some .int), .methodLink RX11 86 yX11_runsAs, .static yX11_runsAs, .code yX11_runsAs cX11_runsAs 7 (some .int), .methodLink RX11 94 yX11_mayAs, .static yX11_mayAs, .code yX11_mayAs cX11_mayAs 3 (some .int), .methodLink RX11 98 yX11_drop, .static yX11_drop, .code yX11_drop cX11_drop 2 none])
def wsX11_goTick : List Cond := .code yX11_goTick cX11_goTick 2 none :: ([.methodLink RX11 101 yX11_isHome, .static yX11_isHome, .initialized RX11, .code yX11_isHome cX11_isHome 2 (some .boolean), .methodLink RX11 105 yX11_goOne, .static yX11_goOne, .code yX11_goOne cX11_goOne 5 none, .methodLink RX11 90 yX11_runsOf, .static yX11_runsOf, .code yX11_runsOf cX11_runsOf 3 (some .int), .methodLink RX11 86 yX11_runsAs, .static yX11_runsAs, .code yX11_runsAs cX11_runsAs 7 (some .int), .methodLink RX11 94 yX11_mayAs, .static yX11_mayAs, .code yX11_mayAs cX11_mayAs 3 (some .int), .methodLink RX11 98 yX11_drop, .static yX11_drop, .code yX11_drop cX11_drop 2 none])
def wsX11_goTicks : List Cond := .code yX11_goTicks cX11_goTicks 3 none :: ([.methodLink RX11 109 yX11_goTick, .static yX11_goTick, .initialized RX11, .code yX11_goTick cX11_goTick 2 none, .methodLink RX11 101 yX11_isHome, .static yX11_isHome, .code yX11_isHome cX11_isHome 2 (some .boolean), .methodLink RX11 105 yX11_goOne, .static yX11_goOne, .code yX11_goOne cX11_goOne 5 none, .methodLink RX11 90 yX11_runsOf, .static yX11_runsOf, .code yX11_runsOf cX11_runsOf 3 (some .int), .methodLink RX11 86 yX11_runsAs, .static yX11_runsAs, .code yX11_runsAs cX11_runsAs 7 (some .int), .methodLink RX11 94 yX11_mayAs, .static yX11_mayAs, .code yX11_mayAs cX11_mayAs 3 (some .int), .methodLink RX11 98 yX11_drop, .static yX11_drop, .code yX11_drop cX11_drop 2 none])
def wsX11_manyHome : List Cond := .code yX11_manyHome cX11_manyHome 3 (some .int) :: ([.methodLink RX11 101 yX11_isHome, .static yX11_isHome, .initialized RX11, .code yX11_isHome cX11_isHome 2 (some .boolean)])
def wsX11_save : List Cond := .code yX11_save cX11_save 2 none :: ([.fieldLink RX11 7 "EggSpoonsModel" "all" "[I"] ++ wsX110)
def wsX11_ticks_r1 : List Cond := [Cond.constantLong RX11 66 (60), Cond.fieldLink RX11 7 "EggSpoonsModel" "all" "[I", Cond.methodLink RX11 56 yX11_in, Cond.static yX11_in, Cond.initialized RX11, Cond.code yX11_in cX11_in 6 (some .boolean), Cond.methodLink RX11 68 yX11_bad, Cond.instanceMethod yX11_bad, Cond.selects RX11 yX11_bad yX11_bad, Cond.code yX11_bad cX11_bad 2 (some .int), Cond.fieldLink RX11 20 "EggSpoonsModel" "refused" "[I", Cond.methodLink RX11 113 yX11_save, Cond.instanceMethod yX11_save, Cond.selects RX11 yX11_save yX11_save, Cond.code yX11_save cX11_save 2 none, Cond.methodLink RX11 116 yX11_goTicks, Cond.static yX11_goTicks, Cond.code yX11_goTicks cX11_goTicks 3 none, Cond.methodLink RX11 109 yX11_goTick, Cond.static yX11_goTick, Cond.code yX11_goTick cX11_goTick 2 none, Cond.methodLink RX11 101 yX11_isHome, Cond.static yX11_isHome, Cond.code yX11_isHome cX11_isHome 2 (some .boolean)]
def wsX11_ticks_r2 : List Cond := [Cond.methodLink RX11 105 yX11_goOne, Cond.static yX11_goOne, Cond.code yX11_goOne cX11_goOne 5 none, Cond.methodLink RX11 90 yX11_runsOf, Cond.static yX11_runsOf, Cond.code yX11_runsOf cX11_runsOf 3 (some .int), Cond.methodLink RX11 86 yX11_runsAs, Cond.static yX11_runsAs, Cond.code yX11_runsAs cX11_runsAs 7 (some .int), Cond.methodLink RX11 94 yX11_mayAs, Cond.static yX11_mayAs, Cond.code yX11_mayAs cX11_mayAs 3 (some .int), Cond.methodLink RX11 98 yX11_drop, Cond.static yX11_drop, Cond.code yX11_drop cX11_drop 2 none, Cond.methodLink RX11 119 yX11_manyHome, Cond.static yX11_manyHome, Cond.code yX11_manyHome cX11_manyHome 3 (some .int)]
def wsX11_ticks : List Cond := .code yX11_ticks cX11_ticks 2 (some .int) :: ((wsX11_ticks_r1 ++ wsX11_ticks_r2) ++ wsX110)
def wsX11_speed_r1 : List Cond := [Cond.fieldLink RX11 7 "EggSpoonsModel" "all" "[I", Cond.methodLink RX11 123 yX11_isOne, Cond.instanceMethod yX11_isOne, Cond.selects RX11 yX11_isOne yX11_isOne, Cond.initialized RX11, Cond.code yX11_isOne cX11_isOne 2 (some .boolean), Cond.methodLink RX11 52 yX11_many, Cond.instanceMethod yX11_many, Cond.selects RX11 yX11_many yX11_many, Cond.code yX11_many cX11_many 1 (some .int), Cond.methodLink RX11 56 yX11_in, Cond.static yX11_in, Cond.code yX11_in cX11_in 6 (some .boolean), Cond.methodLink RX11 126 yX11_isSpeed, Cond.static yX11_isSpeed, Cond.code yX11_isSpeed cX11_isSpeed 1 (some .boolean), Cond.constantLong RX11 62 (9), Cond.methodLink RX11 68 yX11_bad, Cond.instanceMethod yX11_bad, Cond.selects RX11 yX11_bad yX11_bad, Cond.code yX11_bad cX11_bad 2 (some .int), Cond.fieldLink RX11 20 "EggSpoonsModel" "refused" "[I", Cond.methodLink RX11 101 yX11_isHome, Cond.static yX11_isHome]
def wsX11_speed_r2 : List Cond := [Cond.code yX11_isHome cX11_isHome 2 (some .boolean), Cond.methodLink RX11 129 yX11_no, Cond.instanceMethod yX11_no, Cond.selects RX11 yX11_no yX11_no, Cond.code yX11_no cX11_no 1 (some .int), Cond.methodLink RX11 113 yX11_save, Cond.instanceMethod yX11_save, Cond.selects RX11 yX11_save yX11_save, Cond.code yX11_save cX11_save 2 none]
def wsX11_speed : List Cond := .code yX11_speed cX11_speed 4 (some .int) :: ((wsX11_speed_r1 ++ wsX11_speed_r2) ++ wsX110)
def wsX11_start_r1 : List Cond := [Cond.constantLong RX11 132 (30), Cond.fieldLink RX11 7 "EggSpoonsModel" "all" "[I", Cond.methodLink RX11 123 yX11_isOne, Cond.instanceMethod yX11_isOne, Cond.selects RX11 yX11_isOne yX11_isOne, Cond.initialized RX11, Cond.code yX11_isOne cX11_isOne 2 (some .boolean), Cond.methodLink RX11 52 yX11_many, Cond.instanceMethod yX11_many, Cond.selects RX11 yX11_many yX11_many, Cond.code yX11_many cX11_many 1 (some .int), Cond.methodLink RX11 56 yX11_in, Cond.static yX11_in, Cond.code yX11_in cX11_in 6 (some .boolean), Cond.methodLink RX11 68 yX11_bad, Cond.instanceMethod yX11_bad, Cond.selects RX11 yX11_bad yX11_bad, Cond.code yX11_bad cX11_bad 2 (some .int), Cond.fieldLink RX11 20 "EggSpoonsModel" "refused" "[I", Cond.methodLink RX11 101 yX11_isHome, Cond.static yX11_isHome, Cond.code yX11_isHome cX11_isHome 2 (some .boolean), Cond.methodLink RX11 129 yX11_no, Cond.instanceMethod yX11_no]
def wsX11_start_r2 : List Cond := [Cond.selects RX11 yX11_no yX11_no, Cond.code yX11_no cX11_no 1 (some .int), Cond.methodLink RX11 113 yX11_save, Cond.instanceMethod yX11_save, Cond.selects RX11 yX11_save yX11_save, Cond.code yX11_save cX11_save 2 none]
def wsX11_start : List Cond := .code yX11_start cX11_start 3 (some .int) :: ((wsX11_start_r1 ++ wsX11_start_r2) ++ wsX110)
def wsX11_undo : List Cond := .code yX11_undo cX11_undo 2 (some .int) :: ([.fieldLink RX11 7 "EggSpoonsModel" "all" "[I", .methodLink RX11 129 yX11_no, .instanceMethod yX11_no, .selects RX11 yX11_no yX11_no, .initialized RX11, .code yX11_no cX11_no 1 (some .int), .fieldLink RX11 20 "EggSpoonsModel" "refused" "[I"] ++ wsX110)
def wsX11_toldOf : List Cond := .code yX11_toldOf cX11_toldOf 3 (some .int) :: ([.fieldLink RX11 7 "EggSpoonsModel" "all" "[I", .methodLink RX11 101 yX11_isHome, .static yX11_isHome, .initialized RX11, .code yX11_isHome cX11_isHome 2 (some .boolean), .methodLink RX11 90 yX11_runsOf, .static yX11_runsOf, .code yX11_runsOf cX11_runsOf 3 (some .int), .methodLink RX11 86 yX11_runsAs, .static yX11_runsAs, .code yX11_runsAs cX11_runsAs 7 (some .int), .methodLink RX11 94 yX11_mayAs, .static yX11_mayAs, .code yX11_mayAs cX11_mayAs 3 (some .int)] ++ wsX110)
def wsX11_of_r1 : List Cond := [Cond.constantLong RX11 62 (9), Cond.methodLink RX11 123 yX11_isOne, Cond.instanceMethod yX11_isOne, Cond.selects RX11 yX11_isOne yX11_isOne, Cond.initialized RX11, Cond.code yX11_isOne cX11_isOne 2 (some .boolean), Cond.methodLink RX11 52 yX11_many, Cond.instanceMethod yX11_many, Cond.selects RX11 yX11_many yX11_many, Cond.code yX11_many cX11_many 1 (some .int), Cond.fieldLink RX11 7 "EggSpoonsModel" "all" "[I", Cond.methodLink RX11 56 yX11_in, Cond.static yX11_in, Cond.code yX11_in cX11_in 6 (some .boolean), Cond.methodLink RX11 134 yX11_toldOf, Cond.instanceMethod yX11_toldOf, Cond.selects RX11 yX11_toldOf yX11_toldOf, Cond.code yX11_toldOf cX11_toldOf 3 (some .int), Cond.methodLink RX11 101 yX11_isHome, Cond.static yX11_isHome, Cond.code yX11_isHome cX11_isHome 2 (some .boolean), Cond.methodLink RX11 90 yX11_runsOf, Cond.static yX11_runsOf, Cond.code yX11_runsOf cX11_runsOf 3 (some .int)]
def wsX11_of_r2 : List Cond := [Cond.methodLink RX11 86 yX11_runsAs, Cond.static yX11_runsAs, Cond.code yX11_runsAs cX11_runsAs 7 (some .int), Cond.methodLink RX11 94 yX11_mayAs, Cond.static yX11_mayAs, Cond.code yX11_mayAs cX11_mayAs 3 (some .int), Cond.methodLink RX11 68 yX11_bad, Cond.instanceMethod yX11_bad, Cond.selects RX11 yX11_bad yX11_bad, Cond.code yX11_bad cX11_bad 2 (some .int), Cond.fieldLink RX11 20 "EggSpoonsModel" "refused" "[I"]
def wsX11_of : List Cond := .code yX11_of cX11_of 3 (some .int) :: ((wsX11_of_r1 ++ wsX11_of_r2) ++ wsX110)
def wsX11_layHand : List Cond := .code yX11_layHand cX11_layHand 2 none :: ([.fieldLink RX11 27 "EggSpoonsModel" "hand" "[I", .fieldLink RX11 7 "EggSpoonsModel" "all" "[I"] ++ wsX110)
def wsX11_goAhead : List Cond := .code yX11_goAhead cX11_goAhead 3 none :: ([.fieldLink RX11 27 "EggSpoonsModel" "hand" "[I", .methodLink RX11 109 yX11_goTick, .static yX11_goTick, .initialized RX11, .code yX11_goTick cX11_goTick 2 none, .methodLink RX11 101 yX11_isHome, .static yX11_isHome, .code yX11_isHome cX11_isHome 2 (some .boolean), .methodLink RX11 105 yX11_goOne, .static yX11_goOne, .code yX11_goOne cX11_goOne 5 none, .methodLink RX11 90 yX11_runsOf, .static yX11_runsOf, .code yX11_runsOf cX11_runsOf 3 (some .int), .methodLink RX11 86 yX11_runsAs, .static yX11_runsAs, .code yX11_runsAs cX11_runsAs 7 (some .int), .methodLink RX11 94 yX11_mayAs, .static yX11_mayAs, .code yX11_mayAs cX11_mayAs 3 (some .int), .methodLink RX11 98 yX11_drop, .static yX11_drop, .code yX11_drop cX11_drop 2 none] ++ wsX110)
def wsX11_where_r1 : List Cond := [Cond.constantLong RX11 66 (60), Cond.fieldLink RX11 27 "EggSpoonsModel" "hand" "[I", Cond.methodLink RX11 123 yX11_isOne, Cond.instanceMethod yX11_isOne, Cond.selects RX11 yX11_isOne yX11_isOne, Cond.initialized RX11, Cond.code yX11_isOne cX11_isOne 2 (some .boolean), Cond.methodLink RX11 52 yX11_many, Cond.instanceMethod yX11_many, Cond.selects RX11 yX11_many yX11_many, Cond.code yX11_many cX11_many 1 (some .int), Cond.fieldLink RX11 7 "EggSpoonsModel" "all" "[I", Cond.methodLink RX11 56 yX11_in, Cond.static yX11_in, Cond.code yX11_in cX11_in 6 (some .boolean), Cond.methodLink RX11 68 yX11_bad, Cond.instanceMethod yX11_bad, Cond.selects RX11 yX11_bad yX11_bad, Cond.code yX11_bad cX11_bad 2 (some .int), Cond.fieldLink RX11 20 "EggSpoonsModel" "refused" "[I", Cond.methodLink RX11 137 yX11_layHand, Cond.instanceMethod yX11_layHand, Cond.selects RX11 yX11_layHand yX11_layHand, Cond.code yX11_layHand cX11_layHand 2 none]
def wsX11_where_r2 : List Cond := [Cond.methodLink RX11 140 yX11_goAhead, Cond.instanceMethod yX11_goAhead, Cond.selects RX11 yX11_goAhead yX11_goAhead, Cond.code yX11_goAhead cX11_goAhead 3 none, Cond.methodLink RX11 109 yX11_goTick, Cond.static yX11_goTick, Cond.code yX11_goTick cX11_goTick 2 none, Cond.methodLink RX11 101 yX11_isHome, Cond.static yX11_isHome, Cond.code yX11_isHome cX11_isHome 2 (some .boolean), Cond.methodLink RX11 105 yX11_goOne, Cond.static yX11_goOne, Cond.code yX11_goOne cX11_goOne 5 none, Cond.methodLink RX11 90 yX11_runsOf, Cond.static yX11_runsOf, Cond.code yX11_runsOf cX11_runsOf 3 (some .int), Cond.methodLink RX11 86 yX11_runsAs, Cond.static yX11_runsAs, Cond.code yX11_runsAs cX11_runsAs 7 (some .int), Cond.methodLink RX11 94 yX11_mayAs, Cond.static yX11_mayAs, Cond.code yX11_mayAs cX11_mayAs 3 (some .int), Cond.methodLink RX11 98 yX11_drop, Cond.static yX11_drop]
def wsX11_where_r3 : List Cond := [Cond.code yX11_drop cX11_drop 2 none]
def wsX11_where : List Cond := .code yX11_where cX11_where 3 (some .int) :: ((wsX11_where_r1 ++ (wsX11_where_r2 ++ wsX11_where_r3)) ++ wsX110)
def wsX11_homeAtHand : List Cond := .code yX11_homeAtHand cX11_homeAtHand 4 (some .int) :: ([.fieldLink RX11 27 "EggSpoonsModel" "hand" "[I", .methodLink RX11 101 yX11_isHome, .static yX11_isHome, .initialized RX11, .code yX11_isHome cX11_isHome 2 (some .boolean), .methodLink RX11 109 yX11_goTick, .static yX11_goTick, .code yX11_goTick cX11_goTick 2 none, .methodLink RX11 105 yX11_goOne, .static yX11_goOne, .code yX11_goOne cX11_goOne 5 none, .methodLink RX11 90 yX11_runsOf, .static yX11_runsOf, .code yX11_runsOf cX11_runsOf 3 (some .int), .methodLink RX11 86 yX11_runsAs, .static yX11_runsAs, .code yX11_runsAs cX11_runsAs 7 (some .int), .methodLink RX11 94 yX11_mayAs, .static yX11_mayAs, .code yX11_mayAs cX11_mayAs 3 (some .int), .methodLink RX11 98 yX11_drop, .static yX11_drop, .code yX11_drop cX11_drop 2 none] ++ wsX110)
def wsX11_homeOf_r1 : List Cond := [Cond.methodLink RX11 137 yX11_layHand, Cond.instanceMethod yX11_layHand, Cond.selects RX11 yX11_layHand yX11_layHand, Cond.initialized RX11, Cond.code yX11_layHand cX11_layHand 2 none, Cond.fieldLink RX11 27 "EggSpoonsModel" "hand" "[I", Cond.fieldLink RX11 7 "EggSpoonsModel" "all" "[I", Cond.methodLink RX11 144 yX11_homeAtHand, Cond.instanceMethod yX11_homeAtHand, Cond.selects RX11 yX11_homeAtHand yX11_homeAtHand, Cond.code yX11_homeAtHand cX11_homeAtHand 4 (some .int), Cond.methodLink RX11 101 yX11_isHome, Cond.static yX11_isHome, Cond.code yX11_isHome cX11_isHome 2 (some .boolean), Cond.methodLink RX11 109 yX11_goTick, Cond.static yX11_goTick, Cond.code yX11_goTick cX11_goTick 2 none, Cond.methodLink RX11 105 yX11_goOne, Cond.static yX11_goOne, Cond.code yX11_goOne cX11_goOne 5 none, Cond.methodLink RX11 90 yX11_runsOf, Cond.static yX11_runsOf, Cond.code yX11_runsOf cX11_runsOf 3 (some .int), Cond.methodLink RX11 86 yX11_runsAs]
def wsX11_homeOf_r2 : List Cond := [Cond.static yX11_runsAs, Cond.code yX11_runsAs cX11_runsAs 7 (some .int), Cond.methodLink RX11 94 yX11_mayAs, Cond.static yX11_mayAs, Cond.code yX11_mayAs cX11_mayAs 3 (some .int), Cond.methodLink RX11 98 yX11_drop, Cond.static yX11_drop, Cond.code yX11_drop cX11_drop 2 none]
def wsX11_homeOf : List Cond := .code yX11_homeOf cX11_homeOf 2 (some .int) :: ((wsX11_homeOf_r1 ++ wsX11_homeOf_r2) ++ wsX110)
def wsX11_home_r1 : List Cond := [Cond.methodLink RX11 123 yX11_isOne, Cond.instanceMethod yX11_isOne, Cond.selects RX11 yX11_isOne yX11_isOne, Cond.initialized RX11, Cond.code yX11_isOne cX11_isOne 2 (some .boolean), Cond.methodLink RX11 52 yX11_many, Cond.instanceMethod yX11_many, Cond.selects RX11 yX11_many yX11_many, Cond.code yX11_many cX11_many 1 (some .int), Cond.fieldLink RX11 7 "EggSpoonsModel" "all" "[I", Cond.methodLink RX11 56 yX11_in, Cond.static yX11_in, Cond.code yX11_in cX11_in 6 (some .boolean), Cond.methodLink RX11 147 yX11_homeOf, Cond.instanceMethod yX11_homeOf, Cond.selects RX11 yX11_homeOf yX11_homeOf, Cond.code yX11_homeOf cX11_homeOf 2 (some .int), Cond.methodLink RX11 137 yX11_layHand, Cond.instanceMethod yX11_layHand, Cond.selects RX11 yX11_layHand yX11_layHand, Cond.code yX11_layHand cX11_layHand 2 none, Cond.fieldLink RX11 27 "EggSpoonsModel" "hand" "[I", Cond.methodLink RX11 144 yX11_homeAtHand, Cond.instanceMethod yX11_homeAtHand]
def wsX11_home_r2 : List Cond := [Cond.selects RX11 yX11_homeAtHand yX11_homeAtHand, Cond.code yX11_homeAtHand cX11_homeAtHand 4 (some .int), Cond.methodLink RX11 101 yX11_isHome, Cond.static yX11_isHome, Cond.code yX11_isHome cX11_isHome 2 (some .boolean), Cond.methodLink RX11 109 yX11_goTick, Cond.static yX11_goTick, Cond.code yX11_goTick cX11_goTick 2 none, Cond.methodLink RX11 105 yX11_goOne, Cond.static yX11_goOne, Cond.code yX11_goOne cX11_goOne 5 none, Cond.methodLink RX11 90 yX11_runsOf, Cond.static yX11_runsOf, Cond.code yX11_runsOf cX11_runsOf 3 (some .int), Cond.methodLink RX11 86 yX11_runsAs, Cond.static yX11_runsAs, Cond.code yX11_runsAs cX11_runsAs 7 (some .int), Cond.methodLink RX11 94 yX11_mayAs, Cond.static yX11_mayAs, Cond.code yX11_mayAs cX11_mayAs 3 (some .int), Cond.methodLink RX11 98 yX11_drop, Cond.static yX11_drop, Cond.code yX11_drop cX11_drop 2 none, Cond.methodLink RX11 68 yX11_bad]
def wsX11_home_r3 : List Cond := [Cond.instanceMethod yX11_bad, Cond.selects RX11 yX11_bad yX11_bad, Cond.code yX11_bad cX11_bad 2 (some .int), Cond.fieldLink RX11 20 "EggSpoonsModel" "refused" "[I"]
def wsX11_home : List Cond := .code yX11_home cX11_home 2 (some .int) :: ((wsX11_home_r1 ++ (wsX11_home_r2 ++ wsX11_home_r3)) ++ wsX110)
def wsX11_first_r1 : List Cond := [Cond.constant RX11 150 (1000000), Cond.fieldLink RX11 7 "EggSpoonsModel" "all" "[I", Cond.methodLink RX11 52 yX11_many, Cond.instanceMethod yX11_many, Cond.selects RX11 yX11_many yX11_many, Cond.initialized RX11, Cond.code yX11_many cX11_many 1 (some .int), Cond.methodLink RX11 101 yX11_isHome, Cond.static yX11_isHome, Cond.code yX11_isHome cX11_isHome 2 (some .boolean), Cond.methodLink RX11 147 yX11_homeOf, Cond.instanceMethod yX11_homeOf, Cond.selects RX11 yX11_homeOf yX11_homeOf, Cond.code yX11_homeOf cX11_homeOf 2 (some .int), Cond.methodLink RX11 137 yX11_layHand, Cond.instanceMethod yX11_layHand, Cond.selects RX11 yX11_layHand yX11_layHand, Cond.code yX11_layHand cX11_layHand 2 none, Cond.fieldLink RX11 27 "EggSpoonsModel" "hand" "[I", Cond.methodLink RX11 144 yX11_homeAtHand, Cond.instanceMethod yX11_homeAtHand, Cond.selects RX11 yX11_homeAtHand yX11_homeAtHand, Cond.code yX11_homeAtHand cX11_homeAtHand 4 (some .int), Cond.methodLink RX11 109 yX11_goTick]
def wsX11_first_r2 : List Cond := [Cond.static yX11_goTick, Cond.code yX11_goTick cX11_goTick 2 none, Cond.methodLink RX11 105 yX11_goOne, Cond.static yX11_goOne, Cond.code yX11_goOne cX11_goOne 5 none, Cond.methodLink RX11 90 yX11_runsOf, Cond.static yX11_runsOf, Cond.code yX11_runsOf cX11_runsOf 3 (some .int), Cond.methodLink RX11 86 yX11_runsAs, Cond.static yX11_runsAs, Cond.code yX11_runsAs cX11_runsAs 7 (some .int), Cond.methodLink RX11 94 yX11_mayAs, Cond.static yX11_mayAs, Cond.code yX11_mayAs cX11_mayAs 3 (some .int), Cond.methodLink RX11 98 yX11_drop, Cond.static yX11_drop, Cond.code yX11_drop cX11_drop 2 none]
def wsX11_first : List Cond := .code yX11_first cX11_first 5 (some .int) :: ((wsX11_first_r1 ++ wsX11_first_r2) ++ wsX110)
def wsX11_order_r1 : List Cond := [Cond.fieldLink RX11 30 "EggSpoonsModel" "goesBy" "[I", Cond.fieldLink RX11 7 "EggSpoonsModel" "all" "[I", Cond.constant RX11 151 (2000000), Cond.constant RX11 150 (1000000), Cond.methodLink RX11 68 yX11_bad, Cond.instanceMethod yX11_bad, Cond.selects RX11 yX11_bad yX11_bad, Cond.initialized RX11, Cond.code yX11_bad cX11_bad 2 (some .int), Cond.fieldLink RX11 20 "EggSpoonsModel" "refused" "[I", Cond.methodLink RX11 52 yX11_many, Cond.instanceMethod yX11_many, Cond.selects RX11 yX11_many yX11_many, Cond.code yX11_many cX11_many 1 (some .int), Cond.methodLink RX11 129 yX11_no, Cond.instanceMethod yX11_no, Cond.selects RX11 yX11_no yX11_no, Cond.code yX11_no cX11_no 1 (some .int), Cond.methodLink RX11 147 yX11_homeOf, Cond.instanceMethod yX11_homeOf, Cond.selects RX11 yX11_homeOf yX11_homeOf, Cond.code yX11_homeOf cX11_homeOf 2 (some .int), Cond.methodLink RX11 137 yX11_layHand, Cond.instanceMethod yX11_layHand]
def wsX11_order_r2 : List Cond := [Cond.selects RX11 yX11_layHand yX11_layHand, Cond.code yX11_layHand cX11_layHand 2 none, Cond.fieldLink RX11 27 "EggSpoonsModel" "hand" "[I", Cond.methodLink RX11 144 yX11_homeAtHand, Cond.instanceMethod yX11_homeAtHand, Cond.selects RX11 yX11_homeAtHand yX11_homeAtHand, Cond.code yX11_homeAtHand cX11_homeAtHand 4 (some .int), Cond.methodLink RX11 101 yX11_isHome, Cond.static yX11_isHome, Cond.code yX11_isHome cX11_isHome 2 (some .boolean), Cond.methodLink RX11 109 yX11_goTick, Cond.static yX11_goTick, Cond.code yX11_goTick cX11_goTick 2 none, Cond.methodLink RX11 105 yX11_goOne, Cond.static yX11_goOne, Cond.code yX11_goOne cX11_goOne 5 none, Cond.methodLink RX11 90 yX11_runsOf, Cond.static yX11_runsOf, Cond.code yX11_runsOf cX11_runsOf 3 (some .int), Cond.methodLink RX11 86 yX11_runsAs, Cond.static yX11_runsAs, Cond.code yX11_runsAs cX11_runsAs 7 (some .int), Cond.methodLink RX11 94 yX11_mayAs, Cond.static yX11_mayAs]
def wsX11_order_r3 : List Cond := [Cond.code yX11_mayAs cX11_mayAs 3 (some .int), Cond.methodLink RX11 98 yX11_drop, Cond.static yX11_drop, Cond.code yX11_drop cX11_drop 2 none]
def wsX11_order : List Cond := .code yX11_order cX11_order 5 (some .int) :: ((wsX11_order_r1 ++ (wsX11_order_r2 ++ wsX11_order_r3)) ++ wsX110)
def wsX11_best_r1 : List Cond := [Cond.constant RX11 150 (1000000), Cond.fieldLink RX11 7 "EggSpoonsModel" "all" "[I", Cond.fieldLink RX11 27 "EggSpoonsModel" "hand" "[I", Cond.methodLink RX11 123 yX11_isOne, Cond.instanceMethod yX11_isOne, Cond.selects RX11 yX11_isOne yX11_isOne, Cond.initialized RX11, Cond.code yX11_isOne cX11_isOne 2 (some .boolean), Cond.methodLink RX11 52 yX11_many, Cond.instanceMethod yX11_many, Cond.selects RX11 yX11_many yX11_many, Cond.code yX11_many cX11_many 1 (some .int), Cond.methodLink RX11 56 yX11_in, Cond.static yX11_in, Cond.code yX11_in cX11_in 6 (some .boolean), Cond.methodLink RX11 68 yX11_bad, Cond.instanceMethod yX11_bad, Cond.selects RX11 yX11_bad yX11_bad, Cond.code yX11_bad cX11_bad 2 (some .int), Cond.fieldLink RX11 20 "EggSpoonsModel" "refused" "[I", Cond.methodLink RX11 101 yX11_isHome, Cond.static yX11_isHome, Cond.code yX11_isHome cX11_isHome 2 (some .boolean), Cond.methodLink RX11 137 yX11_layHand]
def wsX11_best_r2 : List Cond := [Cond.instanceMethod yX11_layHand, Cond.selects RX11 yX11_layHand yX11_layHand, Cond.code yX11_layHand cX11_layHand 2 none, Cond.methodLink RX11 144 yX11_homeAtHand, Cond.instanceMethod yX11_homeAtHand, Cond.selects RX11 yX11_homeAtHand yX11_homeAtHand, Cond.code yX11_homeAtHand cX11_homeAtHand 4 (some .int), Cond.methodLink RX11 109 yX11_goTick, Cond.static yX11_goTick, Cond.code yX11_goTick cX11_goTick 2 none, Cond.methodLink RX11 105 yX11_goOne, Cond.static yX11_goOne, Cond.code yX11_goOne cX11_goOne 5 none, Cond.methodLink RX11 90 yX11_runsOf, Cond.static yX11_runsOf, Cond.code yX11_runsOf cX11_runsOf 3 (some .int), Cond.methodLink RX11 86 yX11_runsAs, Cond.static yX11_runsAs, Cond.code yX11_runsAs cX11_runsAs 7 (some .int), Cond.methodLink RX11 94 yX11_mayAs, Cond.static yX11_mayAs, Cond.code yX11_mayAs cX11_mayAs 3 (some .int), Cond.methodLink RX11 98 yX11_drop, Cond.static yX11_drop]
def wsX11_best_r3 : List Cond := [Cond.code yX11_drop cX11_drop 2 none]
def wsX11_best : List Cond := .code yX11_best cX11_best 7 (some .int) :: ((wsX11_best_r1 ++ (wsX11_best_r2 ++ wsX11_best_r3)) ++ wsX110)
def wsX11_turn_r1 : List Cond := [Cond.constant RX11 150 (1000000), Cond.fieldLink RX11 7 "EggSpoonsModel" "all" "[I", Cond.fieldLink RX11 27 "EggSpoonsModel" "hand" "[I", Cond.methodLink RX11 123 yX11_isOne, Cond.instanceMethod yX11_isOne, Cond.selects RX11 yX11_isOne yX11_isOne, Cond.initialized RX11, Cond.code yX11_isOne cX11_isOne 2 (some .boolean), Cond.methodLink RX11 52 yX11_many, Cond.instanceMethod yX11_many, Cond.selects RX11 yX11_many yX11_many, Cond.code yX11_many cX11_many 1 (some .int), Cond.methodLink RX11 56 yX11_in, Cond.static yX11_in, Cond.code yX11_in cX11_in 6 (some .boolean), Cond.methodLink RX11 126 yX11_isSpeed, Cond.static yX11_isSpeed, Cond.code yX11_isSpeed cX11_isSpeed 1 (some .boolean), Cond.constantLong RX11 62 (9), Cond.methodLink RX11 68 yX11_bad, Cond.instanceMethod yX11_bad, Cond.selects RX11 yX11_bad yX11_bad, Cond.code yX11_bad cX11_bad 2 (some .int), Cond.fieldLink RX11 20 "EggSpoonsModel" "refused" "[I"]
def wsX11_turn_r2 : List Cond := [Cond.methodLink RX11 101 yX11_isHome, Cond.static yX11_isHome, Cond.code yX11_isHome cX11_isHome 2 (some .boolean), Cond.methodLink RX11 137 yX11_layHand, Cond.instanceMethod yX11_layHand, Cond.selects RX11 yX11_layHand yX11_layHand, Cond.code yX11_layHand cX11_layHand 2 none, Cond.methodLink RX11 144 yX11_homeAtHand, Cond.instanceMethod yX11_homeAtHand, Cond.selects RX11 yX11_homeAtHand yX11_homeAtHand, Cond.code yX11_homeAtHand cX11_homeAtHand 4 (some .int), Cond.methodLink RX11 109 yX11_goTick, Cond.static yX11_goTick, Cond.code yX11_goTick cX11_goTick 2 none, Cond.methodLink RX11 105 yX11_goOne, Cond.static yX11_goOne, Cond.code yX11_goOne cX11_goOne 5 none, Cond.methodLink RX11 90 yX11_runsOf, Cond.static yX11_runsOf, Cond.code yX11_runsOf cX11_runsOf 3 (some .int), Cond.methodLink RX11 86 yX11_runsAs, Cond.static yX11_runsAs, Cond.code yX11_runsAs cX11_runsAs 7 (some .int), Cond.methodLink RX11 94 yX11_mayAs]
def wsX11_turn_r3 : List Cond := [Cond.static yX11_mayAs, Cond.code yX11_mayAs cX11_mayAs 3 (some .int), Cond.methodLink RX11 98 yX11_drop, Cond.static yX11_drop, Cond.code yX11_drop cX11_drop 2 none, Cond.methodLink RX11 140 yX11_goAhead, Cond.instanceMethod yX11_goAhead, Cond.selects RX11 yX11_goAhead yX11_goAhead, Cond.code yX11_goAhead cX11_goAhead 3 none]
def wsX11_turn : List Cond := .code yX11_turn cX11_turn 8 (some .int) :: ((wsX11_turn_r1 ++ (wsX11_turn_r2 ++ wsX11_turn_r3)) ++ wsX110)
def wsX11_beats_r1 : List Cond := [Cond.fieldLink RX11 7 "EggSpoonsModel" "all" "[I", Cond.fieldLink RX11 27 "EggSpoonsModel" "hand" "[I", Cond.methodLink RX11 123 yX11_isOne, Cond.instanceMethod yX11_isOne, Cond.selects RX11 yX11_isOne yX11_isOne, Cond.initialized RX11, Cond.code yX11_isOne cX11_isOne 2 (some .boolean), Cond.methodLink RX11 52 yX11_many, Cond.instanceMethod yX11_many, Cond.selects RX11 yX11_many yX11_many, Cond.code yX11_many cX11_many 1 (some .int), Cond.methodLink RX11 56 yX11_in, Cond.static yX11_in, Cond.code yX11_in cX11_in 6 (some .boolean), Cond.methodLink RX11 68 yX11_bad, Cond.instanceMethod yX11_bad, Cond.selects RX11 yX11_bad yX11_bad, Cond.code yX11_bad cX11_bad 2 (some .int), Cond.fieldLink RX11 20 "EggSpoonsModel" "refused" "[I", Cond.methodLink RX11 147 yX11_homeOf, Cond.instanceMethod yX11_homeOf, Cond.selects RX11 yX11_homeOf yX11_homeOf, Cond.code yX11_homeOf cX11_homeOf 2 (some .int), Cond.methodLink RX11 137 yX11_layHand]
def wsX11_beats_r2 : List Cond := [Cond.instanceMethod yX11_layHand, Cond.selects RX11 yX11_layHand yX11_layHand, Cond.code yX11_layHand cX11_layHand 2 none, Cond.methodLink RX11 144 yX11_homeAtHand, Cond.instanceMethod yX11_homeAtHand, Cond.selects RX11 yX11_homeAtHand yX11_homeAtHand, Cond.code yX11_homeAtHand cX11_homeAtHand 4 (some .int), Cond.methodLink RX11 101 yX11_isHome, Cond.static yX11_isHome, Cond.code yX11_isHome cX11_isHome 2 (some .boolean), Cond.methodLink RX11 109 yX11_goTick, Cond.static yX11_goTick, Cond.code yX11_goTick cX11_goTick 2 none, Cond.methodLink RX11 105 yX11_goOne, Cond.static yX11_goOne, Cond.code yX11_goOne cX11_goOne 5 none, Cond.methodLink RX11 90 yX11_runsOf, Cond.static yX11_runsOf, Cond.code yX11_runsOf cX11_runsOf 3 (some .int), Cond.methodLink RX11 86 yX11_runsAs, Cond.static yX11_runsAs, Cond.code yX11_runsAs cX11_runsAs 7 (some .int), Cond.methodLink RX11 94 yX11_mayAs, Cond.static yX11_mayAs]
def wsX11_beats_r3 : List Cond := [Cond.code yX11_mayAs cX11_mayAs 3 (some .int), Cond.methodLink RX11 98 yX11_drop, Cond.static yX11_drop, Cond.code yX11_drop cX11_drop 2 none]
def wsX11_beats : List Cond := .code yX11_beats cX11_beats 6 (some .int) :: ((wsX11_beats_r1 ++ (wsX11_beats_r2 ++ wsX11_beats_r3)) ++ wsX110)
def wsX11_close_r1 : List Cond := [Cond.constant RX11 150 (1000000), Cond.fieldLink RX11 27 "EggSpoonsModel" "hand" "[I", Cond.methodLink RX11 123 yX11_isOne, Cond.instanceMethod yX11_isOne, Cond.selects RX11 yX11_isOne yX11_isOne, Cond.initialized RX11, Cond.code yX11_isOne cX11_isOne 2 (some .boolean), Cond.methodLink RX11 52 yX11_many, Cond.instanceMethod yX11_many, Cond.selects RX11 yX11_many yX11_many, Cond.code yX11_many cX11_many 1 (some .int), Cond.fieldLink RX11 7 "EggSpoonsModel" "all" "[I", Cond.methodLink RX11 56 yX11_in, Cond.static yX11_in, Cond.code yX11_in cX11_in 6 (some .boolean), Cond.methodLink RX11 68 yX11_bad, Cond.instanceMethod yX11_bad, Cond.selects RX11 yX11_bad yX11_bad, Cond.code yX11_bad cX11_bad 2 (some .int), Cond.fieldLink RX11 20 "EggSpoonsModel" "refused" "[I", Cond.methodLink RX11 137 yX11_layHand, Cond.instanceMethod yX11_layHand, Cond.selects RX11 yX11_layHand yX11_layHand, Cond.code yX11_layHand cX11_layHand 2 none]
def wsX11_close_r2 : List Cond := [Cond.methodLink RX11 109 yX11_goTick, Cond.static yX11_goTick, Cond.code yX11_goTick cX11_goTick 2 none, Cond.methodLink RX11 101 yX11_isHome, Cond.static yX11_isHome, Cond.code yX11_isHome cX11_isHome 2 (some .boolean), Cond.methodLink RX11 105 yX11_goOne, Cond.static yX11_goOne, Cond.code yX11_goOne cX11_goOne 5 none, Cond.methodLink RX11 90 yX11_runsOf, Cond.static yX11_runsOf, Cond.code yX11_runsOf cX11_runsOf 3 (some .int), Cond.methodLink RX11 86 yX11_runsAs, Cond.static yX11_runsAs, Cond.code yX11_runsAs cX11_runsAs 7 (some .int), Cond.methodLink RX11 94 yX11_mayAs, Cond.static yX11_mayAs, Cond.code yX11_mayAs cX11_mayAs 3 (some .int), Cond.methodLink RX11 98 yX11_drop, Cond.static yX11_drop, Cond.code yX11_drop cX11_drop 2 none]
def wsX11_close : List Cond := .code yX11_close cX11_close 8 (some .int) :: ((wsX11_close_r1 ++ wsX11_close_r2) ++ wsX110)
def wsX11_seen_r1 : List Cond := [Cond.constantLong RX11 152 (99), Cond.constantLong RX11 154 (15), Cond.fieldLink RX11 7 "EggSpoonsModel" "all" "[I", Cond.methodLink RX11 123 yX11_isOne, Cond.instanceMethod yX11_isOne, Cond.selects RX11 yX11_isOne yX11_isOne, Cond.initialized RX11, Cond.code yX11_isOne cX11_isOne 2 (some .boolean), Cond.methodLink RX11 52 yX11_many, Cond.instanceMethod yX11_many, Cond.selects RX11 yX11_many yX11_many, Cond.code yX11_many cX11_many 1 (some .int), Cond.methodLink RX11 56 yX11_in, Cond.static yX11_in, Cond.code yX11_in cX11_in 6 (some .boolean), Cond.methodLink RX11 126 yX11_isSpeed, Cond.static yX11_isSpeed, Cond.code yX11_isSpeed cX11_isSpeed 1 (some .boolean), Cond.constantLong RX11 62 (9), Cond.methodLink RX11 68 yX11_bad, Cond.instanceMethod yX11_bad, Cond.selects RX11 yX11_bad yX11_bad, Cond.code yX11_bad cX11_bad 2 (some .int), Cond.fieldLink RX11 20 "EggSpoonsModel" "refused" "[I"]
def wsX11_seen_r2 : List Cond := [Cond.methodLink RX11 79 yX11_full, Cond.instanceMethod yX11_full, Cond.selects RX11 yX11_full yX11_full, Cond.code yX11_full cX11_full 1 (some .int)]
def wsX11_seen : List Cond := .code yX11_seen cX11_seen 6 (some .int) :: ((wsX11_seen_r1 ++ wsX11_seen_r2) ++ wsX110)
def wsX11_legsOf : List Cond := .code yX11_legsOf cX11_legsOf 7 (some .int) :: ([.fieldLink RX11 7 "EggSpoonsModel" "all" "[I", .methodLink RX11 86 yX11_runsAs, .static yX11_runsAs, .initialized RX11, .code yX11_runsAs cX11_runsAs 7 (some .int)] ++ wsX110)
def wsX11_strong_r1 : List Cond := [Cond.constantLong RX11 156 (2), Cond.methodLink RX11 123 yX11_isOne, Cond.instanceMethod yX11_isOne, Cond.selects RX11 yX11_isOne yX11_isOne, Cond.initialized RX11, Cond.code yX11_isOne cX11_isOne 2 (some .boolean), Cond.methodLink RX11 52 yX11_many, Cond.instanceMethod yX11_many, Cond.selects RX11 yX11_many yX11_many, Cond.code yX11_many cX11_many 1 (some .int), Cond.fieldLink RX11 7 "EggSpoonsModel" "all" "[I", Cond.methodLink RX11 56 yX11_in, Cond.static yX11_in, Cond.code yX11_in cX11_in 6 (some .boolean), Cond.methodLink RX11 68 yX11_bad, Cond.instanceMethod yX11_bad, Cond.selects RX11 yX11_bad yX11_bad, Cond.code yX11_bad cX11_bad 2 (some .int), Cond.fieldLink RX11 20 "EggSpoonsModel" "refused" "[I", Cond.methodLink RX11 158 yX11_legsOf, Cond.instanceMethod yX11_legsOf, Cond.selects RX11 yX11_legsOf yX11_legsOf, Cond.code yX11_legsOf cX11_legsOf 7 (some .int), Cond.methodLink RX11 86 yX11_runsAs]
def wsX11_strong_r2 : List Cond := [Cond.static yX11_runsAs, Cond.code yX11_runsAs cX11_runsAs 7 (some .int), Cond.methodLink RX11 161 yX11_has, Cond.static yX11_has, Cond.code yX11_has cX11_has 2 (some .boolean)]
def wsX11_strong : List Cond := .code yX11_strong cX11_strong 8 (some .int) :: ((wsX11_strong_r1 ++ wsX11_strong_r2) ++ wsX110)
def wsX11_mostAlike : List Cond := .code yX11_mostAlike cX11_mostAlike 6 (some .int) :: ([.fieldLink RX11 33 "EggSpoonsModel" "tells" "[I", .methodLink RX11 161 yX11_has, .static yX11_has, .initialized RX11, .code yX11_has cX11_has 2 (some .boolean)] ++ wsX110)
def wsX11_tell_r1 : List Cond := [Cond.constant RX11 150 (1000000), Cond.fieldLink RX11 33 "EggSpoonsModel" "tells" "[I", Cond.fieldLink RX11 7 "EggSpoonsModel" "all" "[I", Cond.methodLink RX11 123 yX11_isOne, Cond.instanceMethod yX11_isOne, Cond.selects RX11 yX11_isOne yX11_isOne, Cond.initialized RX11, Cond.code yX11_isOne cX11_isOne 2 (some .boolean), Cond.methodLink RX11 52 yX11_many, Cond.instanceMethod yX11_many, Cond.selects RX11 yX11_many yX11_many, Cond.code yX11_many cX11_many 1 (some .int), Cond.methodLink RX11 56 yX11_in, Cond.static yX11_in, Cond.code yX11_in cX11_in 6 (some .boolean), Cond.methodLink RX11 68 yX11_bad, Cond.instanceMethod yX11_bad, Cond.selects RX11 yX11_bad yX11_bad, Cond.code yX11_bad cX11_bad 2 (some .int), Cond.fieldLink RX11 20 "EggSpoonsModel" "refused" "[I", Cond.methodLink RX11 158 yX11_legsOf, Cond.instanceMethod yX11_legsOf, Cond.selects RX11 yX11_legsOf yX11_legsOf, Cond.code yX11_legsOf cX11_legsOf 7 (some .int)]
def wsX11_tell_r2 : List Cond := [Cond.methodLink RX11 86 yX11_runsAs, Cond.static yX11_runsAs, Cond.code yX11_runsAs cX11_runsAs 7 (some .int), Cond.methodLink RX11 165 yX11_mostAlike, Cond.instanceMethod yX11_mostAlike, Cond.selects RX11 yX11_mostAlike yX11_mostAlike, Cond.code yX11_mostAlike cX11_mostAlike 6 (some .int), Cond.methodLink RX11 161 yX11_has, Cond.static yX11_has, Cond.code yX11_has cX11_has 2 (some .boolean)]
def wsX11_tell : List Cond := .code yX11_tell cX11_tell 7 (some .int) :: ((wsX11_tell_r1 ++ wsX11_tell_r2) ++ wsX110)
def wsX11_note_r1 : List Cond := [Cond.constantLong RX11 152 (99), Cond.constantLong RX11 154 (15), Cond.fieldLink RX11 7 "EggSpoonsModel" "all" "[I", Cond.methodLink RX11 123 yX11_isOne, Cond.instanceMethod yX11_isOne, Cond.selects RX11 yX11_isOne yX11_isOne, Cond.initialized RX11, Cond.code yX11_isOne cX11_isOne 2 (some .boolean), Cond.methodLink RX11 52 yX11_many, Cond.instanceMethod yX11_many, Cond.selects RX11 yX11_many yX11_many, Cond.code yX11_many cX11_many 1 (some .int), Cond.methodLink RX11 56 yX11_in, Cond.static yX11_in, Cond.code yX11_in cX11_in 6 (some .boolean), Cond.methodLink RX11 76 yX11_isLegs, Cond.static yX11_isLegs, Cond.code yX11_isLegs cX11_isLegs 1 (some .boolean), Cond.constantLong RX11 62 (9), Cond.methodLink RX11 126 yX11_isSpeed, Cond.static yX11_isSpeed, Cond.code yX11_isSpeed cX11_isSpeed 1 (some .boolean), Cond.methodLink RX11 68 yX11_bad, Cond.instanceMethod yX11_bad]
def wsX11_note_r2 : List Cond := [Cond.selects RX11 yX11_bad yX11_bad, Cond.code yX11_bad cX11_bad 2 (some .int), Cond.fieldLink RX11 20 "EggSpoonsModel" "refused" "[I", Cond.methodLink RX11 79 yX11_full, Cond.instanceMethod yX11_full, Cond.selects RX11 yX11_full yX11_full, Cond.code yX11_full cX11_full 1 (some .int)]
def wsX11_note : List Cond := .code yX11_note cX11_note 7 (some .int) :: ((wsX11_note_r1 ++ wsX11_note_r2) ++ wsX110)
def wsX11_mark : List Cond := .code yX11_mark cX11_mark 5 (some .int) :: ([.constantLong RX11 152 (99), .constantLong RX11 154 (15), .fieldLink RX11 7 "EggSpoonsModel" "all" "[I", .methodLink RX11 123 yX11_isOne, .instanceMethod yX11_isOne, .selects RX11 yX11_isOne yX11_isOne, .initialized RX11, .code yX11_isOne cX11_isOne 2 (some .boolean), .methodLink RX11 52 yX11_many, .instanceMethod yX11_many, .selects RX11 yX11_many yX11_many, .code yX11_many cX11_many 1 (some .int), .methodLink RX11 56 yX11_in, .static yX11_in, .code yX11_in cX11_in 6 (some .boolean), .methodLink RX11 68 yX11_bad, .instanceMethod yX11_bad, .selects RX11 yX11_bad yX11_bad, .code yX11_bad cX11_bad 2 (some .int), .fieldLink RX11 20 "EggSpoonsModel" "refused" "[I", .methodLink RX11 79 yX11_full, .instanceMethod yX11_full, .selects RX11 yX11_full yX11_full, .code yX11_full cX11_full 1 (some .int)] ++ wsX110)
def wsX11_forget : List Cond := .code yX11_forget cX11_forget 3 (some .int) :: ([.constantLong RX11 156 (2), .fieldLink RX11 7 "EggSpoonsModel" "all" "[I", .methodLink RX11 56 yX11_in, .static yX11_in, .initialized RX11, .code yX11_in cX11_in 6 (some .boolean), .methodLink RX11 68 yX11_bad, .instanceMethod yX11_bad, .selects RX11 yX11_bad yX11_bad, .code yX11_bad cX11_bad 2 (some .int), .fieldLink RX11 20 "EggSpoonsModel" "refused" "[I"] ++ wsX110)
def wsX11_kindsOfOne : List Cond := .code yX11_kindsOfOne cX11_kindsOfOne 7 (some .int) :: ([.fieldLink RX11 7 "EggSpoonsModel" "all" "[I", .methodLink RX11 86 yX11_runsAs, .static yX11_runsAs, .initialized RX11, .code yX11_runsAs cX11_runsAs 7 (some .int)] ++ wsX110)
def wsX11_kindsOfEgg : List Cond := .code yX11_kindsOfEgg cX11_kindsOfEgg 7 (some .int) :: ([.fieldLink RX11 7 "EggSpoonsModel" "all" "[I", .methodLink RX11 94 yX11_mayAs, .static yX11_mayAs, .initialized RX11, .code yX11_mayAs cX11_mayAs 3 (some .int)] ++ wsX110)
def wsX11_is_r1 : List Cond := [Cond.methodLink RX11 123 yX11_isOne, Cond.instanceMethod yX11_isOne, Cond.selects RX11 yX11_isOne yX11_isOne, Cond.initialized RX11, Cond.code yX11_isOne cX11_isOne 2 (some .boolean), Cond.methodLink RX11 52 yX11_many, Cond.instanceMethod yX11_many, Cond.selects RX11 yX11_many yX11_many, Cond.code yX11_many cX11_many 1 (some .int), Cond.fieldLink RX11 7 "EggSpoonsModel" "all" "[I", Cond.methodLink RX11 56 yX11_in, Cond.static yX11_in, Cond.code yX11_in cX11_in 6 (some .boolean), Cond.methodLink RX11 168 yX11_kindsOfOne, Cond.instanceMethod yX11_kindsOfOne, Cond.selects RX11 yX11_kindsOfOne yX11_kindsOfOne, Cond.code yX11_kindsOfOne cX11_kindsOfOne 7 (some .int), Cond.methodLink RX11 86 yX11_runsAs, Cond.static yX11_runsAs, Cond.code yX11_runsAs cX11_runsAs 7 (some .int), Cond.methodLink RX11 68 yX11_bad, Cond.instanceMethod yX11_bad, Cond.selects RX11 yX11_bad yX11_bad, Cond.code yX11_bad cX11_bad 2 (some .int)]
def wsX11_is_r2 : List Cond := [Cond.fieldLink RX11 20 "EggSpoonsModel" "refused" "[I"]
def wsX11_is : List Cond := .code yX11_is cX11_is 2 (some .int) :: ((wsX11_is_r1 ++ wsX11_is_r2) ++ wsX110)
def wsX11_look_r1 : List Cond := [Cond.constant RX11 150 (1000000), Cond.fieldLink RX11 33 "EggSpoonsModel" "tells" "[I", Cond.fieldLink RX11 7 "EggSpoonsModel" "all" "[I", Cond.methodLink RX11 123 yX11_isOne, Cond.instanceMethod yX11_isOne, Cond.selects RX11 yX11_isOne yX11_isOne, Cond.initialized RX11, Cond.code yX11_isOne cX11_isOne 2 (some .boolean), Cond.methodLink RX11 52 yX11_many, Cond.instanceMethod yX11_many, Cond.selects RX11 yX11_many yX11_many, Cond.code yX11_many cX11_many 1 (some .int), Cond.methodLink RX11 56 yX11_in, Cond.static yX11_in, Cond.code yX11_in cX11_in 6 (some .boolean), Cond.methodLink RX11 68 yX11_bad, Cond.instanceMethod yX11_bad, Cond.selects RX11 yX11_bad yX11_bad, Cond.code yX11_bad cX11_bad 2 (some .int), Cond.fieldLink RX11 20 "EggSpoonsModel" "refused" "[I", Cond.methodLink RX11 168 yX11_kindsOfOne, Cond.instanceMethod yX11_kindsOfOne, Cond.selects RX11 yX11_kindsOfOne yX11_kindsOfOne, Cond.code yX11_kindsOfOne cX11_kindsOfOne 7 (some .int)]
def wsX11_look_r2 : List Cond := [Cond.methodLink RX11 86 yX11_runsAs, Cond.static yX11_runsAs, Cond.code yX11_runsAs cX11_runsAs 7 (some .int), Cond.methodLink RX11 165 yX11_mostAlike, Cond.instanceMethod yX11_mostAlike, Cond.selects RX11 yX11_mostAlike yX11_mostAlike, Cond.code yX11_mostAlike cX11_mostAlike 6 (some .int), Cond.methodLink RX11 161 yX11_has, Cond.static yX11_has, Cond.code yX11_has cX11_has 2 (some .boolean)]
def wsX11_look : List Cond := .code yX11_look cX11_look 7 (some .int) :: ((wsX11_look_r1 ++ wsX11_look_r2) ++ wsX110)
def wsX11_kinds_r1 : List Cond := [Cond.methodLink RX11 123 yX11_isOne, Cond.instanceMethod yX11_isOne, Cond.selects RX11 yX11_isOne yX11_isOne, Cond.initialized RX11, Cond.code yX11_isOne cX11_isOne 2 (some .boolean), Cond.methodLink RX11 52 yX11_many, Cond.instanceMethod yX11_many, Cond.selects RX11 yX11_many yX11_many, Cond.code yX11_many cX11_many 1 (some .int), Cond.fieldLink RX11 7 "EggSpoonsModel" "all" "[I", Cond.methodLink RX11 56 yX11_in, Cond.static yX11_in, Cond.code yX11_in cX11_in 6 (some .boolean), Cond.methodLink RX11 171 yX11_kindsOfEgg, Cond.instanceMethod yX11_kindsOfEgg, Cond.selects RX11 yX11_kindsOfEgg yX11_kindsOfEgg, Cond.code yX11_kindsOfEgg cX11_kindsOfEgg 7 (some .int), Cond.methodLink RX11 94 yX11_mayAs, Cond.static yX11_mayAs, Cond.code yX11_mayAs cX11_mayAs 3 (some .int), Cond.methodLink RX11 68 yX11_bad, Cond.instanceMethod yX11_bad, Cond.selects RX11 yX11_bad yX11_bad, Cond.code yX11_bad cX11_bad 2 (some .int)]
def wsX11_kinds_r2 : List Cond := [Cond.fieldLink RX11 20 "EggSpoonsModel" "refused" "[I"]
def wsX11_kinds : List Cond := .code yX11_kinds cX11_kinds 2 (some .int) :: ((wsX11_kinds_r1 ++ wsX11_kinds_r2) ++ wsX110)
def wsX11_ask_r1 : List Cond := [Cond.constant RX11 150 (1000000), Cond.fieldLink RX11 33 "EggSpoonsModel" "tells" "[I", Cond.methodLink RX11 123 yX11_isOne, Cond.instanceMethod yX11_isOne, Cond.selects RX11 yX11_isOne yX11_isOne, Cond.initialized RX11, Cond.code yX11_isOne cX11_isOne 2 (some .boolean), Cond.methodLink RX11 52 yX11_many, Cond.instanceMethod yX11_many, Cond.selects RX11 yX11_many yX11_many, Cond.code yX11_many cX11_many 1 (some .int), Cond.fieldLink RX11 7 "EggSpoonsModel" "all" "[I", Cond.methodLink RX11 56 yX11_in, Cond.static yX11_in, Cond.code yX11_in cX11_in 6 (some .boolean), Cond.methodLink RX11 68 yX11_bad, Cond.instanceMethod yX11_bad, Cond.selects RX11 yX11_bad yX11_bad, Cond.code yX11_bad cX11_bad 2 (some .int), Cond.fieldLink RX11 20 "EggSpoonsModel" "refused" "[I", Cond.methodLink RX11 171 yX11_kindsOfEgg, Cond.instanceMethod yX11_kindsOfEgg, Cond.selects RX11 yX11_kindsOfEgg yX11_kindsOfEgg, Cond.code yX11_kindsOfEgg cX11_kindsOfEgg 7 (some .int)]
def wsX11_ask_r2 : List Cond := [Cond.methodLink RX11 94 yX11_mayAs, Cond.static yX11_mayAs, Cond.code yX11_mayAs cX11_mayAs 3 (some .int), Cond.methodLink RX11 165 yX11_mostAlike, Cond.instanceMethod yX11_mostAlike, Cond.selects RX11 yX11_mostAlike yX11_mostAlike, Cond.code yX11_mostAlike cX11_mostAlike 6 (some .int), Cond.methodLink RX11 161 yX11_has, Cond.static yX11_has, Cond.code yX11_has cX11_has 2 (some .boolean)]
def wsX11_ask : List Cond := .code yX11_ask cX11_ask 7 (some .int) :: ((wsX11_ask_r1 ++ wsX11_ask_r2) ++ wsX110)
def wsX11_getsBy : List Cond := .code yX11_getsBy cX11_getsBy 4 (some .int) :: ([])
def wsX11_rests : List Cond := .code yX11_rests cX11_rests 9 (some .boolean) :: ([.fieldLink RX11 36 "EggSpoonsModel" "behindBy" "[I", .fieldLink RX11 7 "EggSpoonsModel" "all" "[I", .methodLink RX11 174 yX11_getsBy, .instanceMethod yX11_getsBy, .selects RX11 yX11_getsBy yX11_getsBy, .initialized RX11, .code yX11_getsBy cX11_getsBy 4 (some .int)] ++ wsX110)
def wsX11_pair_r1 : List Cond := [Cond.fieldLink RX11 27 "EggSpoonsModel" "hand" "[I", Cond.fieldLink RX11 36 "EggSpoonsModel" "behindBy" "[I", Cond.methodLink RX11 123 yX11_isOne, Cond.instanceMethod yX11_isOne, Cond.selects RX11 yX11_isOne yX11_isOne, Cond.initialized RX11, Cond.code yX11_isOne cX11_isOne 2 (some .boolean), Cond.methodLink RX11 52 yX11_many, Cond.instanceMethod yX11_many, Cond.selects RX11 yX11_many yX11_many, Cond.code yX11_many cX11_many 1 (some .int), Cond.fieldLink RX11 7 "EggSpoonsModel" "all" "[I", Cond.methodLink RX11 56 yX11_in, Cond.static yX11_in, Cond.code yX11_in cX11_in 6 (some .boolean), Cond.methodLink RX11 68 yX11_bad, Cond.instanceMethod yX11_bad, Cond.selects RX11 yX11_bad yX11_bad, Cond.code yX11_bad cX11_bad 2 (some .int), Cond.fieldLink RX11 20 "EggSpoonsModel" "refused" "[I", Cond.methodLink RX11 137 yX11_layHand, Cond.instanceMethod yX11_layHand, Cond.selects RX11 yX11_layHand yX11_layHand, Cond.code yX11_layHand cX11_layHand 2 none]
def wsX11_pair_r2 : List Cond := [Cond.methodLink RX11 140 yX11_goAhead, Cond.instanceMethod yX11_goAhead, Cond.selects RX11 yX11_goAhead yX11_goAhead, Cond.code yX11_goAhead cX11_goAhead 3 none, Cond.methodLink RX11 109 yX11_goTick, Cond.static yX11_goTick, Cond.code yX11_goTick cX11_goTick 2 none, Cond.methodLink RX11 101 yX11_isHome, Cond.static yX11_isHome, Cond.code yX11_isHome cX11_isHome 2 (some .boolean), Cond.methodLink RX11 105 yX11_goOne, Cond.static yX11_goOne, Cond.code yX11_goOne cX11_goOne 5 none, Cond.methodLink RX11 90 yX11_runsOf, Cond.static yX11_runsOf, Cond.code yX11_runsOf cX11_runsOf 3 (some .int), Cond.methodLink RX11 86 yX11_runsAs, Cond.static yX11_runsAs, Cond.code yX11_runsAs cX11_runsAs 7 (some .int), Cond.methodLink RX11 94 yX11_mayAs, Cond.static yX11_mayAs, Cond.code yX11_mayAs cX11_mayAs 3 (some .int), Cond.methodLink RX11 98 yX11_drop, Cond.static yX11_drop]
def wsX11_pair_r3 : List Cond := [Cond.code yX11_drop cX11_drop 2 none, Cond.methodLink RX11 178 yX11_rests, Cond.instanceMethod yX11_rests, Cond.selects RX11 yX11_rests yX11_rests, Cond.code yX11_rests cX11_rests 9 (some .boolean), Cond.methodLink RX11 174 yX11_getsBy, Cond.instanceMethod yX11_getsBy, Cond.selects RX11 yX11_getsBy yX11_getsBy, Cond.code yX11_getsBy cX11_getsBy 4 (some .int)]
def wsX11_pair : List Cond := .code yX11_pair cX11_pair 6 (some .int) :: ((wsX11_pair_r1 ++ (wsX11_pair_r2 ++ wsX11_pair_r3)) ++ wsX110)
def wsX11_fraction : List Cond := .code yX11_fraction cX11_fraction 11 none :: ([.fieldLink RX11 182 "EggSpoonsModel" "above" "J", .fieldLink RX11 23 "EggSpoonsModel" "below" "J"] ++ wsX110)
def wsX11_stumble_r1 : List Cond := [Cond.constantLong RX11 66 (60), Cond.constantLong RX11 185 (6), Cond.constantLong RX11 64 (10), Cond.fieldLink RX11 27 "EggSpoonsModel" "hand" "[I", Cond.methodLink RX11 123 yX11_isOne, Cond.instanceMethod yX11_isOne, Cond.selects RX11 yX11_isOne yX11_isOne, Cond.initialized RX11, Cond.code yX11_isOne cX11_isOne 2 (some .boolean), Cond.methodLink RX11 52 yX11_many, Cond.instanceMethod yX11_many, Cond.selects RX11 yX11_many yX11_many, Cond.code yX11_many cX11_many 1 (some .int), Cond.fieldLink RX11 7 "EggSpoonsModel" "all" "[I", Cond.methodLink RX11 56 yX11_in, Cond.static yX11_in, Cond.code yX11_in cX11_in 6 (some .boolean), Cond.methodLink RX11 68 yX11_bad, Cond.instanceMethod yX11_bad, Cond.selects RX11 yX11_bad yX11_bad, Cond.code yX11_bad cX11_bad 2 (some .int), Cond.fieldLink RX11 20 "EggSpoonsModel" "refused" "[I", Cond.methodLink RX11 137 yX11_layHand, Cond.instanceMethod yX11_layHand]
def wsX11_stumble_r2 : List Cond := [Cond.selects RX11 yX11_layHand yX11_layHand, Cond.code yX11_layHand cX11_layHand 2 none, Cond.methodLink RX11 161 yX11_has, Cond.static yX11_has, Cond.code yX11_has cX11_has 2 (some .boolean), Cond.methodLink RX11 101 yX11_isHome, Cond.static yX11_isHome, Cond.code yX11_isHome cX11_isHome 2 (some .boolean), Cond.methodLink RX11 105 yX11_goOne, Cond.static yX11_goOne, Cond.code yX11_goOne cX11_goOne 5 none, Cond.methodLink RX11 90 yX11_runsOf, Cond.static yX11_runsOf, Cond.code yX11_runsOf cX11_runsOf 3 (some .int), Cond.methodLink RX11 86 yX11_runsAs, Cond.static yX11_runsAs, Cond.code yX11_runsAs cX11_runsAs 7 (some .int), Cond.methodLink RX11 94 yX11_mayAs, Cond.static yX11_mayAs, Cond.code yX11_mayAs cX11_mayAs 3 (some .int), Cond.methodLink RX11 98 yX11_drop, Cond.static yX11_drop, Cond.code yX11_drop cX11_drop 2 none, Cond.methodLink RX11 187 yX11_fraction]
def wsX11_stumble_r3 : List Cond := [Cond.instanceMethod yX11_fraction, Cond.selects RX11 yX11_fraction yX11_fraction, Cond.code yX11_fraction cX11_fraction 11 none, Cond.fieldLink RX11 182 "EggSpoonsModel" "above" "J", Cond.fieldLink RX11 23 "EggSpoonsModel" "below" "J"]
def wsX11_stumble : List Cond := .code yX11_stumble cX11_stumble 13 (some .int) :: ((wsX11_stumble_r1 ++ (wsX11_stumble_r2 ++ wsX11_stumble_r3)) ++ wsX110)
def wsX11_races_r1 : List Cond := [Cond.constantLong RX11 191 (999999), Cond.constantLong RX11 66 (60), Cond.constantLong RX11 193 (1103515245), Cond.constantLong RX11 195 (12345), Cond.constantLong RX11 197 (2147483648), Cond.constantLong RX11 199 (65536), Cond.constantLong RX11 185 (6), Cond.fieldLink RX11 27 "EggSpoonsModel" "hand" "[I", Cond.constantLong RX11 201 (1048576), Cond.constantLong RX11 64 (10), Cond.methodLink RX11 56 yX11_in, Cond.static yX11_in, Cond.initialized RX11, Cond.code yX11_in cX11_in 6 (some .boolean), Cond.methodLink RX11 68 yX11_bad, Cond.instanceMethod yX11_bad, Cond.selects RX11 yX11_bad yX11_bad, Cond.code yX11_bad cX11_bad 2 (some .int), Cond.fieldLink RX11 20 "EggSpoonsModel" "refused" "[I", Cond.methodLink RX11 137 yX11_layHand, Cond.instanceMethod yX11_layHand, Cond.selects RX11 yX11_layHand yX11_layHand, Cond.code yX11_layHand cX11_layHand 2 none, Cond.fieldLink RX11 7 "EggSpoonsModel" "all" "[I"]
def wsX11_races_r2 : List Cond := [Cond.methodLink RX11 123 yX11_isOne, Cond.instanceMethod yX11_isOne, Cond.selects RX11 yX11_isOne yX11_isOne, Cond.code yX11_isOne cX11_isOne 2 (some .boolean), Cond.methodLink RX11 52 yX11_many, Cond.instanceMethod yX11_many, Cond.selects RX11 yX11_many yX11_many, Cond.code yX11_many cX11_many 1 (some .int), Cond.methodLink RX11 109 yX11_goTick, Cond.static yX11_goTick, Cond.code yX11_goTick cX11_goTick 2 none, Cond.methodLink RX11 101 yX11_isHome, Cond.static yX11_isHome, Cond.code yX11_isHome cX11_isHome 2 (some .boolean), Cond.methodLink RX11 105 yX11_goOne, Cond.static yX11_goOne, Cond.code yX11_goOne cX11_goOne 5 none, Cond.methodLink RX11 90 yX11_runsOf, Cond.static yX11_runsOf, Cond.code yX11_runsOf cX11_runsOf 3 (some .int), Cond.methodLink RX11 86 yX11_runsAs, Cond.static yX11_runsAs, Cond.code yX11_runsAs cX11_runsAs 7 (some .int), Cond.methodLink RX11 94 yX11_mayAs]
def wsX11_races_r3 : List Cond := [Cond.static yX11_mayAs, Cond.code yX11_mayAs cX11_mayAs 3 (some .int), Cond.methodLink RX11 98 yX11_drop, Cond.static yX11_drop, Cond.code yX11_drop cX11_drop 2 none, Cond.methodLink RX11 119 yX11_manyHome, Cond.static yX11_manyHome, Cond.code yX11_manyHome cX11_manyHome 3 (some .int)]
def wsX11_races : List Cond := .code yX11_races cX11_races 7 (some .int) :: ((wsX11_races_r1 ++ (wsX11_races_r2 ++ wsX11_races_r3)) ++ wsX110)
def wsX11_type : List Cond := .code yX11_type cX11_type 2 (some .int) :: ([.constantLong RX11 203 (127), .fieldLink RX11 205 "EggSpoonsModel" "bytesLong" "I", .fieldLink RX11 39 "EggSpoonsModel" "bytes" "[I", .methodLink RX11 56 yX11_in, .static yX11_in, .initialized RX11, .code yX11_in cX11_in 6 (some .boolean), .methodLink RX11 68 yX11_bad, .instanceMethod yX11_bad, .selects RX11 yX11_bad yX11_bad, .code yX11_bad cX11_bad 2 (some .int), .fieldLink RX11 20 "EggSpoonsModel" "refused" "[I", .methodLink RX11 79 yX11_full, .instanceMethod yX11_full, .selects RX11 yX11_full yX11_full, .code yX11_full cX11_full 1 (some .int)] ++ wsX110)
def wsX11_clear : List Cond := .code yX11_clear cX11_clear 2 (some .int) :: ([.fieldLink RX11 205 "EggSpoonsModel" "bytesLong" "I"] ++ wsX110)
def wsX11_isSmall : List Cond := .code yX11_isSmall cX11_isSmall 1 (some .boolean) :: ([.constantLong RX11 209 (97), .constantLong RX11 211 (122), .methodLink RX11 56 yX11_in, .static yX11_in, .initialized RX11, .code yX11_in cX11_in 6 (some .boolean)])
def wsX11_isFigure : List Cond := .code yX11_isFigure cX11_isFigure 1 (some .boolean) :: ([.constantLong RX11 213 (48), .constantLong RX11 215 (57), .methodLink RX11 56 yX11_in, .static yX11_in, .initialized RX11, .code yX11_in cX11_in 6 (some .boolean)])
def wsX11_lookAt : List Cond := .code yX11_lookAt cX11_lookAt 5 none :: ([.fieldLink RX11 217 "EggSpoonsModel" "tokenAt" "I", .fieldLink RX11 205 "EggSpoonsModel" "bytesLong" "I", .fieldLink RX11 39 "EggSpoonsModel" "bytes" "[I", .fieldLink RX11 220 "EggSpoonsModel" "tokenLong" "I", .fieldLink RX11 223 "EggSpoonsModel" "token" "I", .fieldLink RX11 226 "EggSpoonsModel" "value" "I", .methodLink RX11 229 yX11_isSmall, .static yX11_isSmall, .initialized RX11, .code yX11_isSmall cX11_isSmall 1 (some .boolean), .constantLong RX11 209 (97), .constantLong RX11 211 (122), .methodLink RX11 56 yX11_in, .static yX11_in, .code yX11_in cX11_in 6 (some .boolean), .methodLink RX11 232 yX11_isFigure, .static yX11_isFigure, .code yX11_isFigure cX11_isFigure 1 (some .boolean), .constantLong RX11 213 (48), .constantLong RX11 215 (57)] ++ wsX110)
def wsX11_goBehind : List Cond := .code yX11_goBehind cX11_goBehind 1 none :: ([.fieldLink RX11 217 "EggSpoonsModel" "tokenAt" "I", .fieldLink RX11 220 "EggSpoonsModel" "tokenLong" "I", .methodLink RX11 235 yX11_lookAt, .instanceMethod yX11_lookAt, .selects RX11 yX11_lookAt yX11_lookAt, .initialized RX11, .code yX11_lookAt cX11_lookAt 5 none, .fieldLink RX11 205 "EggSpoonsModel" "bytesLong" "I", .fieldLink RX11 39 "EggSpoonsModel" "bytes" "[I", .fieldLink RX11 223 "EggSpoonsModel" "token" "I", .fieldLink RX11 226 "EggSpoonsModel" "value" "I", .methodLink RX11 229 yX11_isSmall, .static yX11_isSmall, .code yX11_isSmall cX11_isSmall 1 (some .boolean), .constantLong RX11 209 (97), .constantLong RX11 211 (122), .methodLink RX11 56 yX11_in, .static yX11_in, .code yX11_in cX11_in 6 (some .boolean), .methodLink RX11 232 yX11_isFigure, .static yX11_isFigure, .code yX11_isFigure cX11_isFigure 1 (some .boolean), .constantLong RX11 213 (48), .constantLong RX11 215 (57)] ++ wsX110)
def wsX11_spells : List Cond := .code yX11_spells cX11_spells 10 (some .boolean) :: ([.fieldLink RX11 223 "EggSpoonsModel" "token" "I", .fieldLink RX11 220 "EggSpoonsModel" "tokenLong" "I", .fieldLink RX11 39 "EggSpoonsModel" "bytes" "[I", .fieldLink RX11 217 "EggSpoonsModel" "tokenAt" "I"] ++ wsX110)
def wsX11_takes_r1 : List Cond := [Cond.fieldLink RX11 223 "EggSpoonsModel" "token" "I", Cond.fieldLink RX11 226 "EggSpoonsModel" "value" "I", Cond.fieldLink RX11 45 "EggSpoonsModel" "values" "[I", Cond.methodLink RX11 56 yX11_in, Cond.static yX11_in, Cond.initialized RX11, Cond.code yX11_in cX11_in 6 (some .boolean), Cond.methodLink RX11 238 yX11_goBehind, Cond.instanceMethod yX11_goBehind, Cond.selects RX11 yX11_goBehind yX11_goBehind, Cond.code yX11_goBehind cX11_goBehind 1 none, Cond.fieldLink RX11 217 "EggSpoonsModel" "tokenAt" "I", Cond.fieldLink RX11 220 "EggSpoonsModel" "tokenLong" "I", Cond.methodLink RX11 235 yX11_lookAt, Cond.instanceMethod yX11_lookAt, Cond.selects RX11 yX11_lookAt yX11_lookAt, Cond.code yX11_lookAt cX11_lookAt 5 none, Cond.fieldLink RX11 205 "EggSpoonsModel" "bytesLong" "I", Cond.fieldLink RX11 39 "EggSpoonsModel" "bytes" "[I", Cond.methodLink RX11 229 yX11_isSmall, Cond.static yX11_isSmall, Cond.code yX11_isSmall cX11_isSmall 1 (some .boolean), Cond.constantLong RX11 209 (97), Cond.constantLong RX11 211 (122)]
def wsX11_takes_r2 : List Cond := [Cond.methodLink RX11 232 yX11_isFigure, Cond.static yX11_isFigure, Cond.code yX11_isFigure cX11_isFigure 1 (some .boolean), Cond.constantLong RX11 213 (48), Cond.constantLong RX11 215 (57)]
def wsX11_takes : List Cond := .code yX11_takes cX11_takes 4 (some .boolean) :: ((wsX11_takes_r1 ++ wsX11_takes_r2) ++ wsX110)
def wsX11_takesOne_r1 : List Cond := [Cond.fieldLink RX11 42 "EggSpoonsModel" "anew" "[I", Cond.fieldLink RX11 45 "EggSpoonsModel" "values" "[I", Cond.methodLink RX11 238 yX11_goBehind, Cond.instanceMethod yX11_goBehind, Cond.selects RX11 yX11_goBehind yX11_goBehind, Cond.initialized RX11, Cond.code yX11_goBehind cX11_goBehind 1 none, Cond.fieldLink RX11 217 "EggSpoonsModel" "tokenAt" "I", Cond.fieldLink RX11 220 "EggSpoonsModel" "tokenLong" "I", Cond.methodLink RX11 235 yX11_lookAt, Cond.instanceMethod yX11_lookAt, Cond.selects RX11 yX11_lookAt yX11_lookAt, Cond.code yX11_lookAt cX11_lookAt 5 none, Cond.fieldLink RX11 205 "EggSpoonsModel" "bytesLong" "I", Cond.fieldLink RX11 39 "EggSpoonsModel" "bytes" "[I", Cond.fieldLink RX11 223 "EggSpoonsModel" "token" "I", Cond.fieldLink RX11 226 "EggSpoonsModel" "value" "I", Cond.methodLink RX11 229 yX11_isSmall, Cond.static yX11_isSmall, Cond.code yX11_isSmall cX11_isSmall 1 (some .boolean), Cond.constantLong RX11 209 (97), Cond.constantLong RX11 211 (122), Cond.methodLink RX11 56 yX11_in, Cond.static yX11_in]
def wsX11_takesOne_r2 : List Cond := [Cond.code yX11_in cX11_in 6 (some .boolean), Cond.methodLink RX11 232 yX11_isFigure, Cond.static yX11_isFigure, Cond.code yX11_isFigure cX11_isFigure 1 (some .boolean), Cond.constantLong RX11 213 (48), Cond.constantLong RX11 215 (57), Cond.methodLink RX11 241 yX11_takes, Cond.instanceMethod yX11_takes, Cond.selects RX11 yX11_takes yX11_takes, Cond.code yX11_takes cX11_takes 4 (some .boolean), Cond.methodLink RX11 82 yX11_layOne, Cond.static yX11_layOne, Cond.code yX11_layOne cX11_layOne 5 none]
def wsX11_takesOne : List Cond := .code yX11_takesOne cX11_takesOne 1 (some .boolean) :: ((wsX11_takesOne_r1 ++ wsX11_takesOne_r2) ++ wsX110)
def wsX11_takesSpeed_r1 : List Cond := [Cond.fieldLink RX11 42 "EggSpoonsModel" "anew" "[I", Cond.fieldLink RX11 45 "EggSpoonsModel" "values" "[I", Cond.methodLink RX11 238 yX11_goBehind, Cond.instanceMethod yX11_goBehind, Cond.selects RX11 yX11_goBehind yX11_goBehind, Cond.initialized RX11, Cond.code yX11_goBehind cX11_goBehind 1 none, Cond.fieldLink RX11 217 "EggSpoonsModel" "tokenAt" "I", Cond.fieldLink RX11 220 "EggSpoonsModel" "tokenLong" "I", Cond.methodLink RX11 235 yX11_lookAt, Cond.instanceMethod yX11_lookAt, Cond.selects RX11 yX11_lookAt yX11_lookAt, Cond.code yX11_lookAt cX11_lookAt 5 none, Cond.fieldLink RX11 205 "EggSpoonsModel" "bytesLong" "I", Cond.fieldLink RX11 39 "EggSpoonsModel" "bytes" "[I", Cond.fieldLink RX11 223 "EggSpoonsModel" "token" "I", Cond.fieldLink RX11 226 "EggSpoonsModel" "value" "I", Cond.methodLink RX11 229 yX11_isSmall, Cond.static yX11_isSmall, Cond.code yX11_isSmall cX11_isSmall 1 (some .boolean), Cond.constantLong RX11 209 (97), Cond.constantLong RX11 211 (122), Cond.methodLink RX11 56 yX11_in, Cond.static yX11_in]
def wsX11_takesSpeed_r2 : List Cond := [Cond.code yX11_in cX11_in 6 (some .boolean), Cond.methodLink RX11 232 yX11_isFigure, Cond.static yX11_isFigure, Cond.code yX11_isFigure cX11_isFigure 1 (some .boolean), Cond.constantLong RX11 213 (48), Cond.constantLong RX11 215 (57), Cond.methodLink RX11 241 yX11_takes, Cond.instanceMethod yX11_takes, Cond.selects RX11 yX11_takes yX11_takes, Cond.code yX11_takes cX11_takes 4 (some .boolean)]
def wsX11_takesSpeed : List Cond := .code yX11_takesSpeed cX11_takesSpeed 1 (some .boolean) :: ((wsX11_takesSpeed_r1 ++ wsX11_takesSpeed_r2) ++ wsX110)
def wsX11_takesStart_r1 : List Cond := [Cond.fieldLink RX11 223 "EggSpoonsModel" "token" "I", Cond.fieldLink RX11 226 "EggSpoonsModel" "value" "I", Cond.fieldLink RX11 42 "EggSpoonsModel" "anew" "[I", Cond.fieldLink RX11 45 "EggSpoonsModel" "values" "[I", Cond.methodLink RX11 238 yX11_goBehind, Cond.instanceMethod yX11_goBehind, Cond.selects RX11 yX11_goBehind yX11_goBehind, Cond.initialized RX11, Cond.code yX11_goBehind cX11_goBehind 1 none, Cond.fieldLink RX11 217 "EggSpoonsModel" "tokenAt" "I", Cond.fieldLink RX11 220 "EggSpoonsModel" "tokenLong" "I", Cond.methodLink RX11 235 yX11_lookAt, Cond.instanceMethod yX11_lookAt, Cond.selects RX11 yX11_lookAt yX11_lookAt, Cond.code yX11_lookAt cX11_lookAt 5 none, Cond.fieldLink RX11 205 "EggSpoonsModel" "bytesLong" "I", Cond.fieldLink RX11 39 "EggSpoonsModel" "bytes" "[I", Cond.methodLink RX11 229 yX11_isSmall, Cond.static yX11_isSmall, Cond.code yX11_isSmall cX11_isSmall 1 (some .boolean), Cond.constantLong RX11 209 (97), Cond.constantLong RX11 211 (122), Cond.methodLink RX11 56 yX11_in, Cond.static yX11_in]
def wsX11_takesStart_r2 : List Cond := [Cond.code yX11_in cX11_in 6 (some .boolean), Cond.methodLink RX11 232 yX11_isFigure, Cond.static yX11_isFigure, Cond.code yX11_isFigure cX11_isFigure 1 (some .boolean), Cond.constantLong RX11 213 (48), Cond.constantLong RX11 215 (57), Cond.methodLink RX11 101 yX11_isHome, Cond.static yX11_isHome, Cond.code yX11_isHome cX11_isHome 2 (some .boolean), Cond.methodLink RX11 241 yX11_takes, Cond.instanceMethod yX11_takes, Cond.selects RX11 yX11_takes yX11_takes, Cond.code yX11_takes cX11_takes 4 (some .boolean)]
def wsX11_takesStart : List Cond := .code yX11_takesStart cX11_takesStart 2 (some .boolean) :: ((wsX11_takesStart_r1 ++ wsX11_takesStart_r2) ++ wsX110)
def wsX11_takesGo_r1 : List Cond := [Cond.fieldLink RX11 42 "EggSpoonsModel" "anew" "[I", Cond.fieldLink RX11 45 "EggSpoonsModel" "values" "[I", Cond.methodLink RX11 238 yX11_goBehind, Cond.instanceMethod yX11_goBehind, Cond.selects RX11 yX11_goBehind yX11_goBehind, Cond.initialized RX11, Cond.code yX11_goBehind cX11_goBehind 1 none, Cond.fieldLink RX11 217 "EggSpoonsModel" "tokenAt" "I", Cond.fieldLink RX11 220 "EggSpoonsModel" "tokenLong" "I", Cond.methodLink RX11 235 yX11_lookAt, Cond.instanceMethod yX11_lookAt, Cond.selects RX11 yX11_lookAt yX11_lookAt, Cond.code yX11_lookAt cX11_lookAt 5 none, Cond.fieldLink RX11 205 "EggSpoonsModel" "bytesLong" "I", Cond.fieldLink RX11 39 "EggSpoonsModel" "bytes" "[I", Cond.fieldLink RX11 223 "EggSpoonsModel" "token" "I", Cond.fieldLink RX11 226 "EggSpoonsModel" "value" "I", Cond.methodLink RX11 229 yX11_isSmall, Cond.static yX11_isSmall, Cond.code yX11_isSmall cX11_isSmall 1 (some .boolean), Cond.constantLong RX11 209 (97), Cond.constantLong RX11 211 (122), Cond.methodLink RX11 56 yX11_in, Cond.static yX11_in]
def wsX11_takesGo_r2 : List Cond := [Cond.code yX11_in cX11_in 6 (some .boolean), Cond.methodLink RX11 232 yX11_isFigure, Cond.static yX11_isFigure, Cond.code yX11_isFigure cX11_isFigure 1 (some .boolean), Cond.constantLong RX11 213 (48), Cond.constantLong RX11 215 (57), Cond.methodLink RX11 241 yX11_takes, Cond.instanceMethod yX11_takes, Cond.selects RX11 yX11_takes yX11_takes, Cond.code yX11_takes cX11_takes 4 (some .boolean), Cond.methodLink RX11 116 yX11_goTicks, Cond.static yX11_goTicks, Cond.code yX11_goTicks cX11_goTicks 3 none, Cond.methodLink RX11 109 yX11_goTick, Cond.static yX11_goTick, Cond.code yX11_goTick cX11_goTick 2 none, Cond.methodLink RX11 101 yX11_isHome, Cond.static yX11_isHome, Cond.code yX11_isHome cX11_isHome 2 (some .boolean), Cond.methodLink RX11 105 yX11_goOne, Cond.static yX11_goOne, Cond.code yX11_goOne cX11_goOne 5 none, Cond.methodLink RX11 90 yX11_runsOf, Cond.static yX11_runsOf]
def wsX11_takesGo_r3 : List Cond := [Cond.code yX11_runsOf cX11_runsOf 3 (some .int), Cond.methodLink RX11 86 yX11_runsAs, Cond.static yX11_runsAs, Cond.code yX11_runsAs cX11_runsAs 7 (some .int), Cond.methodLink RX11 94 yX11_mayAs, Cond.static yX11_mayAs, Cond.code yX11_mayAs cX11_mayAs 3 (some .int), Cond.methodLink RX11 98 yX11_drop, Cond.static yX11_drop, Cond.code yX11_drop cX11_drop 2 none]
def wsX11_takesGo : List Cond := .code yX11_takesGo cX11_takesGo 1 (some .boolean) :: ((wsX11_takesGo_r1 ++ (wsX11_takesGo_r2 ++ wsX11_takesGo_r3)) ++ wsX110)
def wsX11_takesItem_r1 : List Cond := [Cond.methodLink RX11 245 yX11_spells, Cond.instanceMethod yX11_spells, Cond.selects RX11 yX11_spells yX11_spells, Cond.initialized RX11, Cond.code yX11_spells cX11_spells 10 (some .boolean), Cond.fieldLink RX11 223 "EggSpoonsModel" "token" "I", Cond.fieldLink RX11 220 "EggSpoonsModel" "tokenLong" "I", Cond.fieldLink RX11 39 "EggSpoonsModel" "bytes" "[I", Cond.fieldLink RX11 217 "EggSpoonsModel" "tokenAt" "I", Cond.methodLink RX11 249 yX11_takesOne, Cond.instanceMethod yX11_takesOne, Cond.selects RX11 yX11_takesOne yX11_takesOne, Cond.code yX11_takesOne cX11_takesOne 1 (some .boolean), Cond.fieldLink RX11 42 "EggSpoonsModel" "anew" "[I", Cond.fieldLink RX11 45 "EggSpoonsModel" "values" "[I", Cond.methodLink RX11 238 yX11_goBehind, Cond.instanceMethod yX11_goBehind, Cond.selects RX11 yX11_goBehind yX11_goBehind, Cond.code yX11_goBehind cX11_goBehind 1 none, Cond.methodLink RX11 235 yX11_lookAt, Cond.instanceMethod yX11_lookAt, Cond.selects RX11 yX11_lookAt yX11_lookAt, Cond.code yX11_lookAt cX11_lookAt 5 none, Cond.fieldLink RX11 205 "EggSpoonsModel" "bytesLong" "I"]
def wsX11_takesItem_r2 : List Cond := [Cond.fieldLink RX11 226 "EggSpoonsModel" "value" "I", Cond.methodLink RX11 229 yX11_isSmall, Cond.static yX11_isSmall, Cond.code yX11_isSmall cX11_isSmall 1 (some .boolean), Cond.constantLong RX11 209 (97), Cond.constantLong RX11 211 (122), Cond.methodLink RX11 56 yX11_in, Cond.static yX11_in, Cond.code yX11_in cX11_in 6 (some .boolean), Cond.methodLink RX11 232 yX11_isFigure, Cond.static yX11_isFigure, Cond.code yX11_isFigure cX11_isFigure 1 (some .boolean), Cond.constantLong RX11 213 (48), Cond.constantLong RX11 215 (57), Cond.methodLink RX11 241 yX11_takes, Cond.instanceMethod yX11_takes, Cond.selects RX11 yX11_takes yX11_takes, Cond.code yX11_takes cX11_takes 4 (some .boolean), Cond.methodLink RX11 82 yX11_layOne, Cond.static yX11_layOne, Cond.code yX11_layOne cX11_layOne 5 none, Cond.methodLink RX11 253 yX11_takesSpeed, Cond.instanceMethod yX11_takesSpeed, Cond.selects RX11 yX11_takesSpeed yX11_takesSpeed]
def wsX11_takesItem_r3 : List Cond := [Cond.code yX11_takesSpeed cX11_takesSpeed 1 (some .boolean), Cond.methodLink RX11 256 yX11_takesStart, Cond.instanceMethod yX11_takesStart, Cond.selects RX11 yX11_takesStart yX11_takesStart, Cond.code yX11_takesStart cX11_takesStart 2 (some .boolean), Cond.methodLink RX11 101 yX11_isHome, Cond.static yX11_isHome, Cond.code yX11_isHome cX11_isHome 2 (some .boolean), Cond.methodLink RX11 259 yX11_takesGo, Cond.instanceMethod yX11_takesGo, Cond.selects RX11 yX11_takesGo yX11_takesGo, Cond.code yX11_takesGo cX11_takesGo 1 (some .boolean), Cond.methodLink RX11 116 yX11_goTicks, Cond.static yX11_goTicks, Cond.code yX11_goTicks cX11_goTicks 3 none, Cond.methodLink RX11 109 yX11_goTick, Cond.static yX11_goTick, Cond.code yX11_goTick cX11_goTick 2 none, Cond.methodLink RX11 105 yX11_goOne, Cond.static yX11_goOne, Cond.code yX11_goOne cX11_goOne 5 none, Cond.methodLink RX11 90 yX11_runsOf, Cond.static yX11_runsOf, Cond.code yX11_runsOf cX11_runsOf 3 (some .int)]
def wsX11_takesItem_r4 : List Cond := [Cond.methodLink RX11 86 yX11_runsAs, Cond.static yX11_runsAs, Cond.code yX11_runsAs cX11_runsAs 7 (some .int), Cond.methodLink RX11 94 yX11_mayAs, Cond.static yX11_mayAs, Cond.code yX11_mayAs cX11_mayAs 3 (some .int), Cond.methodLink RX11 98 yX11_drop, Cond.static yX11_drop, Cond.code yX11_drop cX11_drop 2 none]
def wsX11_takesItem : List Cond := .code yX11_takesItem cX11_takesItem 1 (some .boolean) :: ((wsX11_takesItem_r1 ++ (wsX11_takesItem_r2 ++ (wsX11_takesItem_r3 ++ wsX11_takesItem_r4))) ++ wsX110)
def wsX11_read_r1 : List Cond := [Cond.fieldLink RX11 217 "EggSpoonsModel" "tokenAt" "I", Cond.fieldLink RX11 223 "EggSpoonsModel" "token" "I", Cond.fieldLink RX11 42 "EggSpoonsModel" "anew" "[I", Cond.fieldLink RX11 45 "EggSpoonsModel" "values" "[I", Cond.fieldLink RX11 7 "EggSpoonsModel" "all" "[I", Cond.methodLink RX11 235 yX11_lookAt, Cond.instanceMethod yX11_lookAt, Cond.selects RX11 yX11_lookAt yX11_lookAt, Cond.initialized RX11, Cond.code yX11_lookAt cX11_lookAt 5 none, Cond.fieldLink RX11 205 "EggSpoonsModel" "bytesLong" "I", Cond.fieldLink RX11 39 "EggSpoonsModel" "bytes" "[I", Cond.fieldLink RX11 220 "EggSpoonsModel" "tokenLong" "I", Cond.fieldLink RX11 226 "EggSpoonsModel" "value" "I", Cond.methodLink RX11 229 yX11_isSmall, Cond.static yX11_isSmall, Cond.code yX11_isSmall cX11_isSmall 1 (some .boolean), Cond.constantLong RX11 209 (97), Cond.constantLong RX11 211 (122), Cond.methodLink RX11 56 yX11_in, Cond.static yX11_in, Cond.code yX11_in cX11_in 6 (some .boolean), Cond.methodLink RX11 232 yX11_isFigure, Cond.static yX11_isFigure]
def wsX11_read_r2 : List Cond := [Cond.code yX11_isFigure cX11_isFigure 1 (some .boolean), Cond.constantLong RX11 213 (48), Cond.constantLong RX11 215 (57), Cond.methodLink RX11 245 yX11_spells, Cond.instanceMethod yX11_spells, Cond.selects RX11 yX11_spells yX11_spells, Cond.code yX11_spells cX11_spells 10 (some .boolean), Cond.methodLink RX11 238 yX11_goBehind, Cond.instanceMethod yX11_goBehind, Cond.selects RX11 yX11_goBehind yX11_goBehind, Cond.code yX11_goBehind cX11_goBehind 1 none, Cond.methodLink RX11 241 yX11_takes, Cond.instanceMethod yX11_takes, Cond.selects RX11 yX11_takes yX11_takes, Cond.code yX11_takes cX11_takes 4 (some .boolean), Cond.methodLink RX11 48 yX11_begin, Cond.static yX11_begin, Cond.code yX11_begin cX11_begin 3 none, Cond.methodLink RX11 262 yX11_takesItem, Cond.instanceMethod yX11_takesItem, Cond.selects RX11 yX11_takesItem yX11_takesItem, Cond.code yX11_takesItem cX11_takesItem 1 (some .boolean), Cond.methodLink RX11 249 yX11_takesOne, Cond.instanceMethod yX11_takesOne]
def wsX11_read_r3 : List Cond := [Cond.selects RX11 yX11_takesOne yX11_takesOne, Cond.code yX11_takesOne cX11_takesOne 1 (some .boolean), Cond.methodLink RX11 82 yX11_layOne, Cond.static yX11_layOne, Cond.code yX11_layOne cX11_layOne 5 none, Cond.methodLink RX11 253 yX11_takesSpeed, Cond.instanceMethod yX11_takesSpeed, Cond.selects RX11 yX11_takesSpeed yX11_takesSpeed, Cond.code yX11_takesSpeed cX11_takesSpeed 1 (some .boolean), Cond.methodLink RX11 256 yX11_takesStart, Cond.instanceMethod yX11_takesStart, Cond.selects RX11 yX11_takesStart yX11_takesStart, Cond.code yX11_takesStart cX11_takesStart 2 (some .boolean), Cond.methodLink RX11 101 yX11_isHome, Cond.static yX11_isHome, Cond.code yX11_isHome cX11_isHome 2 (some .boolean), Cond.methodLink RX11 259 yX11_takesGo, Cond.instanceMethod yX11_takesGo, Cond.selects RX11 yX11_takesGo yX11_takesGo, Cond.code yX11_takesGo cX11_takesGo 1 (some .boolean), Cond.methodLink RX11 116 yX11_goTicks, Cond.static yX11_goTicks, Cond.code yX11_goTicks cX11_goTicks 3 none, Cond.methodLink RX11 109 yX11_goTick]
def wsX11_read_r4 : List Cond := [Cond.static yX11_goTick, Cond.code yX11_goTick cX11_goTick 2 none, Cond.methodLink RX11 105 yX11_goOne, Cond.static yX11_goOne, Cond.code yX11_goOne cX11_goOne 5 none, Cond.methodLink RX11 90 yX11_runsOf, Cond.static yX11_runsOf, Cond.code yX11_runsOf cX11_runsOf 3 (some .int), Cond.methodLink RX11 86 yX11_runsAs, Cond.static yX11_runsAs, Cond.code yX11_runsAs cX11_runsAs 7 (some .int), Cond.methodLink RX11 94 yX11_mayAs, Cond.static yX11_mayAs, Cond.code yX11_mayAs cX11_mayAs 3 (some .int), Cond.methodLink RX11 98 yX11_drop, Cond.static yX11_drop, Cond.code yX11_drop cX11_drop 2 none]
def wsX11_read : List Cond := .code yX11_read cX11_read 3 (some .int) :: ((wsX11_read_r1 ++ (wsX11_read_r2 ++ (wsX11_read_r3 ++ wsX11_read_r4))) ++ wsX110)
def wsX11_part : List Cond := .code yX11_part cX11_part 2 (some .long) :: ([.fieldLink RX11 182 "EggSpoonsModel" "above" "J", .fieldLink RX11 23 "EggSpoonsModel" "below" "J", .methodLink RX11 68 yX11_bad, .instanceMethod yX11_bad, .selects RX11 yX11_bad yX11_bad, .initialized RX11, .code yX11_bad cX11_bad 2 (some .int), .fieldLink RX11 20 "EggSpoonsModel" "refused" "[I"] ++ wsX110)
def wsX11_image : List Cond := .code yX11_image cX11_image 3 (some .int) :: ([.fieldLink RX11 13 "EggSpoonsModel" "kept" "[I", .fieldLink RX11 7 "EggSpoonsModel" "all" "[I", .fieldLink RX11 16 "EggSpoonsModel" "isKept" "[Z", .methodLink RX11 56 yX11_in, .static yX11_in, .initialized RX11, .code yX11_in cX11_in 6 (some .boolean), .methodLink RX11 68 yX11_bad, .instanceMethod yX11_bad, .selects RX11 yX11_bad yX11_bad, .code yX11_bad cX11_bad 2 (some .int), .fieldLink RX11 20 "EggSpoonsModel" "refused" "[I"] ++ wsX110)
def wsX11_from : List Cond := .code yX11_from cX11_from 3 (some .int) :: ([.fieldLink RX11 16 "EggSpoonsModel" "isKept" "[Z", .fieldLink RX11 7 "EggSpoonsModel" "all" "[I", .fieldLink RX11 13 "EggSpoonsModel" "kept" "[I", .methodLink RX11 56 yX11_in, .static yX11_in, .initialized RX11, .code yX11_in cX11_in 6 (some .boolean), .methodLink RX11 68 yX11_bad, .instanceMethod yX11_bad, .selects RX11 yX11_bad yX11_bad, .code yX11_bad cX11_bad 2 (some .int), .fieldLink RX11 20 "EggSpoonsModel" "refused" "[I", .methodLink RX11 129 yX11_no, .instanceMethod yX11_no, .selects RX11 yX11_no yX11_no, .code yX11_no cX11_no 1 (some .int)] ++ wsX110)
def wsX11_status : List Cond := .code yX11_status cX11_status 2 (some .int) :: ([.constantLong RX11 156 (2), .fieldLink RX11 20 "EggSpoonsModel" "refused" "[I", .methodLink RX11 56 yX11_in, .static yX11_in, .initialized RX11, .code yX11_in cX11_in 6 (some .boolean), .methodLink RX11 68 yX11_bad, .instanceMethod yX11_bad, .selects RX11 yX11_bad yX11_bad, .code yX11_bad cX11_bad 2 (some .int)] ++ wsX110)
def wsX11_sumOf : List Cond := .code yX11_sumOf cX11_sumOf 4 (some .int) :: ([.fieldLink RX11 7 "EggSpoonsModel" "all" "[I", .methodLink RX11 52 yX11_many, .instanceMethod yX11_many, .selects RX11 yX11_many yX11_many, .initialized RX11, .code yX11_many cX11_many 1 (some .int)] ++ wsX110)
def wsX11_counted : List Cond := .code yX11_counted cX11_counted 2 (some .int) :: ([.fieldLink RX11 7 "EggSpoonsModel" "all" "[I", .fieldLink RX11 205 "EggSpoonsModel" "bytesLong" "I", .methodLink RX11 52 yX11_many, .instanceMethod yX11_many, .selects RX11 yX11_many yX11_many, .initialized RX11, .code yX11_many cX11_many 1 (some .int), .methodLink RX11 119 yX11_manyHome, .static yX11_manyHome, .code yX11_manyHome cX11_manyHome 3 (some .int), .methodLink RX11 101 yX11_isHome, .static yX11_isHome, .code yX11_isHome cX11_isHome 2 (some .boolean), .methodLink RX11 265 yX11_sumOf, .instanceMethod yX11_sumOf, .selects RX11 yX11_sumOf yX11_sumOf, .code yX11_sumOf cX11_sumOf 4 (some .int)] ++ wsX110)
def wsX11_count_r1 : List Cond := [Cond.constantLong RX11 64 (10), Cond.methodLink RX11 56 yX11_in, Cond.static yX11_in, Cond.initialized RX11, Cond.code yX11_in cX11_in 6 (some .boolean), Cond.methodLink RX11 268 yX11_counted, Cond.instanceMethod yX11_counted, Cond.selects RX11 yX11_counted yX11_counted, Cond.code yX11_counted cX11_counted 2 (some .int), Cond.fieldLink RX11 7 "EggSpoonsModel" "all" "[I", Cond.fieldLink RX11 205 "EggSpoonsModel" "bytesLong" "I", Cond.methodLink RX11 52 yX11_many, Cond.instanceMethod yX11_many, Cond.selects RX11 yX11_many yX11_many, Cond.code yX11_many cX11_many 1 (some .int), Cond.methodLink RX11 119 yX11_manyHome, Cond.static yX11_manyHome, Cond.code yX11_manyHome cX11_manyHome 3 (some .int), Cond.methodLink RX11 101 yX11_isHome, Cond.static yX11_isHome, Cond.code yX11_isHome cX11_isHome 2 (some .boolean), Cond.methodLink RX11 265 yX11_sumOf, Cond.instanceMethod yX11_sumOf, Cond.selects RX11 yX11_sumOf yX11_sumOf]
def wsX11_count_r2 : List Cond := [Cond.code yX11_sumOf cX11_sumOf 4 (some .int), Cond.methodLink RX11 68 yX11_bad, Cond.instanceMethod yX11_bad, Cond.selects RX11 yX11_bad yX11_bad, Cond.code yX11_bad cX11_bad 2 (some .int), Cond.fieldLink RX11 20 "EggSpoonsModel" "refused" "[I"]
def wsX11_count : List Cond := .code yX11_count cX11_count 2 (some .int) :: ((wsX11_count_r1 ++ wsX11_count_r2) ++ wsX110)
def wsX11_sums : List Cond := .code yX11_sums cX11_sums 8 (some .long) :: ([.constantLong RX11 271 (31), .fieldLink RX11 7 "EggSpoonsModel" "all" "[I"] ++ wsX110)
def wsX11_digest_r1 : List Cond := [Cond.constantLong RX11 273 (1789), Cond.constantLong RX11 271 (31), Cond.fieldLink RX11 7 "EggSpoonsModel" "all" "[I", Cond.fieldLink RX11 182 "EggSpoonsModel" "above" "J", Cond.fieldLink RX11 23 "EggSpoonsModel" "below" "J", Cond.methodLink RX11 268 yX11_counted, Cond.instanceMethod yX11_counted, Cond.selects RX11 yX11_counted yX11_counted, Cond.initialized RX11, Cond.code yX11_counted cX11_counted 2 (some .int), Cond.fieldLink RX11 205 "EggSpoonsModel" "bytesLong" "I", Cond.methodLink RX11 52 yX11_many, Cond.instanceMethod yX11_many, Cond.selects RX11 yX11_many yX11_many, Cond.code yX11_many cX11_many 1 (some .int), Cond.methodLink RX11 119 yX11_manyHome, Cond.static yX11_manyHome, Cond.code yX11_manyHome cX11_manyHome 3 (some .int), Cond.methodLink RX11 101 yX11_isHome, Cond.static yX11_isHome, Cond.code yX11_isHome cX11_isHome 2 (some .boolean), Cond.methodLink RX11 265 yX11_sumOf, Cond.instanceMethod yX11_sumOf, Cond.selects RX11 yX11_sumOf yX11_sumOf]
def wsX11_digest_r2 : List Cond := [Cond.code yX11_sumOf cX11_sumOf 4 (some .int), Cond.methodLink RX11 134 yX11_toldOf, Cond.instanceMethod yX11_toldOf, Cond.selects RX11 yX11_toldOf yX11_toldOf, Cond.code yX11_toldOf cX11_toldOf 3 (some .int), Cond.methodLink RX11 90 yX11_runsOf, Cond.static yX11_runsOf, Cond.code yX11_runsOf cX11_runsOf 3 (some .int), Cond.methodLink RX11 86 yX11_runsAs, Cond.static yX11_runsAs, Cond.code yX11_runsAs cX11_runsAs 7 (some .int), Cond.methodLink RX11 94 yX11_mayAs, Cond.static yX11_mayAs, Cond.code yX11_mayAs cX11_mayAs 3 (some .int), Cond.methodLink RX11 275 yX11_sums, Cond.instanceMethod yX11_sums, Cond.selects RX11 yX11_sums yX11_sums, Cond.code yX11_sums cX11_sums 8 (some .long)]
def wsX11_digest : List Cond := .code yX11_digest cX11_digest 5 (some .long) :: ((wsX11_digest_r1 ++ wsX11_digest_r2) ++ wsX110)
def wsJ9_abs_0f7a4 : List Cond := .code yJ9_abs_0f7a4 cJ9_abs_0f7a4 1 (some .int) :: ([])
def wsJ9_max_7cf53 : List Cond := .code yJ9_max_7cf53 cJ9_max_7cf53 2 (some .int) :: ([])
def wsJ9_min_7cf53 : List Cond := .code yJ9_min_7cf53 cJ9_min_7cf53 2 (some .int) :: ([])
def wsL_law_r1 : List Cond := [Cond.classLink RL 7 RX10, Cond.instantiable RX10 14, Cond.initialized RX10, Cond.classLink RL 10 RX11, Cond.instantiable RX11 18, Cond.initialized RX11, Cond.methodLink RL 9 yX10_init, Cond.instanceMethod yX10_init, Cond.code yX10_init cX10_init 1 none, Cond.methodLink RX10 1 objectInit, Cond.instanceMethod objectInit, Cond.code objectInit ⟨#[0xb1]⟩ 1 none, Cond.classLink RX10 7 RX5, Cond.instantiable RX5 8, Cond.initialized RX5, Cond.fieldLink RX10 10 "EggSpoons" "now" "LEggSpoons$Race;", Cond.fieldLink RX10 16 "EggSpoons" "spare" "LEggSpoons$Race;", Cond.fieldLink RX10 19 "EggSpoons" "images" "[LEggSpoons$Race;", Cond.arrayClass .boolean, Cond.fieldLink RX10 23 "EggSpoons" "imageKept" "[Z", Cond.classLink RX10 27 RX6, Cond.instantiable RX6 7, Cond.initialized RX6, Cond.fieldLink RX10 30 "EggSpoons" "reader" "LEggSpoons$Reader;"]
def wsL_law_r2 : List Cond := [Cond.arrayClass .int, Cond.fieldLink RX10 34 "EggSpoons" "refused" "[I", Cond.fieldLink RX10 38 "EggSpoons" "above" "J", Cond.fieldLink RX10 42 "EggSpoons" "below" "J", Cond.classLink RX10 45 RX8, Cond.instantiable RX8 8, Cond.initialized RX8, Cond.fieldLink RX10 48 "EggSpoons" "ghost" "LEggSpoons$Runner;", Cond.fieldLink RX10 52 "EggSpoons" "rival" "LEggSpoons$Runner;", Cond.classLink RX10 55 RX9, Cond.instantiable RX9 2, Cond.initialized RX9, Cond.fieldLink RX10 58 "EggSpoons" "tally" "LEggSpoons$Tally;", Cond.classLink RX10 62 RX3, Cond.instantiable RX3 8, Cond.initialized RX3, Cond.fieldLink RX10 65 "EggSpoons" "odds" "LEggSpoons$Odds;", Cond.classLink RX10 69 RX0, Cond.instantiable RX0 5, Cond.initialized RX0, Cond.fieldLink RX10 72 "EggSpoons" "duel" "LEggSpoons$Duel;", Cond.fieldLink RX10 76 "EggSpoons" "ranks" "[I", Cond.methodLink RX10 9 yX5_init, Cond.instanceMethod yX5_init]
def wsL_law_r3 : List Cond := [Cond.code yX5_init cX5_init 2 none, Cond.methodLink RX5 3 objectInit, Cond.fieldLink RX5 9 "EggSpoons$Race" "length" "I", Cond.fieldLink RX5 15 "EggSpoons$Race" "tick" "I", Cond.fieldLink RX5 18 "EggSpoons$Race" "runners" "I", Cond.classLink RX5 21 RX8, Cond.fieldLink RX5 23 "EggSpoons$Race" "row" "[LEggSpoons$Runner;", Cond.classLink RX5 27 RX4, Cond.instantiable RX4 2, Cond.initialized RX4, Cond.fieldLink RX5 30 "EggSpoons$Race" "past" "LEggSpoons$Past;", Cond.classLink RX5 34 RX7, Cond.instantiable RX7 5, Cond.initialized RX7, Cond.fieldLink RX5 39 "EggSpoons$Race" "seenRows" "LEggSpoons$Rows;", Cond.fieldLink RX5 43 "EggSpoons$Race" "noteRows" "LEggSpoons$Rows;", Cond.fieldLink RX5 46 "EggSpoons$Race" "markRows" "LEggSpoons$Rows;", Cond.instanceMethod yX4_init, Cond.code yX4_init cX4_init 1 none, Cond.methodLink RX4 5 objectInit, Cond.fieldLink RX4 11 "EggSpoons$Past" "cells" "[I", Cond.fieldLink RX4 15 "EggSpoons$Past" "size" "I", Cond.methodLink RX5 36 yX7_init, Cond.instanceMethod yX7_init]
def wsL_law_r4 : List Cond := [Cond.code yX7_init cX7_init 4 none, Cond.methodLink RX7 1 objectInit, Cond.fieldLink RX7 7 "EggSpoons$Rows" "size" "I", Cond.fieldLink RX7 13 "EggSpoons$Rows" "most" "I", Cond.fieldLink RX7 16 "EggSpoons$Rows" "withLegs" "Z", Cond.fieldLink RX7 20 "EggSpoons$Rows" "withSpeed" "Z", Cond.fieldLink RX7 23 "EggSpoons$Rows" "cells" "[I", Cond.instanceMethod yX8_init, Cond.code yX8_init cX8_init 1 none, Cond.methodLink RX8 3 objectInit, Cond.instanceMethod yX6_init, Cond.code yX6_init cX6_init 1 none, Cond.methodLink RX6 3 objectInit, Cond.fieldLink RX6 11 "EggSpoons$Reader" "bytes" "[I", Cond.fieldLink RX6 15 "EggSpoons$Reader" "length" "I", Cond.fieldLink RX6 19 "EggSpoons$Reader" "at" "I", Cond.fieldLink RX6 22 "EggSpoons$Reader" "tokenAt" "I", Cond.fieldLink RX6 25 "EggSpoons$Reader" "sort" "I", Cond.fieldLink RX6 28 "EggSpoons$Reader" "value" "I", Cond.fieldLink RX6 31 "EggSpoons$Reader" "fault" "I", Cond.instanceMethod yX9_init, Cond.code yX9_init cX9_init 1 none, Cond.methodLink RX9 3 objectInit, Cond.fieldLink RX9 9 "EggSpoons$Tally" "counts" "[I"]
def wsL_law_r5 : List Cond := [Cond.fieldLink RX9 15 "EggSpoons$Tally" "most" "I", Cond.instanceMethod yX3_init, Cond.code yX3_init cX3_init 1 none, Cond.methodLink RX3 1 objectInit, Cond.instanceMethod yX0_init, Cond.code yX0_init cX0_init 1 none, Cond.methodLink RX0 3 objectInit, Cond.fieldLink RX0 11 "EggSpoons$Duel" "endsA" "[I", Cond.fieldLink RX0 15 "EggSpoons$Duel" "endsB" "[I", Cond.fieldLink RX0 18 "EggSpoons$Duel" "mostA" "[I", Cond.fieldLink RX0 21 "EggSpoons$Duel" "mostB" "[I", Cond.fieldLink RX0 24 "EggSpoons$Duel" "resting" "[I", Cond.methodLink RL 12 yX11_init, Cond.instanceMethod yX11_init, Cond.code yX11_init cX11_init 1 none, Cond.methodLink RX11 1 objectInit, Cond.fieldLink RX11 7 "EggSpoonsModel" "all" "[I", Cond.fieldLink RX11 13 "EggSpoonsModel" "kept" "[I", Cond.fieldLink RX11 16 "EggSpoonsModel" "isKept" "[Z", Cond.fieldLink RX11 20 "EggSpoonsModel" "refused" "[I", Cond.fieldLink RX11 23 "EggSpoonsModel" "below" "J", Cond.fieldLink RX11 27 "EggSpoonsModel" "hand" "[I", Cond.fieldLink RX11 30 "EggSpoonsModel" "goesBy" "[I", Cond.fieldLink RX11 33 "EggSpoonsModel" "tells" "[I"]
def wsL_law_r6 : List Cond := [Cond.fieldLink RX11 36 "EggSpoonsModel" "behindBy" "[I", Cond.fieldLink RX11 39 "EggSpoonsModel" "bytes" "[I", Cond.fieldLink RX11 42 "EggSpoonsModel" "anew" "[I", Cond.fieldLink RX11 45 "EggSpoonsModel" "values" "[I", Cond.methodLink RX11 48 yX11_begin, Cond.static yX11_begin, Cond.code yX11_begin cX11_begin 3 none, Cond.methodLink RL 13 yX10_race, Cond.instanceMethod yX10_race, Cond.selects RX10 yX10_race yX10_race, Cond.code yX10_race cX10_race 3 (some .int), Cond.fieldLink RX10 87 "EggSpoons$Race" "runners" "I", Cond.methodLink RX10 79 yX10_within, Cond.static yX10_within, Cond.code yX10_within cX10_within 3 (some .boolean), Cond.methodLink RX10 83 yX10_refuse, Cond.instanceMethod yX10_refuse, Cond.selects RX10 yX10_refuse yX10_refuse, Cond.code yX10_refuse cX10_refuse 3 (some .int), Cond.methodLink RX10 91 yX5_restart, Cond.instanceMethod yX5_restart, Cond.selects RX5 yX5_restart yX5_restart, Cond.code yX5_restart cX5_restart 2 none, Cond.fieldLink RX5 50 "EggSpoons$Past" "size" "I"]
def wsL_law_r7 : List Cond := [Cond.fieldLink RX5 53 "EggSpoons$Rows" "size" "I", Cond.methodLink RL 17 yX11_race, Cond.instanceMethod yX11_race, Cond.selects RX11 yX11_race yX11_race, Cond.code yX11_race cX11_race 3 (some .int), Cond.constantLong RX11 64 (10), Cond.constantLong RX11 66 (60), Cond.methodLink RX11 56 yX11_in, Cond.static yX11_in, Cond.code yX11_in cX11_in 6 (some .boolean), Cond.methodLink RX11 68 yX11_bad, Cond.instanceMethod yX11_bad, Cond.selects RX11 yX11_bad yX11_bad, Cond.code yX11_bad cX11_bad 2 (some .int), Cond.methodLink RX11 52 yX11_many, Cond.instanceMethod yX11_many, Cond.selects RX11 yX11_many yX11_many, Cond.code yX11_many cX11_many 1 (some .int), Cond.methodLink RL 18 yX10_one, Cond.instanceMethod yX10_one, Cond.selects RX10 yX10_one yX10_one, Cond.code yX10_one cX10_one 4 (some .int), Cond.methodLink RX10 95 yX5_welcome, Cond.instanceMethod yX5_welcome]
def wsL_law_r8 : List Cond := [Cond.selects RX5 yX5_welcome yX5_welcome, Cond.code yX5_welcome cX5_welcome 4 none, Cond.methodLink RX5 54 yX8_begin, Cond.instanceMethod yX8_begin, Cond.selects RX8 yX8_begin yX8_begin, Cond.code yX8_begin cX8_begin 4 none, Cond.fieldLink RX8 9 "EggSpoons$Runner" "kind" "I", Cond.fieldLink RX8 15 "EggSpoons$Runner" "legs" "I", Cond.fieldLink RX8 18 "EggSpoons$Runner" "egg" "I", Cond.fieldLink RX8 21 "EggSpoons$Runner" "speed" "I", Cond.fieldLink RX8 24 "EggSpoons$Runner" "place" "I", Cond.fieldLink RX8 27 "EggSpoons$Runner" "drops" "I", Cond.fieldLink RX8 30 "EggSpoons$Runner" "waits" "I", Cond.fieldLink RX8 33 "EggSpoons$Runner" "homeAt" "I", Cond.methodLink RL 22 yX11_one, Cond.instanceMethod yX11_one, Cond.selects RX11 yX11_one yX11_one, Cond.code yX11_one cX11_one 4 (some .int), Cond.methodLink RX11 72 yX11_isKind, Cond.static yX11_isKind, Cond.code yX11_isKind cX11_isKind 1 (some .boolean), Cond.constantLong RX11 60 (5), Cond.methodLink RX11 76 yX11_isLegs, Cond.static yX11_isLegs]
def wsL_law_r9 : List Cond := [Cond.code yX11_isLegs cX11_isLegs 1 (some .boolean), Cond.constantLong RX11 62 (9), Cond.methodLink RX11 79 yX11_full, Cond.instanceMethod yX11_full, Cond.selects RX11 yX11_full yX11_full, Cond.code yX11_full cX11_full 1 (some .int), Cond.methodLink RX11 82 yX11_layOne, Cond.static yX11_layOne, Cond.code yX11_layOne cX11_layOne 5 none, Cond.methodLink RL 23 yX10_type, Cond.instanceMethod yX10_type, Cond.selects RX10 yX10_type yX10_type, Cond.code yX10_type cX10_type 2 (some .int), Cond.methodLink RX10 99 yX6_append, Cond.instanceMethod yX6_append, Cond.selects RX6 yX6_append yX6_append, Cond.code yX6_append cX6_append 2 (some .boolean), Cond.methodLink RL 26 yX11_type, Cond.instanceMethod yX11_type, Cond.selects RX11 yX11_type yX11_type, Cond.code yX11_type cX11_type 2 (some .int), Cond.constantLong RX11 203 (127), Cond.fieldLink RX11 205 "EggSpoonsModel" "bytesLong" "I", Cond.methodLink RL 27 yX10_clear]
def wsL_law_r10 : List Cond := [Cond.instanceMethod yX10_clear, Cond.selects RX10 yX10_clear yX10_clear, Cond.code yX10_clear cX10_clear 2 (some .int), Cond.methodLink RL 31 yX11_clear, Cond.instanceMethod yX11_clear, Cond.selects RX11 yX11_clear yX11_clear, Cond.code yX11_clear cX11_clear 2 (some .int), Cond.methodLink RL 32 yX10_read, Cond.instanceMethod yX10_read, Cond.selects RX10 yX10_read yX10_read, Cond.code yX10_read cX10_read 3 (some .int), Cond.methodLink RX10 106 yX6_takeRace, Cond.instanceMethod yX6_takeRace, Cond.selects RX6 yX6_takeRace yX6_takeRace, Cond.code yX6_takeRace cX6_takeRace 3 (some .int), Cond.methodLink RX6 34 yX6_takeItem, Cond.instanceMethod yX6_takeItem, Cond.selects RX6 yX6_takeItem yX6_takeItem, Cond.code yX6_takeItem cX6_takeItem 3 none, Cond.fieldLink RX6 56 "EggSpoons$Race" "runners" "I", Cond.methodLink RX6 41 yX6_nextToken, Cond.instanceMethod yX6_nextToken, Cond.selects RX6 yX6_nextToken yX6_nextToken, Cond.code yX6_nextToken cX6_nextToken 1 none]
def wsL_law_r11 : List Cond := [Cond.methodLink RX6 38 yX6_skipBlanks, Cond.instanceMethod yX6_skipBlanks, Cond.selects RX6 yX6_skipBlanks yX6_skipBlanks, Cond.code yX6_skipBlanks cX6_skipBlanks 1 none, Cond.methodLink RX6 118 yX6_isLetter, Cond.static yX6_isLetter, Cond.code yX6_isLetter cX6_isLetter 1 (some .boolean), Cond.methodLink RX6 122 yX6_takeLetters, Cond.instanceMethod yX6_takeLetters, Cond.selects RX6 yX6_takeLetters yX6_takeLetters, Cond.code yX6_takeLetters cX6_takeLetters 1 none, Cond.methodLink RX6 125 yX6_isFigure, Cond.static yX6_isFigure, Cond.code yX6_isFigure cX6_isFigure 1 (some .boolean), Cond.methodLink RX6 128 yX6_takeFigures, Cond.instanceMethod yX6_takeFigures, Cond.selects RX6 yX6_takeFigures yX6_takeFigures, Cond.code yX6_takeFigures cX6_takeFigures 1 none, Cond.methodLink RX6 46 yX6_spells, Cond.instanceMethod yX6_spells, Cond.selects RX6 yX6_spells yX6_spells, Cond.code yX6_spells cX6_spells 3 (some .boolean), Cond.methodLink RX6 131 yJ0_length_8abf5, Cond.instanceMethod yJ0_length_8abf5]
def wsL_law_r12 : List Cond := [Cond.selects RJ0 yJ0_length_8abf5 yJ0_length_8abf5, Cond.initialized RJ0, Cond.code yJ0_length_8abf5 cJ0_length_8abf5 1 (some .int), Cond.fieldLink RJ0 9 "java/lang/String" "value" "[B", Cond.methodLink RJ0 335 yJ0_coder_7d493, Cond.instanceMethod yJ0_coder_7d493, Cond.selects RJ0 yJ0_coder_7d493 yJ0_coder_7d493, Cond.code yJ0_coder_7d493 cJ0_coder_7d493 1 (some .byte), Cond.fieldLink RJ0 38 "java/lang/String" "COMPACT_STRINGS" "Z", Cond.fieldLink RJ0 15 "java/lang/String" "coder" "B", Cond.methodLink RX6 136 yJ0_charAt_5068e, Cond.instanceMethod yJ0_charAt_5068e, Cond.selects RJ0 yJ0_charAt_5068e yJ0_charAt_5068e, Cond.code yJ0_charAt_5068e cJ0_charAt_5068e 2 (some .char), Cond.methodLink RJ0 492 yJ0_isLatin1_aae02, Cond.instanceMethod yJ0_isLatin1_aae02, Cond.selects RJ0 yJ0_isLatin1_aae02 yJ0_isLatin1_aae02, Cond.code yJ0_isLatin1_aae02 cJ0_isLatin1_aae02 1 (some .boolean), Cond.methodLink RJ0 495 yJ1_charAt_3b067, Cond.static yJ1_charAt_3b067, Cond.initialized RJ1, Cond.code yJ1_charAt_3b067 cJ1_charAt_3b067 2 (some .char), Cond.methodLink RJ1 9 yJ0_checkIndex_df160, Cond.static yJ0_checkIndex_df160]
def wsL_law_r13 : List Cond := [Cond.code yJ0_checkIndex_df160 cJ0_checkIndex_df160 2 none, Cond.fieldLink RJ0 1053 "jdk/internal/util/Preconditions" "SIOOBE_FORMATTER" "Ljava/util/function/BiFunction;", Cond.methodLink RJ0 1059 yJ3_checkIndex_8e157, Cond.static yJ3_checkIndex_8e157, Cond.initialized RJ3, Cond.code yJ3_checkIndex_8e157 cJ3_checkIndex_8e157 3 (some .int), Cond.methodLink RJ0 498 yJ2_charAt_3b067, Cond.static yJ2_charAt_3b067, Cond.initialized RJ2, Cond.code yJ2_charAt_3b067 cJ2_charAt_3b067 2 (some .char), Cond.methodLink RJ2 67 yJ2_checkIndex_2214a, Cond.static yJ2_checkIndex_2214a, Cond.code yJ2_checkIndex_2214a cJ2_checkIndex_2214a 2 none, Cond.methodLink RJ2 48 yJ2_length_9d52b, Cond.static yJ2_length_9d52b, Cond.code yJ2_length_9d52b cJ2_length_9d52b 1 (some .int), Cond.methodLink RJ2 414 yJ0_checkIndex_df160, Cond.methodLink RJ2 71 yJ2_getChar_3b067, Cond.static yJ2_getChar_3b067, Cond.code yJ2_getChar_3b067 cJ2_getChar_3b067 2 (some .char), Cond.fieldLink RJ2 44 "java/lang/StringUTF16" "$assertionsDisabled" "Z", Cond.fieldLink RJ2 59 "java/lang/StringUTF16" "HI_BYTE_SHIFT" "I", Cond.fieldLink RJ2 63 "java/lang/StringUTF16" "LO_BYTE_SHIFT" "I", Cond.methodLink RX6 50 yX6_takeLength]
def wsL_law_r14 : List Cond := [Cond.instanceMethod yX6_takeLength, Cond.selects RX6 yX6_takeLength yX6_takeLength, Cond.code yX6_takeLength cX6_takeLength 3 none, Cond.methodLink RX6 79 yX6_number, Cond.instanceMethod yX6_number, Cond.selects RX6 yX6_number yX6_number, Cond.code yX6_number cX6_number 3 (some .int), Cond.methodLink RX6 83 yX6_ended, Cond.instanceMethod yX6_ended, Cond.selects RX6 yX6_ended yX6_ended, Cond.code yX6_ended cX6_ended 1 (some .boolean), Cond.methodLink RX6 87 yX5_restart, Cond.methodLink RX6 61 yX6_takeRunner, Cond.instanceMethod yX6_takeRunner, Cond.selects RX6 yX6_takeRunner yX6_takeRunner, Cond.code yX6_takeRunner cX6_takeRunner 5 none, Cond.methodLink RX6 91 yX5_welcome, Cond.methodLink RX6 66 yX6_takeSpeed, Cond.instanceMethod yX6_takeSpeed, Cond.selects RX6 yX6_takeSpeed yX6_takeSpeed, Cond.code yX6_takeSpeed cX6_takeSpeed 4 none, Cond.fieldLink RX6 95 "EggSpoons$Race" "row" "[LEggSpoons$Runner;", Cond.fieldLink RX6 99 "EggSpoons$Runner" "speed" "I", Cond.methodLink RX6 71 yX6_takeStart]
def wsL_law_r15 : List Cond := [Cond.instanceMethod yX6_takeStart, Cond.selects RX6 yX6_takeStart yX6_takeStart, Cond.code yX6_takeStart cX6_takeStart 5 none, Cond.fieldLink RX6 106 "EggSpoons$Race" "length" "I", Cond.methodLink RX6 107 Lib.Math.min.name, Cond.static Lib.Math.min.name, Cond.initialized "java/lang/Math", Cond.code Lib.Math.min.name Lib.Math.min.code 2 (some .int), Cond.fieldLink RX6 112 "EggSpoons$Runner" "place" "I", Cond.methodLink RX6 103 yX8_isHome, Cond.instanceMethod yX8_isHome, Cond.selects RX8 yX8_isHome yX8_isHome, Cond.code yX8_isHome cX8_isHome 1 (some .boolean), Cond.methodLink RX6 76 yX6_takeTicks, Cond.instanceMethod yX6_takeTicks, Cond.selects RX6 yX6_takeTicks yX6_takeTicks, Cond.code yX6_takeTicks cX6_takeTicks 4 none, Cond.methodLink RX6 115 yX5_goOn, Cond.instanceMethod yX5_goOn, Cond.selects RX5 yX5_goOn yX5_goOn, Cond.code yX5_goOn cX5_goOn 2 none, Cond.methodLink RX5 72 yX8_step, Cond.instanceMethod yX8_step, Cond.selects RX8 yX8_step yX8_step]
def wsL_law_r16 : List Cond := [Cond.code yX8_step cX8_step 4 none, Cond.methodLink RX8 48 yX8_isHome, Cond.methodLink RX8 36 yX2_reach, Cond.static yX2_reach, Cond.initialized RX2, Cond.code yX2_reach cX2_reach 7 (some .int), Cond.methodLink RX8 42 yX1_limit, Cond.static yX1_limit, Cond.initialized RX1, Cond.code yX1_limit cX1_limit 5 (some .int), Cond.methodLink RL 35 yX11_read, Cond.instanceMethod yX11_read, Cond.selects RX11 yX11_read yX11_read, Cond.code yX11_read cX11_read 3 (some .int), Cond.fieldLink RX11 217 "EggSpoonsModel" "tokenAt" "I", Cond.fieldLink RX11 223 "EggSpoonsModel" "token" "I", Cond.methodLink RX11 235 yX11_lookAt, Cond.instanceMethod yX11_lookAt, Cond.selects RX11 yX11_lookAt yX11_lookAt, Cond.code yX11_lookAt cX11_lookAt 5 none, Cond.fieldLink RX11 220 "EggSpoonsModel" "tokenLong" "I", Cond.fieldLink RX11 226 "EggSpoonsModel" "value" "I", Cond.methodLink RX11 229 yX11_isSmall, Cond.static yX11_isSmall]
def wsL_law_r17 : List Cond := [Cond.code yX11_isSmall cX11_isSmall 1 (some .boolean), Cond.constantLong RX11 209 (97), Cond.constantLong RX11 211 (122), Cond.methodLink RX11 232 yX11_isFigure, Cond.static yX11_isFigure, Cond.code yX11_isFigure cX11_isFigure 1 (some .boolean), Cond.constantLong RX11 213 (48), Cond.constantLong RX11 215 (57), Cond.methodLink RX11 245 yX11_spells, Cond.instanceMethod yX11_spells, Cond.selects RX11 yX11_spells yX11_spells, Cond.code yX11_spells cX11_spells 10 (some .boolean), Cond.methodLink RX11 238 yX11_goBehind, Cond.instanceMethod yX11_goBehind, Cond.selects RX11 yX11_goBehind yX11_goBehind, Cond.code yX11_goBehind cX11_goBehind 1 none, Cond.methodLink RX11 241 yX11_takes, Cond.instanceMethod yX11_takes, Cond.selects RX11 yX11_takes yX11_takes, Cond.code yX11_takes cX11_takes 4 (some .boolean), Cond.methodLink RX11 262 yX11_takesItem, Cond.instanceMethod yX11_takesItem, Cond.selects RX11 yX11_takesItem yX11_takesItem, Cond.code yX11_takesItem cX11_takesItem 1 (some .boolean)]
def wsL_law_r18 : List Cond := [Cond.methodLink RX11 249 yX11_takesOne, Cond.instanceMethod yX11_takesOne, Cond.selects RX11 yX11_takesOne yX11_takesOne, Cond.code yX11_takesOne cX11_takesOne 1 (some .boolean), Cond.methodLink RX11 253 yX11_takesSpeed, Cond.instanceMethod yX11_takesSpeed, Cond.selects RX11 yX11_takesSpeed yX11_takesSpeed, Cond.code yX11_takesSpeed cX11_takesSpeed 1 (some .boolean), Cond.methodLink RX11 256 yX11_takesStart, Cond.instanceMethod yX11_takesStart, Cond.selects RX11 yX11_takesStart yX11_takesStart, Cond.code yX11_takesStart cX11_takesStart 2 (some .boolean), Cond.methodLink RX11 101 yX11_isHome, Cond.static yX11_isHome, Cond.code yX11_isHome cX11_isHome 2 (some .boolean), Cond.methodLink RX11 259 yX11_takesGo, Cond.instanceMethod yX11_takesGo, Cond.selects RX11 yX11_takesGo yX11_takesGo, Cond.code yX11_takesGo cX11_takesGo 1 (some .boolean), Cond.methodLink RX11 116 yX11_goTicks, Cond.static yX11_goTicks, Cond.code yX11_goTicks cX11_goTicks 3 none, Cond.methodLink RX11 109 yX11_goTick, Cond.static yX11_goTick]
def wsL_law_r19 : List Cond := [Cond.code yX11_goTick cX11_goTick 2 none, Cond.methodLink RX11 105 yX11_goOne, Cond.static yX11_goOne, Cond.code yX11_goOne cX11_goOne 5 none, Cond.methodLink RX11 90 yX11_runsOf, Cond.static yX11_runsOf, Cond.code yX11_runsOf cX11_runsOf 3 (some .int), Cond.methodLink RX11 86 yX11_runsAs, Cond.static yX11_runsAs, Cond.code yX11_runsAs cX11_runsAs 7 (some .int), Cond.methodLink RX11 94 yX11_mayAs, Cond.static yX11_mayAs, Cond.code yX11_mayAs cX11_mayAs 3 (some .int), Cond.methodLink RX11 98 yX11_drop, Cond.static yX11_drop, Cond.code yX11_drop cX11_drop 2 none, Cond.methodLink RL 36 yX10_ticks, Cond.instanceMethod yX10_ticks, Cond.selects RX10 yX10_ticks yX10_ticks, Cond.code yX10_ticks cX10_ticks 3 (some .int), Cond.fieldLink RX10 110 "EggSpoons$Race" "tick" "I", Cond.methodLink RX10 113 yX5_keep, Cond.instanceMethod yX5_keep, Cond.selects RX5 yX5_keep yX5_keep]
def wsL_law_r20 : List Cond := [Cond.code yX5_keep cX5_keep 1 none, Cond.methodLink RX5 76 yX4_push, Cond.instanceMethod yX4_push, Cond.selects RX4 yX4_push yX4_push, Cond.code yX4_push cX4_push 6 none, Cond.methodLink RX4 19 arraycopyName, Cond.native arraycopyName, Cond.static arraycopyName, Cond.initialized "java/lang/System", Cond.fieldLink RX4 25 "EggSpoons$Runner" "speed" "I", Cond.fieldLink RX4 30 "EggSpoons$Runner" "place" "I", Cond.fieldLink RX4 33 "EggSpoons$Runner" "drops" "I", Cond.fieldLink RX4 36 "EggSpoons$Runner" "waits" "I", Cond.fieldLink RX4 39 "EggSpoons$Runner" "homeAt" "I", Cond.methodLink RX10 116 yX5_goOn, Cond.methodLink RX10 119 yX5_homes, Cond.instanceMethod yX5_homes, Cond.selects RX5 yX5_homes yX5_homes, Cond.code yX5_homes cX5_homes 3 (some .int), Cond.methodLink RX5 84 yX8_isHome, Cond.methodLink RL 39 yX11_ticks, Cond.instanceMethod yX11_ticks, Cond.selects RX11 yX11_ticks yX11_ticks, Cond.code yX11_ticks cX11_ticks 2 (some .int)]
def wsL_law_r21 : List Cond := [Cond.methodLink RX11 113 yX11_save, Cond.instanceMethod yX11_save, Cond.selects RX11 yX11_save yX11_save, Cond.code yX11_save cX11_save 2 none, Cond.methodLink RX11 119 yX11_manyHome, Cond.static yX11_manyHome, Cond.code yX11_manyHome cX11_manyHome 3 (some .int), Cond.methodLink RL 40 yX10_speed, Cond.instanceMethod yX10_speed, Cond.selects RX10 yX10_speed yX10_speed, Cond.code yX10_speed cX10_speed 5 (some .int), Cond.fieldLink RX10 126 "EggSpoons$Race" "row" "[LEggSpoons$Runner;", Cond.fieldLink RX10 130 "EggSpoons$Runner" "speed" "I", Cond.methodLink RX10 123 yX10_there, Cond.instanceMethod yX10_there, Cond.selects RX10 yX10_there yX10_there, Cond.code yX10_there cX10_there 2 (some .boolean), Cond.methodLink RX10 133 yX8_isHome, Cond.methodLink RL 44 yX11_speed, Cond.instanceMethod yX11_speed, Cond.selects RX11 yX11_speed yX11_speed, Cond.code yX11_speed cX11_speed 4 (some .int), Cond.methodLink RX11 123 yX11_isOne, Cond.instanceMethod yX11_isOne]
def wsL_law_r22 : List Cond := [Cond.selects RX11 yX11_isOne yX11_isOne, Cond.code yX11_isOne cX11_isOne 2 (some .boolean), Cond.methodLink RX11 126 yX11_isSpeed, Cond.static yX11_isSpeed, Cond.code yX11_isSpeed cX11_isSpeed 1 (some .boolean), Cond.methodLink RX11 129 yX11_no, Cond.instanceMethod yX11_no, Cond.selects RX11 yX11_no yX11_no, Cond.code yX11_no cX11_no 1 (some .int), Cond.methodLink RL 45 yX10_start, Cond.instanceMethod yX10_start, Cond.selects RX10 yX10_start yX10_start, Cond.code yX10_start cX10_start 4 (some .int), Cond.fieldLink RX10 137 "EggSpoons$Runner" "place" "I", Cond.fieldLink RX10 140 "EggSpoons$Race" "length" "I", Cond.methodLink RL 48 yX11_start, Cond.instanceMethod yX11_start, Cond.selects RX11 yX11_start yX11_start, Cond.code yX11_start cX11_start 3 (some .int), Cond.constantLong RX11 132 (30), Cond.methodLink RL 49 yX10_undo, Cond.instanceMethod yX10_undo, Cond.selects RX10 yX10_undo yX10_undo, Cond.code yX10_undo cX10_undo 1 (some .int)]
def wsL_law_r23 : List Cond := [Cond.methodLink RX10 141 yX5_takeBack, Cond.instanceMethod yX5_takeBack, Cond.selects RX5 yX5_takeBack yX5_takeBack, Cond.code yX5_takeBack cX5_takeBack 2 (some .boolean), Cond.methodLink RX5 80 yX4_pop, Cond.instanceMethod yX4_pop, Cond.selects RX4 yX4_pop yX4_pop, Cond.code yX4_pop cX4_pop 5 (some .int), Cond.methodLink RL 52 yX11_undo, Cond.instanceMethod yX11_undo, Cond.selects RX11 yX11_undo yX11_undo, Cond.code yX11_undo cX11_undo 2 (some .int), Cond.methodLink RL 53 yX10_of, Cond.instanceMethod yX10_of, Cond.selects RX10 yX10_of yX10_of, Cond.code yX10_of cX10_of 3 (some .int), Cond.methodLink RX10 144 yX8_fact, Cond.instanceMethod yX8_fact, Cond.selects RX8 yX8_fact yX8_fact, Cond.code yX8_fact cX8_fact 3 (some .int), Cond.methodLink RL 56 yX11_of, Cond.instanceMethod yX11_of, Cond.selects RX11 yX11_of yX11_of, Cond.code yX11_of cX11_of 3 (some .int)]
def wsL_law_r24 : List Cond := [Cond.methodLink RX11 134 yX11_toldOf, Cond.instanceMethod yX11_toldOf, Cond.selects RX11 yX11_toldOf yX11_toldOf, Cond.code yX11_toldOf cX11_toldOf 3 (some .int), Cond.methodLink RL 57 yX10_where, Cond.instanceMethod yX10_where, Cond.selects RX10 yX10_where yX10_where, Cond.code yX10_where cX10_where 3 (some .int), Cond.methodLink RX10 148 yX8_copyFrom, Cond.instanceMethod yX8_copyFrom, Cond.selects RX8 yX8_copyFrom yX8_copyFrom, Cond.code yX8_copyFrom cX8_copyFrom 2 none, Cond.methodLink RX10 152 yX8_placeBehind, Cond.instanceMethod yX8_placeBehind, Cond.selects RX8 yX8_placeBehind yX8_placeBehind, Cond.code yX8_placeBehind cX8_placeBehind 5 (some .int), Cond.methodLink RX8 52 yX8_step, Cond.methodLink RL 60 yX11_where, Cond.instanceMethod yX11_where, Cond.selects RX11 yX11_where yX11_where, Cond.code yX11_where cX11_where 3 (some .int), Cond.methodLink RX11 137 yX11_layHand, Cond.instanceMethod yX11_layHand, Cond.selects RX11 yX11_layHand yX11_layHand]
def wsL_law_r25 : List Cond := [Cond.code yX11_layHand cX11_layHand 2 none, Cond.methodLink RX11 140 yX11_goAhead, Cond.instanceMethod yX11_goAhead, Cond.selects RX11 yX11_goAhead yX11_goAhead, Cond.code yX11_goAhead cX11_goAhead 3 none, Cond.methodLink RL 61 yX10_home, Cond.instanceMethod yX10_home, Cond.selects RX10 yX10_home yX10_home, Cond.code yX10_home cX10_home 2 (some .int), Cond.methodLink RX10 156 yX10_homeBehind, Cond.instanceMethod yX10_homeBehind, Cond.selects RX10 yX10_homeBehind yX10_homeBehind, Cond.code yX10_homeBehind cX10_homeBehind 3 (some .int), Cond.methodLink RX10 165 yX8_ticksToHome, Cond.instanceMethod yX8_ticksToHome, Cond.selects RX8 yX8_ticksToHome yX8_ticksToHome, Cond.code yX8_ticksToHome cX8_ticksToHome 5 (some .int), Cond.methodLink RL 64 yX11_home, Cond.instanceMethod yX11_home, Cond.selects RX11 yX11_home yX11_home, Cond.code yX11_home cX11_home 2 (some .int), Cond.methodLink RX11 147 yX11_homeOf, Cond.instanceMethod yX11_homeOf, Cond.selects RX11 yX11_homeOf yX11_homeOf]
def wsL_law_r26 : List Cond := [Cond.code yX11_homeOf cX11_homeOf 2 (some .int), Cond.methodLink RX11 144 yX11_homeAtHand, Cond.instanceMethod yX11_homeAtHand, Cond.selects RX11 yX11_homeAtHand yX11_homeAtHand, Cond.code yX11_homeAtHand cX11_homeAtHand 4 (some .int), Cond.methodLink RL 65 yX10_first, Cond.instanceMethod yX10_first, Cond.selects RX10 yX10_first yX10_first, Cond.code yX10_first cX10_first 5 (some .int), Cond.methodLink RL 68 yX11_first, Cond.instanceMethod yX11_first, Cond.selects RX11 yX11_first yX11_first, Cond.code yX11_first cX11_first 5 (some .int), Cond.constant RX11 150 (1000000), Cond.methodLink RL 69 yX10_order, Cond.instanceMethod yX10_order, Cond.selects RX10 yX10_order yX10_order, Cond.code yX10_order cX10_order 3 (some .int), Cond.methodLink RX10 159 yX10_rankAll, Cond.instanceMethod yX10_rankAll, Cond.selects RX10 yX10_rankAll yX10_rankAll, Cond.code yX10_rankAll cX10_rankAll 5 none, Cond.fieldLink RX10 303 "EggSpoons$Runner" "homeAt" "I", Cond.methodLink RX10 162 yX10_aheadOf]
def wsL_law_r27 : List Cond := [Cond.instanceMethod yX10_aheadOf, Cond.selects RX10 yX10_aheadOf yX10_aheadOf, Cond.code yX10_aheadOf cX10_aheadOf 4 (some .int), Cond.methodLink RL 72 yX11_order, Cond.instanceMethod yX11_order, Cond.selects RX11 yX11_order yX11_order, Cond.code yX11_order cX11_order 5 (some .int), Cond.constant RX11 151 (2000000), Cond.methodLink RL 73 yX10_best, Cond.instanceMethod yX10_best, Cond.selects RX10 yX10_best yX10_best, Cond.code yX10_best cX10_best 8 (some .int), Cond.methodLink RL 76 yX11_best, Cond.instanceMethod yX11_best, Cond.selects RX11 yX11_best yX11_best, Cond.code yX11_best cX11_best 7 (some .int), Cond.methodLink RL 77 yX10_turn, Cond.instanceMethod yX10_turn, Cond.selects RX10 yX10_turn yX10_turn, Cond.code yX10_turn cX10_turn 9 (some .int), Cond.methodLink RX10 168 yX10_homeTurning, Cond.instanceMethod yX10_homeTurning, Cond.selects RX10 yX10_homeTurning yX10_homeTurning, Cond.code yX10_homeTurning cX10_homeTurning 7 (some .int)]
def wsL_law_r28 : List Cond := [Cond.methodLink RX10 300 Lib.Math.min.name, Cond.methodLink RL 80 yX11_turn, Cond.instanceMethod yX11_turn, Cond.selects RX11 yX11_turn yX11_turn, Cond.code yX11_turn cX11_turn 8 (some .int), Cond.methodLink RL 81 yX10_beats, Cond.instanceMethod yX10_beats, Cond.selects RX10 yX10_beats yX10_beats, Cond.code yX10_beats cX10_beats 7 (some .int), Cond.methodLink RX10 172 yX10_areTwo, Cond.instanceMethod yX10_areTwo, Cond.selects RX10 yX10_areTwo yX10_areTwo, Cond.code yX10_areTwo cX10_areTwo 3 (some .boolean), Cond.methodLink RL 84 yX11_beats, Cond.instanceMethod yX11_beats, Cond.selects RX11 yX11_beats yX11_beats, Cond.code yX11_beats cX11_beats 6 (some .int), Cond.methodLink RL 85 yX10_close, Cond.instanceMethod yX10_close, Cond.selects RX10 yX10_close yX10_close, Cond.code yX10_close cX10_close 8 (some .int), Cond.methodLink RX10 176 Lib.Math.abs.name, Cond.static Lib.Math.abs.name, Cond.code Lib.Math.abs.name Lib.Math.abs.code 1 (some .int)]
def wsL_law_r29 : List Cond := [Cond.methodLink RX10 181 yX8_step, Cond.methodLink RL 88 yX11_close, Cond.instanceMethod yX11_close, Cond.selects RX11 yX11_close yX11_close, Cond.code yX11_close cX11_close 8 (some .int), Cond.methodLink RL 89 yX10_seen, Cond.instanceMethod yX10_seen, Cond.selects RX10 yX10_seen yX10_seen, Cond.code yX10_seen cX10_seen 5 (some .int), Cond.fieldLink RX10 185 "EggSpoons$Race" "seenRows" "LEggSpoons$Rows;", Cond.fieldLink RX10 194 "EggSpoons$Rows" "size" "I", Cond.methodLink RX10 189 yX7_append, Cond.instanceMethod yX7_append, Cond.selects RX7 yX7_append yX7_append, Cond.code yX7_append cX7_append 7 (some .boolean), Cond.methodLink RL 93 yX11_seen, Cond.instanceMethod yX11_seen, Cond.selects RX11 yX11_seen yX11_seen, Cond.code yX11_seen cX11_seen 6 (some .int), Cond.constantLong RX11 152 (99), Cond.constantLong RX11 154 (15), Cond.methodLink RL 94 yX10_strong, Cond.instanceMethod yX10_strong, Cond.selects RX10 yX10_strong yX10_strong]
def wsL_law_r30 : List Cond := [Cond.code yX10_strong cX10_strong 6 (some .int), Cond.methodLink RX10 197 yX5_legsThatFit, Cond.instanceMethod yX5_legsThatFit, Cond.selects RX5 yX5_legsThatFit yX5_legsThatFit, Cond.code yX5_legsThatFit cX5_legsThatFit 4 (some .int), Cond.fieldLink RX5 94 "EggSpoons$Runner" "kind" "I", Cond.methodLink RX5 97 yX7_fitRunner, Cond.instanceMethod yX7_fitRunner, Cond.selects RX7 yX7_fitRunner yX7_fitRunner, Cond.code yX7_fitRunner cX7_fitRunner 7 (some .boolean), Cond.methodLink RX7 39 yX2_reach, Cond.methodLink RX10 200 yJ6_bitCount_0f7a4, Cond.static yJ6_bitCount_0f7a4, Cond.initialized RJ6, Cond.code yJ6_bitCount_0f7a4 cJ6_bitCount_0f7a4 1 (some .int), Cond.constant RJ6 265 (1431655765), Cond.constant RJ6 266 (858993459), Cond.constant RJ6 267 (252645135), Cond.methodLink RX10 205 yX10_hasBit, Cond.static yX10_hasBit, Cond.code yX10_hasBit cX10_hasBit 2 (some .boolean), Cond.methodLink RL 97 yX11_strong, Cond.instanceMethod yX11_strong, Cond.selects RX11 yX11_strong yX11_strong]
def wsL_law_r31 : List Cond := [Cond.code yX11_strong cX11_strong 8 (some .int), Cond.constantLong RX11 156 (2), Cond.methodLink RX11 158 yX11_legsOf, Cond.instanceMethod yX11_legsOf, Cond.selects RX11 yX11_legsOf yX11_legsOf, Cond.code yX11_legsOf cX11_legsOf 7 (some .int), Cond.methodLink RX11 161 yX11_has, Cond.static yX11_has, Cond.code yX11_has cX11_has 2 (some .boolean), Cond.methodLink RL 98 yX10_tell, Cond.instanceMethod yX10_tell, Cond.selects RX10 yX10_tell yX10_tell, Cond.code yX10_tell cX10_tell 2 (some .int), Cond.methodLink RX10 208 yX10_nextLook, Cond.instanceMethod yX10_nextLook, Cond.selects RX10 yX10_nextLook yX10_nextLook, Cond.code yX10_nextLook cX10_nextLook 9 (some .int), Cond.methodLink RX10 306 yX10_mostAlike, Cond.instanceMethod yX10_mostAlike, Cond.selects RX10 yX10_mostAlike yX10_mostAlike, Cond.code yX10_mostAlike cX10_mostAlike 6 (some .int), Cond.fieldLink RX10 317 "EggSpoons$Tally" "most" "I", Cond.methodLink RX10 309 yX9_restart, Cond.instanceMethod yX9_restart]
def wsL_law_r32 : List Cond := [Cond.selects RX9 yX9_restart yX9_restart, Cond.code yX9_restart cX9_restart 2 none, Cond.methodLink RX10 311 yX10_farBy, Cond.static yX10_farBy, Cond.code yX10_farBy cX10_farBy 4 (some .int), Cond.fieldLink RX10 320 "EggSpoons$Runner" "kind" "I", Cond.fieldLink RX10 328 "EggSpoons$Runner" "legs" "I", Cond.methodLink RX10 323 yX2_reach, Cond.methodLink RX10 331 yX1_limit, Cond.methodLink RX10 314 yX9_see, Cond.instanceMethod yX9_see, Cond.selects RX9 yX9_see yX9_see, Cond.code yX9_see cX9_see 2 none, Cond.methodLink RX9 19 Lib.Math.max.name, Cond.static Lib.Math.max.name, Cond.code Lib.Math.max.name Lib.Math.max.code 2 (some .int), Cond.methodLink RL 101 yX11_tell, Cond.instanceMethod yX11_tell, Cond.selects RX11 yX11_tell yX11_tell, Cond.code yX11_tell cX11_tell 7 (some .int), Cond.methodLink RX11 165 yX11_mostAlike, Cond.instanceMethod yX11_mostAlike, Cond.selects RX11 yX11_mostAlike yX11_mostAlike, Cond.code yX11_mostAlike cX11_mostAlike 6 (some .int)]
def wsL_law_r33 : List Cond := [Cond.methodLink RL 102 yX10_note, Cond.instanceMethod yX10_note, Cond.selects RX10 yX10_note yX10_note, Cond.code yX10_note cX10_note 6 (some .int), Cond.fieldLink RX10 212 "EggSpoons$Race" "noteRows" "LEggSpoons$Rows;", Cond.methodLink RL 106 yX11_note, Cond.instanceMethod yX11_note, Cond.selects RX11 yX11_note yX11_note, Cond.code yX11_note cX11_note 7 (some .int), Cond.methodLink RL 107 yX10_mark, Cond.instanceMethod yX10_mark, Cond.selects RX10 yX10_mark yX10_mark, Cond.code yX10_mark cX10_mark 4 (some .int), Cond.fieldLink RX10 215 "EggSpoons$Race" "markRows" "LEggSpoons$Rows;", Cond.methodLink RL 110 yX11_mark, Cond.instanceMethod yX11_mark, Cond.selects RX11 yX11_mark yX11_mark, Cond.code yX11_mark cX11_mark 5 (some .int), Cond.methodLink RL 111 yX10_forget, Cond.instanceMethod yX10_forget, Cond.selects RX10 yX10_forget yX10_forget, Cond.code yX10_forget cX10_forget 4 (some .int), Cond.methodLink RL 114 yX11_forget, Cond.instanceMethod yX11_forget]
def wsL_law_r34 : List Cond := [Cond.selects RX11 yX11_forget yX11_forget, Cond.code yX11_forget cX11_forget 3 (some .int), Cond.methodLink RL 115 yX10_is, Cond.instanceMethod yX10_is, Cond.selects RX10 yX10_is yX10_is, Cond.code yX10_is cX10_is 2 (some .int), Cond.methodLink RX10 218 yX5_kindsThatFit, Cond.instanceMethod yX5_kindsThatFit, Cond.selects RX5 yX5_kindsThatFit yX5_kindsThatFit, Cond.code yX5_kindsThatFit cX5_kindsThatFit 4 (some .int), Cond.methodLink RL 118 yX11_is, Cond.instanceMethod yX11_is, Cond.selects RX11 yX11_is yX11_is, Cond.code yX11_is cX11_is 2 (some .int), Cond.methodLink RX11 168 yX11_kindsOfOne, Cond.instanceMethod yX11_kindsOfOne, Cond.selects RX11 yX11_kindsOfOne yX11_kindsOfOne, Cond.code yX11_kindsOfOne cX11_kindsOfOne 7 (some .int), Cond.methodLink RL 119 yX10_look, Cond.instanceMethod yX10_look, Cond.selects RX10 yX10_look yX10_look, Cond.code yX10_look cX10_look 2 (some .int), Cond.methodLink RL 122 yX11_look, Cond.instanceMethod yX11_look]
def wsL_law_r35 : List Cond := [Cond.selects RX11 yX11_look yX11_look, Cond.code yX11_look cX11_look 7 (some .int), Cond.methodLink RL 123 yX10_kinds, Cond.instanceMethod yX10_kinds, Cond.selects RX10 yX10_kinds yX10_kinds, Cond.code yX10_kinds cX10_kinds 2 (some .int), Cond.methodLink RX10 221 yX5_eggsThatFit, Cond.instanceMethod yX5_eggsThatFit, Cond.selects RX5 yX5_eggsThatFit yX5_eggsThatFit, Cond.code yX5_eggsThatFit cX5_eggsThatFit 4 (some .int), Cond.methodLink RX5 101 yX7_fitEgg, Cond.instanceMethod yX7_fitEgg, Cond.selects RX7 yX7_fitEgg yX7_fitEgg, Cond.code yX7_fitEgg cX7_fitEgg 5 (some .boolean), Cond.methodLink RX7 45 yX1_limit, Cond.methodLink RL 126 yX11_kinds, Cond.instanceMethod yX11_kinds, Cond.selects RX11 yX11_kinds yX11_kinds, Cond.code yX11_kinds cX11_kinds 2 (some .int), Cond.methodLink RX11 171 yX11_kindsOfEgg, Cond.instanceMethod yX11_kindsOfEgg, Cond.selects RX11 yX11_kindsOfEgg yX11_kindsOfEgg, Cond.code yX11_kindsOfEgg cX11_kindsOfEgg 7 (some .int), Cond.methodLink RL 127 yX10_ask]
def wsL_law_r36 : List Cond := [Cond.instanceMethod yX10_ask, Cond.selects RX10 yX10_ask yX10_ask, Cond.code yX10_ask cX10_ask 2 (some .int), Cond.methodLink RL 130 yX11_ask, Cond.instanceMethod yX11_ask, Cond.selects RX11 yX11_ask yX11_ask, Cond.code yX11_ask cX11_ask 7 (some .int), Cond.methodLink RL 131 yX10_pair, Cond.instanceMethod yX10_pair, Cond.selects RX10 yX10_pair yX10_pair, Cond.code yX10_pair cX10_pair 5 (some .int), Cond.methodLink RX10 224 yX10_placeBehindFive, Cond.instanceMethod yX10_placeBehindFive, Cond.selects RX10 yX10_placeBehindFive yX10_placeBehindFive, Cond.code yX10_placeBehindFive cX10_placeBehindFive 3 (some .int), Cond.methodLink RX10 227 yX0_put, Cond.instanceMethod yX0_put, Cond.selects RX0 yX0_put yX0_put, Cond.code yX0_put cX0_put 4 none, Cond.methodLink RX10 230 yX0_weigh, Cond.instanceMethod yX0_weigh, Cond.selects RX0 yX0_weigh yX0_weigh, Cond.code yX0_weigh cX0_weigh 7 (some .int), Cond.methodLink RX0 27 yX0_greatestGain]
def wsL_law_r37 : List Cond := [Cond.static yX0_greatestGain, Cond.code yX0_greatestGain cX0_greatestGain 5 (some .int), Cond.methodLink RX0 35 Lib.Math.max.name, Cond.methodLink RX0 31 yX0_gain, Cond.static yX0_gain, Cond.code yX0_gain cX0_gain 3 (some .int), Cond.methodLink RX10 233 yX0_restingPair, Cond.instanceMethod yX0_restingPair, Cond.selects RX0 yX0_restingPair yX0_restingPair, Cond.code yX0_restingPair cX0_restingPair 2 (some .int), Cond.methodLink RL 134 yX11_pair, Cond.instanceMethod yX11_pair, Cond.selects RX11 yX11_pair yX11_pair, Cond.code yX11_pair cX11_pair 6 (some .int), Cond.methodLink RX11 178 yX11_rests, Cond.instanceMethod yX11_rests, Cond.selects RX11 yX11_rests yX11_rests, Cond.code yX11_rests cX11_rests 9 (some .boolean), Cond.methodLink RX11 174 yX11_getsBy, Cond.instanceMethod yX11_getsBy, Cond.selects RX11 yX11_getsBy yX11_getsBy, Cond.code yX11_getsBy cX11_getsBy 4 (some .int), Cond.methodLink RL 135 yX10_stumble, Cond.instanceMethod yX10_stumble]
def wsL_law_r38 : List Cond := [Cond.selects RX10 yX10_stumble yX10_stumble, Cond.code yX10_stumble cX10_stumble 12 (some .int), Cond.fieldLink RX10 240 "EggSpoons$Runner" "waits" "I", Cond.methodLink RX10 236 yX3_pose, Cond.instanceMethod yX3_pose, Cond.selects RX3 yX3_pose yX3_pose, Cond.code yX3_pose cX3_pose 6 none, Cond.fieldLink RX3 7 "EggSpoons$Runner" "kind" "I", Cond.fieldLink RX3 13 "EggSpoons$Odds" "kind" "I", Cond.fieldLink RX3 16 "EggSpoons$Runner" "legs" "I", Cond.fieldLink RX3 19 "EggSpoons$Odds" "legs" "I", Cond.fieldLink RX3 20 "EggSpoons$Runner" "egg" "I", Cond.fieldLink RX3 23 "EggSpoons$Odds" "egg" "I", Cond.fieldLink RX3 24 "EggSpoons$Runner" "speed" "I", Cond.fieldLink RX3 27 "EggSpoons$Odds" "speed" "I", Cond.fieldLink RX3 28 "EggSpoons$Odds" "length" "I", Cond.fieldLink RX3 31 "EggSpoons$Odds" "lastTick" "I", Cond.fieldLink RX3 34 "EggSpoons$Odds" "goal" "I", Cond.fieldLink RX3 37 "EggSpoons$Odds" "tenths" "I", Cond.static yX3_ways, Cond.code yX3_ways cX3_ways 8 (some .long), Cond.constantLong RX3 44 (10), Cond.methodLink RX3 40 yX3_tenTo, Cond.static yX3_tenTo]
def wsL_law_r39 : List Cond := [Cond.code yX3_tenTo cX3_tenTo 4 (some .long), Cond.methodLink RX3 46 yX3_ways, Cond.methodLink RX3 50 yX2_reach, Cond.methodLink RX3 56 yX1_limit, Cond.methodLink RX10 247 yX3_tenTo, Cond.methodLink RX10 251 yX3_commonPart, Cond.static yX3_commonPart, Cond.code yX3_commonPart cX3_commonPart 11 (some .long), Cond.methodLink RL 138 yX11_stumble, Cond.instanceMethod yX11_stumble, Cond.selects RX11 yX11_stumble yX11_stumble, Cond.code yX11_stumble cX11_stumble 13 (some .int), Cond.constantLong RX11 185 (6), Cond.methodLink RX11 187 yX11_fraction, Cond.instanceMethod yX11_fraction, Cond.selects RX11 yX11_fraction yX11_fraction, Cond.code yX11_fraction cX11_fraction 11 none, Cond.fieldLink RX11 182 "EggSpoonsModel" "above" "J", Cond.methodLink RL 139 yX10_races, Cond.instanceMethod yX10_races, Cond.selects RX10 yX10_races yX10_races, Cond.code yX10_races cX10_races 7 (some .int), Cond.constant RX10 255 (999999), Cond.constantLong RX10 260 (1103515245)]
def wsL_law_r40 : List Cond := [Cond.constantLong RX10 262 (12345), Cond.constantLong RX10 264 (2147483648), Cond.constantLong RX10 266 (65536), Cond.constantLong RX10 268 (6), Cond.constantLong RX10 270 (1048576), Cond.constantLong RX10 272 (10), Cond.methodLink RX10 256 yX5_copyLine, Cond.instanceMethod yX5_copyLine, Cond.selects RX5 yX5_copyLine yX5_copyLine, Cond.code yX5_copyLine cX5_copyLine 3 none, Cond.methodLink RX5 58 yX8_copyFrom, Cond.methodLink RL 142 yX11_races, Cond.instanceMethod yX11_races, Cond.selects RX11 yX11_races yX11_races, Cond.code yX11_races cX11_races 7 (some .int), Cond.constantLong RX11 191 (999999), Cond.constantLong RX11 193 (1103515245), Cond.constantLong RX11 195 (12345), Cond.constantLong RX11 197 (2147483648), Cond.constantLong RX11 199 (65536), Cond.constantLong RX11 201 (1048576), Cond.methodLink RL 143 yX10_part, Cond.instanceMethod yX10_part, Cond.selects RX10 yX10_part yX10_part]
def wsL_law_r41 : List Cond := [Cond.code yX10_part cX10_part 2 (some .long), Cond.methodLink RL 147 yX11_part, Cond.instanceMethod yX11_part, Cond.selects RX11 yX11_part yX11_part, Cond.code yX11_part cX11_part 2 (some .long), Cond.methodLink RL 148 yX10_image, Cond.instanceMethod yX10_image, Cond.selects RX10 yX10_image yX10_image, Cond.code yX10_image cX10_image 2 (some .int), Cond.methodLink RX10 274 yX5_copyFrom, Cond.instanceMethod yX5_copyFrom, Cond.selects RX5 yX5_copyFrom yX5_copyFrom, Cond.code yX5_copyFrom cX5_copyFrom 2 none, Cond.methodLink RX5 62 yX5_copyLine, Cond.methodLink RX5 66 yX4_copyFrom, Cond.instanceMethod yX4_copyFrom, Cond.selects RX4 yX4_copyFrom yX4_copyFrom, Cond.code yX4_copyFrom cX4_copyFrom 2 none, Cond.methodLink RX5 69 yX7_copyFrom, Cond.instanceMethod yX7_copyFrom, Cond.selects RX7 yX7_copyFrom yX7_copyFrom, Cond.code yX7_copyFrom cX7_copyFrom 2 none, Cond.methodLink RX7 27 Lib.Math.min.name, Cond.methodLink RX7 33 arraycopyName]
def wsL_law_r42 : List Cond := [Cond.methodLink RL 151 yX11_image, Cond.instanceMethod yX11_image, Cond.selects RX11 yX11_image yX11_image, Cond.code yX11_image cX11_image 3 (some .int), Cond.methodLink RL 152 yX10_from, Cond.instanceMethod yX10_from, Cond.selects RX10 yX10_from yX10_from, Cond.code yX10_from cX10_from 2 (some .int), Cond.methodLink RL 155 yX11_from, Cond.instanceMethod yX11_from, Cond.selects RX11 yX11_from yX11_from, Cond.code yX11_from cX11_from 3 (some .int), Cond.methodLink RL 156 yX10_status, Cond.instanceMethod yX10_status, Cond.selects RX10 yX10_status yX10_status, Cond.code yX10_status cX10_status 2 (some .int), Cond.methodLink RL 159 yX11_status, Cond.instanceMethod yX11_status, Cond.selects RX11 yX11_status yX11_status, Cond.code yX11_status cX11_status 2 (some .int), Cond.methodLink RL 160 yX10_count, Cond.instanceMethod yX10_count, Cond.selects RX10 yX10_count yX10_count, Cond.code yX10_count cX10_count 2 (some .int)]
def wsL_law_r43 : List Cond := [Cond.fieldLink RX10 282 "EggSpoons$Race" "past" "LEggSpoons$Past;", Cond.fieldLink RX10 286 "EggSpoons$Past" "size" "I", Cond.methodLink RX10 276 yX5_placesTogether, Cond.instanceMethod yX5_placesTogether, Cond.selects RX5 yX5_placesTogether yX5_placesTogether, Cond.code yX5_placesTogether cX5_placesTogether 3 (some .int), Cond.fieldLink RX5 88 "EggSpoons$Runner" "place" "I", Cond.methodLink RX10 279 yX5_dropsTogether, Cond.instanceMethod yX5_dropsTogether, Cond.selects RX5 yX5_dropsTogether yX5_dropsTogether, Cond.code yX5_dropsTogether cX5_dropsTogether 3 (some .int), Cond.fieldLink RX5 91 "EggSpoons$Runner" "drops" "I", Cond.methodLink RL 163 yX11_count, Cond.instanceMethod yX11_count, Cond.selects RX11 yX11_count yX11_count, Cond.code yX11_count cX11_count 2 (some .int), Cond.methodLink RX11 268 yX11_counted, Cond.instanceMethod yX11_counted, Cond.selects RX11 yX11_counted yX11_counted, Cond.code yX11_counted cX11_counted 2 (some .int), Cond.methodLink RX11 265 yX11_sumOf, Cond.instanceMethod yX11_sumOf, Cond.selects RX11 yX11_sumOf yX11_sumOf, Cond.code yX11_sumOf cX11_sumOf 4 (some .int)]
def wsL_law_r44 : List Cond := [Cond.methodLink RL 164 yX10_digest, Cond.instanceMethod yX10_digest, Cond.selects RX10 yX10_digest yX10_digest, Cond.code yX10_digest cX10_digest 5 (some .long), Cond.constantLong RX10 289 (1789), Cond.constantLong RX10 291 (31), Cond.methodLink RX10 293 yX10_count, Cond.methodLink RX10 296 yX7_mixInto, Cond.instanceMethod yX7_mixInto, Cond.selects RX7 yX7_mixInto yX7_mixInto, Cond.code yX7_mixInto cX7_mixInto 7 (some .long), Cond.constantLong RX7 50 (31), Cond.methodLink RL 168 yX11_digest, Cond.instanceMethod yX11_digest, Cond.selects RX11 yX11_digest yX11_digest, Cond.code yX11_digest cX11_digest 5 (some .long), Cond.constantLong RX11 273 (1789), Cond.constantLong RX11 271 (31), Cond.methodLink RX11 275 yX11_sums, Cond.instanceMethod yX11_sums, Cond.selects RX11 yX11_sums yX11_sums, Cond.code yX11_sums cX11_sums 8 (some .long)]
def wsL_law : List Cond := (wsL_law_r1 ++ (wsL_law_r2 ++ (wsL_law_r3 ++ (wsL_law_r4 ++ (wsL_law_r5 ++ (wsL_law_r6 ++ (wsL_law_r7 ++ (wsL_law_r8 ++ (wsL_law_r9 ++ (wsL_law_r10 ++ (wsL_law_r11 ++ (wsL_law_r12 ++ (wsL_law_r13 ++ (wsL_law_r14 ++ (wsL_law_r15 ++ (wsL_law_r16 ++ (wsL_law_r17 ++ (wsL_law_r18 ++ (wsL_law_r19 ++ (wsL_law_r20 ++ (wsL_law_r21 ++ (wsL_law_r22 ++ (wsL_law_r23 ++ (wsL_law_r24 ++ (wsL_law_r25 ++ (wsL_law_r26 ++ (wsL_law_r27 ++ (wsL_law_r28 ++ (wsL_law_r29 ++ (wsL_law_r30 ++ (wsL_law_r31 ++ (wsL_law_r32 ++ (wsL_law_r33 ++ (wsL_law_r34 ++ (wsL_law_r35 ++ (wsL_law_r36 ++ (wsL_law_r37 ++ (wsL_law_r38 ++ (wsL_law_r39 ++ (wsL_law_r40 ++ (wsL_law_r41 ++ (wsL_law_r42 ++ (wsL_law_r43 ++ wsL_law_r44))))))))))))))))))))))))))))))))))))))))))) ++ wsX100 ++ wsX110 ++ wsX50 ++ wsX60 ++ wsX80 ++ wsX90 ++ wsX30 ++ wsX00 ++ wsX40 ++ wsX70 ++ ([] : List Cond)
theorem mem_r {big : List Cond} (ws : List Cond) (ps : List Nat) (hp : ws = ps.filterMap (fun i => big[i]?)) : ∀ w ∈ ws, w ∈ big := by
  intro w hw
  rw [hp] at hw
  obtain ⟨i, -, hi⟩ := List.mem_filterMap.mp hw
  first | exact List.mem_of_getElem? hi | exact List.getElem?_mem hi
theorem wsL_law_r1_in : ∀ w ∈ wsL_law_r1, w ∈ lw_tbl := mem_r _ [73, 74, 54, 885, 886, 63, 75, 76, 77, 78, 79, 80, 81, 82, 55, 315, 316, 317, 245, 318, 216, 217, 59, 319] (by decide +kernel)
theorem wsL_law_r2_in : ∀ w ∈ wsL_law_r2, w ∈ lw_tbl := mem_r _ [104, 320, 321, 322, 246, 129, 58, 323, 324, 248, 249, 60, 325, 262, 263, 61, 326, 293, 294, 62, 327, 328, 83, 84] (by decide +kernel)
theorem wsL_law_r3_in : ∀ w ∈ wsL_law_r3, w ∈ lw_tbl := mem_r _ [85, 86, 179, 182, 184, 87, 187, 89, 90, 56, 190, 105, 106, 57, 192, 194, 196, 92, 93, 94, 95, 96, 107, 108] (by decide +kernel)
theorem wsL_law_r4_in : ∀ w ∈ wsL_law_r4, w ∈ lw_tbl := mem_r _ [109, 110, 115, 111, 112, 113, 114, 131, 132, 133, 219, 220, 221, 222, 223, 225, 226, 227, 228, 229, 251, 252, 253, 254] (by decide +kernel)
theorem wsL_law_r5_in : ∀ w ∈ wsL_law_r5, w ∈ lw_tbl := mem_r _ [255, 265, 266, 267, 296, 297, 298, 299, 300, 301, 302, 303, 887, 888, 889, 890, 894, 895, 896, 897, 899, 900, 901, 902] (by decide +kernel)
theorem wsL_law_r6_in : ∀ w ∈ wsL_law_r6, w ∈ lw_tbl := mem_r _ [903, 904, 910, 911, 891, 892, 893, 358, 359, 360, 361, 185, 362, 363, 364, 365, 367, 0, 368, 369, 370, 371, 372, 97] (by decide +kernel)
theorem wsL_law_r7_in : ∀ w ∈ wsL_law_r7, w ∈ lw_tbl := mem_r _ [116, 949, 950, 951, 952, 953, 954, 955, 956, 957, 958, 960, 23, 961, 962, 964, 24, 965, 373, 374, 375, 376, 377, 378] (by decide +kernel)
theorem wsL_law_r8_in : ∀ w ∈ wsL_law_r8, w ∈ lw_tbl := mem_r _ [379, 380, 381, 382, 383, 384, 134, 138, 141, 143, 148, 153, 156, 159, 966, 967, 968, 969, 970, 971, 972, 973, 974, 975] (by decide +kernel)
theorem wsL_law_r9_in : ∀ w ∈ wsL_law_r9, w ∈ lw_tbl := mem_r _ [976, 977, 978, 980, 25, 981, 982, 983, 984, 385, 386, 387, 388, 389, 390, 391, 392, 1195, 1196, 1197, 1198, 1199, 905, 393] (by decide +kernel)
theorem wsL_law_r10_in : ∀ w ∈ wsL_law_r10, w ∈ lw_tbl := mem_r _ [394, 395, 396, 1200, 1201, 1202, 1203, 397, 398, 399, 400, 401, 402, 403, 404, 405, 407, 1, 408, 186, 409, 411, 2, 412] (by decide +kernel)
theorem wsL_law_r11_in : ∀ w ∈ wsL_law_r11, w ∈ lw_tbl := mem_r _ [413, 415, 3, 416, 417, 418, 419, 420, 422, 4, 423, 424, 425, 426, 427, 429, 5, 430, 432, 434, 6, 435, 436, 437] (by decide +kernel)
theorem wsL_law_r12_in : ∀ w ∈ wsL_law_r12, w ∈ lw_tbl := mem_r _ [438, 64, 439, 1292, 440, 441, 442, 443, 444, 1293, 446, 447, 448, 449, 450, 451, 452, 453, 454, 455, 65, 456, 457, 458] (by decide +kernel)
theorem wsL_law_r13_in : ∀ w ∈ wsL_law_r13, w ∈ lw_tbl := mem_r _ [459, 460, 462, 463, 66, 464, 465, 466, 67, 467, 468, 469, 470, 471, 472, 473, 474, 475, 476, 477, 478, 480, 482, 484] (by decide +kernel)
theorem wsL_law_r14_in : ∀ w ∈ wsL_law_r14, w ∈ lw_tbl := mem_r _ [486, 7, 487, 488, 490, 8, 491, 492, 494, 9, 495, 496, 498, 500, 10, 501, 502, 504, 506, 11, 507, 188, 146, 509] (by decide +kernel)
theorem wsL_law_r15_in : ∀ w ∈ wsL_law_r15, w ∈ lw_tbl := mem_r _ [511, 12, 512, 180, 517, 518, 68, 519, 150, 513, 514, 515, 516, 521, 523, 13, 524, 525, 526, 527, 528, 529, 530, 531] (by decide +kernel)
theorem wsL_law_r16_in : ∀ w ∈ wsL_law_r16, w ∈ lw_tbl := mem_r _ [532, 533, 534, 535, 69, 536, 537, 538, 70, 539, 1204, 1205, 1206, 1207, 906, 908, 1208, 1210, 41, 1211, 907, 909, 1212, 1213] (by decide +kernel)
theorem wsL_law_r17_in : ∀ w ∈ wsL_law_r17, w ∈ lw_tbl := mem_r _ [1214, 1215, 1216, 1217, 1218, 1219, 1220, 1221, 1222, 1224, 42, 1225, 1226, 1228, 43, 1229, 1230, 1232, 44, 1233, 1234, 1236, 45, 1237] (by decide +kernel)
theorem wsL_law_r18_in : ∀ w ∈ wsL_law_r18, w ∈ lw_tbl := mem_r _ [1238, 1240, 46, 1241, 1242, 1244, 47, 1245, 1246, 1248, 48, 1249, 999, 1000, 1001, 1250, 1252, 49, 1253, 993, 994, 995, 996, 997] (by decide +kernel)
theorem wsL_law_r19_in : ∀ w ∈ wsL_law_r19, w ∈ lw_tbl := mem_r _ [998, 1002, 1003, 1004, 1005, 1006, 1007, 1008, 1009, 1010, 1011, 1012, 1013, 1014, 1015, 1016, 541, 542, 543, 544, 183, 545, 546, 547] (by decide +kernel)
theorem wsL_law_r20_in : ∀ w ∈ wsL_law_r20, w ∈ lw_tbl := mem_r _ [548, 549, 550, 551, 552, 553, 555, 554, 71, 145, 149, 154, 157, 160, 556, 557, 558, 559, 560, 561, 985, 986, 987, 988] (by decide +kernel)
theorem wsL_law_r21_in : ∀ w ∈ wsL_law_r21, w ∈ lw_tbl := mem_r _ [989, 991, 26, 992, 1017, 1018, 1019, 562, 563, 564, 565, 189, 147, 566, 568, 14, 569, 570, 1020, 1021, 1022, 1023, 1024, 1026] (by decide +kernel)
theorem wsL_law_r22_in : ∀ w ∈ wsL_law_r22, w ∈ lw_tbl := mem_r _ [27, 1027, 1028, 1029, 1030, 1031, 1033, 28, 1034, 571, 572, 573, 574, 151, 181, 1035, 1036, 1037, 1038, 1039, 575, 576, 577, 578] (by decide +kernel)
theorem wsL_law_r23_in : ∀ w ∈ wsL_law_r23, w ∈ lw_tbl := mem_r _ [579, 580, 581, 582, 583, 584, 585, 586, 1040, 1041, 1042, 1043, 587, 588, 589, 590, 591, 592, 593, 594, 1044, 1045, 1046, 1047] (by decide +kernel)
theorem wsL_law_r24_in : ∀ w ∈ wsL_law_r24, w ∈ lw_tbl := mem_r _ [1048, 1050, 29, 1051, 595, 596, 597, 598, 599, 600, 601, 602, 603, 604, 605, 606, 607, 1052, 1053, 1054, 1055, 1056, 1058, 30] (by decide +kernel)
theorem wsL_law_r25_in : ∀ w ∈ wsL_law_r25, w ∈ lw_tbl := mem_r _ [1059, 1060, 1062, 31, 1063, 608, 609, 610, 611, 612, 614, 15, 615, 616, 617, 618, 619, 1064, 1065, 1066, 1067, 1068, 1070, 32] (by decide +kernel)
theorem wsL_law_r26_in : ∀ w ∈ wsL_law_r26, w ∈ lw_tbl := mem_r _ [1071, 1072, 1074, 33, 1075, 620, 621, 622, 623, 1076, 1077, 1078, 1079, 1080, 624, 625, 626, 627, 628, 630, 16, 631, 161, 632] (by decide +kernel)
theorem wsL_law_r27_in : ∀ w ∈ wsL_law_r27, w ∈ lw_tbl := mem_r _ [634, 17, 635, 1081, 1082, 1083, 1084, 1085, 636, 637, 638, 639, 1086, 1087, 1088, 1089, 640, 641, 642, 643, 644, 646, 18, 647] (by decide +kernel)
theorem wsL_law_r28_in : ∀ w ∈ wsL_law_r28, w ∈ lw_tbl := mem_r _ [648, 1090, 1091, 1092, 1093, 649, 650, 651, 652, 653, 655, 19, 656, 1094, 1095, 1096, 1097, 657, 658, 659, 660, 661, 662, 663] (by decide +kernel)
theorem wsL_law_r29_in : ∀ w ∈ wsL_law_r29, w ∈ lw_tbl := mem_r _ [664, 1098, 1099, 1100, 1101, 665, 666, 667, 668, 193, 117, 669, 670, 671, 672, 1102, 1103, 1104, 1105, 1106, 1107, 673, 674, 675] (by decide +kernel)
theorem wsL_law_r30_in : ∀ w ∈ wsL_law_r30, w ∈ lw_tbl := mem_r _ [676, 677, 678, 679, 680, 136, 681, 682, 683, 684, 685, 686, 687, 72, 688, 689, 690, 691, 692, 693, 694, 1108, 1109, 1110] (by decide +kernel)
theorem wsL_law_r31_in : ∀ w ∈ wsL_law_r31, w ∈ lw_tbl := mem_r _ [1111, 1112, 1113, 1115, 34, 1116, 1117, 1118, 1119, 695, 696, 697, 698, 699, 701, 20, 702, 703, 705, 21, 706, 256, 707, 708] (by decide +kernel)
theorem wsL_law_r32_in : ∀ w ∈ wsL_law_r32, w ∈ lw_tbl := mem_r _ [709, 710, 711, 712, 713, 137, 140, 714, 715, 716, 717, 718, 719, 720, 721, 722, 1120, 1121, 1122, 1123, 1124, 1126, 35, 1127] (by decide +kernel)
theorem wsL_law_r33_in : ∀ w ∈ wsL_law_r33, w ∈ lw_tbl := mem_r _ [723, 724, 725, 726, 195, 1128, 1129, 1130, 1131, 727, 728, 729, 730, 197, 1132, 1133, 1134, 1135, 731, 732, 733, 734, 1136, 1137] (by decide +kernel)
theorem wsL_law_r34_in : ∀ w ∈ wsL_law_r34, w ∈ lw_tbl := mem_r _ [1138, 1139, 735, 736, 737, 738, 739, 740, 741, 742, 1140, 1141, 1142, 1143, 1144, 1146, 36, 1147, 743, 744, 745, 746, 1148, 1149] (by decide +kernel)
theorem wsL_law_r35_in : ∀ w ∈ wsL_law_r35, w ∈ lw_tbl := mem_r _ [1150, 1151, 747, 748, 749, 750, 751, 752, 753, 754, 755, 756, 757, 758, 759, 1152, 1153, 1154, 1155, 1156, 1158, 37, 1159, 760] (by decide +kernel)
theorem wsL_law_r36_in : ∀ w ∈ wsL_law_r36, w ∈ lw_tbl := mem_r _ [761, 762, 763, 1160, 1161, 1162, 1163, 764, 765, 766, 767, 768, 770, 22, 771, 772, 773, 774, 775, 776, 777, 778, 779, 780] (by decide +kernel)
theorem wsL_law_r37_in : ∀ w ∈ wsL_law_r37, w ∈ lw_tbl := mem_r _ [781, 782, 786, 783, 784, 785, 787, 788, 789, 790, 1164, 1165, 1166, 1167, 1168, 1170, 38, 1171, 1172, 1174, 39, 1175, 791, 792] (by decide +kernel)
theorem wsL_law_r38_in : ∀ w ∈ wsL_law_r38, w ∈ lw_tbl := mem_r _ [793, 794, 158, 795, 796, 797, 798, 135, 268, 139, 269, 142, 270, 144, 271, 272, 273, 274, 275, 800, 801, 805, 802, 803] (by decide +kernel)
theorem wsL_law_r39_in : ∀ w ∈ wsL_law_r39, w ∈ lw_tbl := mem_r _ [804, 806, 807, 808, 809, 810, 811, 812, 1176, 1177, 1178, 1179, 1180, 1181, 1183, 40, 1184, 898, 813, 814, 815, 816, 817, 823] (by decide +kernel)
theorem wsL_law_r40_in : ∀ w ∈ wsL_law_r40, w ∈ lw_tbl := mem_r _ [824, 825, 826, 827, 828, 829, 818, 819, 820, 821, 822, 1185, 1186, 1187, 1188, 1189, 1190, 1191, 1192, 1193, 1194, 830, 831, 832] (by decide +kernel)
theorem wsL_law_r41_in : ∀ w ∈ wsL_law_r41, w ∈ lw_tbl := mem_r _ [833, 1254, 1255, 1256, 1257, 834, 835, 836, 837, 838, 839, 840, 841, 842, 843, 844, 845, 846, 847, 848, 849, 850, 851, 852] (by decide +kernel)
theorem wsL_law_r42_in : ∀ w ∈ wsL_law_r42, w ∈ lw_tbl := mem_r _ [1258, 1259, 1260, 1261, 853, 854, 855, 856, 1262, 1263, 1264, 1265, 857, 858, 859, 860, 1266, 1267, 1268, 1269, 861, 862, 863, 864] (by decide +kernel)
theorem wsL_law_r43_in : ∀ w ∈ wsL_law_r43, w ∈ lw_tbl := mem_r _ [191, 98, 865, 866, 867, 868, 152, 869, 870, 871, 872, 155, 1270, 1271, 1272, 1273, 1274, 1276, 50, 1277, 1278, 1280, 51, 1281] (by decide +kernel)
theorem wsL_law_r44_in : ∀ w ∈ wsL_law_r44, w ∈ lw_tbl := mem_r _ [873, 874, 875, 876, 877, 878, 879, 880, 881, 882, 883, 884, 1282, 1283, 1284, 1285, 1286, 1287, 1288, 1290, 52, 1291] (by decide +kernel)
theorem wsX100_in : ∀ w ∈ wsX100, w ∈ lw_tbl := mem_r _ [329, 331, 333, 335, 337, 339, 341, 343, 345, 347, 349, 351, 353, 355] (by decide +kernel)
theorem wsX110_in : ∀ w ∈ wsX110, w ∈ lw_tbl := mem_r _ [912, 914, 916, 918, 920, 922, 924, 926, 928, 930, 932, 934, 936, 938, 940, 942, 944, 946] (by decide +kernel)
theorem wsX50_in : ∀ w ∈ wsX50, w ∈ lw_tbl := mem_r _ [198, 200, 202, 204, 206, 208, 210, 212] (by decide +kernel)
theorem wsX60_in : ∀ w ∈ wsX60, w ∈ lw_tbl := mem_r _ [230, 232, 234, 236, 238, 240, 242] (by decide +kernel)
theorem wsX80_in : ∀ w ∈ wsX80, w ∈ lw_tbl := mem_r _ [162, 164, 166, 168, 170, 172, 174, 176] (by decide +kernel)
theorem wsX90_in : ∀ w ∈ wsX90, w ∈ lw_tbl := mem_r _ [257, 259] (by decide +kernel)
theorem wsX30_in : ∀ w ∈ wsX30, w ∈ lw_tbl := mem_r _ [276, 278, 280, 282, 284, 286, 288, 290] (by decide +kernel)
theorem wsX00_in : ∀ w ∈ wsX00, w ∈ lw_tbl := mem_r _ [304, 306, 308, 310, 312] (by decide +kernel)
theorem wsX40_in : ∀ w ∈ wsX40, w ∈ lw_tbl := mem_r _ [99, 101] (by decide +kernel)
theorem wsX70_in : ∀ w ∈ wsX70, w ∈ lw_tbl := mem_r _ [118, 120, 122, 124, 126] (by decide +kernel)
theorem app_in {a b : List Cond} (ha : ∀ w ∈ a, w ∈ lw_tbl) (hb : ∀ w ∈ b, w ∈ lw_tbl) : ∀ w ∈ a ++ b, w ∈ lw_tbl := fun w h => (List.mem_append.mp h).elim (ha w) (hb w)
theorem wsL_law_in : ∀ w ∈ wsL_law, w ∈ lw_tbl := (app_in (app_in (app_in (app_in (app_in (app_in (app_in (app_in (app_in (app_in (app_in (app_in wsL_law_r1_in (app_in wsL_law_r2_in (app_in wsL_law_r3_in (app_in wsL_law_r4_in (app_in wsL_law_r5_in (app_in wsL_law_r6_in (app_in wsL_law_r7_in (app_in wsL_law_r8_in (app_in wsL_law_r9_in (app_in wsL_law_r10_in (app_in wsL_law_r11_in (app_in wsL_law_r12_in (app_in wsL_law_r13_in (app_in wsL_law_r14_in (app_in wsL_law_r15_in (app_in wsL_law_r16_in (app_in wsL_law_r17_in (app_in wsL_law_r18_in (app_in wsL_law_r19_in (app_in wsL_law_r20_in (app_in wsL_law_r21_in (app_in wsL_law_r22_in (app_in wsL_law_r23_in (app_in wsL_law_r24_in (app_in wsL_law_r25_in (app_in wsL_law_r26_in (app_in wsL_law_r27_in (app_in wsL_law_r28_in (app_in wsL_law_r29_in (app_in wsL_law_r30_in (app_in wsL_law_r31_in (app_in wsL_law_r32_in (app_in wsL_law_r33_in (app_in wsL_law_r34_in (app_in wsL_law_r35_in (app_in wsL_law_r36_in (app_in wsL_law_r37_in (app_in wsL_law_r38_in (app_in wsL_law_r39_in (app_in wsL_law_r40_in (app_in wsL_law_r41_in (app_in wsL_law_r42_in (app_in wsL_law_r43_in wsL_law_r44_in))))))))))))))))))))))))))))))))))))))))))) wsX100_in) wsX110_in) wsX50_in) wsX60_in) wsX80_in) wsX90_in) wsX30_in) wsX00_in) wsX40_in) wsX70_in) (fun _ h => absurd h List.not_mem_nil))
theorem inlX0 : ∀ w ∈ wsX00, w ∈ wsL_law := fun _ h => List.mem_append_left _ (List.mem_append_left _ (List.mem_append_left _ (List.mem_append_right _ h)))
theorem inX0 : ∀ w ∈ wsX00, w ∈ lw_tbl := fun w h => wsL_law_in w (inlX0 w h)
theorem inX1 : ∀ w ∈ wsX10, w ∈ lw_tbl := by decide +kernel
theorem inX2 : ∀ w ∈ wsX20, w ∈ lw_tbl := by decide +kernel
theorem inlX3 : ∀ w ∈ wsX30, w ∈ wsL_law := fun _ h => List.mem_append_left _ (List.mem_append_left _ (List.mem_append_left _ (List.mem_append_left _ (List.mem_append_right _ h))))
theorem inX3 : ∀ w ∈ wsX30, w ∈ lw_tbl := fun w h => wsL_law_in w (inlX3 w h)
theorem inlX4 : ∀ w ∈ wsX40, w ∈ wsL_law := fun _ h => List.mem_append_left _ (List.mem_append_left _ (List.mem_append_right _ h))
theorem inX4 : ∀ w ∈ wsX40, w ∈ lw_tbl := fun w h => wsL_law_in w (inlX4 w h)
theorem inlX5 : ∀ w ∈ wsX50, w ∈ wsL_law := fun _ h => List.mem_append_left _ (List.mem_append_left _ (List.mem_append_left _ (List.mem_append_left _ (List.mem_append_left _ (List.mem_append_left _ (List.mem_append_left _ (List.mem_append_left _ (List.mem_append_right _ h))))))))
theorem inX5 : ∀ w ∈ wsX50, w ∈ lw_tbl := fun w h => wsL_law_in w (inlX5 w h)
theorem inlX6 : ∀ w ∈ wsX60, w ∈ wsL_law := fun _ h => List.mem_append_left _ (List.mem_append_left _ (List.mem_append_left _ (List.mem_append_left _ (List.mem_append_left _ (List.mem_append_left _ (List.mem_append_left _ (List.mem_append_right _ h)))))))
theorem inX6 : ∀ w ∈ wsX60, w ∈ lw_tbl := fun w h => wsL_law_in w (inlX6 w h)
theorem inlX7 : ∀ w ∈ wsX70, w ∈ wsL_law := fun _ h => List.mem_append_left _ (List.mem_append_right _ h)
theorem inX7 : ∀ w ∈ wsX70, w ∈ lw_tbl := fun w h => wsL_law_in w (inlX7 w h)
theorem inlX8 : ∀ w ∈ wsX80, w ∈ wsL_law := fun _ h => List.mem_append_left _ (List.mem_append_left _ (List.mem_append_left _ (List.mem_append_left _ (List.mem_append_left _ (List.mem_append_left _ (List.mem_append_right _ h))))))
theorem inX8 : ∀ w ∈ wsX80, w ∈ lw_tbl := fun w h => wsL_law_in w (inlX8 w h)
theorem inlX9 : ∀ w ∈ wsX90, w ∈ wsL_law := fun _ h => List.mem_append_left _ (List.mem_append_left _ (List.mem_append_left _ (List.mem_append_left _ (List.mem_append_left _ (List.mem_append_right _ h)))))
theorem inX9 : ∀ w ∈ wsX90, w ∈ lw_tbl := fun w h => wsL_law_in w (inlX9 w h)
theorem inlX10 : ∀ w ∈ wsX100, w ∈ wsL_law := fun _ h => List.mem_append_left _ (List.mem_append_left _ (List.mem_append_left _ (List.mem_append_left _ (List.mem_append_left _ (List.mem_append_left _ (List.mem_append_left _ (List.mem_append_left _ (List.mem_append_left _ (List.mem_append_left _ (List.mem_append_right _ h))))))))))
theorem inX10 : ∀ w ∈ wsX100, w ∈ lw_tbl := fun w h => wsL_law_in w (inlX10 w h)
theorem inlX11 : ∀ w ∈ wsX110, w ∈ wsL_law := fun _ h => List.mem_append_left _ (List.mem_append_left _ (List.mem_append_left _ (List.mem_append_left _ (List.mem_append_left _ (List.mem_append_left _ (List.mem_append_left _ (List.mem_append_left _ (List.mem_append_left _ (List.mem_append_right _ h)))))))))
theorem inX11 : ∀ w ∈ wsX110, w ∈ lw_tbl := fun w h => wsL_law_in w (inlX11 w h)
theorem inJ6 : ∀ w ∈ wsJ60, w ∈ lw_tbl := by decide +kernel
theorem inJ9 : ∀ w ∈ wsJ90, w ∈ lw_tbl := by decide +kernel
theorem inJ0 : ∀ w ∈ wsJ00, w ∈ lw_tbl := by decide +kernel
theorem inJ1 : ∀ w ∈ wsJ10, w ∈ lw_tbl := by decide +kernel
theorem inJ2 : ∀ w ∈ wsJ20, w ∈ lw_tbl := by decide +kernel
theorem inJ10 : ∀ w ∈ wsJ100, w ∈ lw_tbl := by decide +kernel
theorem inJ3 : ∀ w ∈ wsJ30, w ∈ lw_tbl := by decide +kernel
abbrev vwCl : List vw_C := [(RX0, TX0, 5), (RX3, TX3, 8), (RX4, TX4, 2), (RX5, TX5, 8), (RX6, TX6, 7), (RX7, TX7, 5), (RX8, TX8, 8), (RX9, TX9, 2), (RX10, TX10, 14), (RX11, TX11, 18)]
end
section
/-! the worlds of this class: one environment, one form of contract, one row an instruction -/
abbrev EX : Type := va_G × (ClassId × (ClassId × (ClassId × ClassId)))
abbrev ex_T (X : EX) : List (ClassId × FieldType) := [(X.2.1, .int), (X.2.2.1, .boolean), (X.2.2.2.1, .object RX5), (X.2.2.2.2, .object RX8)]
/-- what holds of the launch's tables all along: classes, array classes, links between nest mates -/
def ev (X : EX) (U : State) : Prop := va_K X.1 vwCl (ex_T X) U ∧ va_AO RX5 U ∧ va_AO RX8 U ∧ va_Nw (.fieldLinkNest RX10 103 "EggSpoons$Reader" "length" "I" "EggSpoons") U ∧ va_Nw (.methodLinkNest RX10 29 yX6_init "EggSpoons") U ∧ va_Nw (.methodLinkNest RX10 47 yX8_init "EggSpoons") U ∧ va_Nw (.methodLinkNest RX10 57 yX9_init "EggSpoons") U ∧ va_Nw (.methodLinkNest RX10 64 yX3_init "EggSpoons") U ∧ va_Nw (.methodLinkNest RX10 71 yX0_init "EggSpoons") U ∧ va_Nw (.methodLinkNest RX5 29 yX4_init "EggSpoons") U ∧ va_Nw (.methodLinkNest RX5 49 yX8_init "EggSpoons") U
theorem ev_warm {X : EX} {s U : State} (h : ev X s) (hW : s.WarmedH U.vm) : ev X U := by
  obtain ⟨h1, h2, h3, h4, h5, h6, h7, h8, h9, h10, h11⟩ := h
  exact ⟨va_K.moved hW.alike h1, h2.moved hW.alike, h3.moved hW.alike, va_Nw.warmF hW h4, va_Nw.warmM hW h5, va_Nw.warmM hW h6, va_Nw.warmM hW h7, va_Nw.warmM hW h8, va_Nw.warmM hW h9, va_Nw.warmM hW h10, va_Nw.warmM hW h11⟩
theorem ev_call {X : EX} {U : State} {g : JFrame} {mk : MethodId} {a : Array Value} (h : ev X U) : ev X (U.calling g mk a) := by
  obtain ⟨h1, h2, h3, h4, h5, h6, h7, h8, h9, h10, h11⟩ := h
  exact ⟨va_K.moved (u := U) (U := U.calling g mk a) (Vm.Alike.refl U.vm) h1, va_AO.moved (u := U) (U := U.calling g mk a) (Vm.Alike.refl U.vm) h2, va_AO.moved (u := U) (U := U.calling g mk a) (Vm.Alike.refl U.vm) h3, va_Nw.same rfl (rfl : U.vm = (U.calling g mk a).vm) h4, va_Nw.same rfl (rfl : U.vm = (U.calling g mk a).vm) h5, va_Nw.same rfl (rfl : U.vm = (U.calling g mk a).vm) h6, va_Nw.same rfl (rfl : U.vm = (U.calling g mk a).vm) h7, va_Nw.same rfl (rfl : U.vm = (U.calling g mk a).vm) h8, va_Nw.same rfl (rfl : U.vm = (U.calling g mk a).vm) h9, va_Nw.same rfl (rfl : U.vm = (U.calling g mk a).vm) h10, va_Nw.same rfl (rfl : U.vm = (U.calling g mk a).vm) h11⟩
/-- the world at a point of a walk: the cells ws, apart and of kind B; nothing outside A has changed since the entry -/
def wd (X : EX) (B A : Nat → Prop) (s : State) (ws : va_W) (H : Heap) (locs : List Loc) : Prop := ev X s ∧ va_P X.1 vwCl ws H ∧ va_D B ws ∧ va_S A s.heap H locs ∧ ∀ q, s.heap.size ≤ q → A q
/-- a contract's start -/
def pE (X : EX) (av : List Value) (ws : va_W) (sz : Nat) : Array Value → State → Prop := va_Pc av (fun U => U.heap.size = sz ∧ va_P X.1 vwCl ws U.heap ∧ ev X U ∧ va_D (fun _ => True) ws)
/-- a contract's end: the answer, the cells that come back; fc are the cells that may have been written -/
abbrev qI {S : Type} (post : Int32 → S → Prop) (X : EX) (w1 : S → va_W) (fc : va_W) (sz : Nat) : Array Value → State → Outcome → State → Prop := va_Qi post (fun u t => va_P X.1 vwCl (w1 u) t.heap ∧ va_D (va_A fc sz) (w1 u)) (va_A fc sz)
abbrev qL {S : Type} (post : Int64 → S → Prop) (X : EX) (w1 : S → va_W) (fc : va_W) (sz : Nat) : Array Value → State → Outcome → State → Prop := va_Ql post (fun u t => va_P X.1 vwCl (w1 u) t.heap ∧ va_D (va_A fc sz) (w1 u)) (va_A fc sz)
abbrev qV {S : Type} (post : S → Prop) (X : EX) (w1 : S → va_W) (fc : va_W) (sz : Nat) : Array Value → State → Outcome → State → Prop := va_Qv post (fun u t => va_P X.1 vwCl (w1 u) t.heap ∧ va_D (va_A fc sz) (w1 u)) (va_A fc sz)
theorem pE_blind {X : EX} {av : List Value} {ws : va_W} {sz : Nat} : FrameBlind (pE X av ws sz) := fun a U g mk q => by
  obtain ⟨q0, q1, qP, qE, qD⟩ := q
  exact ⟨q0, q1, qP, ev_call qE, qD⟩
theorem mp_fm {ws wc : va_W} {is : List Nat} (hs : is.map (fun i => ws[i]?) = wc.map some) : is.filterMap (fun i => ws[i]?) = wc := by
  have h := congrArg (List.filterMap (fun x => x)) hs
  rw [List.filterMap_map, List.filterMap_map] at h
  have h2 : List.filterMap ((fun x => x) ∘ some) wc = wc := List.filterMap_some
  rw [h2] at h
  exact h
theorem wd_pre {X : EX} {B A : Nat → Prop} {s : State} {ws wc : va_W} {H : Heap} {locs : List Loc} {As : List Value} (G : wd X B A s ws H locs) (is : List Nat) (hs : is.map (fun i => ws[i]?) = wc.map some) (hn : va_nd is = true) : ∀ U : State, U.heap = H → s.WarmedH U.vm → pE X As wc H.size As.toArray U := fun U hU hW =>
  ⟨rfl, by rw [hU], by rw [hU]; exact G.2.1.sub is (mp_fm hs), ev_warm G.1 hW, (G.2.2.1.sub is hn hs).weaken (fun _ _ _ _ => trivial)⟩
section EK
variable {p : Program} {l : Launch} {e : Env} {R : Room} {s : State} {m : MethodId} {args : Array Value} {below : List Frame} {meth : Method} {c : Code} {H : Heap} {locs : List Loc} {cells slots : Nat} {Q : State → Prop}
variable {cc : ByteArray} {pc nL : Nat} {ls : Array Slot} {rest : List Value} {X : EX} {A B : Nat → Prop} {a : Nat} {ws : va_W} {Ts : List Cond} {own : String}
theorem mk_met {y : MethodName} {wy wy' : List Cond} {rm : Room} {av : List Value} {ce : va_W} {sz : Nat} {Qc : Array Value → State → Outcome → State → Prop} {mc ms maxL : Nat} {free : Addr → Prop} {ret : Option FieldType} (hy : plainName y.cls = true) (hw : wy = Cond.code y cc maxL ret :: wy') (hlen : (lg_sl av).length ≤ maxL) (hB : va_D (fun _ => True) ce → va_D B ce) (hA : ∀ q, sz ≤ q → A q)
    (body : ∀ (p : Program) (e : Env) (s : State) (m : MethodId) (below : List Frame) (meth : Method) (c : Code), CallFix p m c cc maxL s av.toArray wy y.cls → meth.sig.returnType = ret → meth.locks = false → meth.name = y.name → s.heap.size = sz → wd X B A s ce s.heap [] → ∀ ls : Array Slot, lv_has ls maxL (lv_args 0 av) → W p l e rm s m av.toArray below meth c s.heap [] 0 0 (MQ below Qc av.toArray s mc ms free) (F0 m 0 ls [])) : Met l y wy rm (pE X av ce sz) Qc mc ms free := by
  refine Met.ofW (cc := cc) (maxL := maxL) (ret := ret) hy hw ?_
  intro p e s m args below meth c s₁ Bd hml hv
  obtain ⟨rfl, hsz, hP, hE, hD0⟩ := hv
  have hown : s.vm.findClass y.cls = some m.cls := findClass_of_methodNamed Bd.named
  have hl := lv_entry av hlen
  rw [lg_entry_eq]
  exact body p e s m below meth c ⟨Bd.exec, Bd.bytes, hml, hown, atoms_spec (ws := wy) Bd.pre⟩ Bd.returns Bd.notSynchronized (name_of_methodNamed Bd.named Bd.method).1 hsz ⟨hE, hP, hB hD0, va_S.rf, fun q h => hA q (by rw [← hsz]; exact h)⟩ _ hl
theorem k_ro {ce : va_W} : va_D (fun _ => True) ce → va_D (fun _ => True) ce := fun h => h
theorem k_w {ce : va_W} {sz : Nat} : va_D (fun _ => True) ce → va_D (va_A ce sz) ce := fun h => h.self
theorem k_a {ce : va_W} {sz : Nat} : ∀ q, sz ≤ q → va_A ce sz q := fun _ h => Or.inr h
-- fields
theorem r_get {C : String} {T : u_T} {N ci index : Nat} (S : CallFix p m c cc nL s args Ts own) (hin : ∀ w ∈ u_ws C T N, w ∈ Ts) (G : wd X B A s ws H locs) (q0 : Nat) {fs : List Value} (he : ws[q0]? = some (a, .inr (ci, fs))) (hc : vwCl[ci]? = some (C, T, N)) (k : Nat) (hk : k < N) (hlink : Cond.fieldLink own index (T k).1 (T k).2.1 (T k).2.2.1 ∈ Ts) {v : Value} (hv : fs[k]? = some v) (hdg : decode cc pc = .ok (.getfield index, 3))
    (kk : W p l e R s m args below meth c H locs cells slots Q (F0 m (pc + 3) ls (v :: rest))) : W p l e R s m args below meth c H locs cells slots Q (F0 m pc ls (.ref a :: rest)) :=
  va_get S.1 S.2.1 S.2.2.2.2 hin S.2.2.2.1 G.1.1 G.2.1 q0 he hc k hk (S.2.2.2.2 _ hlink) (fun _ h => h) hv hdg kk
theorem r_getN {C host : String} {T : u_T} {N ci index : Nat} (S : CallFix p m c cc nL s args Ts own) (hin : ∀ w ∈ u_ws C T N, w ∈ Ts) (G : wd X B A s ws H locs) (q0 : Nat) {fs : List Value} (he : ws[q0]? = some (a, .inr (ci, fs))) (hc : vwCl[ci]? = some (C, T, N)) (k : Nat) (hk : k < N) (hlink : va_Nw (Cond.fieldLinkNest own index (T k).1 (T k).2.1 (T k).2.2.1 host) s) {v : Value} (hv : fs[k]? = some v) (hdg : decode cc pc = .ok (.getfield index, 3))
    (kk : W p l e R s m args below meth c H locs cells slots Q (F0 m (pc + 3) ls (v :: rest))) : W p l e R s m args below meth c H locs cells slots Q (F0 m pc ls (.ref a :: rest)) :=
  va_getN S.1 S.2.1 S.2.2.2.2 hin S.2.2.2.1 G.1.1 G.2.1 q0 he hc k hk (va_Nw.use rfl hlink) (fun _ h => h) hv hdg kk
theorem r_put {C : String} {T : u_T} {N ci index : Nat} (S : CallFix p m c cc nL s args Ts own) (hin : ∀ w ∈ u_ws C T N, w ∈ Ts) {ty0 : Nat → FieldType} (hty : ∀ k, k < N → parseFieldDescriptor (T k).2.2.1 = some (ty0 k)) (hnm : ∀ a, a < N → ∀ b, b < N → a ≠ b → (T a).2.1 ≠ (T b).2.1) (G : wd X A A s ws H locs) (q0 : Nat) {fs : List Value} (he : ws[q0]? = some (a, .inr (ci, fs))) (hc : vwCl[ci]? = some (C, T, N)) (k : Nat) (hk : k < N) (hlink : Cond.fieldLink own index (T k).1 (T k).2.1 (T k).2.2.1 ∈ Ts) (hfin : (T k).2.2.2 = false) {v : Value} (hn : narrow (ty0 k) v = v) (hfit : fits (ty0 k) v = true) (hl : k < fs.length) (hdg : decode cc pc = .ok (.putfield index, 3))
    (kk : ∀ (H1 : Heap) (locs1 : List Loc), wd X A A s (ws.set q0 (a, .inr (ci, fs.set k v))) H1 locs1 → W p l e R s m args below meth c H1 locs1 cells slots Q (F0 m (pc + 3) ls rest)) : W p l e R s m args below meth c H locs cells slots Q (F0 m pc ls (v :: .ref a :: rest)) :=
  va_put S.1 S.2.1 S.2.2.2.2 hin ty0 hty hnm S.2.2.2.1 G.1.1 G.2.1 G.2.2.1 G.2.2.2.1 q0 he hc k hk (S.2.2.2.2 _ hlink) (fun _ h => h) hfin (hty k hk) hn hfit hl hdg (fun H1 locs1 h1 h2 h3 => kk H1 locs1 ⟨G.1, h1, h2, h3, G.2.2.2.2⟩)
theorem r_putN {C host : String} {T : u_T} {N ci index : Nat} (S : CallFix p m c cc nL s args Ts own) (hin : ∀ w ∈ u_ws C T N, w ∈ Ts) {ty0 : Nat → FieldType} (hty : ∀ k, k < N → parseFieldDescriptor (T k).2.2.1 = some (ty0 k)) (hnm : ∀ a, a < N → ∀ b, b < N → a ≠ b → (T a).2.1 ≠ (T b).2.1) (G : wd X A A s ws H locs) (q0 : Nat) {fs : List Value} (he : ws[q0]? = some (a, .inr (ci, fs))) (hc : vwCl[ci]? = some (C, T, N)) (k : Nat) (hk : k < N) (hlink : va_Nw (Cond.fieldLinkNest own index (T k).1 (T k).2.1 (T k).2.2.1 host) s) (hfin : (T k).2.2.2 = false) {v : Value} (hn : narrow (ty0 k) v = v) (hfit : fits (ty0 k) v = true) (hl : k < fs.length) (hdg : decode cc pc = .ok (.putfield index, 3))
    (kk : ∀ (H1 : Heap) (locs1 : List Loc), wd X A A s (ws.set q0 (a, .inr (ci, fs.set k v))) H1 locs1 → W p l e R s m args below meth c H1 locs1 cells slots Q (F0 m (pc + 3) ls rest)) : W p l e R s m args below meth c H locs cells slots Q (F0 m pc ls (v :: .ref a :: rest)) :=
  va_putN S.1 S.2.1 S.2.2.2.2 hin ty0 hty hnm S.2.2.2.1 G.1.1 G.2.1 G.2.2.1 G.2.2.2.1 q0 he hc k hk (va_Nw.use rfl hlink) (fun _ h => h) hfin (hty k hk) hn hfit hl hdg (fun H1 locs1 h1 h2 h3 => kk H1 locs1 ⟨G.1, h1, h2, h3, G.2.2.2.2⟩)
theorem r_putF {C : String} {T : u_T} {N ci index : Nat} (S : CallFix p m c cc nL s args Ts own) (hin : ∀ w ∈ u_ws C T N, w ∈ Ts) {ty0 : Nat → FieldType} (hty : ∀ k, k < N → parseFieldDescriptor (T k).2.2.1 = some (ty0 k)) (hnm : ∀ a, a < N → ∀ b, b < N → a ≠ b → (T a).2.1 ≠ (T b).2.1) (G : wd X A A s ws H locs) (q0 : Nat) {fs : List Value} (he : ws[q0]? = some (a, .inr (ci, fs))) (hc : vwCl[ci]? = some (C, T, N)) (k : Nat) (hk : k < N) (hlink : Cond.fieldLink own index (T k).1 (T k).2.1 (T k).2.2.1 ∈ Ts) (hfin : (T k).2.2.2 = true) (hin2 : meth.name = "<init>") (hdecl : (T k).1 = own) {v : Value} (hn : narrow (ty0 k) v = v) (hfit : fits (ty0 k) v = true) (hl : k < fs.length) (hdg : decode cc pc = .ok (.putfield index, 3))
    (kk : ∀ (H1 : Heap) (locs1 : List Loc), wd X A A s (ws.set q0 (a, .inr (ci, fs.set k v))) H1 locs1 → W p l e R s m args below meth c H1 locs1 cells slots Q (F0 m (pc + 3) ls rest)) : W p l e R s m args below meth c H locs cells slots Q (F0 m pc ls (v :: .ref a :: rest)) :=
  va_putF S.1 S.2.1 S.2.2.2.2 hin ty0 hty hnm S.2.2.2.1 G.1.1 G.2.1 G.2.2.1 G.2.2.2.1 q0 he hc k hk (S.2.2.2.2 _ hlink) (fun _ h => h) hfin hin2 hdecl (hty k hk) hn hfit hl hdg (fun H1 locs1 h1 h2 h3 => kk H1 locs1 ⟨G.1, h1, h2, h3, G.2.2.2.2⟩)
-- arrays
theorem r_iald (S : CallFix p m c cc nL s args Ts own) (G : wd X B A s ws H locs) (q0 : Nat) {n : Nat} {f : Nat → Int32} (ha : ws[q0]? = some (a, .inl (X.2.1, n, .inl f))) {i v : Int32} (hin : vp_in i n) (hv : f i.toNatClampNeg = v) (hdg : decode cc pc = .ok (.iaload, 1))
    (kk : W p l e R s m args below meth c H locs cells slots Q (F0 m (pc + 1) ls (.int v :: rest))) : W p l e R s m args below meth c H locs cells slots Q (F0 m pc ls (.int i :: .ref a :: rest)) :=
  va_iald S.1 S.2.1 G.1.1 G.2.1 q0 0 ha rfl hin hdg (by rw [hv]; exact kk)
theorem r_zald (S : CallFix p m c cc nL s args Ts own) (G : wd X B A s ws H locs) (q0 : Nat) {n : Nat} {f : Nat → Int32} (ha : ws[q0]? = some (a, .inl (X.2.2.1, n, .inl f))) {i v : Int32} (hin : vp_in i n) (hv : f i.toNatClampNeg = v) (hdg : decode cc pc = .ok (.baload, 1))
    (kk : W p l e R s m args below meth c H locs cells slots Q (F0 m (pc + 1) ls (.int v :: rest))) : W p l e R s m args below meth c H locs cells slots Q (F0 m pc ls (.int i :: .ref a :: rest)) :=
  va_zald S.1 S.2.1 G.1.1 G.2.1 q0 1 ha rfl hin hdg (by rw [hv]; exact kk)
theorem r_iast (S : CallFix p m c cc nL s args Ts own) (G : wd X A A s ws H locs) (q0 : Nat) {n : Nat} {f : Nat → Int32} (ha : ws[q0]? = some (a, .inl (X.2.1, n, .inl f))) {i x : Int32} (hin : vp_in i n) (hdg : decode cc pc = .ok (.iastore, 1))
    (kk : ∀ (H1 : Heap) (locs1 : List Loc), wd X A A s (ws.set q0 (a, .inl (X.2.1, n, .inl (upd f i.toNatClampNeg x)))) H1 locs1 → W p l e R s m args below meth c H1 locs1 cells slots Q (F0 m (pc + 1) ls rest)) : W p l e R s m args below meth c H locs cells slots Q (F0 m pc ls (.int x :: .int i :: .ref a :: rest)) :=
  va_iast S.1 S.2.1 G.1.1 G.2.1 G.2.2.1 G.2.2.2.1 q0 0 ha rfl hin hdg (fun H1 locs1 h1 h2 h3 => kk H1 locs1 ⟨G.1, h1, h2, h3, G.2.2.2.2⟩)
theorem r_zast (S : CallFix p m c cc nL s args Ts own) (G : wd X A A s ws H locs) (q0 : Nat) {n : Nat} {f : Nat → Int32} (ha : ws[q0]? = some (a, .inl (X.2.2.1, n, .inl f))) {i x : Int32} (hin : vp_in i n) (hdg : decode cc pc = .ok (.bastore, 1))
    (kk : ∀ (H1 : Heap) (locs1 : List Loc), wd X A A s (ws.set q0 (a, .inl (X.2.2.1, n, .inl (upd f i.toNatClampNeg (vp_nar .boolean x))))) H1 locs1 → W p l e R s m args below meth c H1 locs1 cells slots Q (F0 m (pc + 1) ls rest)) : W p l e R s m args below meth c H locs cells slots Q (F0 m pc ls (.int x :: .int i :: .ref a :: rest)) :=
  va_zast S.1 S.2.1 G.1.1 G.2.1 G.2.2.1 G.2.2.2.1 q0 1 ha rfl hin hdg (fun H1 locs1 h1 h2 h3 => kk H1 locs1 ⟨G.1, h1, h2, h3, G.2.2.2.2⟩)
theorem r_alen (S : CallFix p m c cc nL s args Ts own) (G : wd X B A s ws H locs) (q0 t0 : Nat) {cA : ClassId} {x : vp_A} {ty : FieldType} (ha : ws[q0]? = some (a, .inl (cA, x))) (ht : (ex_T X)[t0]? = some (cA, ty)) {v : Int32} (hv : Int32.ofNat x.1 = v) (hdg : decode cc pc = .ok (.arraylength, 1))
    (kk : W p l e R s m args below meth c H locs cells slots Q (F0 m (pc + 1) ls (.int v :: rest))) : W p l e R s m args below meth c H locs cells slots Q (F0 m pc ls (.ref a :: rest)) :=
  va_alen S.1 S.2.1 G.1.1 G.2.1 q0 t0 ha ht hv hdg kk
theorem r_aald (S : CallFix p m c cc nL s args Ts own) (G : wd X B A s ws H locs) (q0 t0 : Nat) {cA : ClassId} {C : String} {n : Nat} {f : Nat → Option Nat} (ha : ws[q0]? = some (a, .inl (cA, n, .inr (.inr (.inr (.inr f)))))) (ht : (ex_T X)[t0]? = some (cA, .object C)) {i : Int32} {b : Nat} (hin : vp_in i n) (hv : f i.toNatClampNeg = some b) (hdg : decode cc pc = .ok (.aaload, 1))
    (kk : W p l e R s m args below meth c H locs cells slots Q (F0 m (pc + 1) ls (.ref b :: rest))) : W p l e R s m args below meth c H locs cells slots Q (F0 m pc ls (.int i :: .ref a :: rest)) :=
  va_aldq S.1 S.2.1 G.1.1 G.2.1 q0 t0 ha ht hin hdg (by rw [hv]; exact kk)
theorem r_aast (S : CallFix p m c cc nL s args Ts own) (G : wd X A A s ws H locs) (q0 t0 qk ci : Nat) {cA : ClassId} {r : vw_C} {n v : Nat} {vs : List Value} {f : Nat → Option Nat} (ha : ws[q0]? = some (a, .inl (cA, n, .inr (.inr (.inr (.inr f)))))) (ht : (ex_T X)[t0]? = some (cA, .object r.1)) (hv : ws[qk]? = some (v, .inr (ci, vs))) (hc : vwCl[ci]? = some r) {i : Int32} (hin : vp_in i n) (hdg : decode cc pc = .ok (.aastore, 1))
    (kk : ∀ (H1 : Heap) (locs1 : List Loc), wd X A A s (ws.set q0 (a, .inl (cA, n, .inr (.inr (.inr (.inr (va_up f i.toNatClampNeg (some v)))))))) H1 locs1 → W p l e R s m args below meth c H1 locs1 cells slots Q (F0 m (pc + 1) ls rest)) : W p l e R s m args below meth c H locs cells slots Q (F0 m pc ls (.ref v :: .int i :: .ref a :: rest)) :=
  va_astq S.1 S.2.1 G.1.1 G.2.1 G.2.2.1 G.2.2.2.1 q0 t0 qk ci ha ht hv hc hin hdg (fun H1 locs1 h1 h2 h3 => kk H1 locs1 ⟨G.1, h1, h2, h3, G.2.2.2.2⟩)
theorem ra_one {U : State} {c1 c2 : ClassId} {ty : FieldType} (h1 : va_RA U c1 ty) (h2 : va_RA U c2 ty) : c1 = c2 := by
  cases ty with
  | object C =>
    obtain ⟨k1, d1, -, -, -, e1⟩ := h1
    obtain ⟨k2, d2, -, -, -, e2⟩ := h2
    exact Option.some.inj (e1.symm.trans e2)
  | _ => exact Option.some.inj (Eq.trans (Eq.symm h1) h2)
theorem r_newi {cells' slots' : Nat} (S : CallFix p m c cc nL s args Ts own) (G : wd X A A s ws H locs) (hcl : Cond.arrayClass .int ∈ Ts) {n : Int32} (N' : Nat) (hn : ¬ n < 0) (hN : n.toNatClampNeg = N') (hby : N' * 4 ≤ 536870912) (e1 : cells + 1 = cells') (e2 : slots + N' = slots') (hcells : cells' ≤ R.cells) (hslots : slots' ≤ R.slots) (hdg : decode cc pc = .ok (.newarray .int, 2))
    (kk : ∀ (q : Nat) (H1 : Heap), wd X A A s (ws ++ [(q, .inl (X.2.1, N', .inl (fun _ => 0)))]) H1 locs → W p l e R s m args below meth c H1 locs cells' slots' Q (F0 m (pc + 2) ls (.ref q :: rest))) : W p l e R s m args below meth c H locs cells slots Q (F0 m pc ls (.int n :: rest)) := by
  subst e1; subst e2
  refine va_newa (atype := .int) (ty := .int) S.1 S.2.1 (S.2.2.2.2 _ hcl) rfl G.1.1 G.2.1 G.2.2.1 G.2.2.2.1 G.2.2.2.2 (a0 := (N', .inl (fun _ => 0))) (fun cA => by rw [vp_cell_i]; rfl) hn hN hby hcells hslots hdg (fun q cA H1 hK hP hD hS => ?_)
  have hc : cA = X.2.1 := ra_one (hK.2 4 (cA, .int) rfl).2 (hK.2 0 (X.2.1, .int) rfl).2
  subst hc
  exact kk q H1 ⟨G.1, hP, hD, hS, G.2.2.2.2⟩
theorem r_newz {cells' slots' : Nat} (S : CallFix p m c cc nL s args Ts own) (G : wd X A A s ws H locs) (hcl : Cond.arrayClass .boolean ∈ Ts) {n : Int32} (N' : Nat) (hn : ¬ n < 0) (hN : n.toNatClampNeg = N') (hby : N' * 1 ≤ 536870912) (e1 : cells + 1 = cells') (e2 : slots + N' = slots') (hcells : cells' ≤ R.cells) (hslots : slots' ≤ R.slots) (hdg : decode cc pc = .ok (.newarray .boolean, 2))
    (kk : ∀ (q : Nat) (H1 : Heap), wd X A A s (ws ++ [(q, .inl (X.2.2.1, N', .inl (fun _ => 0)))]) H1 locs → W p l e R s m args below meth c H1 locs cells' slots' Q (F0 m (pc + 2) ls (.ref q :: rest))) : W p l e R s m args below meth c H locs cells slots Q (F0 m pc ls (.int n :: rest)) := by
  subst e1; subst e2
  refine va_newa (atype := .boolean) (ty := .boolean) S.1 S.2.1 (S.2.2.2.2 _ hcl) rfl G.1.1 G.2.1 G.2.2.1 G.2.2.2.1 G.2.2.2.2 (a0 := (N', .inl (fun _ => 0))) (fun cA => by rw [vp_cell_i]; rfl) hn hN hby hcells hslots hdg (fun q cA H1 hK hP hD hS => ?_)
  have hc : cA = X.2.2.1 := ra_one (hK.2 4 (cA, .boolean) rfl).2 (hK.2 1 (X.2.2.1, .boolean) rfl).2
  subst hc
  exact kk q H1 ⟨G.1, hP, hD, hS, G.2.2.2.2⟩
theorem r_newq {C : String} {index cells' slots' : Nat} (t0 : Nat) {cA : ClassId} (S : CallFix p m c cc nL s args Ts own) (G : wd X A A s ws H locs) (hlk : Cond.classLink own index C ∈ Ts) (hov : va_AO C s) (ht : (ex_T X)[t0]? = some (cA, .object C)) {n : Int32} (N' : Nat) (hn : ¬ n < 0) (hN : n.toNatClampNeg = N') (hby : N' * 4 ≤ 536870912) (e1 : cells + 1 = cells') (e2 : slots + N' = slots') (hcells : cells' ≤ R.cells) (hslots : slots' ≤ R.slots) (hdg : decode cc pc = .ok (.anewarray index, 3))
    (kk : ∀ (q : Nat) (H1 : Heap), wd X A A s (ws ++ [(q, .inl (cA, N', .inr (.inr (.inr (.inr (fun _ => none))))))]) H1 locs → W p l e R s m args below meth c H1 locs cells' slots' Q (F0 m (pc + 3) ls (.ref q :: rest))) : W p l e R s m args below meth c H locs cells slots Q (F0 m pc ls (.int n :: rest)) := by
  subst e1; subst e2
  refine va_newq S.1 S.2.1 S.2.2.2.1 (S.2.2.2.2 _ hlk) hov G.1.1 G.2.1 G.2.2.1 G.2.2.2.1 G.2.2.2.2 hn hN hby hcells hslots hdg (fun q cB H1 hK hP hD hS => ?_)
  have hc : cB = cA := ra_one (hK.2 4 (cB, .object C) rfl).2 (G.1.1.2 t0 (cA, .object C) ht).2
  subst hc
  exact kk q H1 ⟨G.1, hP, hD, hS, G.2.2.2.2⟩
theorem r_new {C : String} {T : u_T} {N ci index cells' slots' : Nat} (S : CallFix p m c cc nL s args Ts own) (hin : ∀ w ∈ u_ws C T N, w ∈ Ts) {ty0 : Nat → FieldType} (hty : ∀ k, k < N → parseFieldDescriptor (T k).2.2.1 = some (ty0 k)) (G : wd X A A s ws H locs) (hlk : Cond.classLink own index C ∈ Ts) (hinst : Cond.instantiable C N ∈ Ts) (hini : Cond.initialized C ∈ Ts) (hc : vwCl[ci]? = some (C, T, N)) (fs : List Value) (hfs : (List.range N).map (fun j => defaultValue (ty0 j)) = (List.range N).map (fun j => vp_V fs j)) (e1 : cells + 1 = cells') (e2 : slots + N = slots') (hcells : cells' ≤ R.cells) (hslots : slots' ≤ R.slots) (hdg : decode cc pc = .ok (.new index, 3))
    (kk : ∀ (q : Nat) (H1 : Heap), wd X A A s (ws ++ [(q, .inr (ci, fs))]) H1 locs → W p l e R s m args below meth c H1 locs cells' slots' Q (F0 m (pc + 3) ls (.ref q :: rest))) : W p l e R s m args below meth c H locs cells slots Q (F0 m pc ls rest) := by
  subst e1; subst e2
  refine va_new S.1 S.2.1 S.2.2.2.2 hin ty0 hty S.2.2.2.1 (S.2.2.2.2 _ hlk) (S.2.2.2.2 _ hinst) (S.2.2.2.2 _ hini) G.1.1 G.2.1 G.2.2.1 G.2.2.2.1 G.2.2.2.2 hc (fs := fs) (fun j hj => ?_) hcells hslots hdg (fun q H1 hP hD hS => kk q H1 ⟨G.1, hP, hD, hS, G.2.2.2.2⟩)
  have h := congrArg (fun l => l[j]?) hfs
  simp only [List.getElem?_map, List.getElem?_range hj, Option.map_some] at h
  exact Option.some.inj h
theorem r_obj {idx : Nat} (S : CallFix p m c cc nL s args Ts own) (hsz : ls.size = nL) (hlink : Cond.methodLink own idx objectInit ∈ Ts) (hinst : Cond.instanceMethod objectInit ∈ Ts) (hcode : Cond.code objectInit ⟨#[0xb1]⟩ 1 none ∈ Ts) (hd : decode cc pc = .ok (.invokespecial idx, 3)) (hfr : 1 ≤ R.frames) (hlo : (rest.map fun v => v.category).sum + 12 ≤ R.locals)
    (kk : W p l e R s m args below meth c H locs cells slots Q (F0 m (pc + 3) ls rest)) : W p l e R s m args below meth c H locs cells slots Q (F0 m pc ls (.ref a :: rest)) :=
  W.objInit S.1 S.2.1 S.2.2.2.1 (S.2.2.2.2 _ hlink) (S.2.2.2.2 _ hinst) (S.2.2.2.2 _ hcode) rfl (hsz.trans S.2.2.1.symm) rfl hd hfr (by show 2 * 0 + _ + 12 ≤ _; omega) kk
-- arithmetic with a name for the result
theorem r_iadd (S : CallFix p m c cc nL s args Ts own) {x y v : Int32} (hv : x + y = v) (hdg : decode cc pc = .ok (.iadd, 1)) (kk : W p l e R s m args below meth c H locs cells slots Q (F0 m (pc + 1) ls (.int v :: rest))) : W p l e R s m args below meth c H locs cells slots Q (F0 m pc ls (.int y :: .int x :: rest)) := lv_iadd S.1 S.2.1 hdg (by rw [hv]; exact kk)
theorem r_isub (S : CallFix p m c cc nL s args Ts own) {x y v : Int32} (hv : x - y = v) (hdg : decode cc pc = .ok (.isub, 1)) (kk : W p l e R s m args below meth c H locs cells slots Q (F0 m (pc + 1) ls (.int v :: rest))) : W p l e R s m args below meth c H locs cells slots Q (F0 m pc ls (.int y :: .int x :: rest)) := lv_isub S.1 S.2.1 hdg (by rw [hv]; exact kk)
theorem r_imul (S : CallFix p m c cc nL s args Ts own) {x y v : Int32} (hv : x * y = v) (hdg : decode cc pc = .ok (.imul, 1)) (kk : W p l e R s m args below meth c H locs cells slots Q (F0 m (pc + 1) ls (.int v :: rest))) : W p l e R s m args below meth c H locs cells slots Q (F0 m pc ls (.int y :: .int x :: rest)) := lv_imul S.1 S.2.1 hdg (by rw [hv]; exact kk)
theorem r_ladd (S : CallFix p m c cc nL s args Ts own) {x y v : Int64} (hv : x + y = v) (hdg : decode cc pc = .ok (.ladd, 1)) (kk : W p l e R s m args below meth c H locs cells slots Q (F0 m (pc + 1) ls (.long v :: rest))) : W p l e R s m args below meth c H locs cells slots Q (F0 m pc ls (.long y :: .long x :: rest)) := lv_ladd S.1 S.2.1 hdg (by rw [hv]; exact kk)
theorem r_lmul (S : CallFix p m c cc nL s args Ts own) {x y v : Int64} (hv : x * y = v) (hdg : decode cc pc = .ok (.lmul, 1)) (kk : W p l e R s m args below meth c H locs cells slots Q (F0 m (pc + 1) ls (.long v :: rest))) : W p l e R s m args below meth c H locs cells slots Q (F0 m pc ls (.long y :: .long x :: rest)) := lv_lmul S.1 S.2.1 hdg (by rw [hv]; exact kk)
-- ends
theorem e_int {S0 : Type} {post : Int32 → S0 → Prop} {w1 : S0 → va_W} {fc : va_W} {v : Int32} {sz : Nat} {ty : FieldType} (S : CallFix p m c cc nL s args Ts own) (hr : meth.sig.returnType = some ty) (hlk : meth.locks = false) (hn : narrow ty (.int v) = .int v) (G : wd X B (va_A fc sz) s ws H locs) (u : S0) (is : List Nat) (hs : is.map (fun i => ws[i]?) = (w1 u).map some) (hnd : va_nd is = true) (hBA : w1 u = [] ∨ B = va_A fc sz) (hp : post v u) (hdg : decode cc pc = .ok (.ireturn, 1)) : W p l e R s m args below meth c H locs cells slots (MQ below (qI post X w1 fc sz) args s cells slots (va_A fc sz)) (F0 m pc ls [.int v]) := by
  refine W.zret S.1 S.2.1 hr hn (fun t ht hW => ⟨⟨v, u, rfl, hp, ?_, ?_⟩, G.2.2.2.1.F ht⟩) G.2.2.2.1.2.2 hdg hlk
  · rw [ht]; exact G.2.1.sub is (mp_fm hs)
  · rcases hBA with h | h
    · rw [h]; exact ⟨fun i j p q h => by simp at h, fun k q h => by simp at h⟩
    · rw [← h]; exact G.2.2.1.sub is hnd hs
theorem e_long {S0 : Type} {post : Int64 → S0 → Prop} {w1 : S0 → va_W} {fc : va_W} {v : Int64} {sz : Nat} (S : CallFix p m c cc nL s args Ts own) (hr : meth.sig.returnType = some .long) (hlk : meth.locks = false) (G : wd X B (va_A fc sz) s ws H locs) (u : S0) (is : List Nat) (hs : is.map (fun i => ws[i]?) = (w1 u).map some) (hnd : va_nd is = true) (hBA : w1 u = [] ∨ B = va_A fc sz) (hp : post v u) (hdg : decode cc pc = .ok (.lreturn, 1)) : W p l e R s m args below meth c H locs cells slots (MQ below (qL post X w1 fc sz) args s cells slots (va_A fc sz)) (F0 m pc ls [.long v]) := by
  refine W.lret S.1 S.2.1 hr (fun t ht hW => ⟨⟨v, u, rfl, hp, ?_, ?_⟩, G.2.2.2.1.F ht⟩) G.2.2.2.1.2.2 hdg hlk
  · rw [ht]; exact G.2.1.sub is (mp_fm hs)
  · rcases hBA with h | h
    · rw [h]; exact ⟨fun i j p q h => by simp at h, fun k q h => by simp at h⟩
    · rw [← h]; exact G.2.2.1.sub is hnd hs
theorem e_void {S0 : Type} {post : S0 → Prop} {w1 : S0 → va_W} {fc : va_W} {sz : Nat} (S : CallFix p m c cc nL s args Ts own) (hr : meth.sig.returnType = none) (hlk : meth.locks = false) (G : wd X B (va_A fc sz) s ws H locs) (u : S0) (is : List Nat) (hs : is.map (fun i => ws[i]?) = (w1 u).map some) (hnd : va_nd is = true) (hBA : w1 u = [] ∨ B = va_A fc sz) (hp : post u) (hdg : decode cc pc = .ok (.return_, 1)) : W p l e R s m args below meth c H locs cells slots (MQ below (qV post X w1 fc sz) args s cells slots (va_A fc sz)) (F0 m pc ls []) := by
  refine W.vret S.1 S.2.1 hr (fun t ht hW => ⟨⟨u, rfl, hp, ?_, ?_⟩, G.2.2.2.1.F ht⟩) G.2.2.2.1.2.2 hdg hlk
  · rw [ht]; exact G.2.1.sub is (mp_fm hs)
  · rcases hBA with h | h
    · rw [h]; exact ⟨fun i j p q h => by simp at h, fun k q h => by simp at h⟩
    · rw [← h]; exact G.2.2.1.sub is hnd hs
-- calls: the run of the callee
section ER
variable {y : MethodName} {bytes : ByteArray} {maxL mc ms n index : Nat} {ret : Option FieldType} {wy wy' : List Cond} {rm : Room} {Qc : Array Value → State → Outcome → State → Prop} {free : Addr → Prop} {b : Nat} {As : List Value} {wc : va_W}
theorem n_V {C : String} {T : u_T} {N ci : Nat} {fs : List Value} (S : CallFix p m c cc nL s args Ts own) (G : wd X B A s ws H locs) (hM : Met l y wy rm (pE X (.ref b :: As) wc H.size) Qc mc ms free) (hg : GoodIn Ts (wsV own index C y wy)) (hw : wy = Cond.code y bytes maxL ret :: wy') (hrc : rm.cells = mc) (hrs : rm.slots = ms) (hd : y.cls = C ∧ y.cls ≠ "java/lang/invoke/MethodHandle" ∧ y.cls ≠ "java/lang/invoke/VarHandle" ∧ (parseMethodDescriptor y.desc).map (fun d => d.parameters.length) = some n) (hR : rm.frames + 1 ≤ R.frames ∧ 8 + (maxL + 11) + rm.locals ≤ R.locals) (is : List Nat) (hs : is.map (fun i => ws[i]?) = wc.map some) (hnd : va_nd is = true) (q0 : Nat) (he : ws[q0]? = some (b, .inr (ci, fs))) (hc : vwCl[ci]? = some (C, T, N)) (hn : As.length = n) (hsz : ls.size = nL) (hst : (rest.map fun v => v.category).sum ≤ 8) (hdg : decode cc pc = .ok (.invokevirtual index, 3)) (hf : cells + mc ≤ R.cells ∧ slots + ms ≤ R.slots) : va_Run p l e R s m args below meth c H locs cells slots mc ms (F0 m pc ls (As.reverse ++ .ref b :: rest)) rest (Qc (Value.ref b :: As).toArray) free :=
  va_runV S hM (cwV n S.2.2.2.2 hg hw hrc hrs hd hR) ⟨pE_blind, va_recv G.1.1 G.2.1 hc he, wd_pre G is hs hnd⟩ rfl hn hsz rfl (lv_room hst) hdg hf
theorem n_S (S : CallFix p m c cc nL s args Ts own) (G : wd X B A s ws H locs) (hM : Met l y wy rm (pE X As wc H.size) Qc mc ms free) (hg : GoodIn Ts (va_wsS own index y wy)) (hw : wy = Cond.code y bytes maxL ret :: wy') (hrc : rm.cells = mc) (hrs : rm.slots = ms) (hd : y.cls ≠ "java/lang/invoke/MethodHandle" ∧ y.cls ≠ "java/lang/invoke/VarHandle" ∧ (parseMethodDescriptor y.desc).map (fun d => d.parameters.length) = some n) (hR : rm.frames + 1 ≤ R.frames ∧ 8 + (maxL + 11) + rm.locals ≤ R.locals) (is : List Nat) (hs : is.map (fun i => ws[i]?) = wc.map some) (hnd : va_nd is = true) (hn : As.length = n) (hsz : ls.size = nL) (hst : (rest.map fun v => v.category).sum ≤ 8) (hdg : decode cc pc = .ok (.invokestatic index, 3)) (hf : cells + mc ≤ R.cells ∧ slots + ms ≤ R.slots) : va_Run p l e R s m args below meth c H locs cells slots mc ms (F0 m pc ls (As.reverse ++ rest)) rest (Qc As.toArray) free :=
  va_runS S hM (va_cwS n S.2.2.2.2 hg hw hrc hrs hd hR) ⟨pE_blind, wd_pre G is hs hnd⟩ rfl hn hsz rfl (lv_room hst) hdg hf
theorem n_I (S : CallFix p m c cc nL s args Ts own) (G : wd X B A s ws H locs) (hM : Met l y wy rm (pE X (.ref b :: As) wc H.size) Qc mc ms free) (hg : GoodIn Ts wy) (hw : wy = Cond.code y bytes maxL none :: wy') (hrc : rm.cells = mc) (hrs : rm.slots = ms) (hini : Cond.initialized y.cls ∈ Ts) (hlk : Cond.methodLink own index y ∈ Ts) (hin : Cond.instanceMethod y ∈ Ts) (hy1 : y.name = "<init>") (hd : y.cls ≠ "java/lang/invoke/MethodHandle" ∧ y.cls ≠ "java/lang/invoke/VarHandle" ∧ (parseMethodDescriptor y.desc).map (fun d => d.parameters.length) = some n) (hR : rm.frames + 1 ≤ R.frames ∧ 8 + (maxL + 11) + rm.locals ≤ R.locals) (is : List Nat) (hs : is.map (fun i => ws[i]?) = wc.map some) (hnd : va_nd is = true) (hn : As.length = n) (hsz : ls.size = nL) (hst : (rest.map fun v => v.category).sum ≤ 8) (hdg : decode cc pc = .ok (.invokespecial index, 3)) (hf : cells + mc ≤ R.cells ∧ slots + ms ≤ R.slots) : va_Run p l e R s m args below meth c H locs cells slots mc ms (F0 m pc ls (As.reverse ++ .ref b :: rest)) rest (Qc (Value.ref b :: As).toArray) free :=
  va_runI S hM (cwI n S.2.2.2.2 hg hw hrc hrs (S.2.2.2.2 _ hini) (S.2.2.2.2 _ hlk) (S.2.2.2.2 _ hin) hy1 hd hR) ⟨pE_blind, wd_pre G is hs hnd⟩ rfl hn hsz rfl (lv_room hst) hdg hf
theorem n_IN {host : String} (S : CallFix p m c cc nL s args Ts own) (G : wd X B A s ws H locs) (hM : Met l y wy rm (pE X (.ref b :: As) wc H.size) Qc mc ms free) (hg : GoodIn Ts wy) (hw : wy = Cond.code y bytes maxL none :: wy') (hrc : rm.cells = mc) (hrs : rm.slots = ms) (hini : Cond.initialized y.cls ∈ Ts) (hlk : va_Nw (.methodLinkNest own index y host) s) (hin : Cond.instanceMethod y ∈ Ts) (hy1 : y.name = "<init>") (hd : y.cls ≠ "java/lang/invoke/MethodHandle" ∧ y.cls ≠ "java/lang/invoke/VarHandle" ∧ (parseMethodDescriptor y.desc).map (fun d => d.parameters.length) = some n) (hR : rm.frames + 1 ≤ R.frames ∧ 8 + (maxL + 11) + rm.locals ≤ R.locals) (is : List Nat) (hs : is.map (fun i => ws[i]?) = wc.map some) (hnd : va_nd is = true) (hn : As.length = n) (hsz : ls.size = nL) (hst : (rest.map fun v => v.category).sum ≤ 8) (hdg : decode cc pc = .ok (.invokespecial index, 3)) (hf : cells + mc ≤ R.cells ∧ slots + ms ≤ R.slots) : va_Run p l e R s m args below meth c H locs cells slots mc ms (F0 m pc ls (As.reverse ++ .ref b :: rest)) rest (Qc (Value.ref b :: As).toArray) free :=
  va_runIN S hM ⟨va_cnB n S.2.2.2.2 hg hw hrc hrs hlk (S.2.2.2.2 _ hini) hd hR, hy1, S.2.2.2.2 _ hin⟩ ⟨pE_blind, wd_pre G is hs hnd⟩ rfl hn hsz rfl (lv_room hst) hdg hf
end ER
-- calls: what is behind them
section EC
variable {mc ms cells' slots' : Nat} {ag : Array Value} {st0 : List Value} {S0 : Type} {w1 : S0 → va_W} {fc wr : va_W}
theorem ro_F (G : wd X B A s ws H locs) : ∀ q, va_A [] H.size q → A q := fun q h => by
  rcases h with ⟨k, e, hk⟩ | h
  · simp at hk
  · exact G.2.2.2.2 q (Nat.le_trans G.2.2.2.1.1 h)
theorem ro_G {H1 : Heap} {locs1 : List Loc} (G : wd X B A s ws H locs) (hk : ∀ q : Nat, q < H.size → ¬ va_A [] H.size q → H1[q]? = H[q]?) (hS : va_S A s.heap H1 locs1) : wd X B A s ws H1 locs1 :=
  ⟨G.1, G.2.1.kept (fun k q hq => hk q.1 ((G.2.1 k q hq).lt) (fun h => by
    rcases h with ⟨k', e', hk'⟩ | h
    · simp at hk'
    · exact absurd ((G.2.1 k q hq).lt) (Nat.not_lt.mpr h))), G.2.2.1, hS, G.2.2.2.2⟩
theorem o_ri {post : Int32 → S0 → Prop} (G : wd X B A s ws H locs) (e1 : cells + mc = cells') (e2 : slots + ms = slots') (hr : va_Run p l e R s m args below meth c H locs cells slots mc ms (F0 m pc ls st0) rest (qI post X w1 [] H.size ag) (va_A [] H.size))
    (kk : ∀ (r : Int32) (u : S0) (H1 : Heap) (locs1 : List Loc), post r u → wd X B A s ws H1 locs1 → W p l e R s m args below meth c H1 locs1 cells' slots' Q (F0 m (pc + 3) ls (.int r :: rest))) : W p l e R s m args below meth c H locs cells slots Q (F0 m pc ls st0) := by
  subst e1; subst e2
  exact va_calli hr G.2.2.2.1 (fun q _ h => ro_F G q h) (ro_F G) (fun r u t H1 locs1 ht hvm hp hB hz hk hS => kk r u H1 locs1 hp (ro_G G hk hS))
theorem o_rl {post : Int64 → S0 → Prop} (G : wd X B A s ws H locs) (e1 : cells + mc = cells') (e2 : slots + ms = slots') (hr : va_Run p l e R s m args below meth c H locs cells slots mc ms (F0 m pc ls st0) rest (qL post X w1 [] H.size ag) (va_A [] H.size))
    (kk : ∀ (r : Int64) (u : S0) (H1 : Heap) (locs1 : List Loc), post r u → wd X B A s ws H1 locs1 → W p l e R s m args below meth c H1 locs1 cells' slots' Q (F0 m (pc + 3) ls (.long r :: rest))) : W p l e R s m args below meth c H locs cells slots Q (F0 m pc ls st0) := by
  subst e1; subst e2
  exact va_calll hr G.2.2.2.1 (fun q _ h => ro_F G q h) (ro_F G) (fun r u t H1 locs1 ht hvm hp hB hz hk hS => kk r u H1 locs1 hp (ro_G G hk hS))
theorem o_wi {post : Int32 → S0 → Prop} (G : wd X A A s ws H locs) (e1 : cells + mc = cells') (e2 : slots + ms = slots') (isC isR : List Nat) (hC : isC.map (fun i => ws[i]?) = fc.map some) (hR : isR.map (fun i => ws[i]?) = wr.map some) (hn : va_nd isR = true) (hdis : ∀ i ∈ isR, i ∉ isC) (hr : va_Run p l e R s m args below meth c H locs cells slots mc ms (F0 m pc ls st0) rest (qI post X w1 fc H.size ag) (va_A fc H.size))
    (kk : ∀ (r : Int32) (u : S0) (H1 : Heap) (locs1 : List Loc), post r u → wd X A A s (wr ++ w1 u) H1 locs1 → W p l e R s m args below meth c H1 locs1 cells' slots' Q (F0 m (pc + 3) ls (.int r :: rest))) : W p l e R s m args below meth c H locs cells slots Q (F0 m pc ls st0) := by
  subst e1; subst e2
  have hF := va_free G.2.2.1 G.2.2.2.1 G.2.2.2.2 isC hC
  refine va_calli hr G.2.2.2.1 (fun q _ h => hF q h) hF (fun r u t H1 locs1 ht hvm hp hB hz hk hS => ?_)
  obtain ⟨hP1, hD1⟩ := hB
  rw [ht] at hP1
  obtain ⟨hP2, hD2⟩ := va_join G.2.1 G.2.2.1 isC isR hC hR hn hdis hk hF hP1 hD1
  exact kk r u H1 locs1 hp ⟨G.1, hP2, hD2, hS, G.2.2.2.2⟩
theorem o_wl {post : Int64 → S0 → Prop} (G : wd X A A s ws H locs) (e1 : cells + mc = cells') (e2 : slots + ms = slots') (isC isR : List Nat) (hC : isC.map (fun i => ws[i]?) = fc.map some) (hR : isR.map (fun i => ws[i]?) = wr.map some) (hn : va_nd isR = true) (hdis : ∀ i ∈ isR, i ∉ isC) (hr : va_Run p l e R s m args below meth c H locs cells slots mc ms (F0 m pc ls st0) rest (qL post X w1 fc H.size ag) (va_A fc H.size))
    (kk : ∀ (r : Int64) (u : S0) (H1 : Heap) (locs1 : List Loc), post r u → wd X A A s (wr ++ w1 u) H1 locs1 → W p l e R s m args below meth c H1 locs1 cells' slots' Q (F0 m (pc + 3) ls (.long r :: rest))) : W p l e R s m args below meth c H locs cells slots Q (F0 m pc ls st0) := by
  subst e1; subst e2
  have hF := va_free G.2.2.1 G.2.2.2.1 G.2.2.2.2 isC hC
  refine va_calll hr G.2.2.2.1 (fun q _ h => hF q h) hF (fun r u t H1 locs1 ht hvm hp hB hz hk hS => ?_)
  obtain ⟨hP1, hD1⟩ := hB
  rw [ht] at hP1
  obtain ⟨hP2, hD2⟩ := va_join G.2.1 G.2.2.1 isC isR hC hR hn hdis hk hF hP1 hD1
  exact kk r u H1 locs1 hp ⟨G.1, hP2, hD2, hS, G.2.2.2.2⟩
theorem o_wv {post : S0 → Prop} (G : wd X A A s ws H locs) (e1 : cells + mc = cells') (e2 : slots + ms = slots') (isC isR : List Nat) (hC : isC.map (fun i => ws[i]?) = fc.map some) (hR : isR.map (fun i => ws[i]?) = wr.map some) (hn : va_nd isR = true) (hdis : ∀ i ∈ isR, i ∉ isC) (hr : va_Run p l e R s m args below meth c H locs cells slots mc ms (F0 m pc ls st0) rest (qV post X w1 fc H.size ag) (va_A fc H.size))
    (kk : ∀ (u : S0) (H1 : Heap) (locs1 : List Loc), post u → wd X A A s (wr ++ w1 u) H1 locs1 → W p l e R s m args below meth c H1 locs1 cells' slots' Q (F0 m (pc + 3) ls rest)) : W p l e R s m args below meth c H locs cells slots Q (F0 m pc ls st0) := by
  subst e1; subst e2
  have hF := va_free G.2.2.1 G.2.2.2.1 G.2.2.2.2 isC hC
  refine va_callv hr G.2.2.2.1 (fun q _ h => hF q h) hF (fun u t H1 locs1 ht hvm hp hB hz hk hS => ?_)
  obtain ⟨hP1, hD1⟩ := hB
  rw [ht] at hP1
  obtain ⟨hP2, hD2⟩ := va_join G.2.1 G.2.2.1 isC isR hC hR hn hdis hk hF hP1 hD1
  exact kk u H1 locs1 hp ⟨G.1, hP2, hD2, hS, G.2.2.2.2⟩
end EC
end EK
end
section
section EKb
variable {p : Program} {l : Launch} {e : Env} {R : Room} {s : State} {m : MethodId} {args : Array Value} {below : List Frame} {meth : Method} {c : Code} {H : Heap} {locs : List Loc} {cells slots : Nat} {Q : State → Prop}
variable {cc : ByteArray} {pc nL : Nat} {ls : Array Slot} {rest : List Value} {X : EX} {A B : Nat → Prop} {a : Nat} {ws : va_W} {Ts : List Cond} {own : String}
theorem k_ld {v v0 : Int64} (hv : v0 = v) (kk : W p l e R s m args below meth c H locs cells slots Q (F0 m pc ls (.long v :: rest))) : W p l e R s m args below meth c H locs cells slots Q (F0 m pc ls (.long v0 :: rest)) := by rw [hv]; exact kk
theorem k_it {v v0 : Int32} (hv : v0 = v) (kk : W p l e R s m args below meth c H locs cells slots Q (F0 m pc ls (.int v :: rest))) : W p l e R s m args below meth c H locs cells slots Q (F0 m pc ls (.int v0 :: rest)) := by rw [hv]; exact kk
theorem o_rv {mc ms cells' slots' : Nat} {ag : Array Value} {st0 : List Value} {S0 : Type} {w1 : S0 → va_W} {post : S0 → Prop} (G : wd X B A s ws H locs) (e1 : cells + mc = cells') (e2 : slots + ms = slots') (hr : va_Run p l e R s m args below meth c H locs cells slots mc ms (F0 m pc ls st0) rest (qV post X w1 [] H.size ag) (va_A [] H.size))
    (kk : ∀ (u : S0) (H1 : Heap) (locs1 : List Loc), post u → wd X B A s ws H1 locs1 → W p l e R s m args below meth c H1 locs1 cells' slots' Q (F0 m (pc + 3) ls rest)) : W p l e R s m args below meth c H locs cells slots Q (F0 m pc ls st0) := by
  subst e1; subst e2
  exact va_callv hr G.2.2.2.1 (fun q _ h => ro_F G q h) (ro_F G) (fun u t H1 locs1 ht hvm hp hB hz hk hS => kk u H1 locs1 hp (ro_G G hk hS))
theorem wd_sub {ws' : va_W} (G : wd X B A s ws H locs) (is : List Nat) (hs : is.map (fun i => ws[i]?) = ws'.map some) (hn : va_nd is = true) : wd X B A s ws' H locs :=
  ⟨G.1, G.2.1.sub is (mp_fm hs), G.2.2.1.sub is hn hs, G.2.2.2.1, G.2.2.2.2⟩
theorem r_mmin {idx : Nat} {x y v : Int32} (S : CallFix p m c cc nL s args Ts own) (hsz : ls.size = nL) (hlink : Cond.methodLink own idx Lib.Math.min.name ∈ Ts) (hstat : Cond.static Lib.Math.min.name ∈ Ts) (hini : Cond.initialized "java/lang/Math" ∈ Ts) (hcode : Cond.code Lib.Math.min.name Lib.Math.min.code 2 (some .int) ∈ Ts) (hfr : 1 ≤ R.frames) (hlo : (rest.map fun v => v.category).sum + 13 ≤ R.locals) (hc : cells ≤ R.cells) (hs : slots ≤ R.slots) (hv : (if y < x then y else x) = v) (hdg : decode cc pc = .ok (.invokestatic idx, 3))
    (kk : W p l e R s m args below meth c H locs cells slots Q (F0 m (pc + 3) ls (.int v :: rest))) : W p l e R s m args below meth c H locs cells slots Q (F0 m pc ls (.int y :: .int x :: rest)) :=
  va_mmin S.1 S.2.1 (S.2.2.1.trans hsz.symm) S.2.2.2.1 (S.2.2.2.2 _ hlink) (S.2.2.2.2 _ hstat) (S.2.2.2.2 _ hini) (S.2.2.2.2 _ hcode) hfr hlo hc hs hdg (by rw [hv]; exact kk)
theorem r_copy0 {idx : Nat} {a0 n0 n1 : Nat} {f g : Nat → Int32} (S : CallFix p m c cc nL s args Ts own) (hsz : ls.size = nL) (G : wd X A A s ws H locs) (hlink : Cond.methodLink own idx arraycopyName ∈ Ts) (hnat : Cond.native arraycopyName ∈ Ts) (hstat : Cond.static arraycopyName ∈ Ts) (hini : Cond.initialized "java/lang/System" ∈ Ts) (q0 q1 : Nat) (ha0 : ws[q0]? = some (a0, .inl (X.2.1, n0, .inl f))) (ha1 : ws[q1]? = some (a, .inl (X.2.1, n1, .inl g))) (hfr : 1 ≤ R.frames) (hlo : (rest.map fun v => v.category).sum + (nativeFrameWords "java/lang/System" "arraycopy" 5 + 11) ≤ R.locals) (hdg : decode cc pc = .ok (.invokestatic idx, 3))
    (kk : ∀ (H1 : Heap) (locs1 : List Loc), wd X A A s (ws.set q1 (a, .inl (X.2.1, n1, .inl g))) H1 locs1 → W p l e R s m args below meth c H1 locs1 cells slots Q (F0 m (pc + 3) ls rest)) : W p l e R s m args below meth c H locs cells slots Q (F0 m pc ls (.int 0 :: .int 0 :: .ref a :: .int 0 :: .ref a0 :: rest)) := by
  refine va_copyi S.1 S.2.1 (S.2.2.1.trans hsz.symm) S.2.2.2.1 (S.2.2.2.2 _ hlink) (S.2.2.2.2 _ hnat) (S.2.2.2.2 _ hstat) (S.2.2.2.2 _ hini) G.1.1 G.2.1 G.2.2.1 G.2.2.2.1 q0 q1 0 0 ha0 ha1 rfl rfl rfl (by decide) (by decide) (by decide) (Nat.zero_le _) (Nat.zero_le _) (fun i hi => absurd hi (Nat.not_lt_zero i)) hfr hlo hdg (fun H1 locs1 h1 h2 h3 => kk H1 locs1 ⟨G.1, ?_, ?_, h3, G.2.2.2.2⟩)
  · have e : va_cpy f g (0 : Int32).toNatClampNeg (0 : Int32).toNatClampNeg (0 : Int32).toNatClampNeg = g := by
      funext j
      exact pk_cpy_out (Or.inr (Nat.zero_le _))
    rw [e] at h1; exact h1
  · have e : va_cpy f g (0 : Int32).toNatClampNeg (0 : Int32).toNatClampNeg (0 : Int32).toNatClampNeg = g := by
      funext j
      exact pk_cpy_out (Or.inr (Nat.zero_le _))
    rw [e] at h2; exact h2
end EKb
theorem k_in {x : Int32} {n : Nat} (hn : n < 2 ^ 31) (h0 : ¬ x < 0) (h1 : ¬ nI n ≤ x) : vp_in x n := by
  rcases pk_ix x hn with h | h | ⟨j, hj, rfl⟩
  · exact absurd h h0
  · exact absurd h h1
  · exact vp_in_nI hj hn
theorem k_01 {x : Int32} (h : (0 : Int32) ≤ x ∧ x ≤ 1) : x = 0 ∨ x = 1 := by
  obtain ⟨j, hj, rfl⟩ := nI_of2 (x := x) (M := 1) (n := 1) (by decide) (Int32.not_lt.mpr h.1) h.2
  have : j = 0 ∨ j = 1 := by omega
  rcases this with rfl | rfl
  · exact Or.inl rfl
  · exact Or.inr rfl
theorem k_012 {x : Int32} (h : (0 : Int32) ≤ x ∧ x ≤ 2) : x = 0 ∨ x = 1 ∨ x = 2 := by
  obtain ⟨j, hj, rfl⟩ := nI_of2 (x := x) (M := 2) (n := 2) (by decide) (Int32.not_lt.mpr h.1) h.2
  have : j = 0 ∨ j = 1 ∨ j = 2 := by omega
  rcases this with rfl | rfl | rfl
  · exact Or.inl rfl
  · exact Or.inr (Or.inl rfl)
  · exact Or.inr (Or.inr rfl)
theorem k_10 {x : Int32} (h : (0 : Int32) ≤ x ∧ x ≤ 10) : x = 0 ∨ x = 1 ∨ x = 2 ∨ x = 3 ∨ x = 4 ∨ x = 5 ∨ x = 6 ∨ x = 7 ∨ x = 8 ∨ x = 9 ∨ x = 10 := by
  obtain ⟨j, hj, rfl⟩ := nI_of2 (x := x) (M := 10) (n := 10) (by decide) (Int32.not_lt.mpr h.1) h.2
  have : j = 0 ∨ j = 1 ∨ j = 2 ∨ j = 3 ∨ j = 4 ∨ j = 5 ∨ j = 6 ∨ j = 7 ∨ j = 8 ∨ j = 9 ∨ j = 10 := by omega
  rcases this with rfl | rfl | rfl | rfl | rfl | rfl | rfl | rfl | rfl | rfl | rfl <;> first | exact Or.inl rfl | exact Or.inr (Or.inl rfl) | decide
theorem k_le32 (a b : Int32) : a ≤ b ↔ a.toInt ≤ b.toInt := Int32.le_iff_toInt_le
theorem k_lt32 (a b : Int32) : a < b ↔ a.toInt < b.toInt := Int32.lt_iff_toInt_lt
/-- eleven cases, or outside -/
theorem k_sw (x : Int32) : ((0 : Int32) ≤ x ∧ x ≤ 10) ∨ ((x.toInt < 0 ∨ 10 < x.toInt) ∧ ¬ ((0 : Int32) ≤ x ∧ x ≤ 10)) := by
  by_cases h : (0 : Int32) ≤ x ∧ x ≤ 10
  · exact Or.inl h
  · refine Or.inr ⟨?_, h⟩
    rw [k_le32, k_le32] at h
    have h0 : (0 : Int32).toInt = 0 := by decide
    have h1 : (10 : Int32).toInt = 10 := by decide
    rw [h0, h1] at h
    omega
theorem k_l64 (x y : Int32) : x.toInt64 < y.toInt64 ↔ x < y := by
  rw [Int64.lt_iff_toInt_lt, Int32.lt_iff_toInt_lt, Int32.toInt_toInt64, Int32.toInt_toInt64]
theorem k_cmp (a b : Int32) : (b < a ∧ lg_cmp a.toInt64 b.toInt64 = 1) ∨ (a = b ∧ lg_cmp a.toInt64 b.toInt64 = 0) ∨ (a < b ∧ lg_cmp a.toInt64 b.toInt64 = -1) := by
  have h : a.toInt < b.toInt ∨ a.toInt = b.toInt ∨ b.toInt < a.toInt := by omega
  rcases h with h | h | h
  · have h1 : a < b := Int32.lt_iff_toInt_lt.mpr h
    have h2 : ¬ b.toInt64 < a.toInt64 := fun q => by
      have q2 := Int32.lt_iff_toInt_lt.mp ((k_l64 b a).mp q)
      omega
    have h3 : ¬ a.toInt64 = b.toInt64 := fun q => by
      have q2 := (k_l64 a b).mpr h1
      rw [q] at q2
      exact Int64.lt_irrefl q2
    refine Or.inr (Or.inr ⟨h1, ?_⟩)
    unfold lg_cmp
    rw [if_neg h2, if_neg h3]
  · have h1 : a = b := Int32.toInt_inj.mp h
    subst h1
    refine Or.inr (Or.inl ⟨rfl, ?_⟩)
    unfold lg_cmp
    rw [if_neg Int64.lt_irrefl, if_pos rfl]
  · have h1 : b < a := Int32.lt_iff_toInt_lt.mpr h
    refine Or.inl ⟨h1, ?_⟩
    unfold lg_cmp
    rw [if_pos ((k_l64 b a).mpr h1)]
theorem k_lc1 {a b : Int32} : lg_cmp a.toInt64 b.toInt64 < 0 ↔ a < b := by
  rcases k_cmp a b with ⟨h, e⟩ | ⟨h, e⟩ | ⟨h, e⟩
  · rw [e]; exact ⟨fun q => absurd q (by decide), fun q => absurd (Int32.lt_trans q h) Int32.lt_irrefl⟩
  · rw [e]; subst h; exact ⟨fun q => absurd q (by decide), fun q => absurd q Int32.lt_irrefl⟩
  · rw [e]; exact ⟨fun _ => h, fun _ => by decide⟩
theorem k_lc2 {a b : Int32} : 0 < lg_cmp a.toInt64 b.toInt64 ↔ b < a := by
  rcases k_cmp a b with ⟨h, e⟩ | ⟨h, e⟩ | ⟨h, e⟩
  · rw [e]; exact ⟨fun _ => h, fun _ => by decide⟩
  · rw [e]; subst h; exact ⟨fun q => absurd q (by decide), fun q => absurd q Int32.lt_irrefl⟩
  · rw [e]; exact ⟨fun q => absurd q (by decide), fun q => absurd (Int32.lt_trans q h) Int32.lt_irrefl⟩
theorem k_p0 {x : Int32} (h : x = 0) : (if x = 0 then Int32.toInt64 0 else if x = 1 then Int32.toInt64 1 else Int32.toInt64 (-2)) = Int32.toInt64 0 := if_pos h
theorem k_p1 {x : Int32} (h : ((0 : Int32) ≤ x ∧ x ≤ 1) ∧ ¬ x = 0) : (if x = 0 then Int32.toInt64 0 else if x = 1 then Int32.toInt64 1 else Int32.toInt64 (-2)) = Int32.toInt64 1 := by
  rw [if_neg h.2]
  rcases k_01 h.1 with q | q
  · exact absurd q h.2
  · exact if_pos q
theorem k_p2 {x : Int32} (h : ¬ ((0 : Int32) ≤ x ∧ x ≤ 1)) : (if x = 0 then Int32.toInt64 0 else if x = 1 then Int32.toInt64 1 else Int32.toInt64 (-2)) = Int32.toInt64 (-2) := by
  rw [if_neg (fun q => h (by rw [q]; decide)), if_neg (fun q => h (by rw [q]; decide))]
theorem k_ge {E k : Nat} (hE : E < 2 ^ 31) (hk : k ≤ E) (c : nI E ≤ nI k) : k = E := by
  have := (nI_leI hE (by omega)).mp c
  omega
theorem k_lt {E k : Nat} (hE : E < 2 ^ 31) (hk : k ≤ E) (c : ¬ nI E ≤ nI k) : k < E := by
  rcases Nat.lt_or_ge k E with h | h
  · exact h
  · exact absurd ((nI_leI hE (by omega)).mpr h) c
theorem k_n60 {x lo : Int32} (hlo : (0 : Int32) ≤ lo) (h : lo ≤ x ∧ x ≤ 60) : ∃ N : Nat, N ≤ 60 ∧ x = nI N := by
  refine nI_of2 (x := x) (M := 60) (n := 60) (by decide) ?_ h.2
  exact Int32.not_lt.mpr (Int32.le_trans hlo h.1)
theorem k_loop {P G : Prop} (h : P → G) (q : P) : G := h q
theorem k_seed {x : Int32} (h : (0 : Int32) ≤ x ∧ x ≤ 999999) : ∃ z : Nat, z < 2147483648 ∧ x = nI z := by
  obtain ⟨j, hj, rfl⟩ := nI_of2 (x := x) (M := 999999) (n := 999999) (by decide) (Int32.not_lt.mpr h.1) h.2
  exact ⟨j, by omega, rfl⟩
theorem k_rx {z : Nat} (hz : z < 2147483648) : ∃ z1 : Nat, z1 < 2147483648 ∧ ((lN z * (Int32.toInt64 1103515245)) + (Int32.toInt64 12345)) - ((lN z * (Int32.toInt64 1103515245)) + (Int32.toInt64 12345)) / 2147483648 * 2147483648 = lN z1 := by
  refine ⟨(z * 1103515245 + 12345) % 2147483648, Nat.mod_lt _ (by decide), ?_⟩
  have e1 : Int32.toInt64 1103515245 = lN 1103515245 := by decide
  have e2 : Int32.toInt64 12345 = lN 12345 := by decide
  have e3 : (2147483648 : Int64) = lN 2147483648 := rfl
  rw [e1, e2, e3, lN_mul, lN_add]
  exact pk_lRem (by omega) (by decide) (by decide)
theorem k_ri {z : Nat} (hz : z < 2147483648) : ∃ j : Nat, j < 6 ∧ Int64.toInt32 ((lN z / (Int32.toInt64 65536)) - (lN z / (Int32.toInt64 65536)) / (Int32.toInt64 6) * (Int32.toInt64 6)) = nI j := by
  refine ⟨z / 65536 % 6, Nat.mod_lt _ (by decide), ?_⟩
  have e1 : Int32.toInt64 65536 = lN 65536 := by decide
  have e2 : Int32.toInt64 6 = lN 6 := by decide
  rw [e1, e2, pk_lDiv (by omega) (by decide) (by decide), pk_lRem (by omega) (by decide) (by decide), lN_i]
theorem k_vp {i : Int32} {n : Nat} (h : ¬ (i < 0 ∨ n ≤ i.toNatClampNeg)) : vp_in i n := h
theorem k_up0 {g : Nat → Int32} {k : Nat} (h : ∀ j : Nat, j < k → g j = 0) : ∀ j : Nat, j < k + 1 → upd g k 0 j = 0 := fun j hj => by
  by_cases e : j = k
  · subst e; exact pk_us
  · rw [pk_un e]; exact h j (by omega)
theorem k_upge {g f : Nat → Int32} {k : Nat} (hk : k < 123) (h : ∀ j : Nat, 123 ≤ j → g j = f j) (x : Int32) : ∀ j : Nat, 123 ≤ j → upd g k x j = f j := fun j hj => by
  rw [pk_un (by omega)]; exact h j hj
theorem k_uplt {g f : Nat → Int32} {k : Nat} (hk : 123 ≤ k) (h : ∀ j : Nat, j < 123 → g j = f j) (x : Int32) : ∀ j : Nat, j < 123 → upd g k x j = f j := fun j hj => by
  rw [pk_un (by omega)]; exact h j hj
theorem k_upeq {g f : Nat → Int32} {k : Nat} (h : ∀ j : Nat, j < k → g j = f j) : ∀ j : Nat, j < k + 1 → upd g k (f k) j = f j := fun j hj => by
  by_cases e : j = k
  · subst e; exact pk_us
  · rw [pk_un e]; exact h j (by omega)
theorem k_beg {g f : Nat → Int32} {x : Int32} (h1 : ∀ j : Nat, j < 123 → g j = 0) (h2 : ∀ j : Nat, 123 ≤ j → g j = f j) : (∀ j : Nat, j < 123 → j ≠ 36 → upd g 36 x j = 0) ∧ upd g 36 x 36 = x ∧ ∀ j : Nat, 123 ≤ j → upd g 36 x j = f j :=
  ⟨fun j h q => by rw [pk_un q]; exact h1 j h, pk_us, fun j h => by rw [pk_un (by omega)]; exact h2 j h⟩
theorem k_ini {u : Nat → Int32} {x : Int32} (h : (∀ j : Nat, j < 123 → j ≠ 36 → u j = 0) ∧ u 36 = x ∧ ∀ j : Nat, 123 ≤ j → u j = (fun _ => 0) j) {j : Nat} (hj : j ≠ 36) : u j = 0 := by
  rcases Nat.lt_or_ge j 123 with q | q
  · exact h.1 j q hj
  · exact h.2.2 j q
theorem k_q1 {x : Int32} (h0 : ¬ x = 0) (h1 : x = 1) : (if x = 0 then Int32.toInt64 0 else if x = 1 then Int32.toInt64 1 else Int32.toInt64 (-2)) = Int32.toInt64 1 := by rw [if_neg h0, if_pos h1]
theorem k_q2 {x : Int32} (h0 : ¬ x = 0) (h1 : ¬ x = 1) : (if x = 0 then Int32.toInt64 0 else if x = 1 then Int32.toInt64 1 else Int32.toInt64 (-2)) = Int32.toInt64 (-2) := by rw [if_neg h0, if_neg h1]
end
section
set_option maxRecDepth 20000 in
theorem ggX10_areTwo_X10_there : GoodIn wsX10_areTwo wsX10_there := goodIn_r _ [5, 6, 7, 8, 9, 10, 11, 12, 13, 14, 15, 16, 17, 18, 19, 20, 21, 22, 23, 24, 25, 26, 27, 28, 29] (by decide +kernel) (by decide +kernel)
set_option maxRecDepth 20000 in
theorem gX10_areTwo_X10_there : GoodIn wsX10_areTwo (wsV RX10 123 RX10 yX10_there wsX10_there) := goodIn_app (goodIn_of _ (by decide +kernel)) ggX10_areTwo_X10_there
set_option maxRecDepth 20000 in
theorem ggX10_ask_X10_refuse : GoodIn wsX10_ask wsX10_refuse := goodIn_r _ [12, 13, 76, 77, 78, 79, 80, 81, 82, 83, 84, 85, 86, 87, 88, 89] (by decide +kernel) (by decide +kernel)
set_option maxRecDepth 20000 in
theorem gX10_ask_X10_refuse : GoodIn wsX10_ask (wsV RX10 83 RX10 yX10_refuse wsX10_refuse) := goodIn_app (goodIn_of _ (by decide +kernel)) ggX10_ask_X10_refuse
set_option maxRecDepth 20000 in
theorem ggX10_ask_X10_there : GoodIn wsX10_ask wsX10_there := goodIn_r _ [7, 1, 8, 76, 77, 78, 79, 80, 81, 82, 83, 84, 85, 86, 87, 88, 89, 90, 91, 92, 93, 94, 95, 96, 97] (by decide +kernel) (by decide +kernel)
set_option maxRecDepth 20000 in
theorem gX10_ask_X10_there : GoodIn wsX10_ask (wsV RX10 123 RX10 yX10_there wsX10_there) := goodIn_app (goodIn_of _ (by decide +kernel)) ggX10_ask_X10_there
set_option maxRecDepth 20000 in
theorem ggX10_beats_X10_areTwo : GoodIn wsX10_beats wsX10_areTwo := goodIn_r _ [11, 12, 13, 14, 10, 15, 1, 16, 60, 61, 62, 63, 64, 65, 66, 67, 68, 69, 70, 71, 72, 73, 74, 75, 76, 77, 78, 79, 80, 81] (by decide +kernel) (by decide +kernel)
set_option maxRecDepth 20000 in
theorem gX10_beats_X10_areTwo : GoodIn wsX10_beats (wsV RX10 172 RX10 yX10_areTwo wsX10_areTwo) := goodIn_app (goodIn_of _ (by decide +kernel)) ggX10_beats_X10_areTwo
set_option maxRecDepth 20000 in
theorem ggX10_beats_X10_refuse : GoodIn wsX10_beats wsX10_refuse := goodIn_r _ [20, 21, 60, 61, 62, 63, 64, 65, 66, 67, 68, 69, 70, 71, 72, 73] (by decide +kernel) (by decide +kernel)
set_option maxRecDepth 20000 in
theorem gX10_beats_X10_refuse : GoodIn wsX10_beats (wsV RX10 83 RX10 yX10_refuse wsX10_refuse) := goodIn_app (goodIn_of _ (by decide +kernel)) ggX10_beats_X10_refuse
set_option maxRecDepth 20000 in
theorem ggX10_best_X10_refuse : GoodIn wsX10_best wsX10_refuse := goodIn_r _ [19, 20, 55, 56, 57, 58, 59, 60, 61, 62, 63, 64, 65, 66, 67, 68] (by decide +kernel) (by decide +kernel)
set_option maxRecDepth 20000 in
theorem gX10_best_X10_refuse : GoodIn wsX10_best (wsV RX10 83 RX10 yX10_refuse wsX10_refuse) := goodIn_app (goodIn_of _ (by decide +kernel)) ggX10_best_X10_refuse
set_option maxRecDepth 20000 in
theorem ggX10_best_X10_there : GoodIn wsX10_best wsX10_there := goodIn_r _ [11, 1, 12, 55, 56, 57, 58, 59, 60, 61, 62, 63, 64, 65, 66, 67, 68, 69, 70, 71, 72, 73, 74, 75, 76] (by decide +kernel) (by decide +kernel)
set_option maxRecDepth 20000 in
theorem gX10_best_X10_there : GoodIn wsX10_best (wsV RX10 123 RX10 yX10_there wsX10_there) := goodIn_app (goodIn_of _ (by decide +kernel)) ggX10_best_X10_there
set_option maxRecDepth 20000 in
theorem ggX10_close_X10_areTwo : GoodIn wsX10_close wsX10_areTwo := goodIn_r _ [16, 17, 18, 19, 15, 20, 2, 21, 59, 60, 61, 62, 63, 64, 65, 66, 67, 68, 69, 70, 71, 72, 73, 74, 75, 76, 77, 78, 79, 80] (by decide +kernel) (by decide +kernel)
set_option maxRecDepth 20000 in
theorem gX10_close_X10_areTwo : GoodIn wsX10_close (wsV RX10 172 RX10 yX10_areTwo wsX10_areTwo) := goodIn_app (goodIn_of _ (by decide +kernel)) ggX10_close_X10_areTwo
set_option maxRecDepth 20000 in
theorem ggX10_close_X10_refuse : GoodIn wsX10_close wsX10_refuse := goodIn_r _ [28, 29, 59, 60, 61, 62, 63, 64, 65, 66, 67, 68, 69, 70, 71, 72] (by decide +kernel) (by decide +kernel)
set_option maxRecDepth 20000 in
theorem gX10_close_X10_refuse : GoodIn wsX10_close (wsV RX10 83 RX10 yX10_refuse wsX10_refuse) := goodIn_app (goodIn_of _ (by decide +kernel)) ggX10_close_X10_refuse
set_option maxRecDepth 20000 in
theorem ggX10_count_X10_refuse : GoodIn wsX10_count wsX10_refuse := goodIn_r _ [39, 40, 41, 42, 43, 44, 45, 46, 47, 48, 49, 50, 51, 52, 53, 54] (by decide +kernel) (by decide +kernel)
set_option maxRecDepth 20000 in
theorem gX10_count_X10_refuse : GoodIn wsX10_count (wsV RX10 83 RX10 yX10_refuse wsX10_refuse) := goodIn_app (goodIn_of _ (by decide +kernel)) ggX10_count_X10_refuse
set_option maxRecDepth 20000 in
theorem ggX10_count_X5_dropsTogether : GoodIn wsX10_count wsX5_dropsTogether := goodIn_r _ [33, 17, 18, 34, 55, 56, 57, 58, 59, 60, 61, 62, 77, 78, 79, 80, 81, 82, 83, 84] (by decide +kernel) (by decide +kernel)
set_option maxRecDepth 20000 in
theorem gX10_count_X5_dropsTogether : GoodIn wsX10_count (wsV RX10 279 RX5 yX5_dropsTogether wsX5_dropsTogether) := goodIn_app (goodIn_of _ (by decide +kernel)) ggX10_count_X5_dropsTogether
set_option maxRecDepth 20000 in
theorem ggX10_count_X5_homes : GoodIn wsX10_count wsX5_homes := goodIn_r _ [16, 17, 18, 19, 20, 21, 22, 23, 24, 55, 56, 57, 58, 59, 60, 61, 62, 77, 78, 79, 80, 81, 82, 83, 84] (by decide +kernel) (by decide +kernel)
set_option maxRecDepth 20000 in
theorem gX10_count_X5_homes : GoodIn wsX10_count (wsV RX10 119 RX5 yX5_homes wsX5_homes) := goodIn_app (goodIn_of _ (by decide +kernel)) ggX10_count_X5_homes
set_option maxRecDepth 20000 in
theorem ggX10_count_X5_placesTogether : GoodIn wsX10_count wsX5_placesTogether := goodIn_r _ [28, 17, 18, 29, 55, 56, 57, 58, 59, 60, 61, 62, 77, 78, 79, 80, 81, 82, 83, 84] (by decide +kernel) (by decide +kernel)
set_option maxRecDepth 20000 in
theorem gX10_count_X5_placesTogether : GoodIn wsX10_count (wsV RX10 276 RX5 yX5_placesTogether wsX5_placesTogether) := goodIn_app (goodIn_of _ (by decide +kernel)) ggX10_count_X5_placesTogether
set_option maxRecDepth 20000 in
theorem ggX10_digest_X10_count : GoodIn wsX10_digest wsX10_count := goodIn_r _ [16, 3, 4, 17, 6, 7, 18, 8, 9, 19, 20, 21, 22, 23, 24, 25, 26, 27, 28, 29, 30, 31, 32, 33, 34, 35, 36, 37, 38, 39, 40, 41, 42, 43, 44, 45, 46, 47, 15, 48, 49, 79, 80, 81, 82, 83, 84, 85, 86, 87, 88, 89, 90, 91, 92, 93, 94, 95, 96, 97, 98, 99, 100, 101, 102, 103, 104, 105, 106, 107, 108, 109, 110, 111, 112, 113, 114, 115, 116, 117, 118, 119, 120, 121, 122] (by decide +kernel) (by decide +kernel)
set_option maxRecDepth 20000 in
theorem gX10_digest_X10_count : GoodIn wsX10_digest (wsV RX10 293 RX10 yX10_count wsX10_count) := goodIn_app (goodIn_of _ (by decide +kernel)) ggX10_digest_X10_count
set_option maxRecDepth 20000 in
theorem ggX10_digest_X7_mixInto : GoodIn wsX10_digest wsX7_mixInto := goodIn_r _ [73, 74, 75, 76, 77, 78, 101, 102, 103, 104, 105] (by decide +kernel) (by decide +kernel)
set_option maxRecDepth 20000 in
theorem gX10_digest_X7_mixInto : GoodIn wsX10_digest (wsV RX10 296 RX7 yX7_mixInto wsX7_mixInto) := goodIn_app (goodIn_of _ (by decide +kernel)) ggX10_digest_X7_mixInto
set_option maxRecDepth 20000 in
theorem ggX10_forget_X10_refuse : GoodIn wsX10_forget wsX10_refuse := goodIn_r _ [13, 14, 15, 16, 17, 18, 19, 20, 21, 22, 23, 24, 25, 26, 27, 28] (by decide +kernel) (by decide +kernel)
set_option maxRecDepth 20000 in
theorem gX10_forget_X10_refuse : GoodIn wsX10_forget (wsV RX10 83 RX10 yX10_refuse wsX10_refuse) := goodIn_app (goodIn_of _ (by decide +kernel)) ggX10_forget_X10_refuse
set_option maxRecDepth 20000 in
theorem ggX10_forget_X10_within : GoodIn wsX10_forget wsX10_within := goodIn_r _ [9] (by decide +kernel) (by decide +kernel)
set_option maxRecDepth 20000 in
theorem gX10_forget_X10_within : GoodIn wsX10_forget (va_wsS RX10 79 yX10_within wsX10_within) := goodIn_app (goodIn_of _ (by decide +kernel)) ggX10_forget_X10_within
set_option maxRecDepth 20000 in
theorem ggX10_from_X10_refuse : GoodIn wsX10_from wsX10_refuse := goodIn_r _ [11, 12, 66, 67, 68, 69, 70, 71, 72, 73, 74, 75, 76, 77, 78, 79] (by decide +kernel) (by decide +kernel)
set_option maxRecDepth 20000 in
theorem gX10_from_X10_refuse : GoodIn wsX10_from (wsV RX10 83 RX10 yX10_refuse wsX10_refuse) := goodIn_app (goodIn_of _ (by decide +kernel)) ggX10_from_X10_refuse
set_option maxRecDepth 20000 in
theorem ggX10_from_X10_within : GoodIn wsX10_from wsX10_within := goodIn_r _ [7] (by decide +kernel) (by decide +kernel)
set_option maxRecDepth 20000 in
theorem gX10_from_X10_within : GoodIn wsX10_from (va_wsS RX10 79 yX10_within wsX10_within) := goodIn_app (goodIn_of _ (by decide +kernel)) ggX10_from_X10_within
set_option maxRecDepth 20000 in
theorem ggX10_home_X10_refuse : GoodIn wsX10_home wsX10_refuse := goodIn_r _ [52, 53, 54, 55, 56, 57, 58, 59, 60, 61, 62, 63, 64, 65, 66, 67] (by decide +kernel) (by decide +kernel)
set_option maxRecDepth 20000 in
theorem gX10_home_X10_refuse : GoodIn wsX10_home (wsV RX10 83 RX10 yX10_refuse wsX10_refuse) := goodIn_app (goodIn_of _ (by decide +kernel)) ggX10_home_X10_refuse
set_option maxRecDepth 20000 in
theorem ggX10_home_X10_there : GoodIn wsX10_home wsX10_there := goodIn_r _ [5, 6, 7, 54, 55, 56, 57, 58, 59, 60, 61, 62, 63, 64, 65, 66, 67, 68, 69, 70, 71, 72, 73, 74, 75] (by decide +kernel) (by decide +kernel)
set_option maxRecDepth 20000 in
theorem gX10_home_X10_there : GoodIn wsX10_home (wsV RX10 123 RX10 yX10_there wsX10_there) := goodIn_app (goodIn_of _ (by decide +kernel)) ggX10_home_X10_there
set_option maxRecDepth 20000 in
theorem ggX10_image_X10_refuse : GoodIn wsX10_image wsX10_refuse := goodIn_r _ [11, 12, 66, 67, 68, 69, 70, 71, 72, 73, 74, 75, 76, 77, 78, 79] (by decide +kernel) (by decide +kernel)
set_option maxRecDepth 20000 in
theorem gX10_image_X10_refuse : GoodIn wsX10_image (wsV RX10 83 RX10 yX10_refuse wsX10_refuse) := goodIn_app (goodIn_of _ (by decide +kernel)) ggX10_image_X10_refuse
set_option maxRecDepth 20000 in
theorem ggX10_image_X10_within : GoodIn wsX10_image wsX10_within := goodIn_r _ [7] (by decide +kernel) (by decide +kernel)
set_option maxRecDepth 20000 in
theorem gX10_image_X10_within : GoodIn wsX10_image (va_wsS RX10 79 yX10_within wsX10_within) := goodIn_app (goodIn_of _ (by decide +kernel)) ggX10_image_X10_within
set_option maxRecDepth 20000 in
theorem ggX10_image_X5_copyFrom : GoodIn wsX10_image wsX5_copyFrom := goodIn_r _ [17, 18, 19, 20, 21, 22, 23, 24, 16, 25, 26, 27, 28, 29, 30, 31, 32, 33, 34, 35, 36, 37, 38, 39, 40, 41, 42, 43, 44, 45, 46, 47, 48, 49, 50, 51, 52, 53, 54, 55, 56, 57, 58, 59, 60, 61, 62, 63, 64, 65, 80, 81, 82, 83, 84, 85, 86, 87, 88, 89, 90, 91, 92, 93, 94, 95, 96, 97, 98, 99, 100, 101, 102] (by decide +kernel) (by decide +kernel)
set_option maxRecDepth 20000 in
theorem gX10_image_X5_copyFrom : GoodIn wsX10_image (wsV RX10 274 RX5 yX5_copyFrom wsX5_copyFrom) := goodIn_app (goodIn_of _ (by decide +kernel)) ggX10_image_X5_copyFrom
set_option maxRecDepth 20000 in
theorem ggX10_init_X0_init : GoodIn wsX10_init wsX0_init := goodIn_r _ [93, 94, 2, 3, 16, 95, 96, 97, 98, 99, 147, 148, 149, 150, 151] (by decide +kernel) (by decide +kernel)
set_option maxRecDepth 20000 in
theorem gX10_init_X0_init_n71 : GoodIn wsX10_init (wsX0_init) := ggX10_init_X0_init
set_option maxRecDepth 20000 in
theorem ggX10_init_X3_init : GoodIn wsX10_init wsX3_init := goodIn_r _ [90, 91, 2, 3] (by decide +kernel) (by decide +kernel)
set_option maxRecDepth 20000 in
theorem gX10_init_X3_init_n64 : GoodIn wsX10_init (wsX3_init) := ggX10_init_X3_init
set_option maxRecDepth 20000 in
theorem ggX10_init_X5_init : GoodIn wsX10_init wsX5_init := goodIn_r _ [40, 41, 2, 3, 42, 43, 44, 45, 46, 47, 48, 49, 50, 51, 52, 53, 54, 55, 56, 21, 22, 57, 58, 59, 16, 60, 61, 62, 63, 64, 65, 66, 67, 68, 69, 70, 71, 72, 73, 100, 101, 102, 103, 104, 105, 106, 107, 152, 153, 154, 155, 156, 157, 158, 129, 130, 131, 132, 133, 134, 135, 136] (by decide +kernel) (by decide +kernel)
set_option maxRecDepth 20000 in
theorem gX10_init_X5_init : GoodIn wsX10_init (wsX5_init) := ggX10_init_X5_init
set_option maxRecDepth 20000 in
theorem ggX10_init_X6_init : GoodIn wsX10_init wsX6_init := goodIn_r _ [75, 76, 2, 3, 16, 77, 78, 79, 80, 81, 82, 83, 122, 123, 124, 125, 126, 127, 128] (by decide +kernel) (by decide +kernel)
set_option maxRecDepth 20000 in
theorem gX10_init_X6_init_n29 : GoodIn wsX10_init (wsX6_init) := ggX10_init_X6_init
set_option maxRecDepth 20000 in
theorem ggX10_init_X8_init : GoodIn wsX10_init wsX8_init := goodIn_r _ [72, 73, 2, 3] (by decide +kernel) (by decide +kernel)
set_option maxRecDepth 20000 in
theorem gX10_init_X8_init_n47 : GoodIn wsX10_init (wsX8_init) := ggX10_init_X8_init
set_option maxRecDepth 20000 in
theorem ggX10_init_X9_init : GoodIn wsX10_init wsX9_init := goodIn_r _ [85, 86, 2, 3, 16, 87, 88, 137, 138] (by decide +kernel) (by decide +kernel)
set_option maxRecDepth 20000 in
theorem gX10_init_X9_init_n57 : GoodIn wsX10_init (wsX9_init) := ggX10_init_X9_init
set_option maxRecDepth 20000 in
theorem ggX10_is_X10_refuse : GoodIn wsX10_is wsX10_refuse := goodIn_r _ [29, 30, 31, 32, 33, 34, 35, 36, 37, 38, 39, 40, 41, 42, 43, 44] (by decide +kernel) (by decide +kernel)
set_option maxRecDepth 20000 in
theorem gX10_is_X10_refuse : GoodIn wsX10_is (wsV RX10 83 RX10 yX10_refuse wsX10_refuse) := goodIn_app (goodIn_of _ (by decide +kernel)) ggX10_is_X10_refuse
set_option maxRecDepth 20000 in
theorem ggX10_is_X10_there : GoodIn wsX10_is wsX10_there := goodIn_r _ [6, 1, 7, 31, 32, 33, 34, 35, 36, 37, 38, 39, 40, 41, 42, 43, 44, 45, 46, 47, 48, 49, 50, 51, 52] (by decide +kernel) (by decide +kernel)
set_option maxRecDepth 20000 in
theorem gX10_is_X10_there : GoodIn wsX10_is (wsV RX10 123 RX10 yX10_there wsX10_there) := goodIn_app (goodIn_of _ (by decide +kernel)) ggX10_is_X10_there
set_option maxRecDepth 20000 in
theorem ggX10_kinds_X10_refuse : GoodIn wsX10_kinds wsX10_refuse := goodIn_r _ [28, 29, 30, 31, 32, 33, 34, 35, 36, 37, 38, 39, 40, 41, 42, 43] (by decide +kernel) (by decide +kernel)
set_option maxRecDepth 20000 in
theorem gX10_kinds_X10_refuse : GoodIn wsX10_kinds (wsV RX10 83 RX10 yX10_refuse wsX10_refuse) := goodIn_app (goodIn_of _ (by decide +kernel)) ggX10_kinds_X10_refuse
set_option maxRecDepth 20000 in
theorem ggX10_kinds_X10_there : GoodIn wsX10_kinds wsX10_there := goodIn_r _ [6, 1, 7, 30, 31, 32, 33, 34, 35, 36, 37, 38, 39, 40, 41, 42, 43, 44, 45, 46, 47, 48, 49, 50, 51] (by decide +kernel) (by decide +kernel)
set_option maxRecDepth 20000 in
theorem gX10_kinds_X10_there : GoodIn wsX10_kinds (wsV RX10 123 RX10 yX10_there wsX10_there) := goodIn_app (goodIn_of _ (by decide +kernel)) ggX10_kinds_X10_there
set_option maxRecDepth 20000 in
theorem ggX10_look_X10_refuse : GoodIn wsX10_look wsX10_refuse := goodIn_r _ [12, 13, 77, 78, 79, 80, 81, 82, 83, 84, 85, 86, 87, 88, 89, 90] (by decide +kernel) (by decide +kernel)
set_option maxRecDepth 20000 in
theorem gX10_look_X10_refuse : GoodIn wsX10_look (wsV RX10 83 RX10 yX10_refuse wsX10_refuse) := goodIn_app (goodIn_of _ (by decide +kernel)) ggX10_look_X10_refuse
set_option maxRecDepth 20000 in
theorem ggX10_look_X10_there : GoodIn wsX10_look wsX10_there := goodIn_r _ [7, 1, 8, 77, 78, 79, 80, 81, 82, 83, 84, 85, 86, 87, 88, 89, 90, 91, 92, 93, 94, 95, 96, 97, 98] (by decide +kernel) (by decide +kernel)
set_option maxRecDepth 20000 in
theorem gX10_look_X10_there : GoodIn wsX10_look (wsV RX10 123 RX10 yX10_there wsX10_there) := goodIn_app (goodIn_of _ (by decide +kernel)) ggX10_look_X10_there
set_option maxRecDepth 20000 in
theorem ggX10_mark_X10_refuse : GoodIn wsX10_mark wsX10_refuse := goodIn_r _ [16, 17, 26, 27, 28, 29, 30, 31, 32, 33, 34, 35, 36, 37, 38, 39] (by decide +kernel) (by decide +kernel)
set_option maxRecDepth 20000 in
theorem gX10_mark_X10_refuse : GoodIn wsX10_mark (wsV RX10 83 RX10 yX10_refuse wsX10_refuse) := goodIn_app (goodIn_of _ (by decide +kernel)) ggX10_mark_X10_refuse
set_option maxRecDepth 20000 in
theorem ggX10_mark_X10_there : GoodIn wsX10_mark wsX10_there := goodIn_r _ [8, 1, 9, 26, 27, 28, 29, 30, 31, 32, 33, 34, 35, 36, 37, 38, 39, 40, 41, 42, 43, 44, 45, 46, 47] (by decide +kernel) (by decide +kernel)
set_option maxRecDepth 20000 in
theorem gX10_mark_X10_there : GoodIn wsX10_mark (wsV RX10 123 RX10 yX10_there wsX10_there) := goodIn_app (goodIn_of _ (by decide +kernel)) ggX10_mark_X10_there
set_option maxRecDepth 20000 in
theorem ggX10_note_X10_refuse : GoodIn wsX10_note wsX10_refuse := goodIn_r _ [16, 17, 26, 27, 28, 29, 30, 31, 32, 33, 34, 35, 36, 37, 38, 39] (by decide +kernel) (by decide +kernel)
set_option maxRecDepth 20000 in
theorem gX10_note_X10_refuse : GoodIn wsX10_note (wsV RX10 83 RX10 yX10_refuse wsX10_refuse) := goodIn_app (goodIn_of _ (by decide +kernel)) ggX10_note_X10_refuse
set_option maxRecDepth 20000 in
theorem ggX10_note_X10_there : GoodIn wsX10_note wsX10_there := goodIn_r _ [8, 1, 9, 26, 27, 28, 29, 30, 31, 32, 33, 34, 35, 36, 37, 38, 39, 40, 41, 42, 43, 44, 45, 46, 47] (by decide +kernel) (by decide +kernel)
set_option maxRecDepth 20000 in
theorem gX10_note_X10_there : GoodIn wsX10_note (wsV RX10 123 RX10 yX10_there wsX10_there) := goodIn_app (goodIn_of _ (by decide +kernel)) ggX10_note_X10_there
set_option maxRecDepth 20000 in
theorem ggX10_of_X10_refuse : GoodIn wsX10_of wsX10_refuse := goodIn_r _ [16, 17, 39, 40, 41, 42, 43, 44, 45, 46, 47, 48, 49, 50, 51, 52] (by decide +kernel) (by decide +kernel)
set_option maxRecDepth 20000 in
theorem gX10_of_X10_refuse : GoodIn wsX10_of (wsV RX10 83 RX10 yX10_refuse wsX10_refuse) := goodIn_app (goodIn_of _ (by decide +kernel)) ggX10_of_X10_refuse
set_option maxRecDepth 20000 in
theorem ggX10_of_X10_there : GoodIn wsX10_of wsX10_there := goodIn_r _ [8, 1, 9, 39, 40, 41, 42, 43, 44, 45, 46, 47, 48, 49, 50, 51, 52, 53, 54, 55, 56, 57, 58, 59, 60] (by decide +kernel) (by decide +kernel)
set_option maxRecDepth 20000 in
theorem gX10_of_X10_there : GoodIn wsX10_of (wsV RX10 123 RX10 yX10_there wsX10_there) := goodIn_app (goodIn_of _ (by decide +kernel)) ggX10_of_X10_there
set_option maxRecDepth 20000 in
theorem ggX10_one_X10_refuse : GoodIn wsX10_one wsX10_refuse := goodIn_r _ [10, 11, 34, 35, 36, 37, 38, 39, 40, 41, 42, 43, 44, 45, 46, 47] (by decide +kernel) (by decide +kernel)
set_option maxRecDepth 20000 in
theorem gX10_one_X10_refuse : GoodIn wsX10_one (wsV RX10 83 RX10 yX10_refuse wsX10_refuse) := goodIn_app (goodIn_of _ (by decide +kernel)) ggX10_one_X10_refuse
set_option maxRecDepth 20000 in
theorem ggX10_one_X10_within : GoodIn wsX10_one wsX10_within := goodIn_r _ [6] (by decide +kernel) (by decide +kernel)
set_option maxRecDepth 20000 in
theorem gX10_one_X10_within : GoodIn wsX10_one (va_wsS RX10 79 yX10_within wsX10_within) := goodIn_app (goodIn_of _ (by decide +kernel)) ggX10_one_X10_within
set_option maxRecDepth 20000 in
theorem ggX10_one_X5_welcome : GoodIn wsX10_one wsX5_welcome := goodIn_r _ [16, 17, 18, 19, 20, 21, 22, 23, 24, 25, 26, 27, 28, 29, 30, 31, 32, 33, 48, 49, 50, 51, 52, 53, 54, 55, 56, 57, 58, 59, 60, 61, 62, 63, 64, 65] (by decide +kernel) (by decide +kernel)
set_option maxRecDepth 20000 in
theorem gX10_one_X5_welcome : GoodIn wsX10_one (wsV RX10 95 RX5 yX5_welcome wsX5_welcome) := goodIn_app (goodIn_of _ (by decide +kernel)) ggX10_one_X5_welcome
set_option maxRecDepth 20000 in
theorem ggX10_order_X10_refuse : GoodIn wsX10_order wsX10_refuse := goodIn_r _ [7, 8, 61, 62, 63, 64, 65, 66, 67, 68, 69, 70, 71, 72, 73, 74] (by decide +kernel) (by decide +kernel)
set_option maxRecDepth 20000 in
theorem gX10_order_X10_refuse : GoodIn wsX10_order (wsV RX10 83 RX10 yX10_refuse wsX10_refuse) := goodIn_app (goodIn_of _ (by decide +kernel)) ggX10_order_X10_refuse
set_option maxRecDepth 20000 in
theorem ggX10_pair_X10_areTwo : GoodIn wsX10_pair wsX10_areTwo := goodIn_r _ [9, 10, 11, 12, 8, 13, 2, 14, 89, 90, 91, 92, 93, 94, 95, 96, 97, 98, 99, 100, 101, 102, 103, 104, 105, 106, 107, 108, 109, 110] (by decide +kernel) (by decide +kernel)
set_option maxRecDepth 20000 in
theorem gX10_pair_X10_areTwo : GoodIn wsX10_pair (wsV RX10 172 RX10 yX10_areTwo wsX10_areTwo) := goodIn_app (goodIn_of _ (by decide +kernel)) ggX10_pair_X10_areTwo
set_option maxRecDepth 20000 in
theorem ggX10_pair_X10_refuse : GoodIn wsX10_pair wsX10_refuse := goodIn_r _ [18, 19, 89, 90, 91, 92, 93, 94, 95, 96, 97, 98, 99, 100, 101, 102] (by decide +kernel) (by decide +kernel)
set_option maxRecDepth 20000 in
theorem gX10_pair_X10_refuse : GoodIn wsX10_pair (wsV RX10 83 RX10 yX10_refuse wsX10_refuse) := goodIn_app (goodIn_of _ (by decide +kernel)) ggX10_pair_X10_refuse
set_option maxRecDepth 20000 in
theorem ggX10_part_X10_refuse : GoodIn wsX10_part wsX10_refuse := goodIn_r _ [10, 11, 12, 13, 14, 15, 16, 17, 18, 19, 20, 21, 22, 23, 24, 25] (by decide +kernel) (by decide +kernel)
set_option maxRecDepth 20000 in
theorem gX10_part_X10_refuse : GoodIn wsX10_part (wsV RX10 83 RX10 yX10_refuse wsX10_refuse) := goodIn_app (goodIn_of _ (by decide +kernel)) ggX10_part_X10_refuse
set_option maxRecDepth 20000 in
theorem ggX10_part_X10_within : GoodIn wsX10_part wsX10_within := goodIn_r _ [6] (by decide +kernel) (by decide +kernel)
set_option maxRecDepth 20000 in
theorem gX10_part_X10_within : GoodIn wsX10_part (va_wsS RX10 79 yX10_within wsX10_within) := goodIn_app (goodIn_of _ (by decide +kernel)) ggX10_part_X10_within
set_option maxRecDepth 20000 in
theorem ggX10_race_X10_refuse : GoodIn wsX10_race wsX10_refuse := goodIn_r _ [10, 11, 26, 27, 28, 29, 30, 31, 32, 33, 34, 35, 36, 37, 38, 39] (by decide +kernel) (by decide +kernel)
set_option maxRecDepth 20000 in
theorem gX10_race_X10_refuse : GoodIn wsX10_race (wsV RX10 83 RX10 yX10_refuse wsX10_refuse) := goodIn_app (goodIn_of _ (by decide +kernel)) ggX10_race_X10_refuse
set_option maxRecDepth 20000 in
theorem ggX10_race_X10_within : GoodIn wsX10_race wsX10_within := goodIn_r _ [6] (by decide +kernel) (by decide +kernel)
set_option maxRecDepth 20000 in
theorem gX10_race_X10_within : GoodIn wsX10_race (va_wsS RX10 79 yX10_within wsX10_within) := goodIn_app (goodIn_of _ (by decide +kernel)) ggX10_race_X10_within
set_option maxRecDepth 20000 in
theorem ggX10_race_X5_restart : GoodIn wsX10_race wsX5_restart := goodIn_r _ [16, 17, 18, 19, 20, 21, 22, 23, 24, 25, 40, 41, 42, 43, 44, 45, 46, 47, 48, 49, 50, 51, 52, 53, 54] (by decide +kernel) (by decide +kernel)
set_option maxRecDepth 20000 in
theorem gX10_race_X5_restart : GoodIn wsX10_race (wsV RX10 91 RX5 yX5_restart wsX5_restart) := goodIn_app (goodIn_of _ (by decide +kernel)) ggX10_race_X5_restart
set_option maxRecDepth 20000 in
theorem ggX10_races_X10_refuse : GoodIn wsX10_races wsX10_refuse := goodIn_r _ [21, 22, 70, 71, 72, 73, 74, 75, 76, 77, 78, 79, 80, 81, 82, 83] (by decide +kernel) (by decide +kernel)
set_option maxRecDepth 20000 in
theorem gX10_races_X10_refuse : GoodIn wsX10_races (wsV RX10 83 RX10 yX10_refuse wsX10_refuse) := goodIn_app (goodIn_of _ (by decide +kernel)) ggX10_races_X10_refuse
set_option maxRecDepth 20000 in
theorem ggX10_races_X10_within : GoodIn wsX10_races wsX10_within := goodIn_r _ [17] (by decide +kernel) (by decide +kernel)
set_option maxRecDepth 20000 in
theorem gX10_races_X10_within : GoodIn wsX10_races (va_wsS RX10 79 yX10_within wsX10_within) := goodIn_app (goodIn_of _ (by decide +kernel)) ggX10_races_X10_within
set_option maxRecDepth 20000 in
theorem ggX10_races_X5_copyLine : GoodIn wsX10_races wsX5_copyLine := goodIn_r _ [27, 28, 29, 30, 31, 32, 33, 34, 35, 36, 37, 38, 39, 40, 41, 42, 43, 44, 84, 85, 86, 87, 88, 89, 90, 91, 92, 93, 94, 95, 96, 97, 98, 99] (by decide +kernel) (by decide +kernel)
set_option maxRecDepth 20000 in
theorem gX10_races_X5_copyLine : GoodIn wsX10_races (wsV RX10 256 RX5 yX5_copyLine wsX5_copyLine) := goodIn_app (goodIn_of _ (by decide +kernel)) ggX10_races_X5_copyLine
set_option maxRecDepth 20000 in
theorem ggX10_races_X5_goOn : GoodIn wsX10_races wsX5_goOn := goodIn_r _ [48, 29, 30, 31, 28, 49, 50, 51, 35, 52, 43, 37, 38, 40, 39, 42, 41, 44, 53, 54, 55, 56, 57, 58, 59, 60, 61, 62, 63, 64, 84, 85, 86, 87, 88, 89, 90, 91, 92, 93, 94, 95, 96, 97, 98, 99] (by decide +kernel) (by decide +kernel)
set_option maxRecDepth 20000 in
theorem gX10_races_X5_goOn : GoodIn wsX10_races (wsV RX10 116 RX5 yX5_goOn wsX5_goOn) := goodIn_app (goodIn_of _ (by decide +kernel)) ggX10_races_X5_goOn
set_option maxRecDepth 20000 in
theorem ggX10_races_X5_homes : GoodIn wsX10_races wsX5_homes := goodIn_r _ [68, 30, 31, 69, 54, 55, 35, 56, 44, 84, 85, 86, 87, 88, 89, 90, 91, 92, 93, 94, 95, 96, 97, 98, 99] (by decide +kernel) (by decide +kernel)
set_option maxRecDepth 20000 in
theorem gX10_races_X5_homes : GoodIn wsX10_races (wsV RX10 119 RX5 yX5_homes wsX5_homes) := goodIn_app (goodIn_of _ (by decide +kernel)) ggX10_races_X5_homes
set_option maxRecDepth 20000 in
theorem ggX10_read_X6_takeRace : GoodIn wsX10_read wsX6_takeRace := goodIn_r _ [8, 9, 10, 11, 12, 13, 14, 7, 15, 16, 17, 18, 19, 20, 21, 22, 23, 24, 25, 26, 27, 28, 29, 30, 31, 32, 33, 34, 35, 36, 37, 38, 39, 40, 41, 42, 43, 44, 45, 46, 47, 48, 49, 50, 51, 52, 53, 54, 55, 56, 57, 58, 59, 60, 61, 62, 63, 64, 65, 66, 67, 68, 69, 70, 71, 72, 73, 74, 75, 76, 77, 78, 79, 80, 81, 82, 83, 84, 85, 86, 87, 88, 89, 90, 91, 92, 93, 94, 95, 96, 97, 98, 99, 100, 101, 102, 103, 104, 105, 106, 107, 108, 109, 110, 111, 112, 113, 114, 115, 116, 117, 118, 119, 120, 121, 122, 123, 124, 125, 126, 127, 128, 129, 130, 131, 132, 133, 134, 135, 136, 137, 138, 139, 140, 141, 142, 143, 144, 145, 146, 147, 148, 149, 150, 151, 152, 153, 154, 155, 156, 157, 158, 159, 160, 161, 162, 163, 164, 165, 166, 167, 168, 169, 170, 171, 172, 173, 174, 175, 176, 177, 178, 179, 180, 181, 182, 183, 184, 199, 200, 201, 202, 203, 204, 205, 206, 207, 208, 209, 210, 211, 212, 213, 214, 215, 216, 217, 218, 219, 220, 221, 222, 223, 224, 225, 226, 227, 228] (by decide +kernel) (by decide +kernel)
set_option maxRecDepth 20000 in
theorem gX10_read_X6_takeRace : GoodIn wsX10_read (wsV RX10 106 RX6 yX6_takeRace wsX6_takeRace) := goodIn_app (goodIn_of _ (by decide +kernel)) ggX10_read_X6_takeRace
set_option maxRecDepth 20000 in
theorem ggX10_seen_X10_refuse : GoodIn wsX10_seen wsX10_refuse := goodIn_r _ [16, 17, 26, 27, 28, 29, 30, 31, 32, 33, 34, 35, 36, 37, 38, 39] (by decide +kernel) (by decide +kernel)
set_option maxRecDepth 20000 in
theorem gX10_seen_X10_refuse : GoodIn wsX10_seen (wsV RX10 83 RX10 yX10_refuse wsX10_refuse) := goodIn_app (goodIn_of _ (by decide +kernel)) ggX10_seen_X10_refuse
set_option maxRecDepth 20000 in
theorem ggX10_seen_X10_there : GoodIn wsX10_seen wsX10_there := goodIn_r _ [8, 1, 9, 26, 27, 28, 29, 30, 31, 32, 33, 34, 35, 36, 37, 38, 39, 40, 41, 42, 43, 44, 45, 46, 47] (by decide +kernel) (by decide +kernel)
set_option maxRecDepth 20000 in
theorem gX10_seen_X10_there : GoodIn wsX10_seen (wsV RX10 123 RX10 yX10_there wsX10_there) := goodIn_app (goodIn_of _ (by decide +kernel)) ggX10_seen_X10_there
set_option maxRecDepth 20000 in
theorem ggX10_speed_X10_refuse : GoodIn wsX10_speed wsX10_refuse := goodIn_r _ [16, 17, 48, 49, 50, 51, 52, 53, 54, 55, 56, 57, 58, 59, 60, 61] (by decide +kernel) (by decide +kernel)
set_option maxRecDepth 20000 in
theorem gX10_speed_X10_refuse : GoodIn wsX10_speed (wsV RX10 83 RX10 yX10_refuse wsX10_refuse) := goodIn_app (goodIn_of _ (by decide +kernel)) ggX10_speed_X10_refuse
set_option maxRecDepth 20000 in
theorem ggX10_speed_X10_there : GoodIn wsX10_speed wsX10_there := goodIn_r _ [8, 1, 9, 48, 49, 50, 51, 52, 53, 54, 55, 56, 57, 58, 59, 60, 61, 62, 63, 64, 65, 66, 67, 68, 69] (by decide +kernel) (by decide +kernel)
set_option maxRecDepth 20000 in
theorem gX10_speed_X10_there : GoodIn wsX10_speed (wsV RX10 123 RX10 yX10_there wsX10_there) := goodIn_app (goodIn_of _ (by decide +kernel)) ggX10_speed_X10_there
set_option maxRecDepth 20000 in
theorem ggX10_start_X10_refuse : GoodIn wsX10_start wsX10_refuse := goodIn_r _ [17, 18, 49, 50, 51, 52, 53, 54, 55, 56, 57, 58, 59, 60, 61, 62] (by decide +kernel) (by decide +kernel)
set_option maxRecDepth 20000 in
theorem gX10_start_X10_refuse : GoodIn wsX10_start (wsV RX10 83 RX10 yX10_refuse wsX10_refuse) := goodIn_app (goodIn_of _ (by decide +kernel)) ggX10_start_X10_refuse
set_option maxRecDepth 20000 in
theorem ggX10_start_X10_there : GoodIn wsX10_start wsX10_there := goodIn_r _ [9, 1, 10, 49, 50, 51, 52, 53, 54, 55, 56, 57, 58, 59, 60, 61, 62, 63, 64, 65, 66, 67, 68, 69, 70] (by decide +kernel) (by decide +kernel)
set_option maxRecDepth 20000 in
theorem gX10_start_X10_there : GoodIn wsX10_start (wsV RX10 123 RX10 yX10_there wsX10_there) := goodIn_app (goodIn_of _ (by decide +kernel)) ggX10_start_X10_there
set_option maxRecDepth 20000 in
theorem ggX10_status_X10_refuse : GoodIn wsX10_status wsX10_refuse := goodIn_r _ [9, 1, 10, 11, 12, 13, 14, 15, 16, 17, 18, 19, 20, 21, 22, 23] (by decide +kernel) (by decide +kernel)
set_option maxRecDepth 20000 in
theorem gX10_status_X10_refuse : GoodIn wsX10_status (wsV RX10 83 RX10 yX10_refuse wsX10_refuse) := goodIn_app (goodIn_of _ (by decide +kernel)) ggX10_status_X10_refuse
set_option maxRecDepth 20000 in
theorem ggX10_status_X10_within : GoodIn wsX10_status wsX10_within := goodIn_r _ [5] (by decide +kernel) (by decide +kernel)
set_option maxRecDepth 20000 in
theorem gX10_status_X10_within : GoodIn wsX10_status (va_wsS RX10 79 yX10_within wsX10_within) := goodIn_app (goodIn_of _ (by decide +kernel)) ggX10_status_X10_within
set_option maxRecDepth 20000 in
theorem ggX10_strong_X10_refuse : GoodIn wsX10_strong wsX10_refuse := goodIn_r _ [14, 15, 46, 47, 48, 49, 50, 51, 52, 53, 54, 55, 56, 57, 58, 59] (by decide +kernel) (by decide +kernel)
set_option maxRecDepth 20000 in
theorem gX10_strong_X10_refuse : GoodIn wsX10_strong (wsV RX10 83 RX10 yX10_refuse wsX10_refuse) := goodIn_app (goodIn_of _ (by decide +kernel)) ggX10_strong_X10_refuse
set_option maxRecDepth 20000 in
theorem ggX10_strong_X10_there : GoodIn wsX10_strong wsX10_there := goodIn_r _ [6, 1, 7, 46, 47, 48, 49, 50, 51, 52, 53, 54, 55, 56, 57, 58, 59, 60, 61, 62, 63, 64, 65, 66, 67] (by decide +kernel) (by decide +kernel)
set_option maxRecDepth 20000 in
theorem gX10_strong_X10_there : GoodIn wsX10_strong (wsV RX10 123 RX10 yX10_there wsX10_there) := goodIn_app (goodIn_of _ (by decide +kernel)) ggX10_strong_X10_there
set_option maxRecDepth 20000 in
theorem ggX10_stumble_X10_refuse : GoodIn wsX10_stumble wsX10_refuse := goodIn_r _ [22, 23, 60, 61, 62, 63, 64, 65, 66, 67, 68, 69, 70, 71, 72, 73] (by decide +kernel) (by decide +kernel)
set_option maxRecDepth 20000 in
theorem gX10_stumble_X10_refuse : GoodIn wsX10_stumble (wsV RX10 83 RX10 yX10_refuse wsX10_refuse) := goodIn_app (goodIn_of _ (by decide +kernel)) ggX10_stumble_X10_refuse
set_option maxRecDepth 20000 in
theorem ggX10_stumble_X10_there : GoodIn wsX10_stumble wsX10_there := goodIn_r _ [14, 1, 15, 60, 61, 62, 63, 64, 65, 66, 67, 68, 69, 70, 71, 72, 73, 74, 75, 76, 77, 78, 79, 80, 81] (by decide +kernel) (by decide +kernel)
set_option maxRecDepth 20000 in
theorem gX10_stumble_X10_there : GoodIn wsX10_stumble (wsV RX10 123 RX10 yX10_there wsX10_there) := goodIn_app (goodIn_of _ (by decide +kernel)) ggX10_stumble_X10_there
set_option maxRecDepth 20000 in
theorem ggX10_tell_X10_refuse : GoodIn wsX10_tell wsX10_refuse := goodIn_r _ [12, 13, 79, 80, 81, 82, 83, 84, 85, 86, 87, 88, 89, 90, 91, 92] (by decide +kernel) (by decide +kernel)
set_option maxRecDepth 20000 in
theorem gX10_tell_X10_refuse : GoodIn wsX10_tell (wsV RX10 83 RX10 yX10_refuse wsX10_refuse) := goodIn_app (goodIn_of _ (by decide +kernel)) ggX10_tell_X10_refuse
set_option maxRecDepth 20000 in
theorem ggX10_tell_X10_there : GoodIn wsX10_tell wsX10_there := goodIn_r _ [7, 1, 8, 79, 80, 81, 82, 83, 84, 85, 86, 87, 88, 89, 90, 91, 92, 93, 94, 95, 96, 97, 98, 99, 100] (by decide +kernel) (by decide +kernel)
set_option maxRecDepth 20000 in
theorem gX10_tell_X10_there : GoodIn wsX10_tell (wsV RX10 123 RX10 yX10_there wsX10_there) := goodIn_app (goodIn_of _ (by decide +kernel)) ggX10_tell_X10_there
set_option maxRecDepth 20000 in
theorem ggX10_ticks_X10_refuse : GoodIn wsX10_ticks wsX10_refuse := goodIn_r _ [10, 11, 72, 73, 74, 75, 76, 77, 78, 79, 80, 81, 82, 83, 84, 85] (by decide +kernel) (by decide +kernel)
set_option maxRecDepth 20000 in
theorem gX10_ticks_X10_refuse : GoodIn wsX10_ticks (wsV RX10 83 RX10 yX10_refuse wsX10_refuse) := goodIn_app (goodIn_of _ (by decide +kernel)) ggX10_ticks_X10_refuse
set_option maxRecDepth 20000 in
theorem ggX10_ticks_X10_within : GoodIn wsX10_ticks wsX10_within := goodIn_r _ [6] (by decide +kernel) (by decide +kernel)
set_option maxRecDepth 20000 in
theorem gX10_ticks_X10_within : GoodIn wsX10_ticks (va_wsS RX10 79 yX10_within wsX10_within) := goodIn_app (goodIn_of _ (by decide +kernel)) ggX10_ticks_X10_within
set_option maxRecDepth 20000 in
theorem ggX10_ticks_X5_goOn : GoodIn wsX10_ticks wsX5_goOn := goodIn_r _ [39, 18, 40, 19, 41, 42, 43, 44, 45, 46, 47, 48, 49, 50, 51, 52, 53, 54, 55, 56, 57, 58, 59, 60, 61, 62, 63, 64, 65, 66, 86, 87, 88, 89, 90, 91, 92, 93, 96, 97, 98, 99, 100, 101, 102, 103] (by decide +kernel) (by decide +kernel)
set_option maxRecDepth 20000 in
theorem gX10_ticks_X5_goOn : GoodIn wsX10_ticks (wsV RX10 116 RX5 yX5_goOn wsX5_goOn) := goodIn_app (goodIn_of _ (by decide +kernel)) ggX10_ticks_X5_goOn
set_option maxRecDepth 20000 in
theorem ggX10_ticks_X5_homes : GoodIn wsX10_ticks wsX5_homes := goodIn_r _ [70, 40, 19, 71, 56, 57, 45, 58, 54, 86, 87, 88, 89, 90, 91, 92, 93, 96, 97, 98, 99, 100, 101, 102, 103] (by decide +kernel) (by decide +kernel)
set_option maxRecDepth 20000 in
theorem gX10_ticks_X5_homes : GoodIn wsX10_ticks (wsV RX10 119 RX5 yX5_homes wsX5_homes) := goodIn_app (goodIn_of _ (by decide +kernel)) ggX10_ticks_X5_homes
set_option maxRecDepth 20000 in
theorem ggX10_ticks_X5_keep : GoodIn wsX10_ticks wsX5_keep := goodIn_r _ [16, 17, 18, 19, 20, 21, 22, 23, 24, 25, 26, 27, 28, 29, 30, 31, 32, 33, 34, 35, 86, 87, 88, 89, 90, 91, 92, 93, 94, 95, 96, 97, 98, 99, 100, 101, 102, 103] (by decide +kernel) (by decide +kernel)
set_option maxRecDepth 20000 in
theorem gX10_ticks_X5_keep : GoodIn wsX10_ticks (wsV RX10 113 RX5 yX5_keep wsX5_keep) := goodIn_app (goodIn_of _ (by decide +kernel)) ggX10_ticks_X5_keep
set_option maxRecDepth 20000 in
theorem ggX10_turn_X10_refuse : GoodIn wsX10_turn wsX10_refuse := goodIn_r _ [15, 16, 67, 68, 69, 70, 71, 72, 73, 74, 75, 76, 77, 78, 79, 80] (by decide +kernel) (by decide +kernel)
set_option maxRecDepth 20000 in
theorem gX10_turn_X10_refuse : GoodIn wsX10_turn (wsV RX10 83 RX10 yX10_refuse wsX10_refuse) := goodIn_app (goodIn_of _ (by decide +kernel)) ggX10_turn_X10_refuse
set_option maxRecDepth 20000 in
theorem ggX10_turn_X10_there : GoodIn wsX10_turn wsX10_there := goodIn_r _ [7, 1, 8, 67, 68, 69, 70, 71, 72, 73, 74, 75, 76, 77, 78, 79, 80, 81, 82, 83, 84, 85, 86, 87, 88] (by decide +kernel) (by decide +kernel)
set_option maxRecDepth 20000 in
theorem gX10_turn_X10_there : GoodIn wsX10_turn (wsV RX10 123 RX10 yX10_there wsX10_there) := goodIn_app (goodIn_of _ (by decide +kernel)) ggX10_turn_X10_there
set_option maxRecDepth 20000 in
theorem ggX10_type_X10_refuse : GoodIn wsX10_type wsX10_refuse := goodIn_r _ [9, 10, 18, 19, 20, 21, 22, 23, 24, 25, 26, 27, 28, 29, 30, 31] (by decide +kernel) (by decide +kernel)
set_option maxRecDepth 20000 in
theorem gX10_type_X10_refuse : GoodIn wsX10_type (wsV RX10 83 RX10 yX10_refuse wsX10_refuse) := goodIn_app (goodIn_of _ (by decide +kernel)) ggX10_type_X10_refuse
set_option maxRecDepth 20000 in
theorem ggX10_type_X10_within : GoodIn wsX10_type wsX10_within := goodIn_r _ [5] (by decide +kernel) (by decide +kernel)
set_option maxRecDepth 20000 in
theorem gX10_type_X10_within : GoodIn wsX10_type (va_wsS RX10 79 yX10_within wsX10_within) := goodIn_app (goodIn_of _ (by decide +kernel)) ggX10_type_X10_within
set_option maxRecDepth 20000 in
theorem ggX10_type_X6_append : GoodIn wsX10_type wsX6_append := goodIn_r _ [15, 16, 17, 32, 33, 34, 35, 36, 37, 38] (by decide +kernel) (by decide +kernel)
set_option maxRecDepth 20000 in
theorem gX10_type_X6_append : GoodIn wsX10_type (wsV RX10 99 RX6 yX6_append wsX6_append) := goodIn_app (goodIn_of _ (by decide +kernel)) ggX10_type_X6_append
set_option maxRecDepth 20000 in
theorem ggX10_undo_X10_refuse : GoodIn wsX10_undo wsX10_refuse := goodIn_r _ [27, 28, 29, 30, 31, 32, 33, 34, 35, 36, 37, 38, 39, 40, 41, 42] (by decide +kernel) (by decide +kernel)
set_option maxRecDepth 20000 in
theorem gX10_undo_X10_refuse : GoodIn wsX10_undo (wsV RX10 83 RX10 yX10_refuse wsX10_refuse) := goodIn_app (goodIn_of _ (by decide +kernel)) ggX10_undo_X10_refuse
set_option maxRecDepth 20000 in
theorem ggX10_undo_X5_takeBack : GoodIn wsX10_undo wsX5_takeBack := goodIn_r _ [7, 8, 9, 10, 11, 12, 13, 14, 15, 16, 17, 18, 19, 20, 21, 22, 43, 44, 45, 46, 47, 48, 49, 50, 51, 52, 53, 54, 55, 56, 57, 58, 59, 60] (by decide +kernel) (by decide +kernel)
set_option maxRecDepth 20000 in
theorem gX10_undo_X5_takeBack : GoodIn wsX10_undo (wsV RX10 141 RX5 yX5_takeBack wsX5_takeBack) := goodIn_app (goodIn_of _ (by decide +kernel)) ggX10_undo_X5_takeBack
set_option maxRecDepth 20000 in
theorem ggX10_where_X10_refuse : GoodIn wsX10_where wsX10_refuse := goodIn_r _ [18, 19, 53, 54, 55, 56, 57, 58, 59, 60, 61, 62, 63, 64, 65, 66] (by decide +kernel) (by decide +kernel)
set_option maxRecDepth 20000 in
theorem gX10_where_X10_refuse : GoodIn wsX10_where (wsV RX10 83 RX10 yX10_refuse wsX10_refuse) := goodIn_app (goodIn_of _ (by decide +kernel)) ggX10_where_X10_refuse
set_option maxRecDepth 20000 in
theorem ggX10_where_X10_there : GoodIn wsX10_where wsX10_there := goodIn_r _ [10, 2, 11, 53, 54, 55, 56, 57, 58, 59, 60, 61, 62, 63, 64, 65, 66, 67, 68, 69, 70, 71, 72, 73, 74] (by decide +kernel) (by decide +kernel)
set_option maxRecDepth 20000 in
theorem gX10_where_X10_there : GoodIn wsX10_where (wsV RX10 123 RX10 yX10_there wsX10_there) := goodIn_app (goodIn_of _ (by decide +kernel)) ggX10_where_X10_there
set_option maxRecDepth 20000 in
theorem ggX11_ask_X11_bad : GoodIn wsX11_ask wsX11_bad := goodIn_r _ [19, 20, 35, 36, 37, 38, 39, 40, 41, 42, 43, 44, 45, 46, 47, 48, 49, 50, 51, 52] (by decide +kernel) (by decide +kernel)
set_option maxRecDepth 20000 in
theorem gX11_ask_X11_bad : GoodIn wsX11_ask (wsV RX11 68 RX11 yX11_bad wsX11_bad) := goodIn_app (goodIn_of _ (by decide +kernel)) ggX11_ask_X11_bad
set_option maxRecDepth 20000 in
theorem ggX11_ask_X11_isOne : GoodIn wsX11_ask wsX11_isOne := goodIn_r _ [7, 8, 9, 10, 6, 11, 12, 13, 14, 15, 35, 36, 37, 38, 39, 40, 41, 42, 43, 44, 45, 46, 47, 48, 49, 50, 51, 52] (by decide +kernel) (by decide +kernel)
set_option maxRecDepth 20000 in
theorem gX11_ask_X11_isOne : GoodIn wsX11_ask (wsV RX11 123 RX11 yX11_isOne wsX11_isOne) := goodIn_app (goodIn_of _ (by decide +kernel)) ggX11_ask_X11_isOne
set_option maxRecDepth 20000 in
theorem ggX11_beats_X11_bad : GoodIn wsX11_beats wsX11_bad := goodIn_r _ [18, 19, 53, 54, 55, 56, 57, 58, 59, 60, 61, 62, 63, 64, 65, 66, 67, 68, 69, 70] (by decide +kernel) (by decide +kernel)
set_option maxRecDepth 20000 in
theorem gX11_beats_X11_bad : GoodIn wsX11_beats (wsV RX11 68 RX11 yX11_bad wsX11_bad) := goodIn_app (goodIn_of _ (by decide +kernel)) ggX11_beats_X11_bad
set_option maxRecDepth 20000 in
theorem ggX11_beats_X11_isOne : GoodIn wsX11_beats wsX11_isOne := goodIn_r _ [7, 8, 9, 10, 6, 11, 1, 12, 13, 14, 53, 54, 55, 56, 57, 58, 59, 60, 61, 62, 63, 64, 65, 66, 67, 68, 69, 70] (by decide +kernel) (by decide +kernel)
set_option maxRecDepth 20000 in
theorem gX11_beats_X11_isOne : GoodIn wsX11_beats (wsV RX11 123 RX11 yX11_isOne wsX11_isOne) := goodIn_app (goodIn_of _ (by decide +kernel)) ggX11_beats_X11_isOne
set_option maxRecDepth 20000 in
theorem ggX11_best_X11_bad : GoodIn wsX11_best wsX11_bad := goodIn_r _ [19, 20, 50, 51, 52, 53, 54, 55, 56, 57, 58, 59, 60, 61, 62, 63, 64, 65, 66, 67] (by decide +kernel) (by decide +kernel)
set_option maxRecDepth 20000 in
theorem gX11_best_X11_bad : GoodIn wsX11_best (wsV RX11 68 RX11 yX11_bad wsX11_bad) := goodIn_app (goodIn_of _ (by decide +kernel)) ggX11_best_X11_bad
set_option maxRecDepth 20000 in
theorem ggX11_best_X11_isOne : GoodIn wsX11_best wsX11_isOne := goodIn_r _ [8, 9, 10, 11, 7, 12, 2, 13, 14, 15, 50, 51, 52, 53, 54, 55, 56, 57, 58, 59, 60, 61, 62, 63, 64, 65, 66, 67] (by decide +kernel) (by decide +kernel)
set_option maxRecDepth 20000 in
theorem gX11_best_X11_isOne : GoodIn wsX11_best (wsV RX11 123 RX11 yX11_isOne wsX11_isOne) := goodIn_app (goodIn_of _ (by decide +kernel)) ggX11_best_X11_isOne
set_option maxRecDepth 20000 in
theorem ggX11_close_X11_bad : GoodIn wsX11_close wsX11_bad := goodIn_r _ [19, 20, 46, 47, 48, 49, 50, 51, 52, 53, 54, 55, 56, 57, 58, 59, 60, 61, 62, 63] (by decide +kernel) (by decide +kernel)
set_option maxRecDepth 20000 in
theorem gX11_close_X11_bad : GoodIn wsX11_close (wsV RX11 68 RX11 yX11_bad wsX11_bad) := goodIn_app (goodIn_of _ (by decide +kernel)) ggX11_close_X11_bad
set_option maxRecDepth 20000 in
theorem ggX11_close_X11_isOne : GoodIn wsX11_close wsX11_isOne := goodIn_r _ [7, 8, 9, 10, 6, 11, 12, 13, 14, 15, 46, 47, 48, 49, 50, 51, 52, 53, 54, 55, 56, 57, 58, 59, 60, 61, 62, 63] (by decide +kernel) (by decide +kernel)
set_option maxRecDepth 20000 in
theorem gX11_close_X11_isOne : GoodIn wsX11_close (wsV RX11 123 RX11 yX11_isOne wsX11_isOne) := goodIn_app (goodIn_of _ (by decide +kernel)) ggX11_close_X11_isOne
set_option maxRecDepth 20000 in
theorem ggX11_count_X11_bad : GoodIn wsX11_count wsX11_bad := goodIn_r _ [29, 30, 31, 32, 33, 34, 35, 36, 37, 38, 39, 40, 41, 42, 43, 44, 45, 46, 47, 48] (by decide +kernel) (by decide +kernel)
set_option maxRecDepth 20000 in
theorem gX11_count_X11_bad : GoodIn wsX11_count (wsV RX11 68 RX11 yX11_bad wsX11_bad) := goodIn_app (goodIn_of _ (by decide +kernel)) ggX11_count_X11_bad
set_option maxRecDepth 20000 in
theorem ggX11_count_X11_counted : GoodIn wsX11_count wsX11_counted := goodIn_r _ [9, 10, 11, 12, 13, 14, 4, 15, 16, 17, 18, 19, 20, 21, 22, 23, 24, 25, 31, 32, 33, 34, 35, 36, 37, 38, 39, 40, 41, 42, 43, 44, 45, 46, 47, 48] (by decide +kernel) (by decide +kernel)
set_option maxRecDepth 20000 in
theorem gX11_count_X11_counted : GoodIn wsX11_count (wsV RX11 268 RX11 yX11_counted wsX11_counted) := goodIn_app (goodIn_of _ (by decide +kernel)) ggX11_count_X11_counted
set_option maxRecDepth 20000 in
theorem ggX11_count_X11_in : GoodIn wsX11_count wsX11_in := goodIn_r _ [5] (by decide +kernel) (by decide +kernel)
set_option maxRecDepth 20000 in
theorem gX11_count_X11_in : GoodIn wsX11_count (va_wsS RX11 56 yX11_in wsX11_in) := goodIn_app (goodIn_of _ (by decide +kernel)) ggX11_count_X11_in
set_option maxRecDepth 20000 in
theorem ggX11_counted_X11_many : GoodIn wsX11_counted wsX11_many := goodIn_r _ [7, 1, 18, 19, 20, 21, 22, 23, 24, 25, 26, 27, 28, 29, 30, 31, 32, 33, 34, 35] (by decide +kernel) (by decide +kernel)
set_option maxRecDepth 20000 in
theorem gX11_counted_X11_many : GoodIn wsX11_counted (wsV RX11 52 RX11 yX11_many wsX11_many) := goodIn_app (goodIn_of _ (by decide +kernel)) ggX11_counted_X11_many
set_option maxRecDepth 20000 in
theorem ggX11_counted_X11_manyHome : GoodIn wsX11_counted wsX11_manyHome := goodIn_r _ [10, 11, 12, 6, 13] (by decide +kernel) (by decide +kernel)
set_option maxRecDepth 20000 in
theorem gX11_counted_X11_manyHome : GoodIn wsX11_counted (va_wsS RX11 119 yX11_manyHome wsX11_manyHome) := goodIn_app (goodIn_of _ (by decide +kernel)) ggX11_counted_X11_manyHome
set_option maxRecDepth 20000 in
theorem ggX11_counted_X11_sumOf : GoodIn wsX11_counted wsX11_sumOf := goodIn_r _ [17, 1, 3, 4, 5, 6, 7, 18, 19, 20, 21, 22, 23, 24, 25, 26, 27, 28, 29, 30, 31, 32, 33, 34, 35] (by decide +kernel) (by decide +kernel)
set_option maxRecDepth 20000 in
theorem gX11_counted_X11_sumOf : GoodIn wsX11_counted (wsV RX11 265 RX11 yX11_sumOf wsX11_sumOf) := goodIn_app (goodIn_of _ (by decide +kernel)) ggX11_counted_X11_sumOf
set_option maxRecDepth 20000 in
theorem ggX11_digest_X11_counted : GoodIn wsX11_digest wsX11_counted := goodIn_r _ [10, 3, 11, 12, 13, 14, 9, 15, 16, 17, 18, 19, 20, 21, 22, 23, 24, 25, 43, 44, 45, 46, 47, 48, 49, 50, 51, 52, 53, 54, 55, 56, 57, 58, 59, 60] (by decide +kernel) (by decide +kernel)
set_option maxRecDepth 20000 in
theorem gX11_digest_X11_counted : GoodIn wsX11_digest (wsV RX11 268 RX11 yX11_counted wsX11_counted) := goodIn_app (goodIn_of _ (by decide +kernel)) ggX11_digest_X11_counted
set_option maxRecDepth 20000 in
theorem ggX11_digest_X11_many : GoodIn wsX11_digest wsX11_many := goodIn_r _ [15, 3, 43, 44, 45, 46, 47, 48, 49, 50, 51, 52, 53, 54, 55, 56, 57, 58, 59, 60] (by decide +kernel) (by decide +kernel)
set_option maxRecDepth 20000 in
theorem gX11_digest_X11_many : GoodIn wsX11_digest (wsV RX11 52 RX11 yX11_many wsX11_many) := goodIn_app (goodIn_of _ (by decide +kernel)) ggX11_digest_X11_many
set_option maxRecDepth 20000 in
theorem ggX11_digest_X11_sums : GoodIn wsX11_digest wsX11_sums := goodIn_r _ [42, 2, 3, 43, 44, 45, 46, 47, 48, 49, 50, 51, 52, 53, 54, 55, 56, 57, 58, 59, 60] (by decide +kernel) (by decide +kernel)
set_option maxRecDepth 20000 in
theorem gX11_digest_X11_sums : GoodIn wsX11_digest (wsV RX11 275 RX11 yX11_sums wsX11_sums) := goodIn_app (goodIn_of _ (by decide +kernel)) ggX11_digest_X11_sums
set_option maxRecDepth 20000 in
theorem ggX11_first_X11_many : GoodIn wsX11_first wsX11_many := goodIn_r _ [7, 2, 42, 43, 44, 45, 46, 47, 48, 49, 50, 51, 52, 53, 54, 55, 56, 57, 58, 59] (by decide +kernel) (by decide +kernel)
set_option maxRecDepth 20000 in
theorem gX11_first_X11_many : GoodIn wsX11_first (wsV RX11 52 RX11 yX11_many wsX11_many) := goodIn_app (goodIn_of _ (by decide +kernel)) ggX11_first_X11_many
set_option maxRecDepth 20000 in
theorem ggX11_forget_X11_bad : GoodIn wsX11_forget wsX11_bad := goodIn_r _ [10, 11, 12, 13, 14, 15, 16, 17, 18, 19, 20, 21, 22, 23, 24, 25, 26, 27, 28, 29] (by decide +kernel) (by decide +kernel)
set_option maxRecDepth 20000 in
theorem gX11_forget_X11_bad : GoodIn wsX11_forget (wsV RX11 68 RX11 yX11_bad wsX11_bad) := goodIn_app (goodIn_of _ (by decide +kernel)) ggX11_forget_X11_bad
set_option maxRecDepth 20000 in
theorem ggX11_forget_X11_in : GoodIn wsX11_forget wsX11_in := goodIn_r _ [6] (by decide +kernel) (by decide +kernel)
set_option maxRecDepth 20000 in
theorem gX11_forget_X11_in : GoodIn wsX11_forget (va_wsS RX11 56 yX11_in wsX11_in) := goodIn_app (goodIn_of _ (by decide +kernel)) ggX11_forget_X11_in
set_option maxRecDepth 20000 in
theorem ggX11_from_X11_bad : GoodIn wsX11_from wsX11_bad := goodIn_r _ [11, 12, 17, 18, 19, 20, 21, 22, 23, 24, 25, 26, 27, 28, 29, 30, 31, 32, 33, 34] (by decide +kernel) (by decide +kernel)
set_option maxRecDepth 20000 in
theorem gX11_from_X11_bad : GoodIn wsX11_from (wsV RX11 68 RX11 yX11_bad wsX11_bad) := goodIn_app (goodIn_of _ (by decide +kernel)) ggX11_from_X11_bad
set_option maxRecDepth 20000 in
theorem ggX11_from_X11_in : GoodIn wsX11_from wsX11_in := goodIn_r _ [7] (by decide +kernel) (by decide +kernel)
set_option maxRecDepth 20000 in
theorem gX11_from_X11_in : GoodIn wsX11_from (va_wsS RX11 56 yX11_in wsX11_in) := goodIn_app (goodIn_of _ (by decide +kernel)) ggX11_from_X11_in
set_option maxRecDepth 20000 in
theorem ggX11_from_X11_no : GoodIn wsX11_from wsX11_no := goodIn_r _ [16, 12, 17, 18, 19, 20, 21, 22, 23, 24, 25, 26, 27, 28, 29, 30, 31, 32, 33, 34] (by decide +kernel) (by decide +kernel)
set_option maxRecDepth 20000 in
theorem gX11_from_X11_no : GoodIn wsX11_from (wsV RX11 129 RX11 yX11_no wsX11_no) := goodIn_app (goodIn_of _ (by decide +kernel)) ggX11_from_X11_no
set_option maxRecDepth 20000 in
theorem ggX11_goTicks_X11_goTick : GoodIn wsX11_goTicks wsX11_goTick := goodIn_r _ [4, 5, 6, 3, 7, 8, 9, 10, 11, 12, 13, 14, 15, 16, 17, 18, 19, 20, 21, 22] (by decide +kernel) (by decide +kernel)
set_option maxRecDepth 20000 in
theorem gX11_goTicks_X11_goTick : GoodIn wsX11_goTicks (va_wsS RX11 109 yX11_goTick wsX11_goTick) := goodIn_app (goodIn_of _ (by decide +kernel)) ggX11_goTicks_X11_goTick
set_option maxRecDepth 20000 in
theorem ggX11_home_X11_bad : GoodIn wsX11_home wsX11_bad := goodIn_r _ [51, 52, 53, 54, 55, 56, 57, 58, 59, 60, 61, 62, 63, 64, 65, 66, 67, 68, 69, 70] (by decide +kernel) (by decide +kernel)
set_option maxRecDepth 20000 in
theorem gX11_home_X11_bad : GoodIn wsX11_home (wsV RX11 68 RX11 yX11_bad wsX11_bad) := goodIn_app (goodIn_of _ (by decide +kernel)) ggX11_home_X11_bad
set_option maxRecDepth 20000 in
theorem ggX11_home_X11_isOne : GoodIn wsX11_home wsX11_isOne := goodIn_r _ [5, 6, 7, 8, 4, 9, 10, 11, 12, 13, 53, 54, 55, 56, 57, 58, 59, 60, 61, 62, 63, 64, 65, 66, 67, 68, 69, 70] (by decide +kernel) (by decide +kernel)
set_option maxRecDepth 20000 in
theorem gX11_home_X11_isOne : GoodIn wsX11_home (wsV RX11 123 RX11 yX11_isOne wsX11_isOne) := goodIn_app (goodIn_of _ (by decide +kernel)) ggX11_home_X11_isOne
set_option maxRecDepth 20000 in
theorem ggX11_image_X11_bad : GoodIn wsX11_image wsX11_bad := goodIn_r _ [11, 12, 13, 14, 15, 16, 17, 18, 19, 20, 21, 22, 23, 24, 25, 26, 27, 28, 29, 30] (by decide +kernel) (by decide +kernel)
set_option maxRecDepth 20000 in
theorem gX11_image_X11_bad : GoodIn wsX11_image (wsV RX11 68 RX11 yX11_bad wsX11_bad) := goodIn_app (goodIn_of _ (by decide +kernel)) ggX11_image_X11_bad
set_option maxRecDepth 20000 in
theorem ggX11_image_X11_in : GoodIn wsX11_image wsX11_in := goodIn_r _ [7] (by decide +kernel) (by decide +kernel)
set_option maxRecDepth 20000 in
theorem gX11_image_X11_in : GoodIn wsX11_image (va_wsS RX11 56 yX11_in wsX11_in) := goodIn_app (goodIn_of _ (by decide +kernel)) ggX11_image_X11_in
set_option maxRecDepth 20000 in
theorem ggX11_init_X11_begin : GoodIn wsX11_init wsX11_begin := goodIn_r _ [21] (by decide +kernel) (by decide +kernel)
set_option maxRecDepth 20000 in
theorem gX11_init_X11_begin : GoodIn wsX11_init (va_wsS RX11 48 yX11_begin wsX11_begin) := goodIn_app (goodIn_of _ (by decide +kernel)) ggX11_init_X11_begin
set_option maxRecDepth 20000 in
theorem ggX11_isKind_X11_in : GoodIn wsX11_isKind wsX11_in := goodIn_r _ [5] (by decide +kernel) (by decide +kernel)
set_option maxRecDepth 20000 in
theorem gX11_isKind_X11_in : GoodIn wsX11_isKind (va_wsS RX11 56 yX11_in wsX11_in) := goodIn_app (goodIn_of _ (by decide +kernel)) ggX11_isKind_X11_in
set_option maxRecDepth 20000 in
theorem ggX11_isLegs_X11_in : GoodIn wsX11_isLegs wsX11_in := goodIn_r _ [5] (by decide +kernel) (by decide +kernel)
set_option maxRecDepth 20000 in
theorem gX11_isLegs_X11_in : GoodIn wsX11_isLegs (va_wsS RX11 56 yX11_in wsX11_in) := goodIn_app (goodIn_of _ (by decide +kernel)) ggX11_isLegs_X11_in
set_option maxRecDepth 20000 in
theorem ggX11_isOne_X11_in : GoodIn wsX11_isOne wsX11_in := goodIn_r _ [9] (by decide +kernel) (by decide +kernel)
set_option maxRecDepth 20000 in
theorem gX11_isOne_X11_in : GoodIn wsX11_isOne (va_wsS RX11 56 yX11_in wsX11_in) := goodIn_app (goodIn_of _ (by decide +kernel)) ggX11_isOne_X11_in
set_option maxRecDepth 20000 in
theorem ggX11_isOne_X11_many : GoodIn wsX11_isOne wsX11_many := goodIn_r _ [5, 6, 10, 11, 12, 13, 14, 15, 16, 17, 18, 19, 20, 21, 22, 23, 24, 25, 26, 27] (by decide +kernel) (by decide +kernel)
set_option maxRecDepth 20000 in
theorem gX11_isOne_X11_many : GoodIn wsX11_isOne (wsV RX11 52 RX11 yX11_many wsX11_many) := goodIn_app (goodIn_of _ (by decide +kernel)) ggX11_isOne_X11_many
set_option maxRecDepth 20000 in
theorem ggX11_is_X11_bad : GoodIn wsX11_is wsX11_bad := goodIn_r _ [24, 25, 26, 27, 28, 29, 30, 31, 32, 33, 34, 35, 36, 37, 38, 39, 40, 41, 42, 43] (by decide +kernel) (by decide +kernel)
set_option maxRecDepth 20000 in
theorem gX11_is_X11_bad : GoodIn wsX11_is (wsV RX11 68 RX11 yX11_bad wsX11_bad) := goodIn_app (goodIn_of _ (by decide +kernel)) ggX11_is_X11_bad
set_option maxRecDepth 20000 in
theorem ggX11_is_X11_isOne : GoodIn wsX11_is wsX11_isOne := goodIn_r _ [5, 6, 7, 8, 4, 9, 10, 11, 12, 13, 26, 27, 28, 29, 30, 31, 32, 33, 34, 35, 36, 37, 38, 39, 40, 41, 42, 43] (by decide +kernel) (by decide +kernel)
set_option maxRecDepth 20000 in
theorem gX11_is_X11_isOne : GoodIn wsX11_is (wsV RX11 123 RX11 yX11_isOne wsX11_isOne) := goodIn_app (goodIn_of _ (by decide +kernel)) ggX11_is_X11_isOne
set_option maxRecDepth 20000 in
theorem ggX11_kinds_X11_bad : GoodIn wsX11_kinds wsX11_bad := goodIn_r _ [24, 25, 26, 27, 28, 29, 30, 31, 32, 33, 34, 35, 36, 37, 38, 39, 40, 41, 42, 43] (by decide +kernel) (by decide +kernel)
set_option maxRecDepth 20000 in
theorem gX11_kinds_X11_bad : GoodIn wsX11_kinds (wsV RX11 68 RX11 yX11_bad wsX11_bad) := goodIn_app (goodIn_of _ (by decide +kernel)) ggX11_kinds_X11_bad
set_option maxRecDepth 20000 in
theorem ggX11_kinds_X11_isOne : GoodIn wsX11_kinds wsX11_isOne := goodIn_r _ [5, 6, 7, 8, 4, 9, 10, 11, 12, 13, 26, 27, 28, 29, 30, 31, 32, 33, 34, 35, 36, 37, 38, 39, 40, 41, 42, 43] (by decide +kernel) (by decide +kernel)
set_option maxRecDepth 20000 in
theorem gX11_kinds_X11_isOne : GoodIn wsX11_kinds (wsV RX11 123 RX11 yX11_isOne wsX11_isOne) := goodIn_app (goodIn_of _ (by decide +kernel)) ggX11_kinds_X11_isOne
set_option maxRecDepth 20000 in
theorem ggX11_look_X11_bad : GoodIn wsX11_look wsX11_bad := goodIn_r _ [19, 20, 35, 36, 37, 38, 39, 40, 41, 42, 43, 44, 45, 46, 47, 48, 49, 50, 51, 52] (by decide +kernel) (by decide +kernel)
set_option maxRecDepth 20000 in
theorem gX11_look_X11_bad : GoodIn wsX11_look (wsV RX11 68 RX11 yX11_bad wsX11_bad) := goodIn_app (goodIn_of _ (by decide +kernel)) ggX11_look_X11_bad
set_option maxRecDepth 20000 in
theorem ggX11_look_X11_isOne : GoodIn wsX11_look wsX11_isOne := goodIn_r _ [8, 9, 10, 11, 7, 12, 3, 13, 14, 15, 35, 36, 37, 38, 39, 40, 41, 42, 43, 44, 45, 46, 47, 48, 49, 50, 51, 52] (by decide +kernel) (by decide +kernel)
set_option maxRecDepth 20000 in
theorem gX11_look_X11_isOne : GoodIn wsX11_look (wsV RX11 123 RX11 yX11_isOne wsX11_isOne) := goodIn_app (goodIn_of _ (by decide +kernel)) ggX11_look_X11_isOne
set_option maxRecDepth 20000 in
theorem ggX11_mark_X11_bad : GoodIn wsX11_mark wsX11_bad := goodIn_r _ [19, 20, 25, 26, 27, 28, 29, 30, 31, 32, 33, 34, 35, 36, 37, 38, 39, 40, 41, 42] (by decide +kernel) (by decide +kernel)
set_option maxRecDepth 20000 in
theorem gX11_mark_X11_bad : GoodIn wsX11_mark (wsV RX11 68 RX11 yX11_bad wsX11_bad) := goodIn_app (goodIn_of _ (by decide +kernel)) ggX11_mark_X11_bad
set_option maxRecDepth 20000 in
theorem ggX11_mark_X11_isOne : GoodIn wsX11_mark wsX11_isOne := goodIn_r _ [8, 9, 10, 11, 7, 12, 3, 13, 14, 15, 25, 26, 27, 28, 29, 30, 31, 32, 33, 34, 35, 36, 37, 38, 39, 40, 41, 42] (by decide +kernel) (by decide +kernel)
set_option maxRecDepth 20000 in
theorem gX11_mark_X11_isOne : GoodIn wsX11_mark (wsV RX11 123 RX11 yX11_isOne wsX11_isOne) := goodIn_app (goodIn_of _ (by decide +kernel)) ggX11_mark_X11_isOne
set_option maxRecDepth 20000 in
theorem ggX11_note_X11_bad : GoodIn wsX11_note wsX11_bad := goodIn_r _ [26, 27, 32, 33, 34, 35, 36, 37, 38, 39, 40, 41, 42, 43, 44, 45, 46, 47, 48, 49] (by decide +kernel) (by decide +kernel)
set_option maxRecDepth 20000 in
theorem gX11_note_X11_bad : GoodIn wsX11_note (wsV RX11 68 RX11 yX11_bad wsX11_bad) := goodIn_app (goodIn_of _ (by decide +kernel)) ggX11_note_X11_bad
set_option maxRecDepth 20000 in
theorem ggX11_note_X11_isOne : GoodIn wsX11_note wsX11_isOne := goodIn_r _ [8, 9, 10, 11, 7, 12, 3, 13, 14, 15, 32, 33, 34, 35, 36, 37, 38, 39, 40, 41, 42, 43, 44, 45, 46, 47, 48, 49] (by decide +kernel) (by decide +kernel)
set_option maxRecDepth 20000 in
theorem gX11_note_X11_isOne : GoodIn wsX11_note (wsV RX11 123 RX11 yX11_isOne wsX11_isOne) := goodIn_app (goodIn_of _ (by decide +kernel)) ggX11_note_X11_isOne
set_option maxRecDepth 20000 in
theorem ggX11_of_X11_bad : GoodIn wsX11_of wsX11_bad := goodIn_r _ [34, 35, 36, 37, 38, 39, 40, 41, 42, 43, 44, 45, 46, 47, 48, 49, 50, 51, 52, 53] (by decide +kernel) (by decide +kernel)
set_option maxRecDepth 20000 in
theorem gX11_of_X11_bad : GoodIn wsX11_of (wsV RX11 68 RX11 yX11_bad wsX11_bad) := goodIn_app (goodIn_of _ (by decide +kernel)) ggX11_of_X11_bad
set_option maxRecDepth 20000 in
theorem ggX11_of_X11_isOne : GoodIn wsX11_of wsX11_isOne := goodIn_r _ [6, 7, 8, 9, 5, 10, 11, 12, 13, 14, 36, 37, 38, 39, 40, 41, 42, 43, 44, 45, 46, 47, 48, 49, 50, 51, 52, 53] (by decide +kernel) (by decide +kernel)
set_option maxRecDepth 20000 in
theorem gX11_of_X11_isOne : GoodIn wsX11_of (wsV RX11 123 RX11 yX11_isOne wsX11_isOne) := goodIn_app (goodIn_of _ (by decide +kernel)) ggX11_of_X11_isOne
set_option maxRecDepth 20000 in
theorem ggX11_one_X11_bad : GoodIn wsX11_one wsX11_bad := goodIn_r _ [17, 18, 30, 31, 32, 33, 34, 35, 36, 37, 38, 39, 40, 41, 42, 43, 44, 45, 46, 47] (by decide +kernel) (by decide +kernel)
set_option maxRecDepth 20000 in
theorem gX11_one_X11_bad : GoodIn wsX11_one (wsV RX11 68 RX11 yX11_bad wsX11_bad) := goodIn_app (goodIn_of _ (by decide +kernel)) ggX11_one_X11_bad
set_option maxRecDepth 20000 in
theorem ggX11_one_X11_isKind : GoodIn wsX11_one wsX11_isKind := goodIn_r _ [5, 6, 7, 8, 4, 9] (by decide +kernel) (by decide +kernel)
set_option maxRecDepth 20000 in
theorem gX11_one_X11_isKind : GoodIn wsX11_one (va_wsS RX11 72 yX11_isKind wsX11_isKind) := goodIn_app (goodIn_of _ (by decide +kernel)) ggX11_one_X11_isKind
set_option maxRecDepth 20000 in
theorem ggX11_one_X11_isLegs : GoodIn wsX11_one wsX11_isLegs := goodIn_r _ [12, 13, 7, 8, 4, 9] (by decide +kernel) (by decide +kernel)
set_option maxRecDepth 20000 in
theorem gX11_one_X11_isLegs : GoodIn wsX11_one (va_wsS RX11 76 yX11_isLegs wsX11_isLegs) := goodIn_app (goodIn_of _ (by decide +kernel)) ggX11_one_X11_isLegs
set_option maxRecDepth 20000 in
theorem ggX11_one_X11_layOne : GoodIn wsX11_one wsX11_layOne := goodIn_r _ [29] (by decide +kernel) (by decide +kernel)
set_option maxRecDepth 20000 in
theorem gX11_one_X11_layOne : GoodIn wsX11_one (va_wsS RX11 82 yX11_layOne wsX11_layOne) := goodIn_app (goodIn_of _ (by decide +kernel)) ggX11_one_X11_layOne
set_option maxRecDepth 20000 in
theorem ggX11_one_X11_many : GoodIn wsX11_one wsX11_many := goodIn_r _ [22, 1, 30, 31, 32, 33, 34, 35, 36, 37, 38, 39, 40, 41, 42, 43, 44, 45, 46, 47] (by decide +kernel) (by decide +kernel)
set_option maxRecDepth 20000 in
theorem gX11_one_X11_many : GoodIn wsX11_one (wsV RX11 52 RX11 yX11_many wsX11_many) := goodIn_app (goodIn_of _ (by decide +kernel)) ggX11_one_X11_many
set_option maxRecDepth 20000 in
theorem ggX11_order_X11_bad : GoodIn wsX11_order wsX11_bad := goodIn_r _ [9, 10, 53, 54, 55, 56, 57, 58, 59, 60, 61, 62, 63, 64, 65, 66, 67, 68, 69, 70] (by decide +kernel) (by decide +kernel)
set_option maxRecDepth 20000 in
theorem gX11_order_X11_bad : GoodIn wsX11_order (wsV RX11 68 RX11 yX11_bad wsX11_bad) := goodIn_app (goodIn_of _ (by decide +kernel)) ggX11_order_X11_bad
set_option maxRecDepth 20000 in
theorem ggX11_order_X11_many : GoodIn wsX11_order wsX11_many := goodIn_r _ [14, 2, 53, 54, 55, 56, 57, 58, 59, 60, 61, 62, 63, 64, 65, 66, 67, 68, 69, 70] (by decide +kernel) (by decide +kernel)
set_option maxRecDepth 20000 in
theorem gX11_order_X11_many : GoodIn wsX11_order (wsV RX11 52 RX11 yX11_many wsX11_many) := goodIn_app (goodIn_of _ (by decide +kernel)) ggX11_order_X11_many
set_option maxRecDepth 20000 in
theorem ggX11_order_X11_no : GoodIn wsX11_order wsX11_no := goodIn_r _ [18, 10, 53, 54, 55, 56, 57, 58, 59, 60, 61, 62, 63, 64, 65, 66, 67, 68, 69, 70] (by decide +kernel) (by decide +kernel)
set_option maxRecDepth 20000 in
theorem gX11_order_X11_no : GoodIn wsX11_order (wsV RX11 129 RX11 yX11_no wsX11_no) := goodIn_app (goodIn_of _ (by decide +kernel)) ggX11_order_X11_no
set_option maxRecDepth 20000 in
theorem ggX11_pair_X11_bad : GoodIn wsX11_pair wsX11_bad := goodIn_r _ [19, 20, 58, 59, 60, 61, 62, 63, 64, 65, 66, 67, 68, 69, 70, 71, 72, 73, 74, 75] (by decide +kernel) (by decide +kernel)
set_option maxRecDepth 20000 in
theorem gX11_pair_X11_bad : GoodIn wsX11_pair (wsV RX11 68 RX11 yX11_bad wsX11_bad) := goodIn_app (goodIn_of _ (by decide +kernel)) ggX11_pair_X11_bad
set_option maxRecDepth 20000 in
theorem ggX11_pair_X11_isOne : GoodIn wsX11_pair wsX11_isOne := goodIn_r _ [7, 8, 9, 10, 6, 11, 12, 13, 14, 15, 58, 59, 60, 61, 62, 63, 64, 65, 66, 67, 68, 69, 70, 71, 72, 73, 74, 75] (by decide +kernel) (by decide +kernel)
set_option maxRecDepth 20000 in
theorem gX11_pair_X11_isOne : GoodIn wsX11_pair (wsV RX11 123 RX11 yX11_isOne wsX11_isOne) := goodIn_app (goodIn_of _ (by decide +kernel)) ggX11_pair_X11_isOne
set_option maxRecDepth 20000 in
theorem ggX11_part_X11_bad : GoodIn wsX11_part wsX11_bad := goodIn_r _ [7, 8, 9, 10, 11, 12, 13, 14, 15, 16, 17, 18, 19, 20, 21, 22, 23, 24, 25, 26] (by decide +kernel) (by decide +kernel)
set_option maxRecDepth 20000 in
theorem gX11_part_X11_bad : GoodIn wsX11_part (wsV RX11 68 RX11 yX11_bad wsX11_bad) := goodIn_app (goodIn_of _ (by decide +kernel)) ggX11_part_X11_bad
set_option maxRecDepth 20000 in
theorem ggX11_race_X11_bad : GoodIn wsX11_race wsX11_bad := goodIn_r _ [11, 12, 20, 21, 22, 23, 24, 25, 26, 27, 28, 29, 30, 31, 32, 33, 34, 35, 36, 37] (by decide +kernel) (by decide +kernel)
set_option maxRecDepth 20000 in
theorem gX11_race_X11_bad : GoodIn wsX11_race (wsV RX11 68 RX11 yX11_bad wsX11_bad) := goodIn_app (goodIn_of _ (by decide +kernel)) ggX11_race_X11_bad
set_option maxRecDepth 20000 in
theorem ggX11_race_X11_begin : GoodIn wsX11_race wsX11_begin := goodIn_r _ [19] (by decide +kernel) (by decide +kernel)
set_option maxRecDepth 20000 in
theorem gX11_race_X11_begin : GoodIn wsX11_race (va_wsS RX11 48 yX11_begin wsX11_begin) := goodIn_app (goodIn_of _ (by decide +kernel)) ggX11_race_X11_begin
set_option maxRecDepth 20000 in
theorem ggX11_race_X11_in : GoodIn wsX11_race wsX11_in := goodIn_r _ [7] (by decide +kernel) (by decide +kernel)
set_option maxRecDepth 20000 in
theorem gX11_race_X11_in : GoodIn wsX11_race (va_wsS RX11 56 yX11_in wsX11_in) := goodIn_app (goodIn_of _ (by decide +kernel)) ggX11_race_X11_in
set_option maxRecDepth 20000 in
theorem ggX11_race_X11_many : GoodIn wsX11_race wsX11_many := goodIn_r _ [16, 3, 20, 21, 22, 23, 24, 25, 26, 27, 28, 29, 30, 31, 32, 33, 34, 35, 36, 37] (by decide +kernel) (by decide +kernel)
set_option maxRecDepth 20000 in
theorem gX11_race_X11_many : GoodIn wsX11_race (wsV RX11 52 RX11 yX11_many wsX11_many) := goodIn_app (goodIn_of _ (by decide +kernel)) ggX11_race_X11_many
set_option maxRecDepth 20000 in
theorem ggX11_races_X11_bad : GoodIn wsX11_races wsX11_bad := goodIn_r _ [18, 19, 57, 58, 59, 60, 61, 62, 63, 64, 65, 66, 67, 68, 69, 70, 71, 72, 73, 74] (by decide +kernel) (by decide +kernel)
set_option maxRecDepth 20000 in
theorem gX11_races_X11_bad : GoodIn wsX11_races (wsV RX11 68 RX11 yX11_bad wsX11_bad) := goodIn_app (goodIn_of _ (by decide +kernel)) ggX11_races_X11_bad
set_option maxRecDepth 20000 in
theorem ggX11_races_X11_goTick : GoodIn wsX11_races wsX11_goTick := goodIn_r _ [35, 36, 37, 13, 38, 39, 40, 41, 42, 43, 44, 45, 46, 47, 48, 49, 50, 51, 52, 53] (by decide +kernel) (by decide +kernel)
set_option maxRecDepth 20000 in
theorem gX11_races_X11_goTick : GoodIn wsX11_races (va_wsS RX11 109 yX11_goTick wsX11_goTick) := goodIn_app (goodIn_of _ (by decide +kernel)) ggX11_races_X11_goTick
set_option maxRecDepth 20000 in
theorem ggX11_races_X11_in : GoodIn wsX11_races wsX11_in := goodIn_r _ [14] (by decide +kernel) (by decide +kernel)
set_option maxRecDepth 20000 in
theorem gX11_races_X11_in : GoodIn wsX11_races (va_wsS RX11 56 yX11_in wsX11_in) := goodIn_app (goodIn_of _ (by decide +kernel)) ggX11_races_X11_in
set_option maxRecDepth 20000 in
theorem ggX11_races_X11_isOne : GoodIn wsX11_races wsX11_isOne := goodIn_r _ [28, 29, 30, 31, 13, 32, 24, 11, 12, 14, 57, 58, 59, 60, 61, 62, 63, 64, 65, 66, 67, 68, 69, 70, 71, 72, 73, 74] (by decide +kernel) (by decide +kernel)
set_option maxRecDepth 20000 in
theorem gX11_races_X11_isOne : GoodIn wsX11_races (wsV RX11 123 RX11 yX11_isOne wsX11_isOne) := goodIn_app (goodIn_of _ (by decide +kernel)) ggX11_races_X11_isOne
set_option maxRecDepth 20000 in
theorem ggX11_races_X11_layHand : GoodIn wsX11_races wsX11_layHand := goodIn_r _ [23, 8, 24, 57, 58, 59, 60, 61, 62, 63, 64, 65, 66, 67, 68, 69, 70, 71, 72, 73, 74] (by decide +kernel) (by decide +kernel)
set_option maxRecDepth 20000 in
theorem gX11_races_X11_layHand : GoodIn wsX11_races (wsV RX11 137 RX11 yX11_layHand wsX11_layHand) := goodIn_app (goodIn_of _ (by decide +kernel)) ggX11_races_X11_layHand
set_option maxRecDepth 20000 in
theorem ggX11_races_X11_manyHome : GoodIn wsX11_races wsX11_manyHome := goodIn_r _ [56, 36, 37, 13, 38] (by decide +kernel) (by decide +kernel)
set_option maxRecDepth 20000 in
theorem gX11_races_X11_manyHome : GoodIn wsX11_races (va_wsS RX11 119 yX11_manyHome wsX11_manyHome) := goodIn_app (goodIn_of _ (by decide +kernel)) ggX11_races_X11_manyHome
set_option maxRecDepth 20000 in
theorem ggX11_read_X11_lookAt : GoodIn wsX11_read wsX11_lookAt := goodIn_r _ [10, 1, 11, 12, 13, 2, 14, 15, 16, 9, 17, 18, 19, 20, 21, 22, 23, 24, 25, 26, 27, 90, 91, 92, 93, 94, 95, 96, 97, 98, 99, 100, 101, 102, 103, 104, 105, 106, 107] (by decide +kernel) (by decide +kernel)
set_option maxRecDepth 20000 in
theorem gX11_read_X11_lookAt : GoodIn wsX11_read (wsV RX11 235 RX11 yX11_lookAt wsX11_lookAt) := goodIn_app (goodIn_of _ (by decide +kernel)) ggX11_read_X11_lookAt
set_option maxRecDepth 20000 in
theorem ggX11_read_X11_spells : GoodIn wsX11_read wsX11_spells := goodIn_r _ [31, 2, 13, 12, 1, 90, 91, 92, 93, 94, 95, 96, 97, 98, 99, 100, 101, 102, 103, 104, 105, 106, 107] (by decide +kernel) (by decide +kernel)
set_option maxRecDepth 20000 in
theorem gX11_read_X11_spells : GoodIn wsX11_read (wsV RX11 245 RX11 yX11_spells wsX11_spells) := goodIn_app (goodIn_of _ (by decide +kernel)) ggX11_read_X11_spells
set_option maxRecDepth 20000 in
theorem ggX11_seen_X11_bad : GoodIn wsX11_seen wsX11_bad := goodIn_r _ [23, 24, 29, 30, 31, 32, 33, 34, 35, 36, 37, 38, 39, 40, 41, 42, 43, 44, 45, 46] (by decide +kernel) (by decide +kernel)
set_option maxRecDepth 20000 in
theorem gX11_seen_X11_bad : GoodIn wsX11_seen (wsV RX11 68 RX11 yX11_bad wsX11_bad) := goodIn_app (goodIn_of _ (by decide +kernel)) ggX11_seen_X11_bad
set_option maxRecDepth 20000 in
theorem ggX11_seen_X11_isOne : GoodIn wsX11_seen wsX11_isOne := goodIn_r _ [8, 9, 10, 11, 7, 12, 3, 13, 14, 15, 29, 30, 31, 32, 33, 34, 35, 36, 37, 38, 39, 40, 41, 42, 43, 44, 45, 46] (by decide +kernel) (by decide +kernel)
set_option maxRecDepth 20000 in
theorem gX11_seen_X11_isOne : GoodIn wsX11_seen (wsV RX11 123 RX11 yX11_isOne wsX11_isOne) := goodIn_app (goodIn_of _ (by decide +kernel)) ggX11_seen_X11_isOne
set_option maxRecDepth 20000 in
theorem ggX11_speed_X11_bad : GoodIn wsX11_speed wsX11_bad := goodIn_r _ [21, 22, 34, 35, 36, 37, 38, 39, 40, 41, 42, 43, 44, 45, 46, 47, 48, 49, 50, 51] (by decide +kernel) (by decide +kernel)
set_option maxRecDepth 20000 in
theorem gX11_speed_X11_bad : GoodIn wsX11_speed (wsV RX11 68 RX11 yX11_bad wsX11_bad) := goodIn_app (goodIn_of _ (by decide +kernel)) ggX11_speed_X11_bad
set_option maxRecDepth 20000 in
theorem ggX11_speed_X11_isOne : GoodIn wsX11_speed wsX11_isOne := goodIn_r _ [6, 7, 8, 9, 5, 10, 1, 11, 12, 13, 34, 35, 36, 37, 38, 39, 40, 41, 42, 43, 44, 45, 46, 47, 48, 49, 50, 51] (by decide +kernel) (by decide +kernel)
set_option maxRecDepth 20000 in
theorem gX11_speed_X11_isOne : GoodIn wsX11_speed (wsV RX11 123 RX11 yX11_isOne wsX11_isOne) := goodIn_app (goodIn_of _ (by decide +kernel)) ggX11_speed_X11_isOne
set_option maxRecDepth 20000 in
theorem ggX11_start_X11_bad : GoodIn wsX11_start wsX11_bad := goodIn_r _ [18, 19, 31, 32, 33, 34, 35, 36, 37, 38, 39, 40, 41, 42, 43, 44, 45, 46, 47, 48] (by decide +kernel) (by decide +kernel)
set_option maxRecDepth 20000 in
theorem gX11_start_X11_bad : GoodIn wsX11_start (wsV RX11 68 RX11 yX11_bad wsX11_bad) := goodIn_app (goodIn_of _ (by decide +kernel)) ggX11_start_X11_bad
set_option maxRecDepth 20000 in
theorem ggX11_start_X11_isOne : GoodIn wsX11_start wsX11_isOne := goodIn_r _ [7, 8, 9, 10, 6, 11, 2, 12, 13, 14, 31, 32, 33, 34, 35, 36, 37, 38, 39, 40, 41, 42, 43, 44, 45, 46, 47, 48] (by decide +kernel) (by decide +kernel)
set_option maxRecDepth 20000 in
theorem gX11_start_X11_isOne : GoodIn wsX11_start (wsV RX11 123 RX11 yX11_isOne wsX11_isOne) := goodIn_app (goodIn_of _ (by decide +kernel)) ggX11_start_X11_isOne
set_option maxRecDepth 20000 in
theorem ggX11_status_X11_bad : GoodIn wsX11_status wsX11_bad := goodIn_r _ [10, 2, 11, 12, 13, 14, 15, 16, 17, 18, 19, 20, 21, 22, 23, 24, 25, 26, 27, 28] (by decide +kernel) (by decide +kernel)
set_option maxRecDepth 20000 in
theorem gX11_status_X11_bad : GoodIn wsX11_status (wsV RX11 68 RX11 yX11_bad wsX11_bad) := goodIn_app (goodIn_of _ (by decide +kernel)) ggX11_status_X11_bad
set_option maxRecDepth 20000 in
theorem ggX11_status_X11_in : GoodIn wsX11_status wsX11_in := goodIn_r _ [6] (by decide +kernel) (by decide +kernel)
set_option maxRecDepth 20000 in
theorem gX11_status_X11_in : GoodIn wsX11_status (va_wsS RX11 56 yX11_in wsX11_in) := goodIn_app (goodIn_of _ (by decide +kernel)) ggX11_status_X11_in
set_option maxRecDepth 20000 in
theorem ggX11_strong_X11_bad : GoodIn wsX11_strong wsX11_bad := goodIn_r _ [18, 19, 30, 31, 32, 33, 34, 35, 36, 37, 38, 39, 40, 41, 42, 43, 44, 45, 46, 47] (by decide +kernel) (by decide +kernel)
set_option maxRecDepth 20000 in
theorem gX11_strong_X11_bad : GoodIn wsX11_strong (wsV RX11 68 RX11 yX11_bad wsX11_bad) := goodIn_app (goodIn_of _ (by decide +kernel)) ggX11_strong_X11_bad
set_option maxRecDepth 20000 in
theorem ggX11_strong_X11_isOne : GoodIn wsX11_strong wsX11_isOne := goodIn_r _ [6, 7, 8, 9, 5, 10, 11, 12, 13, 14, 30, 31, 32, 33, 34, 35, 36, 37, 38, 39, 40, 41, 42, 43, 44, 45, 46, 47] (by decide +kernel) (by decide +kernel)
set_option maxRecDepth 20000 in
theorem gX11_strong_X11_isOne : GoodIn wsX11_strong (wsV RX11 123 RX11 yX11_isOne wsX11_isOne) := goodIn_app (goodIn_of _ (by decide +kernel)) ggX11_strong_X11_isOne
set_option maxRecDepth 20000 in
theorem ggX11_stumble_X11_bad : GoodIn wsX11_stumble wsX11_bad := goodIn_r _ [21, 22, 54, 55, 56, 57, 58, 59, 60, 61, 62, 63, 64, 65, 66, 67, 68, 69, 70, 71] (by decide +kernel) (by decide +kernel)
set_option maxRecDepth 20000 in
theorem gX11_stumble_X11_bad : GoodIn wsX11_stumble (wsV RX11 68 RX11 yX11_bad wsX11_bad) := goodIn_app (goodIn_of _ (by decide +kernel)) ggX11_stumble_X11_bad
set_option maxRecDepth 20000 in
theorem ggX11_stumble_X11_isOne : GoodIn wsX11_stumble wsX11_isOne := goodIn_r _ [9, 10, 11, 12, 8, 13, 14, 15, 16, 17, 54, 55, 56, 57, 58, 59, 60, 61, 62, 63, 64, 65, 66, 67, 68, 69, 70, 71] (by decide +kernel) (by decide +kernel)
set_option maxRecDepth 20000 in
theorem gX11_stumble_X11_isOne : GoodIn wsX11_stumble (wsV RX11 123 RX11 yX11_isOne wsX11_isOne) := goodIn_app (goodIn_of _ (by decide +kernel)) ggX11_stumble_X11_isOne
set_option maxRecDepth 20000 in
theorem ggX11_sumOf_X11_many : GoodIn wsX11_sumOf wsX11_many := goodIn_r _ [6, 1, 7, 8, 9, 10, 11, 12, 13, 14, 15, 16, 17, 18, 19, 20, 21, 22, 23, 24] (by decide +kernel) (by decide +kernel)
set_option maxRecDepth 20000 in
theorem gX11_sumOf_X11_many : GoodIn wsX11_sumOf (wsV RX11 52 RX11 yX11_many wsX11_many) := goodIn_app (goodIn_of _ (by decide +kernel)) ggX11_sumOf_X11_many
set_option maxRecDepth 20000 in
theorem ggX11_tell_X11_bad : GoodIn wsX11_tell wsX11_bad := goodIn_r _ [19, 20, 35, 36, 37, 38, 39, 40, 41, 42, 43, 44, 45, 46, 47, 48, 49, 50, 51, 52] (by decide +kernel) (by decide +kernel)
set_option maxRecDepth 20000 in
theorem gX11_tell_X11_bad : GoodIn wsX11_tell (wsV RX11 68 RX11 yX11_bad wsX11_bad) := goodIn_app (goodIn_of _ (by decide +kernel)) ggX11_tell_X11_bad
set_option maxRecDepth 20000 in
theorem ggX11_tell_X11_isOne : GoodIn wsX11_tell wsX11_isOne := goodIn_r _ [8, 9, 10, 11, 7, 12, 3, 13, 14, 15, 35, 36, 37, 38, 39, 40, 41, 42, 43, 44, 45, 46, 47, 48, 49, 50, 51, 52] (by decide +kernel) (by decide +kernel)
set_option maxRecDepth 20000 in
theorem gX11_tell_X11_isOne : GoodIn wsX11_tell (wsV RX11 123 RX11 yX11_isOne wsX11_isOne) := goodIn_app (goodIn_of _ (by decide +kernel)) ggX11_tell_X11_isOne
set_option maxRecDepth 20000 in
theorem ggX11_ticks_X11_bad : GoodIn wsX11_ticks wsX11_bad := goodIn_r _ [10, 11, 43, 44, 45, 46, 47, 48, 49, 50, 51, 52, 53, 54, 55, 56, 57, 58, 59, 60] (by decide +kernel) (by decide +kernel)
set_option maxRecDepth 20000 in
theorem gX11_ticks_X11_bad : GoodIn wsX11_ticks (wsV RX11 68 RX11 yX11_bad wsX11_bad) := goodIn_app (goodIn_of _ (by decide +kernel)) ggX11_ticks_X11_bad
set_option maxRecDepth 20000 in
theorem ggX11_ticks_X11_goTicks : GoodIn wsX11_ticks wsX11_goTicks := goodIn_r _ [18, 19, 20, 5, 21, 22, 23, 24, 25, 26, 27, 28, 29, 30, 31, 32, 33, 34, 35, 36, 37, 38, 39] (by decide +kernel) (by decide +kernel)
set_option maxRecDepth 20000 in
theorem gX11_ticks_X11_goTicks : GoodIn wsX11_ticks (va_wsS RX11 116 yX11_goTicks wsX11_goTicks) := goodIn_app (goodIn_of _ (by decide +kernel)) ggX11_ticks_X11_goTicks
set_option maxRecDepth 20000 in
theorem ggX11_ticks_X11_in : GoodIn wsX11_ticks wsX11_in := goodIn_r _ [6] (by decide +kernel) (by decide +kernel)
set_option maxRecDepth 20000 in
theorem gX11_ticks_X11_in : GoodIn wsX11_ticks (va_wsS RX11 56 yX11_in wsX11_in) := goodIn_app (goodIn_of _ (by decide +kernel)) ggX11_ticks_X11_in
set_option maxRecDepth 20000 in
theorem ggX11_ticks_X11_manyHome : GoodIn wsX11_ticks wsX11_manyHome := goodIn_r _ [42, 22, 23, 5, 24] (by decide +kernel) (by decide +kernel)
set_option maxRecDepth 20000 in
theorem gX11_ticks_X11_manyHome : GoodIn wsX11_ticks (va_wsS RX11 119 yX11_manyHome wsX11_manyHome) := goodIn_app (goodIn_of _ (by decide +kernel)) ggX11_ticks_X11_manyHome
set_option maxRecDepth 20000 in
theorem ggX11_ticks_X11_save : GoodIn wsX11_ticks wsX11_save := goodIn_r _ [15, 2, 43, 44, 45, 46, 47, 48, 49, 50, 51, 52, 53, 54, 55, 56, 57, 58, 59, 60] (by decide +kernel) (by decide +kernel)
set_option maxRecDepth 20000 in
theorem gX11_ticks_X11_save : GoodIn wsX11_ticks (wsV RX11 113 RX11 yX11_save wsX11_save) := goodIn_app (goodIn_of _ (by decide +kernel)) ggX11_ticks_X11_save
set_option maxRecDepth 20000 in
theorem ggX11_turn_X11_bad : GoodIn wsX11_turn wsX11_bad := goodIn_r _ [23, 24, 58, 59, 60, 61, 62, 63, 64, 65, 66, 67, 68, 69, 70, 71, 72, 73, 74, 75] (by decide +kernel) (by decide +kernel)
set_option maxRecDepth 20000 in
theorem gX11_turn_X11_bad : GoodIn wsX11_turn (wsV RX11 68 RX11 yX11_bad wsX11_bad) := goodIn_app (goodIn_of _ (by decide +kernel)) ggX11_turn_X11_bad
set_option maxRecDepth 20000 in
theorem ggX11_turn_X11_isOne : GoodIn wsX11_turn wsX11_isOne := goodIn_r _ [8, 9, 10, 11, 7, 12, 2, 13, 14, 15, 58, 59, 60, 61, 62, 63, 64, 65, 66, 67, 68, 69, 70, 71, 72, 73, 74, 75] (by decide +kernel) (by decide +kernel)
set_option maxRecDepth 20000 in
theorem gX11_turn_X11_isOne : GoodIn wsX11_turn (wsV RX11 123 RX11 yX11_isOne wsX11_isOne) := goodIn_app (goodIn_of _ (by decide +kernel)) ggX11_turn_X11_isOne
set_option maxRecDepth 20000 in
theorem ggX11_type_X11_bad : GoodIn wsX11_type wsX11_bad := goodIn_r _ [11, 12, 17, 18, 19, 20, 21, 22, 23, 24, 25, 26, 27, 28, 29, 30, 31, 32, 33, 34] (by decide +kernel) (by decide +kernel)
set_option maxRecDepth 20000 in
theorem gX11_type_X11_bad : GoodIn wsX11_type (wsV RX11 68 RX11 yX11_bad wsX11_bad) := goodIn_app (goodIn_of _ (by decide +kernel)) ggX11_type_X11_bad
set_option maxRecDepth 20000 in
theorem ggX11_type_X11_in : GoodIn wsX11_type wsX11_in := goodIn_r _ [7] (by decide +kernel) (by decide +kernel)
set_option maxRecDepth 20000 in
theorem gX11_type_X11_in : GoodIn wsX11_type (va_wsS RX11 56 yX11_in wsX11_in) := goodIn_app (goodIn_of _ (by decide +kernel)) ggX11_type_X11_in
set_option maxRecDepth 20000 in
theorem ggX11_undo_X11_no : GoodIn wsX11_undo wsX11_no := goodIn_r _ [6, 7, 8, 9, 10, 11, 12, 13, 14, 15, 16, 17, 18, 19, 20, 21, 22, 23, 24, 25] (by decide +kernel) (by decide +kernel)
set_option maxRecDepth 20000 in
theorem gX11_undo_X11_no : GoodIn wsX11_undo (wsV RX11 129 RX11 yX11_no wsX11_no) := goodIn_app (goodIn_of _ (by decide +kernel)) ggX11_undo_X11_no
set_option maxRecDepth 20000 in
theorem ggX11_where_X11_bad : GoodIn wsX11_where wsX11_bad := goodIn_r _ [19, 20, 50, 51, 52, 53, 54, 55, 56, 57, 58, 59, 60, 61, 62, 63, 64, 65, 66, 67] (by decide +kernel) (by decide +kernel)
set_option maxRecDepth 20000 in
theorem gX11_where_X11_bad : GoodIn wsX11_where (wsV RX11 68 RX11 yX11_bad wsX11_bad) := goodIn_app (goodIn_of _ (by decide +kernel)) ggX11_where_X11_bad
set_option maxRecDepth 20000 in
theorem ggX11_where_X11_isOne : GoodIn wsX11_where wsX11_isOne := goodIn_r _ [7, 8, 9, 10, 6, 11, 12, 13, 14, 15, 50, 51, 52, 53, 54, 55, 56, 57, 58, 59, 60, 61, 62, 63, 64, 65, 66, 67] (by decide +kernel) (by decide +kernel)
set_option maxRecDepth 20000 in
theorem gX11_where_X11_isOne : GoodIn wsX11_where (wsV RX11 123 RX11 yX11_isOne wsX11_isOne) := goodIn_app (goodIn_of _ (by decide +kernel)) ggX11_where_X11_isOne
set_option maxRecDepth 20000 in
theorem ggX5_copyFrom_X4_copyFrom : GoodIn wsX5_copyFrom wsX4_copyFrom := goodIn_r _ [31, 32, 33, 34, 35, 36, 37, 66, 67] (by decide +kernel) (by decide +kernel)
set_option maxRecDepth 20000 in
theorem gX5_copyFrom_X4_copyFrom : GoodIn wsX5_copyFrom (wsV RX5 66 RX4 yX4_copyFrom wsX4_copyFrom) := goodIn_app (goodIn_of _ (by decide +kernel)) ggX5_copyFrom_X4_copyFrom
set_option maxRecDepth 20000 in
theorem ggX5_copyFrom_X5_copyLine : GoodIn wsX5_copyFrom wsX5_copyLine := goodIn_r _ [9, 10, 11, 12, 13, 14, 15, 16, 17, 18, 19, 20, 21, 22, 23, 24, 25, 26, 50, 51, 52, 53, 54, 55, 56, 57, 58, 59, 60, 61, 62, 63, 64, 65] (by decide +kernel) (by decide +kernel)
set_option maxRecDepth 20000 in
theorem gX5_copyFrom_X5_copyLine : GoodIn wsX5_copyFrom (wsV RX5 62 RX5 yX5_copyLine wsX5_copyLine) := goodIn_app (goodIn_of _ (by decide +kernel)) ggX5_copyFrom_X5_copyLine
set_option maxRecDepth 20000 in
theorem ggX5_copyFrom_X7_copyFrom : GoodIn wsX5_copyFrom wsX7_copyFrom := goodIn_r _ [42, 43, 44, 45, 46, 47, 48, 49, 35, 36, 37, 68, 69, 70, 71, 72] (by decide +kernel) (by decide +kernel)
set_option maxRecDepth 20000 in
theorem gX5_copyFrom_X7_copyFrom : GoodIn wsX5_copyFrom (wsV RX5 69 RX7 yX7_copyFrom wsX7_copyFrom) := goodIn_app (goodIn_of _ (by decide +kernel)) ggX5_copyFrom_X7_copyFrom
set_option maxRecDepth 20000 in
theorem ggX5_copyLine_X8_copyFrom : GoodIn wsX5_copyLine wsX8_copyFrom := goodIn_r _ [9, 10, 11, 12, 13, 14, 15, 16, 17, 26, 27, 28, 29, 30, 31, 32, 33] (by decide +kernel) (by decide +kernel)
set_option maxRecDepth 20000 in
theorem gX5_copyLine_X8_copyFrom : GoodIn wsX5_copyLine (wsV RX5 58 RX8 yX8_copyFrom wsX8_copyFrom) := goodIn_app (goodIn_of _ (by decide +kernel)) ggX5_copyLine_X8_copyFrom
set_option maxRecDepth 20000 in
theorem ggX5_init_X4_init : GoodIn wsX5_init wsX4_init := goodIn_r _ [22, 23, 2, 3, 24, 25, 26, 47, 48] (by decide +kernel) (by decide +kernel)
set_option maxRecDepth 20000 in
theorem gX5_init_X4_init_n29 : GoodIn wsX5_init (wsX4_init) := ggX5_init_X4_init
set_option maxRecDepth 20000 in
theorem ggX5_init_X7_init : GoodIn wsX5_init wsX7_init := goodIn_r _ [29, 30, 2, 3, 31, 32, 33, 34, 24, 35, 49, 50, 51, 52, 53] (by decide +kernel) (by decide +kernel)
set_option maxRecDepth 20000 in
theorem gX5_init_X7_init : GoodIn wsX5_init (wsX7_init) := ggX5_init_X7_init
set_option maxRecDepth 20000 in
theorem ggX5_init_X8_init : GoodIn wsX5_init wsX8_init := goodIn_r _ [37, 38, 2, 3] (by decide +kernel) (by decide +kernel)
set_option maxRecDepth 20000 in
theorem gX5_init_X8_init_n49 : GoodIn wsX5_init (wsX8_init) := ggX5_init_X8_init
set_option maxRecDepth 20000 in
theorem ggX5_keep_X4_push : GoodIn wsX5_keep wsX4_push := goodIn_r _ [8, 9, 10, 11, 12, 13, 14, 15, 16, 17, 18, 19, 28, 29, 30, 31, 32, 33, 34, 35, 36, 37] (by decide +kernel) (by decide +kernel)
set_option maxRecDepth 20000 in
theorem gX5_keep_X4_push : GoodIn wsX5_keep (wsV RX5 76 RX4 yX4_push wsX4_push) := goodIn_app (goodIn_of _ (by decide +kernel)) ggX5_keep_X4_push
set_option maxRecDepth 20000 in
theorem ggX5_takeBack_X4_pop : GoodIn wsX5_takeBack wsX4_pop := goodIn_r _ [8, 9, 10, 11, 12, 13, 14, 15, 24, 25, 26, 27, 28, 29, 30, 31, 32, 33] (by decide +kernel) (by decide +kernel)
set_option maxRecDepth 20000 in
theorem gX5_takeBack_X4_pop : GoodIn wsX5_takeBack (wsV RX5 80 RX4 yX4_pop wsX4_pop) := goodIn_app (goodIn_of _ (by decide +kernel)) ggX5_takeBack_X4_pop
set_option maxRecDepth 20000 in
theorem ggX5_welcome_X8_begin : GoodIn wsX5_welcome wsX8_begin := goodIn_r _ [9, 10, 11, 12, 13, 14, 15, 16, 17, 28, 29, 30, 31, 32, 33, 34, 35] (by decide +kernel) (by decide +kernel)
set_option maxRecDepth 20000 in
theorem gX5_welcome_X8_begin : GoodIn wsX5_welcome (wsV RX5 54 RX8 yX8_begin wsX8_begin) := goodIn_app (goodIn_of _ (by decide +kernel)) ggX5_welcome_X8_begin
set_option maxRecDepth 20000 in
theorem ggX6_nextToken_X6_skipBlanks : GoodIn wsX6_nextToken wsX6_skipBlanks := goodIn_r _ [10, 1, 3, 5, 26, 27, 28, 29, 30, 31, 32] (by decide +kernel) (by decide +kernel)
set_option maxRecDepth 20000 in
theorem gX6_nextToken_X6_skipBlanks : GoodIn wsX6_nextToken (wsV RX6 38 RX6 yX6_skipBlanks wsX6_skipBlanks) := goodIn_app (goodIn_of _ (by decide +kernel)) ggX6_nextToken_X6_skipBlanks
set_option maxRecDepth 20000 in
theorem ggX6_takeItem_X6_nextToken : GoodIn wsX6_takeItem wsX6_nextToken := goodIn_r _ [9, 10, 2, 11, 1, 12, 13, 14, 15, 8, 16, 17, 18, 19, 20, 21, 22, 23, 24, 25, 26, 27, 28, 29, 30, 31, 174, 175, 176, 177, 178, 179, 180] (by decide +kernel) (by decide +kernel)
set_option maxRecDepth 20000 in
theorem gX6_takeItem_X6_nextToken : GoodIn wsX6_takeItem (wsV RX6 41 RX6 yX6_nextToken wsX6_nextToken) := goodIn_app (goodIn_of _ (by decide +kernel)) ggX6_takeItem_X6_nextToken
set_option maxRecDepth 20000 in
theorem ggX6_takeRace_X6_skipBlanks : GoodIn wsX6_takeRace wsX6_skipBlanks := goodIn_r _ [20, 1, 3, 16, 178, 179, 180, 181, 182, 183, 184] (by decide +kernel) (by decide +kernel)
set_option maxRecDepth 20000 in
theorem gX6_takeRace_X6_skipBlanks : GoodIn wsX6_takeRace (wsV RX6 38 RX6 yX6_skipBlanks wsX6_skipBlanks) := goodIn_app (goodIn_of _ (by decide +kernel)) ggX6_takeRace_X6_skipBlanks
set_option maxRecDepth 20000 in
theorem ggX6_takeRace_X6_takeItem : GoodIn wsX6_takeRace wsX6_takeItem := goodIn_r _ [8, 9, 10, 2, 11, 12, 13, 14, 7, 15, 1, 3, 16, 17, 18, 19, 20, 21, 22, 23, 24, 25, 26, 27, 28, 29, 30, 31, 32, 33, 34, 35, 36, 37, 38, 39, 40, 41, 42, 43, 44, 45, 46, 47, 48, 49, 50, 51, 52, 53, 54, 55, 56, 57, 58, 59, 60, 61, 62, 63, 64, 65, 66, 67, 68, 69, 70, 71, 72, 73, 74, 75, 76, 77, 78, 79, 80, 81, 82, 83, 84, 85, 86, 87, 88, 89, 90, 91, 92, 93, 94, 95, 96, 97, 98, 99, 100, 101, 102, 103, 104, 105, 106, 107, 108, 109, 110, 111, 112, 113, 114, 115, 116, 117, 118, 119, 120, 121, 122, 123, 124, 125, 126, 127, 128, 129, 130, 131, 132, 133, 134, 135, 136, 137, 138, 139, 140, 141, 142, 143, 144, 145, 146, 147, 148, 149, 150, 151, 152, 153, 154, 155, 156, 157, 158, 159, 160, 161, 162, 163, 164, 165, 166, 167, 168, 169, 170, 171, 172, 173, 174, 175, 176, 177, 178, 179, 180, 181, 182, 183, 184, 185, 186, 187, 188, 189, 190, 191, 192, 193, 194, 195, 196, 197, 198, 199, 200, 201, 202, 203, 204, 205, 206, 207] (by decide +kernel) (by decide +kernel)
set_option maxRecDepth 20000 in
theorem gX6_takeRace_X6_takeItem : GoodIn wsX6_takeRace (wsV RX6 34 RX6 yX6_takeItem wsX6_takeItem) := goodIn_app (goodIn_of _ (by decide +kernel)) ggX6_takeRace_X6_takeItem
end
section
theorem dX0_init_0 : decode cX0_init 0 = .ok (.aload_n 0, 1) := by decide +kernel
theorem dX0_init_1 : decode cX0_init 1 = .ok (.invokespecial 3, 3) := by decide +kernel
theorem dX0_init_12 : decode cX0_init 12 = .ok (.aload_n 0, 1) := by decide +kernel
theorem dX0_init_13 : decode cX0_init 13 = .ok (.bipush 10, 2) := by decide +kernel
theorem dX0_init_15 : decode cX0_init 15 = .ok (.newarray .int, 2) := by decide +kernel
theorem dX0_init_17 : decode cX0_init 17 = .ok (.putfield 15, 3) := by decide +kernel
theorem dX0_init_20 : decode cX0_init 20 = .ok (.aload_n 0, 1) := by decide +kernel
theorem dX0_init_21 : decode cX0_init 21 = .ok (.bipush 10, 2) := by decide +kernel
theorem dX0_init_23 : decode cX0_init 23 = .ok (.newarray .int, 2) := by decide +kernel
theorem dX0_init_25 : decode cX0_init 25 = .ok (.putfield 18, 3) := by decide +kernel
theorem dX0_init_28 : decode cX0_init 28 = .ok (.aload_n 0, 1) := by decide +kernel
theorem dX0_init_29 : decode cX0_init 29 = .ok (.bipush 10, 2) := by decide +kernel
theorem dX0_init_31 : decode cX0_init 31 = .ok (.newarray .int, 2) := by decide +kernel
theorem dX0_init_33 : decode cX0_init 33 = .ok (.putfield 21, 3) := by decide +kernel
theorem dX0_init_36 : decode cX0_init 36 = .ok (.aload_n 0, 1) := by decide +kernel
theorem dX0_init_37 : decode cX0_init 37 = .ok (.bipush 100, 2) := by decide +kernel
theorem dX0_init_39 : decode cX0_init 39 = .ok (.newarray .int, 2) := by decide +kernel
theorem dX0_init_4 : decode cX0_init 4 = .ok (.aload_n 0, 1) := by decide +kernel
theorem dX0_init_41 : decode cX0_init 41 = .ok (.putfield 24, 3) := by decide +kernel
theorem dX0_init_44 : decode cX0_init 44 = .ok (.return_, 1) := by decide +kernel
theorem dX0_init_5 : decode cX0_init 5 = .ok (.bipush 10, 2) := by decide +kernel
theorem dX0_init_7 : decode cX0_init 7 = .ok (.newarray .int, 2) := by decide +kernel
theorem dX0_init_9 : decode cX0_init 9 = .ok (.putfield 11, 3) := by decide +kernel
theorem dX10_areTwo_0 : decode cX10_areTwo 0 = .ok (.aload_n 0, 1) := by decide +kernel
theorem dX10_areTwo_1 : decode cX10_areTwo 1 = .ok (.iload_n 1, 1) := by decide +kernel
theorem dX10_areTwo_2 : decode cX10_areTwo 2 = .ok (.invokevirtual 123, 3) := by decide +kernel
theorem dX10_areTwo_25 : decode cX10_areTwo 25 = .ok (.iconst 0, 1) := by decide +kernel
theorem dX10_areTwo_26 : decode cX10_areTwo 26 = .ok (.ireturn, 1) := by decide +kernel
theorem dX10_areTwo_5 : decode cX10_areTwo 5 = .ok (.ifCond .eq 20, 3) := by decide +kernel
theorem dX10_ask_0 : decode cX10_ask 0 = .ok (.aload_n 0, 1) := by decide +kernel
theorem dX10_ask_1 : decode cX10_ask 1 = .ok (.iload_n 1, 1) := by decide +kernel
theorem dX10_ask_11 : decode cX10_ask 11 = .ok (.invokevirtual 83, 3) := by decide +kernel
theorem dX10_ask_14 : decode cX10_ask 14 = .ok (.ireturn, 1) := by decide +kernel
theorem dX10_ask_2 : decode cX10_ask 2 = .ok (.invokevirtual 123, 3) := by decide +kernel
theorem dX10_ask_5 : decode cX10_ask 5 = .ok (.ifCond .ne 10, 3) := by decide +kernel
theorem dX10_ask_8 : decode cX10_ask 8 = .ok (.aload_n 0, 1) := by decide +kernel
theorem dX10_ask_9 : decode cX10_ask 9 = .ok (.bipush (-2), 2) := by decide +kernel
theorem dX10_beats_0 : decode cX10_beats 0 = .ok (.aload_n 0, 1) := by decide +kernel
theorem dX10_beats_1 : decode cX10_beats 1 = .ok (.iload_n 1, 1) := by decide +kernel
theorem dX10_beats_10 : decode cX10_beats 10 = .ok (.bipush (-2), 2) := by decide +kernel
theorem dX10_beats_12 : decode cX10_beats 12 = .ok (.invokevirtual 83, 3) := by decide +kernel
theorem dX10_beats_15 : decode cX10_beats 15 = .ok (.ireturn, 1) := by decide +kernel
theorem dX10_beats_2 : decode cX10_beats 2 = .ok (.iload_n 2, 1) := by decide +kernel
theorem dX10_beats_3 : decode cX10_beats 3 = .ok (.invokevirtual 172, 3) := by decide +kernel
theorem dX10_beats_6 : decode cX10_beats 6 = .ok (.ifCond .ne 10, 3) := by decide +kernel
theorem dX10_beats_9 : decode cX10_beats 9 = .ok (.aload_n 0, 1) := by decide +kernel
theorem dX10_best_0 : decode cX10_best 0 = .ok (.aload_n 0, 1) := by decide +kernel
theorem dX10_best_1 : decode cX10_best 1 = .ok (.iload_n 1, 1) := by decide +kernel
theorem dX10_best_17 : decode cX10_best 17 = .ok (.aload_n 0, 1) := by decide +kernel
theorem dX10_best_18 : decode cX10_best 18 = .ok (.bipush (-2), 2) := by decide +kernel
theorem dX10_best_2 : decode cX10_best 2 = .ok (.invokevirtual 123, 3) := by decide +kernel
theorem dX10_best_20 : decode cX10_best 20 = .ok (.invokevirtual 83, 3) := by decide +kernel
theorem dX10_best_23 : decode cX10_best 23 = .ok (.ireturn, 1) := by decide +kernel
theorem dX10_best_5 : decode cX10_best 5 = .ok (.ifCond .eq 12, 3) := by decide +kernel
theorem dX10_clear_0 : decode cX10_clear 0 = .ok (.aload_n 0, 1) := by decide +kernel
theorem dX10_clear_1 : decode cX10_clear 1 = .ok (.getfield 30, 3) := by decide +kernel
theorem dX10_clear_12 : decode cX10_clear 12 = .ok (.iconst 0, 1) := by decide +kernel
theorem dX10_clear_13 : decode cX10_clear 13 = .ok (.putfield 103, 3) := by decide +kernel
theorem dX10_clear_16 : decode cX10_clear 16 = .ok (.iload_n 1, 1) := by decide +kernel
theorem dX10_clear_17 : decode cX10_clear 17 = .ok (.ireturn, 1) := by decide +kernel
theorem dX10_clear_4 : decode cX10_clear 4 = .ok (.getfield 103, 3) := by decide +kernel
theorem dX10_clear_7 : decode cX10_clear 7 = .ok (.istore_n 1, 1) := by decide +kernel
theorem dX10_clear_8 : decode cX10_clear 8 = .ok (.aload_n 0, 1) := by decide +kernel
theorem dX10_clear_9 : decode cX10_clear 9 = .ok (.getfield 30, 3) := by decide +kernel
theorem dX10_close_0 : decode cX10_close 0 = .ok (.aload_n 0, 1) := by decide +kernel
theorem dX10_close_1 : decode cX10_close 1 = .ok (.iload_n 1, 1) := by decide +kernel
theorem dX10_close_18 : decode cX10_close 18 = .ok (.aload_n 0, 1) := by decide +kernel
theorem dX10_close_19 : decode cX10_close 19 = .ok (.bipush (-2), 2) := by decide +kernel
theorem dX10_close_2 : decode cX10_close 2 = .ok (.iload_n 2, 1) := by decide +kernel
theorem dX10_close_21 : decode cX10_close 21 = .ok (.invokevirtual 83, 3) := by decide +kernel
theorem dX10_close_24 : decode cX10_close 24 = .ok (.ireturn, 1) := by decide +kernel
theorem dX10_close_3 : decode cX10_close 3 = .ok (.invokevirtual 172, 3) := by decide +kernel
theorem dX10_close_6 : decode cX10_close 6 = .ok (.ifCond .eq 12, 3) := by decide +kernel
theorem dX10_count_0 : decode cX10_count 0 = .ok (.iload_n 1, 1) := by decide +kernel
theorem dX10_count_1 : decode cX10_count 1 = .ok (.tableswitch 159 0 10 #[59, 67, 75, 83, 91, 99, 107, 118, 129, 140, 151], 59) := by decide +kernel
theorem dX10_count_100 : decode cX10_count 100 = .ok (.aload_n 0, 1) := by decide +kernel
theorem dX10_count_101 : decode cX10_count 101 = .ok (.getfield 10, 3) := by decide +kernel
theorem dX10_count_104 : decode cX10_count 104 = .ok (.invokevirtual 279, 3) := by decide +kernel
theorem dX10_count_107 : decode cX10_count 107 = .ok (.ireturn, 1) := by decide +kernel
theorem dX10_count_108 : decode cX10_count 108 = .ok (.aload_n 0, 1) := by decide +kernel
theorem dX10_count_109 : decode cX10_count 109 = .ok (.getfield 10, 3) := by decide +kernel
theorem dX10_count_112 : decode cX10_count 112 = .ok (.getfield 185, 3) := by decide +kernel
theorem dX10_count_115 : decode cX10_count 115 = .ok (.getfield 194, 3) := by decide +kernel
theorem dX10_count_118 : decode cX10_count 118 = .ok (.ireturn, 1) := by decide +kernel
theorem dX10_count_119 : decode cX10_count 119 = .ok (.aload_n 0, 1) := by decide +kernel
theorem dX10_count_120 : decode cX10_count 120 = .ok (.getfield 10, 3) := by decide +kernel
theorem dX10_count_123 : decode cX10_count 123 = .ok (.getfield 212, 3) := by decide +kernel
theorem dX10_count_126 : decode cX10_count 126 = .ok (.getfield 194, 3) := by decide +kernel
theorem dX10_count_129 : decode cX10_count 129 = .ok (.ireturn, 1) := by decide +kernel
theorem dX10_count_130 : decode cX10_count 130 = .ok (.aload_n 0, 1) := by decide +kernel
theorem dX10_count_131 : decode cX10_count 131 = .ok (.getfield 10, 3) := by decide +kernel
theorem dX10_count_134 : decode cX10_count 134 = .ok (.getfield 215, 3) := by decide +kernel
theorem dX10_count_137 : decode cX10_count 137 = .ok (.getfield 194, 3) := by decide +kernel
theorem dX10_count_140 : decode cX10_count 140 = .ok (.ireturn, 1) := by decide +kernel
theorem dX10_count_141 : decode cX10_count 141 = .ok (.aload_n 0, 1) := by decide +kernel
theorem dX10_count_142 : decode cX10_count 142 = .ok (.getfield 10, 3) := by decide +kernel
theorem dX10_count_145 : decode cX10_count 145 = .ok (.getfield 282, 3) := by decide +kernel
theorem dX10_count_148 : decode cX10_count 148 = .ok (.getfield 286, 3) := by decide +kernel
theorem dX10_count_151 : decode cX10_count 151 = .ok (.ireturn, 1) := by decide +kernel
theorem dX10_count_152 : decode cX10_count 152 = .ok (.aload_n 0, 1) := by decide +kernel
theorem dX10_count_153 : decode cX10_count 153 = .ok (.getfield 30, 3) := by decide +kernel
theorem dX10_count_156 : decode cX10_count 156 = .ok (.getfield 103, 3) := by decide +kernel
theorem dX10_count_159 : decode cX10_count 159 = .ok (.ireturn, 1) := by decide +kernel
theorem dX10_count_160 : decode cX10_count 160 = .ok (.aload_n 0, 1) := by decide +kernel
theorem dX10_count_161 : decode cX10_count 161 = .ok (.bipush (-2), 2) := by decide +kernel
theorem dX10_count_163 : decode cX10_count 163 = .ok (.invokevirtual 83, 3) := by decide +kernel
theorem dX10_count_166 : decode cX10_count 166 = .ok (.ireturn, 1) := by decide +kernel
theorem dX10_count_60 : decode cX10_count 60 = .ok (.aload_n 0, 1) := by decide +kernel
theorem dX10_count_61 : decode cX10_count 61 = .ok (.getfield 10, 3) := by decide +kernel
theorem dX10_count_64 : decode cX10_count 64 = .ok (.getfield 87, 3) := by decide +kernel
theorem dX10_count_67 : decode cX10_count 67 = .ok (.ireturn, 1) := by decide +kernel
theorem dX10_count_68 : decode cX10_count 68 = .ok (.aload_n 0, 1) := by decide +kernel
theorem dX10_count_69 : decode cX10_count 69 = .ok (.getfield 10, 3) := by decide +kernel
theorem dX10_count_72 : decode cX10_count 72 = .ok (.invokevirtual 119, 3) := by decide +kernel
theorem dX10_count_75 : decode cX10_count 75 = .ok (.ireturn, 1) := by decide +kernel
theorem dX10_count_76 : decode cX10_count 76 = .ok (.aload_n 0, 1) := by decide +kernel
theorem dX10_count_77 : decode cX10_count 77 = .ok (.getfield 10, 3) := by decide +kernel
theorem dX10_count_80 : decode cX10_count 80 = .ok (.getfield 140, 3) := by decide +kernel
theorem dX10_count_83 : decode cX10_count 83 = .ok (.ireturn, 1) := by decide +kernel
theorem dX10_count_84 : decode cX10_count 84 = .ok (.aload_n 0, 1) := by decide +kernel
theorem dX10_count_85 : decode cX10_count 85 = .ok (.getfield 10, 3) := by decide +kernel
theorem dX10_count_88 : decode cX10_count 88 = .ok (.getfield 110, 3) := by decide +kernel
theorem dX10_count_91 : decode cX10_count 91 = .ok (.ireturn, 1) := by decide +kernel
theorem dX10_count_92 : decode cX10_count 92 = .ok (.aload_n 0, 1) := by decide +kernel
theorem dX10_count_93 : decode cX10_count 93 = .ok (.getfield 10, 3) := by decide +kernel
theorem dX10_count_96 : decode cX10_count 96 = .ok (.invokevirtual 276, 3) := by decide +kernel
theorem dX10_count_99 : decode cX10_count 99 = .ok (.ireturn, 1) := by decide +kernel
theorem dX10_digest_0 : decode cX10_digest 0 = .ok (.ldc2_w 289, 3) := by decide +kernel
theorem dX10_digest_101 : decode cX10_digest 101 = .ok (.getfield 185, 3) := by decide +kernel
theorem dX10_digest_104 : decode cX10_digest 104 = .ok (.lload_n 1, 1) := by decide +kernel
theorem dX10_digest_105 : decode cX10_digest 105 = .ok (.invokevirtual 296, 3) := by decide +kernel
theorem dX10_digest_108 : decode cX10_digest 108 = .ok (.lstore_n 1, 1) := by decide +kernel
theorem dX10_digest_109 : decode cX10_digest 109 = .ok (.aload_n 0, 1) := by decide +kernel
theorem dX10_digest_110 : decode cX10_digest 110 = .ok (.getfield 10, 3) := by decide +kernel
theorem dX10_digest_113 : decode cX10_digest 113 = .ok (.getfield 212, 3) := by decide +kernel
theorem dX10_digest_116 : decode cX10_digest 116 = .ok (.lload_n 1, 1) := by decide +kernel
theorem dX10_digest_117 : decode cX10_digest 117 = .ok (.invokevirtual 296, 3) := by decide +kernel
theorem dX10_digest_12 : decode cX10_digest 12 = .ok (.ldc2_w 291, 3) := by decide +kernel
theorem dX10_digest_120 : decode cX10_digest 120 = .ok (.lstore_n 1, 1) := by decide +kernel
theorem dX10_digest_121 : decode cX10_digest 121 = .ok (.aload_n 0, 1) := by decide +kernel
theorem dX10_digest_122 : decode cX10_digest 122 = .ok (.getfield 10, 3) := by decide +kernel
theorem dX10_digest_125 : decode cX10_digest 125 = .ok (.getfield 215, 3) := by decide +kernel
theorem dX10_digest_128 : decode cX10_digest 128 = .ok (.lload_n 1, 1) := by decide +kernel
theorem dX10_digest_129 : decode cX10_digest 129 = .ok (.invokevirtual 296, 3) := by decide +kernel
theorem dX10_digest_132 : decode cX10_digest 132 = .ok (.lstore_n 1, 1) := by decide +kernel
theorem dX10_digest_133 : decode cX10_digest 133 = .ok (.ldc2_w 291, 3) := by decide +kernel
theorem dX10_digest_136 : decode cX10_digest 136 = .ok (.lload_n 1, 1) := by decide +kernel
theorem dX10_digest_137 : decode cX10_digest 137 = .ok (.lmul, 1) := by decide +kernel
theorem dX10_digest_138 : decode cX10_digest 138 = .ok (.aload_n 0, 1) := by decide +kernel
theorem dX10_digest_139 : decode cX10_digest 139 = .ok (.getfield 38, 3) := by decide +kernel
theorem dX10_digest_142 : decode cX10_digest 142 = .ok (.ladd, 1) := by decide +kernel
theorem dX10_digest_143 : decode cX10_digest 143 = .ok (.lstore_n 1, 1) := by decide +kernel
theorem dX10_digest_144 : decode cX10_digest 144 = .ok (.ldc2_w 291, 3) := by decide +kernel
theorem dX10_digest_147 : decode cX10_digest 147 = .ok (.lload_n 1, 1) := by decide +kernel
theorem dX10_digest_148 : decode cX10_digest 148 = .ok (.lmul, 1) := by decide +kernel
theorem dX10_digest_149 : decode cX10_digest 149 = .ok (.aload_n 0, 1) := by decide +kernel
theorem dX10_digest_15 : decode cX10_digest 15 = .ok (.lload_n 1, 1) := by decide +kernel
theorem dX10_digest_150 : decode cX10_digest 150 = .ok (.getfield 42, 3) := by decide +kernel
theorem dX10_digest_153 : decode cX10_digest 153 = .ok (.ladd, 1) := by decide +kernel
theorem dX10_digest_154 : decode cX10_digest 154 = .ok (.lreturn, 1) := by decide +kernel
theorem dX10_digest_16 : decode cX10_digest 16 = .ok (.lmul, 1) := by decide +kernel
theorem dX10_digest_17 : decode cX10_digest 17 = .ok (.aload_n 0, 1) := by decide +kernel
theorem dX10_digest_18 : decode cX10_digest 18 = .ok (.iload_n 3, 1) := by decide +kernel
theorem dX10_digest_19 : decode cX10_digest 19 = .ok (.invokevirtual 293, 3) := by decide +kernel
theorem dX10_digest_22 : decode cX10_digest 22 = .ok (.i2l, 1) := by decide +kernel
theorem dX10_digest_23 : decode cX10_digest 23 = .ok (.ladd, 1) := by decide +kernel
theorem dX10_digest_24 : decode cX10_digest 24 = .ok (.lstore_n 1, 1) := by decide +kernel
theorem dX10_digest_25 : decode cX10_digest 25 = .ok (.iinc 3 1, 3) := by decide +kernel
theorem dX10_digest_28 : decode cX10_digest 28 = .ok (.goto (-22), 3) := by decide +kernel
theorem dX10_digest_3 : decode cX10_digest 3 = .ok (.lstore_n 1, 1) := by decide +kernel
theorem dX10_digest_31 : decode cX10_digest 31 = .ok (.iconst 0, 1) := by decide +kernel
theorem dX10_digest_32 : decode cX10_digest 32 = .ok (.istore_n 3, 1) := by decide +kernel
theorem dX10_digest_33 : decode cX10_digest 33 = .ok (.iload_n 3, 1) := by decide +kernel
theorem dX10_digest_34 : decode cX10_digest 34 = .ok (.aload_n 0, 1) := by decide +kernel
theorem dX10_digest_35 : decode cX10_digest 35 = .ok (.getfield 10, 3) := by decide +kernel
theorem dX10_digest_38 : decode cX10_digest 38 = .ok (.getfield 87, 3) := by decide +kernel
theorem dX10_digest_4 : decode cX10_digest 4 = .ok (.iconst 0, 1) := by decide +kernel
theorem dX10_digest_41 : decode cX10_digest 41 = .ok (.if_icmp .ge 56, 3) := by decide +kernel
theorem dX10_digest_5 : decode cX10_digest 5 = .ok (.istore_n 3, 1) := by decide +kernel
theorem dX10_digest_6 : decode cX10_digest 6 = .ok (.iload_n 3, 1) := by decide +kernel
theorem dX10_digest_7 : decode cX10_digest 7 = .ok (.bipush 10, 2) := by decide +kernel
theorem dX10_digest_9 : decode cX10_digest 9 = .ok (.if_icmp .gt 22, 3) := by decide +kernel
theorem dX10_digest_97 : decode cX10_digest 97 = .ok (.aload_n 0, 1) := by decide +kernel
theorem dX10_digest_98 : decode cX10_digest 98 = .ok (.getfield 10, 3) := by decide +kernel
theorem dX10_first_0 : decode cX10_first 0 = .ok (.iconst (-1), 1) := by decide +kernel
theorem dX10_first_1 : decode cX10_first 1 = .ok (.istore_n 1, 1) := by decide +kernel
theorem dX10_first_12 : decode cX10_first 12 = .ok (.getfield 87, 3) := by decide +kernel
theorem dX10_first_15 : decode cX10_first 15 = .ok (.if_icmp .ge 49, 3) := by decide +kernel
theorem dX10_first_2 : decode cX10_first 2 = .ok (.bipush 60, 2) := by decide +kernel
theorem dX10_first_4 : decode cX10_first 4 = .ok (.istore_n 2, 1) := by decide +kernel
theorem dX10_first_5 : decode cX10_first 5 = .ok (.iconst 0, 1) := by decide +kernel
theorem dX10_first_6 : decode cX10_first 6 = .ok (.istore_n 3, 1) := by decide +kernel
theorem dX10_first_64 : decode cX10_first 64 = .ok (.iload_n 1, 1) := by decide +kernel
theorem dX10_first_65 : decode cX10_first 65 = .ok (.ireturn, 1) := by decide +kernel
theorem dX10_first_7 : decode cX10_first 7 = .ok (.iload_n 3, 1) := by decide +kernel
theorem dX10_first_8 : decode cX10_first 8 = .ok (.aload_n 0, 1) := by decide +kernel
theorem dX10_first_9 : decode cX10_first 9 = .ok (.getfield 10, 3) := by decide +kernel
theorem dX10_forget_0 : decode cX10_forget 0 = .ok (.iload_n 1, 1) := by decide +kernel
theorem dX10_forget_1 : decode cX10_forget 1 = .ok (.iconst 0, 1) := by decide +kernel
theorem dX10_forget_10 : decode cX10_forget 10 = .ok (.bipush (-2), 2) := by decide +kernel
theorem dX10_forget_12 : decode cX10_forget 12 = .ok (.invokevirtual 83, 3) := by decide +kernel
theorem dX10_forget_15 : decode cX10_forget 15 = .ok (.ireturn, 1) := by decide +kernel
theorem dX10_forget_16 : decode cX10_forget 16 = .ok (.iload_n 1, 1) := by decide +kernel
theorem dX10_forget_17 : decode cX10_forget 17 = .ok (.ifCond .ne 13, 3) := by decide +kernel
theorem dX10_forget_2 : decode cX10_forget 2 = .ok (.iconst 2, 1) := by decide +kernel
theorem dX10_forget_20 : decode cX10_forget 20 = .ok (.aload_n 0, 1) := by decide +kernel
theorem dX10_forget_21 : decode cX10_forget 21 = .ok (.getfield 10, 3) := by decide +kernel
theorem dX10_forget_24 : decode cX10_forget 24 = .ok (.getfield 185, 3) := by decide +kernel
theorem dX10_forget_27 : decode cX10_forget 27 = .ok (.goto 25, 3) := by decide +kernel
theorem dX10_forget_3 : decode cX10_forget 3 = .ok (.invokestatic 79, 3) := by decide +kernel
theorem dX10_forget_30 : decode cX10_forget 30 = .ok (.iload_n 1, 1) := by decide +kernel
theorem dX10_forget_31 : decode cX10_forget 31 = .ok (.iconst 1, 1) := by decide +kernel
theorem dX10_forget_32 : decode cX10_forget 32 = .ok (.if_icmp .ne 13, 3) := by decide +kernel
theorem dX10_forget_35 : decode cX10_forget 35 = .ok (.aload_n 0, 1) := by decide +kernel
theorem dX10_forget_36 : decode cX10_forget 36 = .ok (.getfield 10, 3) := by decide +kernel
theorem dX10_forget_39 : decode cX10_forget 39 = .ok (.getfield 212, 3) := by decide +kernel
theorem dX10_forget_42 : decode cX10_forget 42 = .ok (.goto 10, 3) := by decide +kernel
theorem dX10_forget_45 : decode cX10_forget 45 = .ok (.aload_n 0, 1) := by decide +kernel
theorem dX10_forget_46 : decode cX10_forget 46 = .ok (.getfield 10, 3) := by decide +kernel
theorem dX10_forget_49 : decode cX10_forget 49 = .ok (.getfield 215, 3) := by decide +kernel
theorem dX10_forget_52 : decode cX10_forget 52 = .ok (.astore_n 2, 1) := by decide +kernel
theorem dX10_forget_53 : decode cX10_forget 53 = .ok (.aload_n 2, 1) := by decide +kernel
theorem dX10_forget_54 : decode cX10_forget 54 = .ok (.getfield 194, 3) := by decide +kernel
theorem dX10_forget_57 : decode cX10_forget 57 = .ok (.istore_n 3, 1) := by decide +kernel
theorem dX10_forget_58 : decode cX10_forget 58 = .ok (.aload_n 2, 1) := by decide +kernel
theorem dX10_forget_59 : decode cX10_forget 59 = .ok (.iconst 0, 1) := by decide +kernel
theorem dX10_forget_6 : decode cX10_forget 6 = .ok (.ifCond .ne 10, 3) := by decide +kernel
theorem dX10_forget_60 : decode cX10_forget 60 = .ok (.putfield 194, 3) := by decide +kernel
theorem dX10_forget_63 : decode cX10_forget 63 = .ok (.iload_n 3, 1) := by decide +kernel
theorem dX10_forget_64 : decode cX10_forget 64 = .ok (.ireturn, 1) := by decide +kernel
theorem dX10_forget_9 : decode cX10_forget 9 = .ok (.aload_n 0, 1) := by decide +kernel
theorem dX10_from_0 : decode cX10_from 0 = .ok (.iload_n 1, 1) := by decide +kernel
theorem dX10_from_1 : decode cX10_from 1 = .ok (.iconst 0, 1) := by decide +kernel
theorem dX10_from_10 : decode cX10_from 10 = .ok (.bipush (-2), 2) := by decide +kernel
theorem dX10_from_12 : decode cX10_from 12 = .ok (.invokevirtual 83, 3) := by decide +kernel
theorem dX10_from_15 : decode cX10_from 15 = .ok (.ireturn, 1) := by decide +kernel
theorem dX10_from_16 : decode cX10_from 16 = .ok (.aload_n 0, 1) := by decide +kernel
theorem dX10_from_17 : decode cX10_from 17 = .ok (.getfield 23, 3) := by decide +kernel
theorem dX10_from_2 : decode cX10_from 2 = .ok (.iconst 1, 1) := by decide +kernel
theorem dX10_from_20 : decode cX10_from 20 = .ok (.iload_n 1, 1) := by decide +kernel
theorem dX10_from_21 : decode cX10_from 21 = .ok (.baload, 1) := by decide +kernel
theorem dX10_from_22 : decode cX10_from 22 = .ok (.ifCond .ne 10, 3) := by decide +kernel
theorem dX10_from_25 : decode cX10_from 25 = .ok (.aload_n 0, 1) := by decide +kernel
theorem dX10_from_26 : decode cX10_from 26 = .ok (.bipush (-3), 2) := by decide +kernel
theorem dX10_from_28 : decode cX10_from 28 = .ok (.invokevirtual 83, 3) := by decide +kernel
theorem dX10_from_3 : decode cX10_from 3 = .ok (.invokestatic 79, 3) := by decide +kernel
theorem dX10_from_31 : decode cX10_from 31 = .ok (.ireturn, 1) := by decide +kernel
theorem dX10_from_6 : decode cX10_from 6 = .ok (.ifCond .ne 10, 3) := by decide +kernel
theorem dX10_from_9 : decode cX10_from 9 = .ok (.aload_n 0, 1) := by decide +kernel
theorem dX10_home_0 : decode cX10_home 0 = .ok (.aload_n 0, 1) := by decide +kernel
theorem dX10_home_1 : decode cX10_home 1 = .ok (.iload_n 1, 1) := by decide +kernel
theorem dX10_home_18 : decode cX10_home 18 = .ok (.aload_n 0, 1) := by decide +kernel
theorem dX10_home_19 : decode cX10_home 19 = .ok (.bipush (-2), 2) := by decide +kernel
theorem dX10_home_2 : decode cX10_home 2 = .ok (.invokevirtual 123, 3) := by decide +kernel
theorem dX10_home_21 : decode cX10_home 21 = .ok (.invokevirtual 83, 3) := by decide +kernel
theorem dX10_home_24 : decode cX10_home 24 = .ok (.ireturn, 1) := by decide +kernel
theorem dX10_home_5 : decode cX10_home 5 = .ok (.ifCond .eq 13, 3) := by decide +kernel
theorem dX10_image_0 : decode cX10_image 0 = .ok (.iload_n 1, 1) := by decide +kernel
theorem dX10_image_1 : decode cX10_image 1 = .ok (.iconst 0, 1) := by decide +kernel
theorem dX10_image_10 : decode cX10_image 10 = .ok (.bipush (-2), 2) := by decide +kernel
theorem dX10_image_12 : decode cX10_image 12 = .ok (.invokevirtual 83, 3) := by decide +kernel
theorem dX10_image_15 : decode cX10_image 15 = .ok (.ireturn, 1) := by decide +kernel
theorem dX10_image_16 : decode cX10_image 16 = .ok (.aload_n 0, 1) := by decide +kernel
theorem dX10_image_17 : decode cX10_image 17 = .ok (.getfield 19, 3) := by decide +kernel
theorem dX10_image_2 : decode cX10_image 2 = .ok (.iconst 1, 1) := by decide +kernel
theorem dX10_image_20 : decode cX10_image 20 = .ok (.iload_n 1, 1) := by decide +kernel
theorem dX10_image_21 : decode cX10_image 21 = .ok (.aaload, 1) := by decide +kernel
theorem dX10_image_22 : decode cX10_image 22 = .ok (.aload_n 0, 1) := by decide +kernel
theorem dX10_image_23 : decode cX10_image 23 = .ok (.getfield 10, 3) := by decide +kernel
theorem dX10_image_26 : decode cX10_image 26 = .ok (.invokevirtual 274, 3) := by decide +kernel
theorem dX10_image_29 : decode cX10_image 29 = .ok (.aload_n 0, 1) := by decide +kernel
theorem dX10_image_3 : decode cX10_image 3 = .ok (.invokestatic 79, 3) := by decide +kernel
theorem dX10_image_30 : decode cX10_image 30 = .ok (.getfield 23, 3) := by decide +kernel
theorem dX10_image_33 : decode cX10_image 33 = .ok (.iload_n 1, 1) := by decide +kernel
theorem dX10_image_34 : decode cX10_image 34 = .ok (.iconst 1, 1) := by decide +kernel
theorem dX10_image_35 : decode cX10_image 35 = .ok (.bastore, 1) := by decide +kernel
theorem dX10_image_36 : decode cX10_image 36 = .ok (.iconst 1, 1) := by decide +kernel
theorem dX10_image_37 : decode cX10_image 37 = .ok (.ireturn, 1) := by decide +kernel
theorem dX10_image_6 : decode cX10_image 6 = .ok (.ifCond .ne 10, 3) := by decide +kernel
theorem dX10_image_9 : decode cX10_image 9 = .ok (.aload_n 0, 1) := by decide +kernel
theorem dX10_init_0 : decode cX10_init 0 = .ok (.aload_n 0, 1) := by decide +kernel
theorem dX10_init_1 : decode cX10_init 1 = .ok (.invokespecial 1, 3) := by decide +kernel
theorem dX10_init_100 : decode cX10_init 100 = .ok (.aload_n 0, 1) := by decide +kernel
theorem dX10_init_101 : decode cX10_init 101 = .ok (.new 45, 3) := by decide +kernel
theorem dX10_init_104 : decode cX10_init 104 = .ok (.dup, 1) := by decide +kernel
theorem dX10_init_105 : decode cX10_init 105 = .ok (.invokespecial 47, 3) := by decide +kernel
theorem dX10_init_108 : decode cX10_init 108 = .ok (.putfield 52, 3) := by decide +kernel
theorem dX10_init_111 : decode cX10_init 111 = .ok (.aload_n 0, 1) := by decide +kernel
theorem dX10_init_112 : decode cX10_init 112 = .ok (.new 55, 3) := by decide +kernel
theorem dX10_init_115 : decode cX10_init 115 = .ok (.dup, 1) := by decide +kernel
theorem dX10_init_116 : decode cX10_init 116 = .ok (.invokespecial 57, 3) := by decide +kernel
theorem dX10_init_119 : decode cX10_init 119 = .ok (.putfield 58, 3) := by decide +kernel
theorem dX10_init_12 : decode cX10_init 12 = .ok (.putfield 10, 3) := by decide +kernel
theorem dX10_init_122 : decode cX10_init 122 = .ok (.aload_n 0, 1) := by decide +kernel
theorem dX10_init_123 : decode cX10_init 123 = .ok (.new 62, 3) := by decide +kernel
theorem dX10_init_126 : decode cX10_init 126 = .ok (.dup, 1) := by decide +kernel
theorem dX10_init_127 : decode cX10_init 127 = .ok (.invokespecial 64, 3) := by decide +kernel
theorem dX10_init_130 : decode cX10_init 130 = .ok (.putfield 65, 3) := by decide +kernel
theorem dX10_init_133 : decode cX10_init 133 = .ok (.aload_n 0, 1) := by decide +kernel
theorem dX10_init_134 : decode cX10_init 134 = .ok (.new 69, 3) := by decide +kernel
theorem dX10_init_137 : decode cX10_init 137 = .ok (.dup, 1) := by decide +kernel
theorem dX10_init_138 : decode cX10_init 138 = .ok (.invokespecial 71, 3) := by decide +kernel
theorem dX10_init_141 : decode cX10_init 141 = .ok (.putfield 72, 3) := by decide +kernel
theorem dX10_init_144 : decode cX10_init 144 = .ok (.aload_n 0, 1) := by decide +kernel
theorem dX10_init_145 : decode cX10_init 145 = .ok (.bipush 6, 2) := by decide +kernel
theorem dX10_init_147 : decode cX10_init 147 = .ok (.newarray .int, 2) := by decide +kernel
theorem dX10_init_149 : decode cX10_init 149 = .ok (.putfield 76, 3) := by decide +kernel
theorem dX10_init_15 : decode cX10_init 15 = .ok (.aload_n 0, 1) := by decide +kernel
theorem dX10_init_152 : decode cX10_init 152 = .ok (.return_, 1) := by decide +kernel
theorem dX10_init_16 : decode cX10_init 16 = .ok (.new 7, 3) := by decide +kernel
theorem dX10_init_19 : decode cX10_init 19 = .ok (.dup, 1) := by decide +kernel
theorem dX10_init_20 : decode cX10_init 20 = .ok (.invokespecial 9, 3) := by decide +kernel
theorem dX10_init_23 : decode cX10_init 23 = .ok (.putfield 16, 3) := by decide +kernel
theorem dX10_init_26 : decode cX10_init 26 = .ok (.aload_n 0, 1) := by decide +kernel
theorem dX10_init_27 : decode cX10_init 27 = .ok (.iconst 2, 1) := by decide +kernel
theorem dX10_init_28 : decode cX10_init 28 = .ok (.anewarray 7, 3) := by decide +kernel
theorem dX10_init_31 : decode cX10_init 31 = .ok (.dup, 1) := by decide +kernel
theorem dX10_init_32 : decode cX10_init 32 = .ok (.iconst 0, 1) := by decide +kernel
theorem dX10_init_33 : decode cX10_init 33 = .ok (.new 7, 3) := by decide +kernel
theorem dX10_init_36 : decode cX10_init 36 = .ok (.dup, 1) := by decide +kernel
theorem dX10_init_37 : decode cX10_init 37 = .ok (.invokespecial 9, 3) := by decide +kernel
theorem dX10_init_4 : decode cX10_init 4 = .ok (.aload_n 0, 1) := by decide +kernel
theorem dX10_init_40 : decode cX10_init 40 = .ok (.aastore, 1) := by decide +kernel
theorem dX10_init_41 : decode cX10_init 41 = .ok (.dup, 1) := by decide +kernel
theorem dX10_init_42 : decode cX10_init 42 = .ok (.iconst 1, 1) := by decide +kernel
theorem dX10_init_43 : decode cX10_init 43 = .ok (.new 7, 3) := by decide +kernel
theorem dX10_init_46 : decode cX10_init 46 = .ok (.dup, 1) := by decide +kernel
theorem dX10_init_47 : decode cX10_init 47 = .ok (.invokespecial 9, 3) := by decide +kernel
theorem dX10_init_5 : decode cX10_init 5 = .ok (.new 7, 3) := by decide +kernel
theorem dX10_init_50 : decode cX10_init 50 = .ok (.aastore, 1) := by decide +kernel
theorem dX10_init_51 : decode cX10_init 51 = .ok (.putfield 19, 3) := by decide +kernel
theorem dX10_init_54 : decode cX10_init 54 = .ok (.aload_n 0, 1) := by decide +kernel
theorem dX10_init_55 : decode cX10_init 55 = .ok (.iconst 2, 1) := by decide +kernel
theorem dX10_init_56 : decode cX10_init 56 = .ok (.newarray .boolean, 2) := by decide +kernel
theorem dX10_init_58 : decode cX10_init 58 = .ok (.putfield 23, 3) := by decide +kernel
theorem dX10_init_61 : decode cX10_init 61 = .ok (.aload_n 0, 1) := by decide +kernel
theorem dX10_init_62 : decode cX10_init 62 = .ok (.new 27, 3) := by decide +kernel
theorem dX10_init_65 : decode cX10_init 65 = .ok (.dup, 1) := by decide +kernel
theorem dX10_init_66 : decode cX10_init 66 = .ok (.invokespecial 29, 3) := by decide +kernel
theorem dX10_init_69 : decode cX10_init 69 = .ok (.putfield 30, 3) := by decide +kernel
theorem dX10_init_72 : decode cX10_init 72 = .ok (.aload_n 0, 1) := by decide +kernel
theorem dX10_init_73 : decode cX10_init 73 = .ok (.iconst 3, 1) := by decide +kernel
theorem dX10_init_74 : decode cX10_init 74 = .ok (.newarray .int, 2) := by decide +kernel
theorem dX10_init_76 : decode cX10_init 76 = .ok (.putfield 34, 3) := by decide +kernel
theorem dX10_init_79 : decode cX10_init 79 = .ok (.aload_n 0, 1) := by decide +kernel
theorem dX10_init_8 : decode cX10_init 8 = .ok (.dup, 1) := by decide +kernel
theorem dX10_init_80 : decode cX10_init 80 = .ok (.lconst 0, 1) := by decide +kernel
theorem dX10_init_81 : decode cX10_init 81 = .ok (.putfield 38, 3) := by decide +kernel
theorem dX10_init_84 : decode cX10_init 84 = .ok (.aload_n 0, 1) := by decide +kernel
theorem dX10_init_85 : decode cX10_init 85 = .ok (.lconst 1, 1) := by decide +kernel
theorem dX10_init_86 : decode cX10_init 86 = .ok (.putfield 42, 3) := by decide +kernel
theorem dX10_init_89 : decode cX10_init 89 = .ok (.aload_n 0, 1) := by decide +kernel
theorem dX10_init_9 : decode cX10_init 9 = .ok (.invokespecial 9, 3) := by decide +kernel
theorem dX10_init_90 : decode cX10_init 90 = .ok (.new 45, 3) := by decide +kernel
theorem dX10_init_93 : decode cX10_init 93 = .ok (.dup, 1) := by decide +kernel
theorem dX10_init_94 : decode cX10_init 94 = .ok (.invokespecial 47, 3) := by decide +kernel
theorem dX10_init_97 : decode cX10_init 97 = .ok (.putfield 48, 3) := by decide +kernel
theorem dX10_is_0 : decode cX10_is 0 = .ok (.aload_n 0, 1) := by decide +kernel
theorem dX10_is_1 : decode cX10_is 1 = .ok (.iload_n 1, 1) := by decide +kernel
theorem dX10_is_19 : decode cX10_is 19 = .ok (.aload_n 0, 1) := by decide +kernel
theorem dX10_is_2 : decode cX10_is 2 = .ok (.invokevirtual 123, 3) := by decide +kernel
theorem dX10_is_20 : decode cX10_is 20 = .ok (.bipush (-2), 2) := by decide +kernel
theorem dX10_is_22 : decode cX10_is 22 = .ok (.invokevirtual 83, 3) := by decide +kernel
theorem dX10_is_25 : decode cX10_is 25 = .ok (.ireturn, 1) := by decide +kernel
theorem dX10_is_5 : decode cX10_is 5 = .ok (.ifCond .eq 14, 3) := by decide +kernel
theorem dX10_kinds_0 : decode cX10_kinds 0 = .ok (.aload_n 0, 1) := by decide +kernel
theorem dX10_kinds_1 : decode cX10_kinds 1 = .ok (.iload_n 1, 1) := by decide +kernel
theorem dX10_kinds_19 : decode cX10_kinds 19 = .ok (.aload_n 0, 1) := by decide +kernel
theorem dX10_kinds_2 : decode cX10_kinds 2 = .ok (.invokevirtual 123, 3) := by decide +kernel
theorem dX10_kinds_20 : decode cX10_kinds 20 = .ok (.bipush (-2), 2) := by decide +kernel
theorem dX10_kinds_22 : decode cX10_kinds 22 = .ok (.invokevirtual 83, 3) := by decide +kernel
theorem dX10_kinds_25 : decode cX10_kinds 25 = .ok (.ireturn, 1) := by decide +kernel
theorem dX10_kinds_5 : decode cX10_kinds 5 = .ok (.ifCond .eq 14, 3) := by decide +kernel
theorem dX10_look_0 : decode cX10_look 0 = .ok (.aload_n 0, 1) := by decide +kernel
theorem dX10_look_1 : decode cX10_look 1 = .ok (.iload_n 1, 1) := by decide +kernel
theorem dX10_look_11 : decode cX10_look 11 = .ok (.invokevirtual 83, 3) := by decide +kernel
theorem dX10_look_14 : decode cX10_look 14 = .ok (.ireturn, 1) := by decide +kernel
theorem dX10_look_2 : decode cX10_look 2 = .ok (.invokevirtual 123, 3) := by decide +kernel
theorem dX10_look_5 : decode cX10_look 5 = .ok (.ifCond .ne 10, 3) := by decide +kernel
theorem dX10_look_8 : decode cX10_look 8 = .ok (.aload_n 0, 1) := by decide +kernel
theorem dX10_look_9 : decode cX10_look 9 = .ok (.bipush (-2), 2) := by decide +kernel
theorem dX10_mark_0 : decode cX10_mark 0 = .ok (.aload_n 0, 1) := by decide +kernel
theorem dX10_mark_1 : decode cX10_mark 1 = .ok (.iload_n 1, 1) := by decide +kernel
theorem dX10_mark_2 : decode cX10_mark 2 = .ok (.invokevirtual 123, 3) := by decide +kernel
theorem dX10_mark_28 : decode cX10_mark 28 = .ok (.aload_n 0, 1) := by decide +kernel
theorem dX10_mark_29 : decode cX10_mark 29 = .ok (.bipush (-2), 2) := by decide +kernel
theorem dX10_mark_31 : decode cX10_mark 31 = .ok (.invokevirtual 83, 3) := by decide +kernel
theorem dX10_mark_34 : decode cX10_mark 34 = .ok (.ireturn, 1) := by decide +kernel
theorem dX10_mark_5 : decode cX10_mark 5 = .ok (.ifCond .eq 23, 3) := by decide +kernel
theorem dX10_note_0 : decode cX10_note 0 = .ok (.aload_n 0, 1) := by decide +kernel
theorem dX10_note_1 : decode cX10_note 1 = .ok (.iload_n 1, 1) := by decide +kernel
theorem dX10_note_2 : decode cX10_note 2 = .ok (.invokevirtual 123, 3) := by decide +kernel
theorem dX10_note_5 : decode cX10_note 5 = .ok (.ifCond .eq 45, 3) := by decide +kernel
theorem dX10_note_50 : decode cX10_note 50 = .ok (.aload_n 0, 1) := by decide +kernel
theorem dX10_note_51 : decode cX10_note 51 = .ok (.bipush (-2), 2) := by decide +kernel
theorem dX10_note_53 : decode cX10_note 53 = .ok (.invokevirtual 83, 3) := by decide +kernel
theorem dX10_note_56 : decode cX10_note 56 = .ok (.ireturn, 1) := by decide +kernel
theorem dX10_of_0 : decode cX10_of 0 = .ok (.aload_n 0, 1) := by decide +kernel
theorem dX10_of_1 : decode cX10_of 1 = .ok (.iload_n 1, 1) := by decide +kernel
theorem dX10_of_18 : decode cX10_of 18 = .ok (.aload_n 0, 1) := by decide +kernel
theorem dX10_of_19 : decode cX10_of 19 = .ok (.bipush (-2), 2) := by decide +kernel
theorem dX10_of_2 : decode cX10_of 2 = .ok (.invokevirtual 123, 3) := by decide +kernel
theorem dX10_of_21 : decode cX10_of 21 = .ok (.invokevirtual 83, 3) := by decide +kernel
theorem dX10_of_24 : decode cX10_of 24 = .ok (.ireturn, 1) := by decide +kernel
theorem dX10_of_5 : decode cX10_of 5 = .ok (.ifCond .eq 13, 3) := by decide +kernel
theorem dX10_one_0 : decode cX10_one 0 = .ok (.iload_n 1, 1) := by decide +kernel
theorem dX10_one_1 : decode cX10_one 1 = .ok (.iconst 0, 1) := by decide +kernel
theorem dX10_one_10 : decode cX10_one 10 = .ok (.iconst 1, 1) := by decide +kernel
theorem dX10_one_11 : decode cX10_one 11 = .ok (.bipush 9, 2) := by decide +kernel
theorem dX10_one_13 : decode cX10_one 13 = .ok (.invokestatic 79, 3) := by decide +kernel
theorem dX10_one_16 : decode cX10_one 16 = .ok (.ifCond .eq 12, 3) := by decide +kernel
theorem dX10_one_19 : decode cX10_one 19 = .ok (.iload_n 3, 1) := by decide +kernel
theorem dX10_one_2 : decode cX10_one 2 = .ok (.iconst 5, 1) := by decide +kernel
theorem dX10_one_20 : decode cX10_one 20 = .ok (.iconst 0, 1) := by decide +kernel
theorem dX10_one_21 : decode cX10_one 21 = .ok (.iconst 5, 1) := by decide +kernel
theorem dX10_one_22 : decode cX10_one 22 = .ok (.invokestatic 79, 3) := by decide +kernel
theorem dX10_one_25 : decode cX10_one 25 = .ok (.ifCond .ne 10, 3) := by decide +kernel
theorem dX10_one_28 : decode cX10_one 28 = .ok (.aload_n 0, 1) := by decide +kernel
theorem dX10_one_29 : decode cX10_one 29 = .ok (.bipush (-2), 2) := by decide +kernel
theorem dX10_one_3 : decode cX10_one 3 = .ok (.invokestatic 79, 3) := by decide +kernel
theorem dX10_one_31 : decode cX10_one 31 = .ok (.invokevirtual 83, 3) := by decide +kernel
theorem dX10_one_34 : decode cX10_one 34 = .ok (.ireturn, 1) := by decide +kernel
theorem dX10_one_35 : decode cX10_one 35 = .ok (.aload_n 0, 1) := by decide +kernel
theorem dX10_one_36 : decode cX10_one 36 = .ok (.getfield 10, 3) := by decide +kernel
theorem dX10_one_39 : decode cX10_one 39 = .ok (.getfield 87, 3) := by decide +kernel
theorem dX10_one_42 : decode cX10_one 42 = .ok (.bipush 6, 2) := by decide +kernel
theorem dX10_one_44 : decode cX10_one 44 = .ok (.if_icmp .lt 10, 3) := by decide +kernel
theorem dX10_one_54 : decode cX10_one 54 = .ok (.aload_n 0, 1) := by decide +kernel
theorem dX10_one_55 : decode cX10_one 55 = .ok (.getfield 10, 3) := by decide +kernel
theorem dX10_one_58 : decode cX10_one 58 = .ok (.iload_n 1, 1) := by decide +kernel
theorem dX10_one_59 : decode cX10_one 59 = .ok (.iload_n 2, 1) := by decide +kernel
theorem dX10_one_6 : decode cX10_one 6 = .ok (.ifCond .eq 22, 3) := by decide +kernel
theorem dX10_one_60 : decode cX10_one 60 = .ok (.iload_n 3, 1) := by decide +kernel
theorem dX10_one_61 : decode cX10_one 61 = .ok (.invokevirtual 95, 3) := by decide +kernel
theorem dX10_one_64 : decode cX10_one 64 = .ok (.aload_n 0, 1) := by decide +kernel
theorem dX10_one_65 : decode cX10_one 65 = .ok (.getfield 10, 3) := by decide +kernel
theorem dX10_one_68 : decode cX10_one 68 = .ok (.getfield 87, 3) := by decide +kernel
theorem dX10_one_71 : decode cX10_one 71 = .ok (.iconst 1, 1) := by decide +kernel
theorem dX10_one_72 : decode cX10_one 72 = .ok (.isub, 1) := by decide +kernel
theorem dX10_one_73 : decode cX10_one 73 = .ok (.ireturn, 1) := by decide +kernel
theorem dX10_one_9 : decode cX10_one 9 = .ok (.iload_n 2, 1) := by decide +kernel
theorem dX10_order_0 : decode cX10_order 0 = .ok (.iload_n 1, 1) := by decide +kernel
theorem dX10_order_1 : decode cX10_order 1 = .ok (.ifCond .ge 10, 3) := by decide +kernel
theorem dX10_order_10 : decode cX10_order 10 = .ok (.ireturn, 1) := by decide +kernel
theorem dX10_order_11 : decode cX10_order 11 = .ok (.iload_n 1, 1) := by decide +kernel
theorem dX10_order_12 : decode cX10_order 12 = .ok (.aload_n 0, 1) := by decide +kernel
theorem dX10_order_13 : decode cX10_order 13 = .ok (.getfield 10, 3) := by decide +kernel
theorem dX10_order_16 : decode cX10_order 16 = .ok (.getfield 87, 3) := by decide +kernel
theorem dX10_order_19 : decode cX10_order 19 = .ok (.if_icmp .lt 10, 3) := by decide +kernel
theorem dX10_order_22 : decode cX10_order 22 = .ok (.aload_n 0, 1) := by decide +kernel
theorem dX10_order_23 : decode cX10_order 23 = .ok (.bipush (-3), 2) := by decide +kernel
theorem dX10_order_25 : decode cX10_order 25 = .ok (.invokevirtual 83, 3) := by decide +kernel
theorem dX10_order_28 : decode cX10_order 28 = .ok (.ireturn, 1) := by decide +kernel
theorem dX10_order_4 : decode cX10_order 4 = .ok (.aload_n 0, 1) := by decide +kernel
theorem dX10_order_5 : decode cX10_order 5 = .ok (.bipush (-2), 2) := by decide +kernel
theorem dX10_order_7 : decode cX10_order 7 = .ok (.invokevirtual 83, 3) := by decide +kernel
theorem dX10_pair_0 : decode cX10_pair 0 = .ok (.aload_n 0, 1) := by decide +kernel
theorem dX10_pair_1 : decode cX10_pair 1 = .ok (.iload_n 1, 1) := by decide +kernel
theorem dX10_pair_14 : decode cX10_pair 14 = .ok (.aload_n 0, 1) := by decide +kernel
theorem dX10_pair_15 : decode cX10_pair 15 = .ok (.bipush (-2), 2) := by decide +kernel
theorem dX10_pair_17 : decode cX10_pair 17 = .ok (.invokevirtual 83, 3) := by decide +kernel
theorem dX10_pair_2 : decode cX10_pair 2 = .ok (.iload_n 2, 1) := by decide +kernel
theorem dX10_pair_20 : decode cX10_pair 20 = .ok (.pop, 1) := by decide +kernel
theorem dX10_pair_21 : decode cX10_pair 21 = .ok (.bipush (-10), 2) := by decide +kernel
theorem dX10_pair_23 : decode cX10_pair 23 = .ok (.ireturn, 1) := by decide +kernel
theorem dX10_pair_3 : decode cX10_pair 3 = .ok (.invokevirtual 172, 3) := by decide +kernel
theorem dX10_pair_6 : decode cX10_pair 6 = .ok (.ifCond .eq 8, 3) := by decide +kernel
theorem dX10_part_0 : decode cX10_part 0 = .ok (.iload_n 1, 1) := by decide +kernel
theorem dX10_part_1 : decode cX10_part 1 = .ok (.iconst 0, 1) := by decide +kernel
theorem dX10_part_10 : decode cX10_part 10 = .ok (.bipush (-2), 2) := by decide +kernel
theorem dX10_part_12 : decode cX10_part 12 = .ok (.invokevirtual 83, 3) := by decide +kernel
theorem dX10_part_15 : decode cX10_part 15 = .ok (.i2l, 1) := by decide +kernel
theorem dX10_part_16 : decode cX10_part 16 = .ok (.lreturn, 1) := by decide +kernel
theorem dX10_part_17 : decode cX10_part 17 = .ok (.iload_n 1, 1) := by decide +kernel
theorem dX10_part_18 : decode cX10_part 18 = .ok (.ifCond .ne 10, 3) := by decide +kernel
theorem dX10_part_2 : decode cX10_part 2 = .ok (.iconst 1, 1) := by decide +kernel
theorem dX10_part_21 : decode cX10_part 21 = .ok (.aload_n 0, 1) := by decide +kernel
theorem dX10_part_22 : decode cX10_part 22 = .ok (.getfield 38, 3) := by decide +kernel
theorem dX10_part_25 : decode cX10_part 25 = .ok (.goto 7, 3) := by decide +kernel
theorem dX10_part_28 : decode cX10_part 28 = .ok (.aload_n 0, 1) := by decide +kernel
theorem dX10_part_29 : decode cX10_part 29 = .ok (.getfield 42, 3) := by decide +kernel
theorem dX10_part_3 : decode cX10_part 3 = .ok (.invokestatic 79, 3) := by decide +kernel
theorem dX10_part_32 : decode cX10_part 32 = .ok (.lreturn, 1) := by decide +kernel
theorem dX10_part_6 : decode cX10_part 6 = .ok (.ifCond .ne 11, 3) := by decide +kernel
theorem dX10_part_9 : decode cX10_part 9 = .ok (.aload_n 0, 1) := by decide +kernel
theorem dX10_race_0 : decode cX10_race 0 = .ok (.iload_n 1, 1) := by decide +kernel
theorem dX10_race_1 : decode cX10_race 1 = .ok (.bipush 10, 2) := by decide +kernel
theorem dX10_race_11 : decode cX10_race 11 = .ok (.aload_n 0, 1) := by decide +kernel
theorem dX10_race_12 : decode cX10_race 12 = .ok (.bipush (-2), 2) := by decide +kernel
theorem dX10_race_14 : decode cX10_race 14 = .ok (.invokevirtual 83, 3) := by decide +kernel
theorem dX10_race_17 : decode cX10_race 17 = .ok (.ireturn, 1) := by decide +kernel
theorem dX10_race_18 : decode cX10_race 18 = .ok (.aload_n 0, 1) := by decide +kernel
theorem dX10_race_19 : decode cX10_race 19 = .ok (.getfield 10, 3) := by decide +kernel
theorem dX10_race_22 : decode cX10_race 22 = .ok (.getfield 87, 3) := by decide +kernel
theorem dX10_race_25 : decode cX10_race 25 = .ok (.istore_n 2, 1) := by decide +kernel
theorem dX10_race_26 : decode cX10_race 26 = .ok (.aload_n 0, 1) := by decide +kernel
theorem dX10_race_27 : decode cX10_race 27 = .ok (.getfield 10, 3) := by decide +kernel
theorem dX10_race_3 : decode cX10_race 3 = .ok (.bipush 60, 2) := by decide +kernel
theorem dX10_race_30 : decode cX10_race 30 = .ok (.iload_n 1, 1) := by decide +kernel
theorem dX10_race_31 : decode cX10_race 31 = .ok (.invokevirtual 91, 3) := by decide +kernel
theorem dX10_race_34 : decode cX10_race 34 = .ok (.iload_n 2, 1) := by decide +kernel
theorem dX10_race_35 : decode cX10_race 35 = .ok (.ireturn, 1) := by decide +kernel
theorem dX10_race_5 : decode cX10_race 5 = .ok (.invokestatic 79, 3) := by decide +kernel
theorem dX10_race_8 : decode cX10_race 8 = .ok (.ifCond .ne 10, 3) := by decide +kernel
theorem dX10_races_0 : decode cX10_races 0 = .ok (.iload_n 1, 1) := by decide +kernel
theorem dX10_races_1 : decode cX10_races 1 = .ok (.iconst 0, 1) := by decide +kernel
theorem dX10_races_10 : decode cX10_races 10 = .ok (.iload_n 2, 1) := by decide +kernel
theorem dX10_races_11 : decode cX10_races 11 = .ok (.iconst 0, 1) := by decide +kernel
theorem dX10_races_111 : decode cX10_races 111 = .ok (.aload_n 0, 1) := by decide +kernel
theorem dX10_races_112 : decode cX10_races 112 = .ok (.getfield 16, 3) := by decide +kernel
theorem dX10_races_115 : decode cX10_races 115 = .ok (.invokevirtual 116, 3) := by decide +kernel
theorem dX10_races_118 : decode cX10_races 118 = .ok (.iinc 5 1, 3) := by decide +kernel
theorem dX10_races_12 : decode cX10_races 12 = .ok (.bipush 60, 2) := by decide +kernel
theorem dX10_races_121 : decode cX10_races 121 = .ok (.goto (-77), 3) := by decide +kernel
theorem dX10_races_124 : decode cX10_races 124 = .ok (.aload_n 0, 1) := by decide +kernel
theorem dX10_races_125 : decode cX10_races 125 = .ok (.getfield 16, 3) := by decide +kernel
theorem dX10_races_128 : decode cX10_races 128 = .ok (.invokevirtual 119, 3) := by decide +kernel
theorem dX10_races_131 : decode cX10_races 131 = .ok (.ireturn, 1) := by decide +kernel
theorem dX10_races_14 : decode cX10_races 14 = .ok (.invokestatic 79, 3) := by decide +kernel
theorem dX10_races_17 : decode cX10_races 17 = .ok (.ifCond .ne 10, 3) := by decide +kernel
theorem dX10_races_2 : decode cX10_races 2 = .ok (.ldc 255, 2) := by decide +kernel
theorem dX10_races_20 : decode cX10_races 20 = .ok (.aload_n 0, 1) := by decide +kernel
theorem dX10_races_21 : decode cX10_races 21 = .ok (.bipush (-2), 2) := by decide +kernel
theorem dX10_races_23 : decode cX10_races 23 = .ok (.invokevirtual 83, 3) := by decide +kernel
theorem dX10_races_26 : decode cX10_races 26 = .ok (.ireturn, 1) := by decide +kernel
theorem dX10_races_27 : decode cX10_races 27 = .ok (.aload_n 0, 1) := by decide +kernel
theorem dX10_races_28 : decode cX10_races 28 = .ok (.getfield 16, 3) := by decide +kernel
theorem dX10_races_31 : decode cX10_races 31 = .ok (.aload_n 0, 1) := by decide +kernel
theorem dX10_races_32 : decode cX10_races 32 = .ok (.getfield 10, 3) := by decide +kernel
theorem dX10_races_35 : decode cX10_races 35 = .ok (.invokevirtual 256, 3) := by decide +kernel
theorem dX10_races_38 : decode cX10_races 38 = .ok (.iload_n 1, 1) := by decide +kernel
theorem dX10_races_39 : decode cX10_races 39 = .ok (.i2l, 1) := by decide +kernel
theorem dX10_races_4 : decode cX10_races 4 = .ok (.invokestatic 79, 3) := by decide +kernel
theorem dX10_races_40 : decode cX10_races 40 = .ok (.lstore_n 3, 1) := by decide +kernel
theorem dX10_races_41 : decode cX10_races 41 = .ok (.iconst 0, 1) := by decide +kernel
theorem dX10_races_42 : decode cX10_races 42 = .ok (.istore 5, 2) := by decide +kernel
theorem dX10_races_44 : decode cX10_races 44 = .ok (.iload 5, 2) := by decide +kernel
theorem dX10_races_46 : decode cX10_races 46 = .ok (.iload_n 2, 1) := by decide +kernel
theorem dX10_races_47 : decode cX10_races 47 = .ok (.if_icmp .ge 77, 3) := by decide +kernel
theorem dX10_races_50 : decode cX10_races 50 = .ok (.lload_n 3, 1) := by decide +kernel
theorem dX10_races_51 : decode cX10_races 51 = .ok (.ldc2_w 260, 3) := by decide +kernel
theorem dX10_races_54 : decode cX10_races 54 = .ok (.lmul, 1) := by decide +kernel
theorem dX10_races_55 : decode cX10_races 55 = .ok (.ldc2_w 262, 3) := by decide +kernel
theorem dX10_races_58 : decode cX10_races 58 = .ok (.ladd, 1) := by decide +kernel
theorem dX10_races_59 : decode cX10_races 59 = .ok (.ldc2_w 264, 3) := by decide +kernel
theorem dX10_races_62 : decode cX10_races 62 = .ok (.lrem, 1) := by decide +kernel
theorem dX10_races_63 : decode cX10_races 63 = .ok (.lstore_n 3, 1) := by decide +kernel
theorem dX10_races_64 : decode cX10_races 64 = .ok (.lload_n 3, 1) := by decide +kernel
theorem dX10_races_65 : decode cX10_races 65 = .ok (.ldc2_w 266, 3) := by decide +kernel
theorem dX10_races_68 : decode cX10_races 68 = .ok (.ldiv, 1) := by decide +kernel
theorem dX10_races_69 : decode cX10_races 69 = .ok (.ldc2_w 268, 3) := by decide +kernel
theorem dX10_races_7 : decode cX10_races 7 = .ok (.ifCond .eq 13, 3) := by decide +kernel
theorem dX10_races_72 : decode cX10_races 72 = .ok (.lrem, 1) := by decide +kernel
theorem dX10_races_73 : decode cX10_races 73 = .ok (.l2i, 1) := by decide +kernel
theorem dX10_races_74 : decode cX10_races 74 = .ok (.istore 6, 2) := by decide +kernel
theorem dX10_races_76 : decode cX10_races 76 = .ok (.iload 6, 2) := by decide +kernel
theorem dX10_races_78 : decode cX10_races 78 = .ok (.aload_n 0, 1) := by decide +kernel
theorem dX10_races_79 : decode cX10_races 79 = .ok (.getfield 16, 3) := by decide +kernel
theorem dX10_races_82 : decode cX10_races 82 = .ok (.getfield 87, 3) := by decide +kernel
theorem dX10_races_85 : decode cX10_races 85 = .ok (.if_icmp .ge 26, 3) := by decide +kernel
theorem dX10_read_0 : decode cX10_read 0 = .ok (.aload_n 0, 1) := by decide +kernel
theorem dX10_read_1 : decode cX10_read 1 = .ok (.getfield 30, 3) := by decide +kernel
theorem dX10_read_11 : decode cX10_read 11 = .ok (.istore_n 1, 1) := by decide +kernel
theorem dX10_read_12 : decode cX10_read 12 = .ok (.iload_n 1, 1) := by decide +kernel
theorem dX10_read_13 : decode cX10_read 13 = .ok (.ifCond .lt 21, 3) := by decide +kernel
theorem dX10_read_34 : decode cX10_read 34 = .ok (.iload_n 1, 1) := by decide +kernel
theorem dX10_read_35 : decode cX10_read 35 = .ok (.ireturn, 1) := by decide +kernel
theorem dX10_read_4 : decode cX10_read 4 = .ok (.aload_n 0, 1) := by decide +kernel
theorem dX10_read_5 : decode cX10_read 5 = .ok (.getfield 16, 3) := by decide +kernel
theorem dX10_read_8 : decode cX10_read 8 = .ok (.invokevirtual 106, 3) := by decide +kernel
theorem dX10_refuse_0 : decode cX10_refuse 0 = .ok (.bipush (-2), 2) := by decide +kernel
theorem dX10_refuse_10 : decode cX10_refuse 10 = .ok (.aload_n 0, 1) := by decide +kernel
theorem dX10_refuse_11 : decode cX10_refuse 11 = .ok (.getfield 34, 3) := by decide +kernel
theorem dX10_refuse_14 : decode cX10_refuse 14 = .ok (.arraylength, 1) := by decide +kernel
theorem dX10_refuse_15 : decode cX10_refuse 15 = .ok (.if_icmp .ge 13, 3) := by decide +kernel
theorem dX10_refuse_18 : decode cX10_refuse 18 = .ok (.aload_n 0, 1) := by decide +kernel
theorem dX10_refuse_19 : decode cX10_refuse 19 = .ok (.getfield 34, 3) := by decide +kernel
theorem dX10_refuse_2 : decode cX10_refuse 2 = .ok (.iload_n 1, 1) := by decide +kernel
theorem dX10_refuse_22 : decode cX10_refuse 22 = .ok (.iload_n 2, 1) := by decide +kernel
theorem dX10_refuse_23 : decode cX10_refuse 23 = .ok (.dup2, 1) := by decide +kernel
theorem dX10_refuse_24 : decode cX10_refuse 24 = .ok (.iaload, 1) := by decide +kernel
theorem dX10_refuse_25 : decode cX10_refuse 25 = .ok (.iconst 1, 1) := by decide +kernel
theorem dX10_refuse_26 : decode cX10_refuse 26 = .ok (.iadd, 1) := by decide +kernel
theorem dX10_refuse_27 : decode cX10_refuse 27 = .ok (.iastore, 1) := by decide +kernel
theorem dX10_refuse_28 : decode cX10_refuse 28 = .ok (.iload_n 1, 1) := by decide +kernel
theorem dX10_refuse_29 : decode cX10_refuse 29 = .ok (.ireturn, 1) := by decide +kernel
theorem dX10_refuse_3 : decode cX10_refuse 3 = .ok (.isub, 1) := by decide +kernel
theorem dX10_refuse_4 : decode cX10_refuse 4 = .ok (.istore_n 2, 1) := by decide +kernel
theorem dX10_refuse_5 : decode cX10_refuse 5 = .ok (.iload_n 2, 1) := by decide +kernel
theorem dX10_refuse_6 : decode cX10_refuse 6 = .ok (.ifCond .lt 22, 3) := by decide +kernel
theorem dX10_refuse_9 : decode cX10_refuse 9 = .ok (.iload_n 2, 1) := by decide +kernel
theorem dX10_seen_0 : decode cX10_seen 0 = .ok (.aload_n 0, 1) := by decide +kernel
theorem dX10_seen_1 : decode cX10_seen 1 = .ok (.iload_n 1, 1) := by decide +kernel
theorem dX10_seen_2 : decode cX10_seen 2 = .ok (.invokevirtual 123, 3) := by decide +kernel
theorem dX10_seen_39 : decode cX10_seen 39 = .ok (.aload_n 0, 1) := by decide +kernel
theorem dX10_seen_40 : decode cX10_seen 40 = .ok (.bipush (-2), 2) := by decide +kernel
theorem dX10_seen_42 : decode cX10_seen 42 = .ok (.invokevirtual 83, 3) := by decide +kernel
theorem dX10_seen_45 : decode cX10_seen 45 = .ok (.ireturn, 1) := by decide +kernel
theorem dX10_seen_5 : decode cX10_seen 5 = .ok (.ifCond .eq 34, 3) := by decide +kernel
theorem dX10_speed_0 : decode cX10_speed 0 = .ok (.aload_n 0, 1) := by decide +kernel
theorem dX10_speed_1 : decode cX10_speed 1 = .ok (.iload_n 1, 1) := by decide +kernel
theorem dX10_speed_18 : decode cX10_speed 18 = .ok (.aload_n 0, 1) := by decide +kernel
theorem dX10_speed_19 : decode cX10_speed 19 = .ok (.bipush (-2), 2) := by decide +kernel
theorem dX10_speed_2 : decode cX10_speed 2 = .ok (.invokevirtual 123, 3) := by decide +kernel
theorem dX10_speed_21 : decode cX10_speed 21 = .ok (.invokevirtual 83, 3) := by decide +kernel
theorem dX10_speed_24 : decode cX10_speed 24 = .ok (.ireturn, 1) := by decide +kernel
theorem dX10_speed_5 : decode cX10_speed 5 = .ok (.ifCond .eq 13, 3) := by decide +kernel
theorem dX10_start_0 : decode cX10_start 0 = .ok (.aload_n 0, 1) := by decide +kernel
theorem dX10_start_1 : decode cX10_start 1 = .ok (.iload_n 1, 1) := by decide +kernel
theorem dX10_start_18 : decode cX10_start 18 = .ok (.aload_n 0, 1) := by decide +kernel
theorem dX10_start_19 : decode cX10_start 19 = .ok (.bipush (-2), 2) := by decide +kernel
theorem dX10_start_2 : decode cX10_start 2 = .ok (.invokevirtual 123, 3) := by decide +kernel
theorem dX10_start_21 : decode cX10_start 21 = .ok (.invokevirtual 83, 3) := by decide +kernel
theorem dX10_start_24 : decode cX10_start 24 = .ok (.ireturn, 1) := by decide +kernel
theorem dX10_start_5 : decode cX10_start 5 = .ok (.ifCond .eq 13, 3) := by decide +kernel
theorem dX10_status_0 : decode cX10_status 0 = .ok (.iload_n 1, 1) := by decide +kernel
theorem dX10_status_1 : decode cX10_status 1 = .ok (.iconst 0, 1) := by decide +kernel
theorem dX10_status_10 : decode cX10_status 10 = .ok (.bipush (-2), 2) := by decide +kernel
theorem dX10_status_12 : decode cX10_status 12 = .ok (.invokevirtual 83, 3) := by decide +kernel
theorem dX10_status_15 : decode cX10_status 15 = .ok (.pop, 1) := by decide +kernel
theorem dX10_status_16 : decode cX10_status 16 = .ok (.iconst (-1), 1) := by decide +kernel
theorem dX10_status_17 : decode cX10_status 17 = .ok (.ireturn, 1) := by decide +kernel
theorem dX10_status_18 : decode cX10_status 18 = .ok (.aload_n 0, 1) := by decide +kernel
theorem dX10_status_19 : decode cX10_status 19 = .ok (.getfield 34, 3) := by decide +kernel
theorem dX10_status_2 : decode cX10_status 2 = .ok (.iconst 2, 1) := by decide +kernel
theorem dX10_status_22 : decode cX10_status 22 = .ok (.iload_n 1, 1) := by decide +kernel
theorem dX10_status_23 : decode cX10_status 23 = .ok (.iaload, 1) := by decide +kernel
theorem dX10_status_24 : decode cX10_status 24 = .ok (.ireturn, 1) := by decide +kernel
theorem dX10_status_3 : decode cX10_status 3 = .ok (.invokestatic 79, 3) := by decide +kernel
theorem dX10_status_6 : decode cX10_status 6 = .ok (.ifCond .ne 12, 3) := by decide +kernel
theorem dX10_status_9 : decode cX10_status 9 = .ok (.aload_n 0, 1) := by decide +kernel
theorem dX10_strong_0 : decode cX10_strong 0 = .ok (.aload_n 0, 1) := by decide +kernel
theorem dX10_strong_1 : decode cX10_strong 1 = .ok (.iload_n 1, 1) := by decide +kernel
theorem dX10_strong_17 : decode cX10_strong 17 = .ok (.aload_n 0, 1) := by decide +kernel
theorem dX10_strong_18 : decode cX10_strong 18 = .ok (.bipush (-2), 2) := by decide +kernel
theorem dX10_strong_2 : decode cX10_strong 2 = .ok (.invokevirtual 123, 3) := by decide +kernel
theorem dX10_strong_20 : decode cX10_strong 20 = .ok (.invokevirtual 83, 3) := by decide +kernel
theorem dX10_strong_23 : decode cX10_strong 23 = .ok (.ireturn, 1) := by decide +kernel
theorem dX10_strong_5 : decode cX10_strong 5 = .ok (.ifCond .eq 12, 3) := by decide +kernel
theorem dX10_stumble_0 : decode cX10_stumble 0 = .ok (.aload_n 0, 1) := by decide +kernel
theorem dX10_stumble_1 : decode cX10_stumble 1 = .ok (.iload_n 1, 1) := by decide +kernel
theorem dX10_stumble_2 : decode cX10_stumble 2 = .ok (.invokevirtual 123, 3) := by decide +kernel
theorem dX10_stumble_39 : decode cX10_stumble 39 = .ok (.aload_n 0, 1) := by decide +kernel
theorem dX10_stumble_40 : decode cX10_stumble 40 = .ok (.bipush (-2), 2) := by decide +kernel
theorem dX10_stumble_42 : decode cX10_stumble 42 = .ok (.invokevirtual 83, 3) := by decide +kernel
theorem dX10_stumble_45 : decode cX10_stumble 45 = .ok (.ireturn, 1) := by decide +kernel
theorem dX10_stumble_5 : decode cX10_stumble 5 = .ok (.ifCond .eq 34, 3) := by decide +kernel
theorem dX10_tell_0 : decode cX10_tell 0 = .ok (.aload_n 0, 1) := by decide +kernel
theorem dX10_tell_1 : decode cX10_tell 1 = .ok (.iload_n 1, 1) := by decide +kernel
theorem dX10_tell_11 : decode cX10_tell 11 = .ok (.invokevirtual 83, 3) := by decide +kernel
theorem dX10_tell_14 : decode cX10_tell 14 = .ok (.ireturn, 1) := by decide +kernel
theorem dX10_tell_2 : decode cX10_tell 2 = .ok (.invokevirtual 123, 3) := by decide +kernel
theorem dX10_tell_5 : decode cX10_tell 5 = .ok (.ifCond .ne 10, 3) := by decide +kernel
theorem dX10_tell_8 : decode cX10_tell 8 = .ok (.aload_n 0, 1) := by decide +kernel
theorem dX10_tell_9 : decode cX10_tell 9 = .ok (.bipush (-2), 2) := by decide +kernel
theorem dX10_there_0 : decode cX10_there 0 = .ok (.iload_n 1, 1) := by decide +kernel
theorem dX10_there_1 : decode cX10_there 1 = .ok (.ifCond .lt 18, 3) := by decide +kernel
theorem dX10_there_12 : decode cX10_there 12 = .ok (.if_icmp .ge 7, 3) := by decide +kernel
theorem dX10_there_19 : decode cX10_there 19 = .ok (.iconst 0, 1) := by decide +kernel
theorem dX10_there_20 : decode cX10_there 20 = .ok (.ireturn, 1) := by decide +kernel
theorem dX10_there_4 : decode cX10_there 4 = .ok (.iload_n 1, 1) := by decide +kernel
theorem dX10_there_5 : decode cX10_there 5 = .ok (.aload_n 0, 1) := by decide +kernel
theorem dX10_there_6 : decode cX10_there 6 = .ok (.getfield 10, 3) := by decide +kernel
theorem dX10_there_9 : decode cX10_there 9 = .ok (.getfield 87, 3) := by decide +kernel
theorem dX10_ticks_0 : decode cX10_ticks 0 = .ok (.iload_n 1, 1) := by decide +kernel
theorem dX10_ticks_1 : decode cX10_ticks 1 = .ok (.iconst 1, 1) := by decide +kernel
theorem dX10_ticks_10 : decode cX10_ticks 10 = .ok (.aload_n 0, 1) := by decide +kernel
theorem dX10_ticks_11 : decode cX10_ticks 11 = .ok (.bipush (-2), 2) := by decide +kernel
theorem dX10_ticks_13 : decode cX10_ticks 13 = .ok (.invokevirtual 83, 3) := by decide +kernel
theorem dX10_ticks_16 : decode cX10_ticks 16 = .ok (.ireturn, 1) := by decide +kernel
theorem dX10_ticks_17 : decode cX10_ticks 17 = .ok (.aload_n 0, 1) := by decide +kernel
theorem dX10_ticks_18 : decode cX10_ticks 18 = .ok (.getfield 10, 3) := by decide +kernel
theorem dX10_ticks_2 : decode cX10_ticks 2 = .ok (.bipush 60, 2) := by decide +kernel
theorem dX10_ticks_21 : decode cX10_ticks 21 = .ok (.getfield 110, 3) := by decide +kernel
theorem dX10_ticks_24 : decode cX10_ticks 24 = .ok (.sipush 9999, 3) := by decide +kernel
theorem dX10_ticks_27 : decode cX10_ticks 27 = .ok (.if_icmp .ge 10, 3) := by decide +kernel
theorem dX10_ticks_30 : decode cX10_ticks 30 = .ok (.aload_n 0, 1) := by decide +kernel
theorem dX10_ticks_31 : decode cX10_ticks 31 = .ok (.getfield 10, 3) := by decide +kernel
theorem dX10_ticks_34 : decode cX10_ticks 34 = .ok (.invokevirtual 113, 3) := by decide +kernel
theorem dX10_ticks_37 : decode cX10_ticks 37 = .ok (.iconst 0, 1) := by decide +kernel
theorem dX10_ticks_38 : decode cX10_ticks 38 = .ok (.istore_n 2, 1) := by decide +kernel
theorem dX10_ticks_39 : decode cX10_ticks 39 = .ok (.iload_n 2, 1) := by decide +kernel
theorem dX10_ticks_4 : decode cX10_ticks 4 = .ok (.invokestatic 79, 3) := by decide +kernel
theorem dX10_ticks_40 : decode cX10_ticks 40 = .ok (.iload_n 1, 1) := by decide +kernel
theorem dX10_ticks_41 : decode cX10_ticks 41 = .ok (.if_icmp .ge 29, 3) := by decide +kernel
theorem dX10_ticks_44 : decode cX10_ticks 44 = .ok (.aload_n 0, 1) := by decide +kernel
theorem dX10_ticks_45 : decode cX10_ticks 45 = .ok (.getfield 10, 3) := by decide +kernel
theorem dX10_ticks_48 : decode cX10_ticks 48 = .ok (.getfield 110, 3) := by decide +kernel
theorem dX10_ticks_51 : decode cX10_ticks 51 = .ok (.sipush 9999, 3) := by decide +kernel
theorem dX10_ticks_54 : decode cX10_ticks 54 = .ok (.if_icmp .ge 16, 3) := by decide +kernel
theorem dX10_ticks_57 : decode cX10_ticks 57 = .ok (.aload_n 0, 1) := by decide +kernel
theorem dX10_ticks_58 : decode cX10_ticks 58 = .ok (.getfield 10, 3) := by decide +kernel
theorem dX10_ticks_61 : decode cX10_ticks 61 = .ok (.invokevirtual 116, 3) := by decide +kernel
theorem dX10_ticks_64 : decode cX10_ticks 64 = .ok (.iinc 2 1, 3) := by decide +kernel
theorem dX10_ticks_67 : decode cX10_ticks 67 = .ok (.goto (-28), 3) := by decide +kernel
theorem dX10_ticks_7 : decode cX10_ticks 7 = .ok (.ifCond .ne 10, 3) := by decide +kernel
theorem dX10_ticks_70 : decode cX10_ticks 70 = .ok (.aload_n 0, 1) := by decide +kernel
theorem dX10_ticks_71 : decode cX10_ticks 71 = .ok (.getfield 10, 3) := by decide +kernel
theorem dX10_ticks_74 : decode cX10_ticks 74 = .ok (.invokevirtual 119, 3) := by decide +kernel
theorem dX10_ticks_77 : decode cX10_ticks 77 = .ok (.ireturn, 1) := by decide +kernel
theorem dX10_turn_0 : decode cX10_turn 0 = .ok (.aload_n 0, 1) := by decide +kernel
theorem dX10_turn_1 : decode cX10_turn 1 = .ok (.iload_n 1, 1) := by decide +kernel
theorem dX10_turn_2 : decode cX10_turn 2 = .ok (.invokevirtual 123, 3) := by decide +kernel
theorem dX10_turn_27 : decode cX10_turn 27 = .ok (.aload_n 0, 1) := by decide +kernel
theorem dX10_turn_28 : decode cX10_turn 28 = .ok (.bipush (-2), 2) := by decide +kernel
theorem dX10_turn_30 : decode cX10_turn 30 = .ok (.invokevirtual 83, 3) := by decide +kernel
theorem dX10_turn_33 : decode cX10_turn 33 = .ok (.ireturn, 1) := by decide +kernel
theorem dX10_turn_5 : decode cX10_turn 5 = .ok (.ifCond .eq 22, 3) := by decide +kernel
theorem dX10_type_0 : decode cX10_type 0 = .ok (.iload_n 1, 1) := by decide +kernel
theorem dX10_type_1 : decode cX10_type 1 = .ok (.iconst 0, 1) := by decide +kernel
theorem dX10_type_10 : decode cX10_type 10 = .ok (.aload_n 0, 1) := by decide +kernel
theorem dX10_type_11 : decode cX10_type 11 = .ok (.bipush (-2), 2) := by decide +kernel
theorem dX10_type_13 : decode cX10_type 13 = .ok (.invokevirtual 83, 3) := by decide +kernel
theorem dX10_type_16 : decode cX10_type 16 = .ok (.ireturn, 1) := by decide +kernel
theorem dX10_type_17 : decode cX10_type 17 = .ok (.aload_n 0, 1) := by decide +kernel
theorem dX10_type_18 : decode cX10_type 18 = .ok (.getfield 30, 3) := by decide +kernel
theorem dX10_type_2 : decode cX10_type 2 = .ok (.bipush 127, 2) := by decide +kernel
theorem dX10_type_21 : decode cX10_type 21 = .ok (.iload_n 1, 1) := by decide +kernel
theorem dX10_type_22 : decode cX10_type 22 = .ok (.invokevirtual 99, 3) := by decide +kernel
theorem dX10_type_25 : decode cX10_type 25 = .ok (.ifCond .eq 13, 3) := by decide +kernel
theorem dX10_type_28 : decode cX10_type 28 = .ok (.aload_n 0, 1) := by decide +kernel
theorem dX10_type_29 : decode cX10_type 29 = .ok (.getfield 30, 3) := by decide +kernel
theorem dX10_type_32 : decode cX10_type 32 = .ok (.getfield 103, 3) := by decide +kernel
theorem dX10_type_35 : decode cX10_type 35 = .ok (.goto 9, 3) := by decide +kernel
theorem dX10_type_4 : decode cX10_type 4 = .ok (.invokestatic 79, 3) := by decide +kernel
theorem dX10_type_44 : decode cX10_type 44 = .ok (.ireturn, 1) := by decide +kernel
theorem dX10_type_7 : decode cX10_type 7 = .ok (.ifCond .ne 10, 3) := by decide +kernel
theorem dX10_undo_0 : decode cX10_undo 0 = .ok (.aload_n 0, 1) := by decide +kernel
theorem dX10_undo_1 : decode cX10_undo 1 = .ok (.getfield 10, 3) := by decide +kernel
theorem dX10_undo_20 : decode cX10_undo 20 = .ok (.aload_n 0, 1) := by decide +kernel
theorem dX10_undo_21 : decode cX10_undo 21 = .ok (.bipush (-3), 2) := by decide +kernel
theorem dX10_undo_23 : decode cX10_undo 23 = .ok (.invokevirtual 83, 3) := by decide +kernel
theorem dX10_undo_26 : decode cX10_undo 26 = .ok (.ireturn, 1) := by decide +kernel
theorem dX10_undo_4 : decode cX10_undo 4 = .ok (.invokevirtual 141, 3) := by decide +kernel
theorem dX10_undo_7 : decode cX10_undo 7 = .ok (.ifCond .eq 13, 3) := by decide +kernel
theorem dX10_where_0 : decode cX10_where 0 = .ok (.aload_n 0, 1) := by decide +kernel
theorem dX10_where_1 : decode cX10_where 1 = .ok (.iload_n 1, 1) := by decide +kernel
theorem dX10_where_18 : decode cX10_where 18 = .ok (.aload_n 0, 1) := by decide +kernel
theorem dX10_where_19 : decode cX10_where 19 = .ok (.bipush (-2), 2) := by decide +kernel
theorem dX10_where_2 : decode cX10_where 2 = .ok (.invokevirtual 123, 3) := by decide +kernel
theorem dX10_where_21 : decode cX10_where 21 = .ok (.invokevirtual 83, 3) := by decide +kernel
theorem dX10_where_24 : decode cX10_where 24 = .ok (.ireturn, 1) := by decide +kernel
theorem dX10_where_5 : decode cX10_where 5 = .ok (.ifCond .eq 13, 3) := by decide +kernel
theorem dX10_within_0 : decode cX10_within 0 = .ok (.iload_n 0, 1) := by decide +kernel
theorem dX10_within_1 : decode cX10_within 1 = .ok (.iload_n 1, 1) := by decide +kernel
theorem dX10_within_10 : decode cX10_within 10 = .ok (.iconst 1, 1) := by decide +kernel
theorem dX10_within_11 : decode cX10_within 11 = .ok (.goto 4, 3) := by decide +kernel
theorem dX10_within_14 : decode cX10_within 14 = .ok (.iconst 0, 1) := by decide +kernel
theorem dX10_within_15 : decode cX10_within 15 = .ok (.ireturn, 1) := by decide +kernel
theorem dX10_within_2 : decode cX10_within 2 = .ok (.if_icmp .lt 12, 3) := by decide +kernel
theorem dX10_within_5 : decode cX10_within 5 = .ok (.iload_n 0, 1) := by decide +kernel
theorem dX10_within_6 : decode cX10_within 6 = .ok (.iload_n 2, 1) := by decide +kernel
theorem dX10_within_7 : decode cX10_within 7 = .ok (.if_icmp .gt 7, 3) := by decide +kernel
theorem dX11_ask_0 : decode cX11_ask 0 = .ok (.aload_n 0, 1) := by decide +kernel
theorem dX11_ask_1 : decode cX11_ask 1 = .ok (.iload_n 1, 1) := by decide +kernel
theorem dX11_ask_11 : decode cX11_ask 11 = .ok (.invokevirtual 68, 3) := by decide +kernel
theorem dX11_ask_14 : decode cX11_ask 14 = .ok (.ireturn, 1) := by decide +kernel
theorem dX11_ask_2 : decode cX11_ask 2 = .ok (.invokevirtual 123, 3) := by decide +kernel
theorem dX11_ask_5 : decode cX11_ask 5 = .ok (.ifCond .ne 10, 3) := by decide +kernel
theorem dX11_ask_8 : decode cX11_ask 8 = .ok (.aload_n 0, 1) := by decide +kernel
theorem dX11_ask_9 : decode cX11_ask 9 = .ok (.bipush (-2), 2) := by decide +kernel
theorem dX11_bad_0 : decode cX11_bad 0 = .ok (.aload_n 0, 1) := by decide +kernel
theorem dX11_bad_1 : decode cX11_bad 1 = .ok (.getfield 20, 3) := by decide +kernel
theorem dX11_bad_10 : decode cX11_bad 10 = .ok (.iload_n 1, 1) := by decide +kernel
theorem dX11_bad_11 : decode cX11_bad 11 = .ok (.ireturn, 1) := by decide +kernel
theorem dX11_bad_4 : decode cX11_bad 4 = .ok (.iconst 0, 1) := by decide +kernel
theorem dX11_bad_5 : decode cX11_bad 5 = .ok (.dup2, 1) := by decide +kernel
theorem dX11_bad_6 : decode cX11_bad 6 = .ok (.iaload, 1) := by decide +kernel
theorem dX11_bad_7 : decode cX11_bad 7 = .ok (.iconst 1, 1) := by decide +kernel
theorem dX11_bad_8 : decode cX11_bad 8 = .ok (.iadd, 1) := by decide +kernel
theorem dX11_bad_9 : decode cX11_bad 9 = .ok (.iastore, 1) := by decide +kernel
theorem dX11_beats_0 : decode cX11_beats 0 = .ok (.aload_n 0, 1) := by decide +kernel
theorem dX11_beats_1 : decode cX11_beats 1 = .ok (.iload_n 1, 1) := by decide +kernel
theorem dX11_beats_2 : decode cX11_beats 2 = .ok (.invokevirtual 123, 3) := by decide +kernel
theorem dX11_beats_21 : decode cX11_beats 21 = .ok (.aload_n 0, 1) := by decide +kernel
theorem dX11_beats_22 : decode cX11_beats 22 = .ok (.bipush (-2), 2) := by decide +kernel
theorem dX11_beats_24 : decode cX11_beats 24 = .ok (.invokevirtual 68, 3) := by decide +kernel
theorem dX11_beats_27 : decode cX11_beats 27 = .ok (.ireturn, 1) := by decide +kernel
theorem dX11_beats_5 : decode cX11_beats 5 = .ok (.ifCond .eq 16, 3) := by decide +kernel
theorem dX11_begin_0 : decode cX11_begin 0 = .ok (.iconst 0, 1) := by decide +kernel
theorem dX11_begin_1 : decode cX11_begin 1 = .ok (.istore_n 2, 1) := by decide +kernel
theorem dX11_begin_10 : decode cX11_begin 10 = .ok (.iconst 0, 1) := by decide +kernel
theorem dX11_begin_11 : decode cX11_begin 11 = .ok (.iastore, 1) := by decide +kernel
theorem dX11_begin_12 : decode cX11_begin 12 = .ok (.iinc 2 1, 3) := by decide +kernel
theorem dX11_begin_15 : decode cX11_begin 15 = .ok (.goto (-13), 3) := by decide +kernel
theorem dX11_begin_18 : decode cX11_begin 18 = .ok (.aload_n 0, 1) := by decide +kernel
theorem dX11_begin_19 : decode cX11_begin 19 = .ok (.bipush 36, 2) := by decide +kernel
theorem dX11_begin_2 : decode cX11_begin 2 = .ok (.iload_n 2, 1) := by decide +kernel
theorem dX11_begin_21 : decode cX11_begin 21 = .ok (.iload_n 1, 1) := by decide +kernel
theorem dX11_begin_22 : decode cX11_begin 22 = .ok (.iastore, 1) := by decide +kernel
theorem dX11_begin_23 : decode cX11_begin 23 = .ok (.return_, 1) := by decide +kernel
theorem dX11_begin_3 : decode cX11_begin 3 = .ok (.bipush 123, 2) := by decide +kernel
theorem dX11_begin_5 : decode cX11_begin 5 = .ok (.if_icmp .ge 13, 3) := by decide +kernel
theorem dX11_begin_8 : decode cX11_begin 8 = .ok (.aload_n 0, 1) := by decide +kernel
theorem dX11_begin_9 : decode cX11_begin 9 = .ok (.iload_n 2, 1) := by decide +kernel
theorem dX11_best_0 : decode cX11_best 0 = .ok (.aload_n 0, 1) := by decide +kernel
theorem dX11_best_1 : decode cX11_best 1 = .ok (.iload_n 1, 1) := by decide +kernel
theorem dX11_best_18 : decode cX11_best 18 = .ok (.aload_n 0, 1) := by decide +kernel
theorem dX11_best_19 : decode cX11_best 19 = .ok (.bipush (-2), 2) := by decide +kernel
theorem dX11_best_2 : decode cX11_best 2 = .ok (.invokevirtual 123, 3) := by decide +kernel
theorem dX11_best_21 : decode cX11_best 21 = .ok (.invokevirtual 68, 3) := by decide +kernel
theorem dX11_best_24 : decode cX11_best 24 = .ok (.ireturn, 1) := by decide +kernel
theorem dX11_best_5 : decode cX11_best 5 = .ok (.ifCond .eq 13, 3) := by decide +kernel
theorem dX11_clear_0 : decode cX11_clear 0 = .ok (.aload_n 0, 1) := by decide +kernel
theorem dX11_clear_1 : decode cX11_clear 1 = .ok (.getfield 205, 3) := by decide +kernel
theorem dX11_clear_10 : decode cX11_clear 10 = .ok (.iload_n 1, 1) := by decide +kernel
theorem dX11_clear_11 : decode cX11_clear 11 = .ok (.ireturn, 1) := by decide +kernel
theorem dX11_clear_4 : decode cX11_clear 4 = .ok (.istore_n 1, 1) := by decide +kernel
theorem dX11_clear_5 : decode cX11_clear 5 = .ok (.aload_n 0, 1) := by decide +kernel
theorem dX11_clear_6 : decode cX11_clear 6 = .ok (.iconst 0, 1) := by decide +kernel
theorem dX11_clear_7 : decode cX11_clear 7 = .ok (.putfield 205, 3) := by decide +kernel
theorem dX11_close_0 : decode cX11_close 0 = .ok (.aload_n 0, 1) := by decide +kernel
theorem dX11_close_1 : decode cX11_close 1 = .ok (.iload_n 1, 1) := by decide +kernel
theorem dX11_close_2 : decode cX11_close 2 = .ok (.invokevirtual 123, 3) := by decide +kernel
theorem dX11_close_31 : decode cX11_close 31 = .ok (.aload_n 0, 1) := by decide +kernel
theorem dX11_close_32 : decode cX11_close 32 = .ok (.bipush (-2), 2) := by decide +kernel
theorem dX11_close_34 : decode cX11_close 34 = .ok (.invokevirtual 68, 3) := by decide +kernel
theorem dX11_close_37 : decode cX11_close 37 = .ok (.ireturn, 1) := by decide +kernel
theorem dX11_close_5 : decode cX11_close 5 = .ok (.ifCond .eq 26, 3) := by decide +kernel
theorem dX11_count_0 : decode cX11_count 0 = .ok (.iload_n 1, 1) := by decide +kernel
theorem dX11_count_1 : decode cX11_count 1 = .ok (.i2l, 1) := by decide +kernel
theorem dX11_count_12 : decode cX11_count 12 = .ok (.aload_n 0, 1) := by decide +kernel
theorem dX11_count_13 : decode cX11_count 13 = .ok (.iload_n 1, 1) := by decide +kernel
theorem dX11_count_14 : decode cX11_count 14 = .ok (.invokevirtual 268, 3) := by decide +kernel
theorem dX11_count_17 : decode cX11_count 17 = .ok (.goto 9, 3) := by decide +kernel
theorem dX11_count_2 : decode cX11_count 2 = .ok (.lconst 0, 1) := by decide +kernel
theorem dX11_count_20 : decode cX11_count 20 = .ok (.aload_n 0, 1) := by decide +kernel
theorem dX11_count_21 : decode cX11_count 21 = .ok (.bipush (-2), 2) := by decide +kernel
theorem dX11_count_23 : decode cX11_count 23 = .ok (.invokevirtual 68, 3) := by decide +kernel
theorem dX11_count_26 : decode cX11_count 26 = .ok (.ireturn, 1) := by decide +kernel
theorem dX11_count_3 : decode cX11_count 3 = .ok (.ldc2_w 64, 3) := by decide +kernel
theorem dX11_count_6 : decode cX11_count 6 = .ok (.invokestatic 56, 3) := by decide +kernel
theorem dX11_count_9 : decode cX11_count 9 = .ok (.ifCond .eq 11, 3) := by decide +kernel
theorem dX11_counted_0 : decode cX11_counted 0 = .ok (.iload_n 1, 1) := by decide +kernel
theorem dX11_counted_1 : decode cX11_counted 1 = .ok (.tableswitch 106 0 10 #[59, 64, 72, 80, 88, 94, 106, 106, 106, 106, 101], 59) := by decide +kernel
theorem dX11_counted_101 : decode cX11_counted 101 = .ok (.ireturn, 1) := by decide +kernel
theorem dX11_counted_102 : decode cX11_counted 102 = .ok (.aload_n 0, 1) := by decide +kernel
theorem dX11_counted_103 : decode cX11_counted 103 = .ok (.getfield 205, 3) := by decide +kernel
theorem dX11_counted_106 : decode cX11_counted 106 = .ok (.ireturn, 1) := by decide +kernel
theorem dX11_counted_107 : decode cX11_counted 107 = .ok (.aload_n 0, 1) := by decide +kernel
theorem dX11_counted_108 : decode cX11_counted 108 = .ok (.getfield 7, 3) := by decide +kernel
theorem dX11_counted_111 : decode cX11_counted 111 = .ok (.iconst 1, 1) := by decide +kernel
theorem dX11_counted_112 : decode cX11_counted 112 = .ok (.iload_n 1, 1) := by decide +kernel
theorem dX11_counted_113 : decode cX11_counted 113 = .ok (.iadd, 1) := by decide +kernel
theorem dX11_counted_114 : decode cX11_counted 114 = .ok (.bipush 6, 2) := by decide +kernel
theorem dX11_counted_116 : decode cX11_counted 116 = .ok (.isub, 1) := by decide +kernel
theorem dX11_counted_117 : decode cX11_counted 117 = .ok (.iaload, 1) := by decide +kernel
theorem dX11_counted_118 : decode cX11_counted 118 = .ok (.ireturn, 1) := by decide +kernel
theorem dX11_counted_60 : decode cX11_counted 60 = .ok (.aload_n 0, 1) := by decide +kernel
theorem dX11_counted_61 : decode cX11_counted 61 = .ok (.invokevirtual 52, 3) := by decide +kernel
theorem dX11_counted_64 : decode cX11_counted 64 = .ok (.ireturn, 1) := by decide +kernel
theorem dX11_counted_65 : decode cX11_counted 65 = .ok (.aload_n 0, 1) := by decide +kernel
theorem dX11_counted_66 : decode cX11_counted 66 = .ok (.getfield 7, 3) := by decide +kernel
theorem dX11_counted_69 : decode cX11_counted 69 = .ok (.invokestatic 119, 3) := by decide +kernel
theorem dX11_counted_72 : decode cX11_counted 72 = .ok (.ireturn, 1) := by decide +kernel
theorem dX11_counted_73 : decode cX11_counted 73 = .ok (.aload_n 0, 1) := by decide +kernel
theorem dX11_counted_74 : decode cX11_counted 74 = .ok (.getfield 7, 3) := by decide +kernel
theorem dX11_counted_77 : decode cX11_counted 77 = .ok (.bipush 36, 2) := by decide +kernel
theorem dX11_counted_79 : decode cX11_counted 79 = .ok (.iaload, 1) := by decide +kernel
theorem dX11_counted_80 : decode cX11_counted 80 = .ok (.ireturn, 1) := by decide +kernel
theorem dX11_counted_81 : decode cX11_counted 81 = .ok (.aload_n 0, 1) := by decide +kernel
theorem dX11_counted_82 : decode cX11_counted 82 = .ok (.getfield 7, 3) := by decide +kernel
theorem dX11_counted_85 : decode cX11_counted 85 = .ok (.bipush 35, 2) := by decide +kernel
theorem dX11_counted_87 : decode cX11_counted 87 = .ok (.iaload, 1) := by decide +kernel
theorem dX11_counted_88 : decode cX11_counted 88 = .ok (.ireturn, 1) := by decide +kernel
theorem dX11_counted_89 : decode cX11_counted 89 = .ok (.aload_n 0, 1) := by decide +kernel
theorem dX11_counted_90 : decode cX11_counted 90 = .ok (.iconst 5, 1) := by decide +kernel
theorem dX11_counted_91 : decode cX11_counted 91 = .ok (.invokevirtual 265, 3) := by decide +kernel
theorem dX11_counted_94 : decode cX11_counted 94 = .ok (.ireturn, 1) := by decide +kernel
theorem dX11_counted_95 : decode cX11_counted 95 = .ok (.aload_n 0, 1) := by decide +kernel
theorem dX11_counted_96 : decode cX11_counted 96 = .ok (.bipush 17, 2) := by decide +kernel
theorem dX11_counted_98 : decode cX11_counted 98 = .ok (.invokevirtual 265, 3) := by decide +kernel
theorem dX11_digest_0 : decode cX11_digest 0 = .ok (.ldc2_w 273, 3) := by decide +kernel
theorem dX11_digest_100 : decode cX11_digest 100 = .ok (.getfield 7, 3) := by decide +kernel
theorem dX11_digest_103 : decode cX11_digest 103 = .ok (.iconst 2, 1) := by decide +kernel
theorem dX11_digest_104 : decode cX11_digest 104 = .ok (.iaload, 1) := by decide +kernel
theorem dX11_digest_105 : decode cX11_digest 105 = .ok (.imul, 1) := by decide +kernel
theorem dX11_digest_106 : decode cX11_digest 106 = .ok (.invokevirtual 275, 3) := by decide +kernel
theorem dX11_digest_109 : decode cX11_digest 109 = .ok (.lstore_n 1, 1) := by decide +kernel
theorem dX11_digest_110 : decode cX11_digest 110 = .ok (.aload_n 0, 1) := by decide +kernel
theorem dX11_digest_111 : decode cX11_digest 111 = .ok (.lload_n 1, 1) := by decide +kernel
theorem dX11_digest_112 : decode cX11_digest 112 = .ok (.bipush 105, 2) := by decide +kernel
theorem dX11_digest_114 : decode cX11_digest 114 = .ok (.iconst 3, 1) := by decide +kernel
theorem dX11_digest_115 : decode cX11_digest 115 = .ok (.aload_n 0, 1) := by decide +kernel
theorem dX11_digest_116 : decode cX11_digest 116 = .ok (.getfield 7, 3) := by decide +kernel
theorem dX11_digest_119 : decode cX11_digest 119 = .ok (.iconst 3, 1) := by decide +kernel
theorem dX11_digest_12 : decode cX11_digest 12 = .ok (.ldc2_w 271, 3) := by decide +kernel
theorem dX11_digest_120 : decode cX11_digest 120 = .ok (.iaload, 1) := by decide +kernel
theorem dX11_digest_121 : decode cX11_digest 121 = .ok (.imul, 1) := by decide +kernel
theorem dX11_digest_122 : decode cX11_digest 122 = .ok (.invokevirtual 275, 3) := by decide +kernel
theorem dX11_digest_125 : decode cX11_digest 125 = .ok (.lstore_n 1, 1) := by decide +kernel
theorem dX11_digest_126 : decode cX11_digest 126 = .ok (.ldc2_w 271, 3) := by decide +kernel
theorem dX11_digest_129 : decode cX11_digest 129 = .ok (.ldc2_w 271, 3) := by decide +kernel
theorem dX11_digest_132 : decode cX11_digest 132 = .ok (.lload_n 1, 1) := by decide +kernel
theorem dX11_digest_133 : decode cX11_digest 133 = .ok (.lmul, 1) := by decide +kernel
theorem dX11_digest_134 : decode cX11_digest 134 = .ok (.aload_n 0, 1) := by decide +kernel
theorem dX11_digest_135 : decode cX11_digest 135 = .ok (.getfield 182, 3) := by decide +kernel
theorem dX11_digest_138 : decode cX11_digest 138 = .ok (.ladd, 1) := by decide +kernel
theorem dX11_digest_139 : decode cX11_digest 139 = .ok (.lmul, 1) := by decide +kernel
theorem dX11_digest_140 : decode cX11_digest 140 = .ok (.aload_n 0, 1) := by decide +kernel
theorem dX11_digest_141 : decode cX11_digest 141 = .ok (.getfield 23, 3) := by decide +kernel
theorem dX11_digest_144 : decode cX11_digest 144 = .ok (.ladd, 1) := by decide +kernel
theorem dX11_digest_145 : decode cX11_digest 145 = .ok (.lreturn, 1) := by decide +kernel
theorem dX11_digest_15 : decode cX11_digest 15 = .ok (.lload_n 1, 1) := by decide +kernel
theorem dX11_digest_16 : decode cX11_digest 16 = .ok (.lmul, 1) := by decide +kernel
theorem dX11_digest_17 : decode cX11_digest 17 = .ok (.aload_n 0, 1) := by decide +kernel
theorem dX11_digest_18 : decode cX11_digest 18 = .ok (.iload_n 3, 1) := by decide +kernel
theorem dX11_digest_19 : decode cX11_digest 19 = .ok (.invokevirtual 268, 3) := by decide +kernel
theorem dX11_digest_22 : decode cX11_digest 22 = .ok (.i2l, 1) := by decide +kernel
theorem dX11_digest_23 : decode cX11_digest 23 = .ok (.ladd, 1) := by decide +kernel
theorem dX11_digest_24 : decode cX11_digest 24 = .ok (.lstore_n 1, 1) := by decide +kernel
theorem dX11_digest_25 : decode cX11_digest 25 = .ok (.iinc 3 1, 3) := by decide +kernel
theorem dX11_digest_28 : decode cX11_digest 28 = .ok (.goto (-22), 3) := by decide +kernel
theorem dX11_digest_3 : decode cX11_digest 3 = .ok (.lstore_n 1, 1) := by decide +kernel
theorem dX11_digest_31 : decode cX11_digest 31 = .ok (.iconst 0, 1) := by decide +kernel
theorem dX11_digest_32 : decode cX11_digest 32 = .ok (.istore_n 3, 1) := by decide +kernel
theorem dX11_digest_33 : decode cX11_digest 33 = .ok (.iload_n 3, 1) := by decide +kernel
theorem dX11_digest_34 : decode cX11_digest 34 = .ok (.aload_n 0, 1) := by decide +kernel
theorem dX11_digest_35 : decode cX11_digest 35 = .ok (.invokevirtual 52, 3) := by decide +kernel
theorem dX11_digest_38 : decode cX11_digest 38 = .ok (.if_icmp .ge 40, 3) := by decide +kernel
theorem dX11_digest_4 : decode cX11_digest 4 = .ok (.iconst 0, 1) := by decide +kernel
theorem dX11_digest_5 : decode cX11_digest 5 = .ok (.istore_n 3, 1) := by decide +kernel
theorem dX11_digest_6 : decode cX11_digest 6 = .ok (.iload_n 3, 1) := by decide +kernel
theorem dX11_digest_7 : decode cX11_digest 7 = .ok (.bipush 11, 2) := by decide +kernel
theorem dX11_digest_78 : decode cX11_digest 78 = .ok (.aload_n 0, 1) := by decide +kernel
theorem dX11_digest_79 : decode cX11_digest 79 = .ok (.lload_n 1, 1) := by decide +kernel
theorem dX11_digest_80 : decode cX11_digest 80 = .ok (.bipush 55, 2) := by decide +kernel
theorem dX11_digest_82 : decode cX11_digest 82 = .ok (.iconst 4, 1) := by decide +kernel
theorem dX11_digest_83 : decode cX11_digest 83 = .ok (.aload_n 0, 1) := by decide +kernel
theorem dX11_digest_84 : decode cX11_digest 84 = .ok (.getfield 7, 3) := by decide +kernel
theorem dX11_digest_87 : decode cX11_digest 87 = .ok (.iconst 1, 1) := by decide +kernel
theorem dX11_digest_88 : decode cX11_digest 88 = .ok (.iaload, 1) := by decide +kernel
theorem dX11_digest_89 : decode cX11_digest 89 = .ok (.imul, 1) := by decide +kernel
theorem dX11_digest_9 : decode cX11_digest 9 = .ok (.if_icmp .ge 22, 3) := by decide +kernel
theorem dX11_digest_90 : decode cX11_digest 90 = .ok (.invokevirtual 275, 3) := by decide +kernel
theorem dX11_digest_93 : decode cX11_digest 93 = .ok (.lstore_n 1, 1) := by decide +kernel
theorem dX11_digest_94 : decode cX11_digest 94 = .ok (.aload_n 0, 1) := by decide +kernel
theorem dX11_digest_95 : decode cX11_digest 95 = .ok (.lload_n 1, 1) := by decide +kernel
theorem dX11_digest_96 : decode cX11_digest 96 = .ok (.bipush 75, 2) := by decide +kernel
theorem dX11_digest_98 : decode cX11_digest 98 = .ok (.iconst 5, 1) := by decide +kernel
theorem dX11_digest_99 : decode cX11_digest 99 = .ok (.aload_n 0, 1) := by decide +kernel
theorem dX11_first_0 : decode cX11_first 0 = .ok (.iconst (-1), 1) := by decide +kernel
theorem dX11_first_1 : decode cX11_first 1 = .ok (.istore_n 1, 1) := by decide +kernel
theorem dX11_first_12 : decode cX11_first 12 = .ok (.if_icmp .ge 48, 3) := by decide +kernel
theorem dX11_first_2 : decode cX11_first 2 = .ok (.ldc 150, 2) := by decide +kernel
theorem dX11_first_4 : decode cX11_first 4 = .ok (.istore_n 2, 1) := by decide +kernel
theorem dX11_first_5 : decode cX11_first 5 = .ok (.iconst 0, 1) := by decide +kernel
theorem dX11_first_6 : decode cX11_first 6 = .ok (.istore_n 3, 1) := by decide +kernel
theorem dX11_first_60 : decode cX11_first 60 = .ok (.iload_n 1, 1) := by decide +kernel
theorem dX11_first_61 : decode cX11_first 61 = .ok (.ireturn, 1) := by decide +kernel
theorem dX11_first_7 : decode cX11_first 7 = .ok (.iload_n 3, 1) := by decide +kernel
theorem dX11_first_8 : decode cX11_first 8 = .ok (.aload_n 0, 1) := by decide +kernel
theorem dX11_first_9 : decode cX11_first 9 = .ok (.invokevirtual 52, 3) := by decide +kernel
theorem dX11_forget_0 : decode cX11_forget 0 = .ok (.iload_n 1, 1) := by decide +kernel
theorem dX11_forget_1 : decode cX11_forget 1 = .ok (.i2l, 1) := by decide +kernel
theorem dX11_forget_12 : decode cX11_forget 12 = .ok (.aload_n 0, 1) := by decide +kernel
theorem dX11_forget_13 : decode cX11_forget 13 = .ok (.bipush (-2), 2) := by decide +kernel
theorem dX11_forget_15 : decode cX11_forget 15 = .ok (.invokevirtual 68, 3) := by decide +kernel
theorem dX11_forget_18 : decode cX11_forget 18 = .ok (.ireturn, 1) := by decide +kernel
theorem dX11_forget_19 : decode cX11_forget 19 = .ok (.aload_n 0, 1) := by decide +kernel
theorem dX11_forget_2 : decode cX11_forget 2 = .ok (.lconst 0, 1) := by decide +kernel
theorem dX11_forget_20 : decode cX11_forget 20 = .ok (.getfield 7, 3) := by decide +kernel
theorem dX11_forget_23 : decode cX11_forget 23 = .ok (.iconst 1, 1) := by decide +kernel
theorem dX11_forget_24 : decode cX11_forget 24 = .ok (.iload_n 1, 1) := by decide +kernel
theorem dX11_forget_25 : decode cX11_forget 25 = .ok (.iadd, 1) := by decide +kernel
theorem dX11_forget_26 : decode cX11_forget 26 = .ok (.iaload, 1) := by decide +kernel
theorem dX11_forget_27 : decode cX11_forget 27 = .ok (.istore_n 2, 1) := by decide +kernel
theorem dX11_forget_28 : decode cX11_forget 28 = .ok (.aload_n 0, 1) := by decide +kernel
theorem dX11_forget_29 : decode cX11_forget 29 = .ok (.getfield 7, 3) := by decide +kernel
theorem dX11_forget_3 : decode cX11_forget 3 = .ok (.ldc2_w 156, 3) := by decide +kernel
theorem dX11_forget_32 : decode cX11_forget 32 = .ok (.iconst 1, 1) := by decide +kernel
theorem dX11_forget_33 : decode cX11_forget 33 = .ok (.iload_n 1, 1) := by decide +kernel
theorem dX11_forget_34 : decode cX11_forget 34 = .ok (.iadd, 1) := by decide +kernel
theorem dX11_forget_35 : decode cX11_forget 35 = .ok (.iconst 0, 1) := by decide +kernel
theorem dX11_forget_36 : decode cX11_forget 36 = .ok (.iastore, 1) := by decide +kernel
theorem dX11_forget_37 : decode cX11_forget 37 = .ok (.iload_n 2, 1) := by decide +kernel
theorem dX11_forget_38 : decode cX11_forget 38 = .ok (.ireturn, 1) := by decide +kernel
theorem dX11_forget_6 : decode cX11_forget 6 = .ok (.invokestatic 56, 3) := by decide +kernel
theorem dX11_forget_9 : decode cX11_forget 9 = .ok (.ifCond .ne 10, 3) := by decide +kernel
theorem dX11_from_0 : decode cX11_from 0 = .ok (.iload_n 1, 1) := by decide +kernel
theorem dX11_from_1 : decode cX11_from 1 = .ok (.i2l, 1) := by decide +kernel
theorem dX11_from_10 : decode cX11_from 10 = .ok (.aload_n 0, 1) := by decide +kernel
theorem dX11_from_11 : decode cX11_from 11 = .ok (.bipush (-2), 2) := by decide +kernel
theorem dX11_from_13 : decode cX11_from 13 = .ok (.invokevirtual 68, 3) := by decide +kernel
theorem dX11_from_16 : decode cX11_from 16 = .ok (.ireturn, 1) := by decide +kernel
theorem dX11_from_17 : decode cX11_from 17 = .ok (.aload_n 0, 1) := by decide +kernel
theorem dX11_from_18 : decode cX11_from 18 = .ok (.getfield 16, 3) := by decide +kernel
theorem dX11_from_2 : decode cX11_from 2 = .ok (.lconst 0, 1) := by decide +kernel
theorem dX11_from_21 : decode cX11_from 21 = .ok (.iload_n 1, 1) := by decide +kernel
theorem dX11_from_22 : decode cX11_from 22 = .ok (.baload, 1) := by decide +kernel
theorem dX11_from_23 : decode cX11_from 23 = .ok (.ifCond .ne 8, 3) := by decide +kernel
theorem dX11_from_26 : decode cX11_from 26 = .ok (.aload_n 0, 1) := by decide +kernel
theorem dX11_from_27 : decode cX11_from 27 = .ok (.invokevirtual 129, 3) := by decide +kernel
theorem dX11_from_3 : decode cX11_from 3 = .ok (.lconst 1, 1) := by decide +kernel
theorem dX11_from_30 : decode cX11_from 30 = .ok (.ireturn, 1) := by decide +kernel
theorem dX11_from_4 : decode cX11_from 4 = .ok (.invokestatic 56, 3) := by decide +kernel
theorem dX11_from_7 : decode cX11_from 7 = .ok (.ifCond .ne 10, 3) := by decide +kernel
theorem dX11_goTick_0 : decode cX11_goTick 0 = .ok (.aload_n 0, 1) := by decide +kernel
theorem dX11_goTick_1 : decode cX11_goTick 1 = .ok (.bipush 35, 2) := by decide +kernel
theorem dX11_goTick_10 : decode cX11_goTick 10 = .ok (.iload_n 1, 1) := by decide +kernel
theorem dX11_goTick_11 : decode cX11_goTick 11 = .ok (.aload_n 0, 1) := by decide +kernel
theorem dX11_goTick_12 : decode cX11_goTick 12 = .ok (.iconst 0, 1) := by decide +kernel
theorem dX11_goTick_13 : decode cX11_goTick 13 = .ok (.iaload, 1) := by decide +kernel
theorem dX11_goTick_14 : decode cX11_goTick 14 = .ok (.if_icmp .ge 23, 3) := by decide +kernel
theorem dX11_goTick_3 : decode cX11_goTick 3 = .ok (.dup2, 1) := by decide +kernel
theorem dX11_goTick_37 : decode cX11_goTick 37 = .ok (.return_, 1) := by decide +kernel
theorem dX11_goTick_4 : decode cX11_goTick 4 = .ok (.iaload, 1) := by decide +kernel
theorem dX11_goTick_5 : decode cX11_goTick 5 = .ok (.iconst 1, 1) := by decide +kernel
theorem dX11_goTick_6 : decode cX11_goTick 6 = .ok (.iadd, 1) := by decide +kernel
theorem dX11_goTick_7 : decode cX11_goTick 7 = .ok (.iastore, 1) := by decide +kernel
theorem dX11_goTick_8 : decode cX11_goTick 8 = .ok (.iconst 0, 1) := by decide +kernel
theorem dX11_goTick_9 : decode cX11_goTick 9 = .ok (.istore_n 1, 1) := by decide +kernel
theorem dX11_goTicks_0 : decode cX11_goTicks 0 = .ok (.iconst 0, 1) := by decide +kernel
theorem dX11_goTicks_1 : decode cX11_goTicks 1 = .ok (.istore_n 2, 1) := by decide +kernel
theorem dX11_goTicks_10 : decode cX11_goTicks 10 = .ok (.iaload, 1) := by decide +kernel
theorem dX11_goTicks_11 : decode cX11_goTicks 11 = .ok (.sipush 9999, 3) := by decide +kernel
theorem dX11_goTicks_14 : decode cX11_goTicks 14 = .ok (.if_icmp .ge 13, 3) := by decide +kernel
theorem dX11_goTicks_17 : decode cX11_goTicks 17 = .ok (.aload_n 0, 1) := by decide +kernel
theorem dX11_goTicks_18 : decode cX11_goTicks 18 = .ok (.invokestatic 109, 3) := by decide +kernel
theorem dX11_goTicks_2 : decode cX11_goTicks 2 = .ok (.iload_n 2, 1) := by decide +kernel
theorem dX11_goTicks_21 : decode cX11_goTicks 21 = .ok (.iinc 2 1, 3) := by decide +kernel
theorem dX11_goTicks_24 : decode cX11_goTicks 24 = .ok (.goto (-22), 3) := by decide +kernel
theorem dX11_goTicks_27 : decode cX11_goTicks 27 = .ok (.return_, 1) := by decide +kernel
theorem dX11_goTicks_3 : decode cX11_goTicks 3 = .ok (.iload_n 1, 1) := by decide +kernel
theorem dX11_goTicks_4 : decode cX11_goTicks 4 = .ok (.if_icmp .ge 23, 3) := by decide +kernel
theorem dX11_goTicks_7 : decode cX11_goTicks 7 = .ok (.aload_n 0, 1) := by decide +kernel
theorem dX11_goTicks_8 : decode cX11_goTicks 8 = .ok (.bipush 35, 2) := by decide +kernel
theorem dX11_home_0 : decode cX11_home 0 = .ok (.aload_n 0, 1) := by decide +kernel
theorem dX11_home_1 : decode cX11_home 1 = .ok (.iload_n 1, 1) := by decide +kernel
theorem dX11_home_16 : decode cX11_home 16 = .ok (.aload_n 0, 1) := by decide +kernel
theorem dX11_home_17 : decode cX11_home 17 = .ok (.bipush (-2), 2) := by decide +kernel
theorem dX11_home_19 : decode cX11_home 19 = .ok (.invokevirtual 68, 3) := by decide +kernel
theorem dX11_home_2 : decode cX11_home 2 = .ok (.invokevirtual 123, 3) := by decide +kernel
theorem dX11_home_22 : decode cX11_home 22 = .ok (.ireturn, 1) := by decide +kernel
theorem dX11_home_5 : decode cX11_home 5 = .ok (.ifCond .eq 11, 3) := by decide +kernel
theorem dX11_image_0 : decode cX11_image 0 = .ok (.iload_n 1, 1) := by decide +kernel
theorem dX11_image_1 : decode cX11_image 1 = .ok (.i2l, 1) := by decide +kernel
theorem dX11_image_10 : decode cX11_image 10 = .ok (.aload_n 0, 1) := by decide +kernel
theorem dX11_image_11 : decode cX11_image 11 = .ok (.bipush (-2), 2) := by decide +kernel
theorem dX11_image_13 : decode cX11_image 13 = .ok (.invokevirtual 68, 3) := by decide +kernel
theorem dX11_image_16 : decode cX11_image 16 = .ok (.ireturn, 1) := by decide +kernel
theorem dX11_image_17 : decode cX11_image 17 = .ok (.iconst 0, 1) := by decide +kernel
theorem dX11_image_18 : decode cX11_image 18 = .ok (.istore_n 2, 1) := by decide +kernel
theorem dX11_image_19 : decode cX11_image 19 = .ok (.iload_n 2, 1) := by decide +kernel
theorem dX11_image_2 : decode cX11_image 2 = .ok (.lconst 0, 1) := by decide +kernel
theorem dX11_image_20 : decode cX11_image 20 = .ok (.sipush 371, 3) := by decide +kernel
theorem dX11_image_23 : decode cX11_image 23 = .ok (.if_icmp .ge 27, 3) := by decide +kernel
theorem dX11_image_26 : decode cX11_image 26 = .ok (.aload_n 0, 1) := by decide +kernel
theorem dX11_image_27 : decode cX11_image 27 = .ok (.getfield 13, 3) := by decide +kernel
theorem dX11_image_3 : decode cX11_image 3 = .ok (.lconst 1, 1) := by decide +kernel
theorem dX11_image_30 : decode cX11_image 30 = .ok (.sipush 371, 3) := by decide +kernel
theorem dX11_image_33 : decode cX11_image 33 = .ok (.iload_n 1, 1) := by decide +kernel
theorem dX11_image_34 : decode cX11_image 34 = .ok (.imul, 1) := by decide +kernel
theorem dX11_image_35 : decode cX11_image 35 = .ok (.iload_n 2, 1) := by decide +kernel
theorem dX11_image_36 : decode cX11_image 36 = .ok (.iadd, 1) := by decide +kernel
theorem dX11_image_37 : decode cX11_image 37 = .ok (.aload_n 0, 1) := by decide +kernel
theorem dX11_image_38 : decode cX11_image 38 = .ok (.getfield 7, 3) := by decide +kernel
theorem dX11_image_4 : decode cX11_image 4 = .ok (.invokestatic 56, 3) := by decide +kernel
theorem dX11_image_41 : decode cX11_image 41 = .ok (.iload_n 2, 1) := by decide +kernel
theorem dX11_image_42 : decode cX11_image 42 = .ok (.iaload, 1) := by decide +kernel
theorem dX11_image_43 : decode cX11_image 43 = .ok (.iastore, 1) := by decide +kernel
theorem dX11_image_44 : decode cX11_image 44 = .ok (.iinc 2 1, 3) := by decide +kernel
theorem dX11_image_47 : decode cX11_image 47 = .ok (.goto (-28), 3) := by decide +kernel
theorem dX11_image_50 : decode cX11_image 50 = .ok (.aload_n 0, 1) := by decide +kernel
theorem dX11_image_51 : decode cX11_image 51 = .ok (.getfield 16, 3) := by decide +kernel
theorem dX11_image_54 : decode cX11_image 54 = .ok (.iload_n 1, 1) := by decide +kernel
theorem dX11_image_55 : decode cX11_image 55 = .ok (.iconst 1, 1) := by decide +kernel
theorem dX11_image_56 : decode cX11_image 56 = .ok (.bastore, 1) := by decide +kernel
theorem dX11_image_57 : decode cX11_image 57 = .ok (.iconst 1, 1) := by decide +kernel
theorem dX11_image_58 : decode cX11_image 58 = .ok (.ireturn, 1) := by decide +kernel
theorem dX11_image_7 : decode cX11_image 7 = .ok (.ifCond .ne 10, 3) := by decide +kernel
theorem dX11_in_0 : decode cX11_in 0 = .ok (.lload_n 0, 1) := by decide +kernel
theorem dX11_in_1 : decode cX11_in 1 = .ok (.lload_n 2, 1) := by decide +kernel
theorem dX11_in_10 : decode cX11_in 10 = .ok (.ifCond .gt 7, 3) := by decide +kernel
theorem dX11_in_13 : decode cX11_in 13 = .ok (.iconst 1, 1) := by decide +kernel
theorem dX11_in_14 : decode cX11_in 14 = .ok (.goto 4, 3) := by decide +kernel
theorem dX11_in_17 : decode cX11_in 17 = .ok (.iconst 0, 1) := by decide +kernel
theorem dX11_in_18 : decode cX11_in 18 = .ok (.ireturn, 1) := by decide +kernel
theorem dX11_in_2 : decode cX11_in 2 = .ok (.lcmp, 1) := by decide +kernel
theorem dX11_in_3 : decode cX11_in 3 = .ok (.ifCond .lt 14, 3) := by decide +kernel
theorem dX11_in_6 : decode cX11_in 6 = .ok (.lload_n 0, 1) := by decide +kernel
theorem dX11_in_7 : decode cX11_in 7 = .ok (.lload 4, 2) := by decide +kernel
theorem dX11_in_9 : decode cX11_in 9 = .ok (.lcmp, 1) := by decide +kernel
theorem dX11_init_0 : decode cX11_init 0 = .ok (.aload_n 0, 1) := by decide +kernel
theorem dX11_init_1 : decode cX11_init 1 = .ok (.invokespecial 1, 3) := by decide +kernel
theorem dX11_init_10 : decode cX11_init 10 = .ok (.putfield 7, 3) := by decide +kernel
theorem dX11_init_101 : decode cX11_init 101 = .ok (.bipush 20, 2) := by decide +kernel
theorem dX11_init_103 : decode cX11_init 103 = .ok (.invokestatic 48, 3) := by decide +kernel
theorem dX11_init_106 : decode cX11_init 106 = .ok (.return_, 1) := by decide +kernel
theorem dX11_init_13 : decode cX11_init 13 = .ok (.aload_n 0, 1) := by decide +kernel
theorem dX11_init_14 : decode cX11_init 14 = .ok (.sipush 742, 3) := by decide +kernel
theorem dX11_init_17 : decode cX11_init 17 = .ok (.newarray .int, 2) := by decide +kernel
theorem dX11_init_19 : decode cX11_init 19 = .ok (.putfield 13, 3) := by decide +kernel
theorem dX11_init_22 : decode cX11_init 22 = .ok (.aload_n 0, 1) := by decide +kernel
theorem dX11_init_23 : decode cX11_init 23 = .ok (.iconst 2, 1) := by decide +kernel
theorem dX11_init_24 : decode cX11_init 24 = .ok (.newarray .boolean, 2) := by decide +kernel
theorem dX11_init_26 : decode cX11_init 26 = .ok (.putfield 16, 3) := by decide +kernel
theorem dX11_init_29 : decode cX11_init 29 = .ok (.aload_n 0, 1) := by decide +kernel
theorem dX11_init_30 : decode cX11_init 30 = .ok (.iconst 3, 1) := by decide +kernel
theorem dX11_init_31 : decode cX11_init 31 = .ok (.newarray .int, 2) := by decide +kernel
theorem dX11_init_33 : decode cX11_init 33 = .ok (.putfield 20, 3) := by decide +kernel
theorem dX11_init_36 : decode cX11_init 36 = .ok (.aload_n 0, 1) := by decide +kernel
theorem dX11_init_37 : decode cX11_init 37 = .ok (.lconst 1, 1) := by decide +kernel
theorem dX11_init_38 : decode cX11_init 38 = .ok (.putfield 23, 3) := by decide +kernel
theorem dX11_init_4 : decode cX11_init 4 = .ok (.aload_n 0, 1) := by decide +kernel
theorem dX11_init_41 : decode cX11_init 41 = .ok (.aload_n 0, 1) := by decide +kernel
theorem dX11_init_42 : decode cX11_init 42 = .ok (.bipush 55, 2) := by decide +kernel
theorem dX11_init_44 : decode cX11_init 44 = .ok (.newarray .int, 2) := by decide +kernel
theorem dX11_init_46 : decode cX11_init 46 = .ok (.putfield 27, 3) := by decide +kernel
theorem dX11_init_49 : decode cX11_init 49 = .ok (.aload_n 0, 1) := by decide +kernel
theorem dX11_init_5 : decode cX11_init 5 = .ok (.sipush 371, 3) := by decide +kernel
theorem dX11_init_50 : decode cX11_init 50 = .ok (.bipush 6, 2) := by decide +kernel
theorem dX11_init_52 : decode cX11_init 52 = .ok (.newarray .int, 2) := by decide +kernel
theorem dX11_init_54 : decode cX11_init 54 = .ok (.putfield 30, 3) := by decide +kernel
theorem dX11_init_57 : decode cX11_init 57 = .ok (.aload_n 0, 1) := by decide +kernel
theorem dX11_init_58 : decode cX11_init 58 = .ok (.bipush 10, 2) := by decide +kernel
theorem dX11_init_60 : decode cX11_init 60 = .ok (.newarray .int, 2) := by decide +kernel
theorem dX11_init_62 : decode cX11_init 62 = .ok (.putfield 33, 3) := by decide +kernel
theorem dX11_init_65 : decode cX11_init 65 = .ok (.aload_n 0, 1) := by decide +kernel
theorem dX11_init_66 : decode cX11_init 66 = .ok (.bipush 20, 2) := by decide +kernel
theorem dX11_init_68 : decode cX11_init 68 = .ok (.newarray .int, 2) := by decide +kernel
theorem dX11_init_70 : decode cX11_init 70 = .ok (.putfield 36, 3) := by decide +kernel
theorem dX11_init_73 : decode cX11_init 73 = .ok (.aload_n 0, 1) := by decide +kernel
theorem dX11_init_74 : decode cX11_init 74 = .ok (.sipush 150, 3) := by decide +kernel
theorem dX11_init_77 : decode cX11_init 77 = .ok (.newarray .int, 2) := by decide +kernel
theorem dX11_init_79 : decode cX11_init 79 = .ok (.putfield 39, 3) := by decide +kernel
theorem dX11_init_8 : decode cX11_init 8 = .ok (.newarray .int, 2) := by decide +kernel
theorem dX11_init_82 : decode cX11_init 82 = .ok (.aload_n 0, 1) := by decide +kernel
theorem dX11_init_83 : decode cX11_init 83 = .ok (.bipush 123, 2) := by decide +kernel
theorem dX11_init_85 : decode cX11_init 85 = .ok (.newarray .int, 2) := by decide +kernel
theorem dX11_init_87 : decode cX11_init 87 = .ok (.putfield 42, 3) := by decide +kernel
theorem dX11_init_90 : decode cX11_init 90 = .ok (.aload_n 0, 1) := by decide +kernel
theorem dX11_init_91 : decode cX11_init 91 = .ok (.iconst 3, 1) := by decide +kernel
theorem dX11_init_92 : decode cX11_init 92 = .ok (.newarray .int, 2) := by decide +kernel
theorem dX11_init_94 : decode cX11_init 94 = .ok (.putfield 45, 3) := by decide +kernel
theorem dX11_init_97 : decode cX11_init 97 = .ok (.aload_n 0, 1) := by decide +kernel
theorem dX11_init_98 : decode cX11_init 98 = .ok (.getfield 7, 3) := by decide +kernel
theorem dX11_isKind_0 : decode cX11_isKind 0 = .ok (.iload_n 0, 1) := by decide +kernel
theorem dX11_isKind_1 : decode cX11_isKind 1 = .ok (.i2l, 1) := by decide +kernel
theorem dX11_isKind_2 : decode cX11_isKind 2 = .ok (.lconst 0, 1) := by decide +kernel
theorem dX11_isKind_3 : decode cX11_isKind 3 = .ok (.ldc2_w 60, 3) := by decide +kernel
theorem dX11_isKind_6 : decode cX11_isKind 6 = .ok (.invokestatic 56, 3) := by decide +kernel
theorem dX11_isKind_9 : decode cX11_isKind 9 = .ok (.ireturn, 1) := by decide +kernel
theorem dX11_isLegs_0 : decode cX11_isLegs 0 = .ok (.iload_n 0, 1) := by decide +kernel
theorem dX11_isLegs_1 : decode cX11_isLegs 1 = .ok (.i2l, 1) := by decide +kernel
theorem dX11_isLegs_2 : decode cX11_isLegs 2 = .ok (.lconst 1, 1) := by decide +kernel
theorem dX11_isLegs_3 : decode cX11_isLegs 3 = .ok (.ldc2_w 62, 3) := by decide +kernel
theorem dX11_isLegs_6 : decode cX11_isLegs 6 = .ok (.invokestatic 56, 3) := by decide +kernel
theorem dX11_isLegs_9 : decode cX11_isLegs 9 = .ok (.ireturn, 1) := by decide +kernel
theorem dX11_isOne_0 : decode cX11_isOne 0 = .ok (.iload_n 1, 1) := by decide +kernel
theorem dX11_isOne_1 : decode cX11_isOne 1 = .ok (.i2l, 1) := by decide +kernel
theorem dX11_isOne_10 : decode cX11_isOne 10 = .ok (.invokestatic 56, 3) := by decide +kernel
theorem dX11_isOne_13 : decode cX11_isOne 13 = .ok (.ireturn, 1) := by decide +kernel
theorem dX11_isOne_2 : decode cX11_isOne 2 = .ok (.lconst 0, 1) := by decide +kernel
theorem dX11_isOne_3 : decode cX11_isOne 3 = .ok (.aload_n 0, 1) := by decide +kernel
theorem dX11_isOne_4 : decode cX11_isOne 4 = .ok (.invokevirtual 52, 3) := by decide +kernel
theorem dX11_isOne_7 : decode cX11_isOne 7 = .ok (.iconst 1, 1) := by decide +kernel
theorem dX11_isOne_8 : decode cX11_isOne 8 = .ok (.isub, 1) := by decide +kernel
theorem dX11_isOne_9 : decode cX11_isOne 9 = .ok (.i2l, 1) := by decide +kernel
theorem dX11_is_0 : decode cX11_is 0 = .ok (.aload_n 0, 1) := by decide +kernel
theorem dX11_is_1 : decode cX11_is 1 = .ok (.iload_n 1, 1) := by decide +kernel
theorem dX11_is_16 : decode cX11_is 16 = .ok (.aload_n 0, 1) := by decide +kernel
theorem dX11_is_17 : decode cX11_is 17 = .ok (.bipush (-2), 2) := by decide +kernel
theorem dX11_is_19 : decode cX11_is 19 = .ok (.invokevirtual 68, 3) := by decide +kernel
theorem dX11_is_2 : decode cX11_is 2 = .ok (.invokevirtual 123, 3) := by decide +kernel
theorem dX11_is_22 : decode cX11_is 22 = .ok (.ireturn, 1) := by decide +kernel
theorem dX11_is_5 : decode cX11_is 5 = .ok (.ifCond .eq 11, 3) := by decide +kernel
theorem dX11_kinds_0 : decode cX11_kinds 0 = .ok (.aload_n 0, 1) := by decide +kernel
theorem dX11_kinds_1 : decode cX11_kinds 1 = .ok (.iload_n 1, 1) := by decide +kernel
theorem dX11_kinds_16 : decode cX11_kinds 16 = .ok (.aload_n 0, 1) := by decide +kernel
theorem dX11_kinds_17 : decode cX11_kinds 17 = .ok (.bipush (-2), 2) := by decide +kernel
theorem dX11_kinds_19 : decode cX11_kinds 19 = .ok (.invokevirtual 68, 3) := by decide +kernel
theorem dX11_kinds_2 : decode cX11_kinds 2 = .ok (.invokevirtual 123, 3) := by decide +kernel
theorem dX11_kinds_22 : decode cX11_kinds 22 = .ok (.ireturn, 1) := by decide +kernel
theorem dX11_kinds_5 : decode cX11_kinds 5 = .ok (.ifCond .eq 11, 3) := by decide +kernel
theorem dX11_layHand_0 : decode cX11_layHand 0 = .ok (.iconst 0, 1) := by decide +kernel
theorem dX11_layHand_1 : decode cX11_layHand 1 = .ok (.istore_n 1, 1) := by decide +kernel
theorem dX11_layHand_12 : decode cX11_layHand 12 = .ok (.iload_n 1, 1) := by decide +kernel
theorem dX11_layHand_13 : decode cX11_layHand 13 = .ok (.aload_n 0, 1) := by decide +kernel
theorem dX11_layHand_14 : decode cX11_layHand 14 = .ok (.getfield 7, 3) := by decide +kernel
theorem dX11_layHand_17 : decode cX11_layHand 17 = .ok (.iload_n 1, 1) := by decide +kernel
theorem dX11_layHand_18 : decode cX11_layHand 18 = .ok (.iaload, 1) := by decide +kernel
theorem dX11_layHand_19 : decode cX11_layHand 19 = .ok (.iastore, 1) := by decide +kernel
theorem dX11_layHand_2 : decode cX11_layHand 2 = .ok (.iload_n 1, 1) := by decide +kernel
theorem dX11_layHand_20 : decode cX11_layHand 20 = .ok (.iinc 1 1, 3) := by decide +kernel
theorem dX11_layHand_23 : decode cX11_layHand 23 = .ok (.goto (-21), 3) := by decide +kernel
theorem dX11_layHand_26 : decode cX11_layHand 26 = .ok (.return_, 1) := by decide +kernel
theorem dX11_layHand_3 : decode cX11_layHand 3 = .ok (.bipush 55, 2) := by decide +kernel
theorem dX11_layHand_5 : decode cX11_layHand 5 = .ok (.if_icmp .ge 21, 3) := by decide +kernel
theorem dX11_layHand_8 : decode cX11_layHand 8 = .ok (.aload_n 0, 1) := by decide +kernel
theorem dX11_layHand_9 : decode cX11_layHand 9 = .ok (.getfield 27, 3) := by decide +kernel
theorem dX11_layOne_0 : decode cX11_layOne 0 = .ok (.aload_n 0, 1) := by decide +kernel
theorem dX11_layOne_1 : decode cX11_layOne 1 = .ok (.iconst 0, 1) := by decide +kernel
theorem dX11_layOne_10 : decode cX11_layOne 10 = .ok (.iadd, 1) := by decide +kernel
theorem dX11_layOne_11 : decode cX11_layOne 11 = .ok (.iload_n 1, 1) := by decide +kernel
theorem dX11_layOne_12 : decode cX11_layOne 12 = .ok (.iastore, 1) := by decide +kernel
theorem dX11_layOne_13 : decode cX11_layOne 13 = .ok (.aload_n 0, 1) := by decide +kernel
theorem dX11_layOne_14 : decode cX11_layOne 14 = .ok (.bipush 43, 2) := by decide +kernel
theorem dX11_layOne_16 : decode cX11_layOne 16 = .ok (.iload 4, 2) := by decide +kernel
theorem dX11_layOne_18 : decode cX11_layOne 18 = .ok (.iadd, 1) := by decide +kernel
theorem dX11_layOne_19 : decode cX11_layOne 19 = .ok (.iload_n 2, 1) := by decide +kernel
theorem dX11_layOne_2 : decode cX11_layOne 2 = .ok (.iaload, 1) := by decide +kernel
theorem dX11_layOne_20 : decode cX11_layOne 20 = .ok (.iastore, 1) := by decide +kernel
theorem dX11_layOne_21 : decode cX11_layOne 21 = .ok (.aload_n 0, 1) := by decide +kernel
theorem dX11_layOne_22 : decode cX11_layOne 22 = .ok (.bipush 49, 2) := by decide +kernel
theorem dX11_layOne_24 : decode cX11_layOne 24 = .ok (.iload 4, 2) := by decide +kernel
theorem dX11_layOne_26 : decode cX11_layOne 26 = .ok (.iadd, 1) := by decide +kernel
theorem dX11_layOne_27 : decode cX11_layOne 27 = .ok (.iload_n 3, 1) := by decide +kernel
theorem dX11_layOne_28 : decode cX11_layOne 28 = .ok (.iastore, 1) := by decide +kernel
theorem dX11_layOne_29 : decode cX11_layOne 29 = .ok (.aload_n 0, 1) := by decide +kernel
theorem dX11_layOne_3 : decode cX11_layOne 3 = .ok (.istore 4, 2) := by decide +kernel
theorem dX11_layOne_30 : decode cX11_layOne 30 = .ok (.bipush 11, 2) := by decide +kernel
theorem dX11_layOne_32 : decode cX11_layOne 32 = .ok (.iload 4, 2) := by decide +kernel
theorem dX11_layOne_34 : decode cX11_layOne 34 = .ok (.iadd, 1) := by decide +kernel
theorem dX11_layOne_35 : decode cX11_layOne 35 = .ok (.iconst 4, 1) := by decide +kernel
theorem dX11_layOne_36 : decode cX11_layOne 36 = .ok (.iastore, 1) := by decide +kernel
theorem dX11_layOne_37 : decode cX11_layOne 37 = .ok (.aload_n 0, 1) := by decide +kernel
theorem dX11_layOne_38 : decode cX11_layOne 38 = .ok (.iconst 0, 1) := by decide +kernel
theorem dX11_layOne_39 : decode cX11_layOne 39 = .ok (.dup2, 1) := by decide +kernel
theorem dX11_layOne_40 : decode cX11_layOne 40 = .ok (.iaload, 1) := by decide +kernel
theorem dX11_layOne_41 : decode cX11_layOne 41 = .ok (.iconst 1, 1) := by decide +kernel
theorem dX11_layOne_42 : decode cX11_layOne 42 = .ok (.iadd, 1) := by decide +kernel
theorem dX11_layOne_43 : decode cX11_layOne 43 = .ok (.iastore, 1) := by decide +kernel
theorem dX11_layOne_44 : decode cX11_layOne 44 = .ok (.return_, 1) := by decide +kernel
theorem dX11_layOne_5 : decode cX11_layOne 5 = .ok (.aload_n 0, 1) := by decide +kernel
theorem dX11_layOne_6 : decode cX11_layOne 6 = .ok (.bipush 37, 2) := by decide +kernel
theorem dX11_layOne_8 : decode cX11_layOne 8 = .ok (.iload 4, 2) := by decide +kernel
theorem dX11_lookAt_0 : decode cX11_lookAt 0 = .ok (.aload_n 0, 1) := by decide +kernel
theorem dX11_lookAt_1 : decode cX11_lookAt 1 = .ok (.iload_n 1, 1) := by decide +kernel
theorem dX11_lookAt_10 : decode cX11_lookAt 10 = .ok (.getfield 205, 3) := by decide +kernel
theorem dX11_lookAt_13 : decode cX11_lookAt 13 = .ok (.if_icmp .ge 30, 3) := by decide +kernel
theorem dX11_lookAt_2 : decode cX11_lookAt 2 = .ok (.putfield 217, 3) := by decide +kernel
theorem dX11_lookAt_43 : decode cX11_lookAt 43 = .ok (.aload_n 0, 1) := by decide +kernel
theorem dX11_lookAt_44 : decode cX11_lookAt 44 = .ok (.iconst 0, 1) := by decide +kernel
theorem dX11_lookAt_45 : decode cX11_lookAt 45 = .ok (.putfield 220, 3) := by decide +kernel
theorem dX11_lookAt_48 : decode cX11_lookAt 48 = .ok (.aload_n 0, 1) := by decide +kernel
theorem dX11_lookAt_49 : decode cX11_lookAt 49 = .ok (.iconst 0, 1) := by decide +kernel
theorem dX11_lookAt_5 : decode cX11_lookAt 5 = .ok (.aload_n 0, 1) := by decide +kernel
theorem dX11_lookAt_50 : decode cX11_lookAt 50 = .ok (.putfield 223, 3) := by decide +kernel
theorem dX11_lookAt_53 : decode cX11_lookAt 53 = .ok (.aload_n 0, 1) := by decide +kernel
theorem dX11_lookAt_54 : decode cX11_lookAt 54 = .ok (.iconst 0, 1) := by decide +kernel
theorem dX11_lookAt_55 : decode cX11_lookAt 55 = .ok (.putfield 226, 3) := by decide +kernel
theorem dX11_lookAt_58 : decode cX11_lookAt 58 = .ok (.aload_n 0, 1) := by decide +kernel
theorem dX11_lookAt_59 : decode cX11_lookAt 59 = .ok (.getfield 217, 3) := by decide +kernel
theorem dX11_lookAt_6 : decode cX11_lookAt 6 = .ok (.getfield 217, 3) := by decide +kernel
theorem dX11_lookAt_62 : decode cX11_lookAt 62 = .ok (.aload_n 0, 1) := by decide +kernel
theorem dX11_lookAt_63 : decode cX11_lookAt 63 = .ok (.getfield 205, 3) := by decide +kernel
theorem dX11_lookAt_66 : decode cX11_lookAt 66 = .ok (.if_icmp .ne 4, 3) := by decide +kernel
theorem dX11_lookAt_69 : decode cX11_lookAt 69 = .ok (.return_, 1) := by decide +kernel
theorem dX11_lookAt_9 : decode cX11_lookAt 9 = .ok (.aload_n 0, 1) := by decide +kernel
theorem dX11_look_0 : decode cX11_look 0 = .ok (.aload_n 0, 1) := by decide +kernel
theorem dX11_look_1 : decode cX11_look 1 = .ok (.iload_n 1, 1) := by decide +kernel
theorem dX11_look_11 : decode cX11_look 11 = .ok (.invokevirtual 68, 3) := by decide +kernel
theorem dX11_look_14 : decode cX11_look 14 = .ok (.ireturn, 1) := by decide +kernel
theorem dX11_look_2 : decode cX11_look 2 = .ok (.invokevirtual 123, 3) := by decide +kernel
theorem dX11_look_5 : decode cX11_look 5 = .ok (.ifCond .ne 10, 3) := by decide +kernel
theorem dX11_look_8 : decode cX11_look 8 = .ok (.aload_n 0, 1) := by decide +kernel
theorem dX11_look_9 : decode cX11_look 9 = .ok (.bipush (-2), 2) := by decide +kernel
theorem dX11_manyHome_0 : decode cX11_manyHome 0 = .ok (.iconst 0, 1) := by decide +kernel
theorem dX11_manyHome_1 : decode cX11_manyHome 1 = .ok (.istore_n 1, 1) := by decide +kernel
theorem dX11_manyHome_2 : decode cX11_manyHome 2 = .ok (.iconst 0, 1) := by decide +kernel
theorem dX11_manyHome_3 : decode cX11_manyHome 3 = .ok (.istore_n 2, 1) := by decide +kernel
theorem dX11_manyHome_33 : decode cX11_manyHome 33 = .ok (.iload_n 1, 1) := by decide +kernel
theorem dX11_manyHome_34 : decode cX11_manyHome 34 = .ok (.ireturn, 1) := by decide +kernel
theorem dX11_manyHome_4 : decode cX11_manyHome 4 = .ok (.iload_n 2, 1) := by decide +kernel
theorem dX11_manyHome_5 : decode cX11_manyHome 5 = .ok (.aload_n 0, 1) := by decide +kernel
theorem dX11_manyHome_6 : decode cX11_manyHome 6 = .ok (.iconst 0, 1) := by decide +kernel
theorem dX11_manyHome_7 : decode cX11_manyHome 7 = .ok (.iaload, 1) := by decide +kernel
theorem dX11_manyHome_8 : decode cX11_manyHome 8 = .ok (.if_icmp .ge 25, 3) := by decide +kernel
theorem dX11_many_0 : decode cX11_many 0 = .ok (.aload_n 0, 1) := by decide +kernel
theorem dX11_many_1 : decode cX11_many 1 = .ok (.getfield 7, 3) := by decide +kernel
theorem dX11_many_4 : decode cX11_many 4 = .ok (.iconst 0, 1) := by decide +kernel
theorem dX11_many_5 : decode cX11_many 5 = .ok (.iaload, 1) := by decide +kernel
theorem dX11_many_6 : decode cX11_many 6 = .ok (.ireturn, 1) := by decide +kernel
theorem dX11_mark_0 : decode cX11_mark 0 = .ok (.aload_n 0, 1) := by decide +kernel
theorem dX11_mark_1 : decode cX11_mark 1 = .ok (.iload_n 1, 1) := by decide +kernel
theorem dX11_mark_2 : decode cX11_mark 2 = .ok (.invokevirtual 123, 3) := by decide +kernel
theorem dX11_mark_32 : decode cX11_mark 32 = .ok (.aload_n 0, 1) := by decide +kernel
theorem dX11_mark_33 : decode cX11_mark 33 = .ok (.bipush (-2), 2) := by decide +kernel
theorem dX11_mark_35 : decode cX11_mark 35 = .ok (.invokevirtual 68, 3) := by decide +kernel
theorem dX11_mark_38 : decode cX11_mark 38 = .ok (.ireturn, 1) := by decide +kernel
theorem dX11_mark_5 : decode cX11_mark 5 = .ok (.ifCond .eq 27, 3) := by decide +kernel
theorem dX11_no_0 : decode cX11_no 0 = .ok (.aload_n 0, 1) := by decide +kernel
theorem dX11_no_1 : decode cX11_no 1 = .ok (.getfield 20, 3) := by decide +kernel
theorem dX11_no_10 : decode cX11_no 10 = .ok (.bipush (-3), 2) := by decide +kernel
theorem dX11_no_12 : decode cX11_no 12 = .ok (.ireturn, 1) := by decide +kernel
theorem dX11_no_4 : decode cX11_no 4 = .ok (.iconst 1, 1) := by decide +kernel
theorem dX11_no_5 : decode cX11_no 5 = .ok (.dup2, 1) := by decide +kernel
theorem dX11_no_6 : decode cX11_no 6 = .ok (.iaload, 1) := by decide +kernel
theorem dX11_no_7 : decode cX11_no 7 = .ok (.iconst 1, 1) := by decide +kernel
theorem dX11_no_8 : decode cX11_no 8 = .ok (.iadd, 1) := by decide +kernel
theorem dX11_no_9 : decode cX11_no 9 = .ok (.iastore, 1) := by decide +kernel
theorem dX11_note_0 : decode cX11_note 0 = .ok (.aload_n 0, 1) := by decide +kernel
theorem dX11_note_1 : decode cX11_note 1 = .ok (.iload_n 1, 1) := by decide +kernel
theorem dX11_note_2 : decode cX11_note 2 = .ok (.invokevirtual 123, 3) := by decide +kernel
theorem dX11_note_48 : decode cX11_note 48 = .ok (.aload_n 0, 1) := by decide +kernel
theorem dX11_note_49 : decode cX11_note 49 = .ok (.bipush (-2), 2) := by decide +kernel
theorem dX11_note_5 : decode cX11_note 5 = .ok (.ifCond .eq 43, 3) := by decide +kernel
theorem dX11_note_51 : decode cX11_note 51 = .ok (.invokevirtual 68, 3) := by decide +kernel
theorem dX11_note_54 : decode cX11_note 54 = .ok (.ireturn, 1) := by decide +kernel
theorem dX11_of_0 : decode cX11_of 0 = .ok (.aload_n 0, 1) := by decide +kernel
theorem dX11_of_1 : decode cX11_of 1 = .ok (.iload_n 1, 1) := by decide +kernel
theorem dX11_of_2 : decode cX11_of 2 = .ok (.invokevirtual 123, 3) := by decide +kernel
theorem dX11_of_29 : decode cX11_of 29 = .ok (.aload_n 0, 1) := by decide +kernel
theorem dX11_of_30 : decode cX11_of 30 = .ok (.bipush (-2), 2) := by decide +kernel
theorem dX11_of_32 : decode cX11_of 32 = .ok (.invokevirtual 68, 3) := by decide +kernel
theorem dX11_of_35 : decode cX11_of 35 = .ok (.ireturn, 1) := by decide +kernel
theorem dX11_of_5 : decode cX11_of 5 = .ok (.ifCond .eq 24, 3) := by decide +kernel
theorem dX11_one_0 : decode cX11_one 0 = .ok (.iload_n 1, 1) := by decide +kernel
theorem dX11_one_1 : decode cX11_one 1 = .ok (.invokestatic 72, 3) := by decide +kernel
theorem dX11_one_11 : decode cX11_one 11 = .ok (.ifCond .eq 10, 3) := by decide +kernel
theorem dX11_one_14 : decode cX11_one 14 = .ok (.iload_n 3, 1) := by decide +kernel
theorem dX11_one_15 : decode cX11_one 15 = .ok (.invokestatic 72, 3) := by decide +kernel
theorem dX11_one_18 : decode cX11_one 18 = .ok (.ifCond .ne 10, 3) := by decide +kernel
theorem dX11_one_21 : decode cX11_one 21 = .ok (.aload_n 0, 1) := by decide +kernel
theorem dX11_one_22 : decode cX11_one 22 = .ok (.bipush (-2), 2) := by decide +kernel
theorem dX11_one_24 : decode cX11_one 24 = .ok (.invokevirtual 68, 3) := by decide +kernel
theorem dX11_one_27 : decode cX11_one 27 = .ok (.ireturn, 1) := by decide +kernel
theorem dX11_one_28 : decode cX11_one 28 = .ok (.aload_n 0, 1) := by decide +kernel
theorem dX11_one_29 : decode cX11_one 29 = .ok (.invokevirtual 52, 3) := by decide +kernel
theorem dX11_one_32 : decode cX11_one 32 = .ok (.bipush 6, 2) := by decide +kernel
theorem dX11_one_34 : decode cX11_one 34 = .ok (.if_icmp .ne 8, 3) := by decide +kernel
theorem dX11_one_4 : decode cX11_one 4 = .ok (.ifCond .eq 17, 3) := by decide +kernel
theorem dX11_one_42 : decode cX11_one 42 = .ok (.aload_n 0, 1) := by decide +kernel
theorem dX11_one_43 : decode cX11_one 43 = .ok (.getfield 7, 3) := by decide +kernel
theorem dX11_one_46 : decode cX11_one 46 = .ok (.iload_n 1, 1) := by decide +kernel
theorem dX11_one_47 : decode cX11_one 47 = .ok (.iload_n 2, 1) := by decide +kernel
theorem dX11_one_48 : decode cX11_one 48 = .ok (.iload_n 3, 1) := by decide +kernel
theorem dX11_one_49 : decode cX11_one 49 = .ok (.invokestatic 82, 3) := by decide +kernel
theorem dX11_one_52 : decode cX11_one 52 = .ok (.aload_n 0, 1) := by decide +kernel
theorem dX11_one_53 : decode cX11_one 53 = .ok (.getfield 7, 3) := by decide +kernel
theorem dX11_one_56 : decode cX11_one 56 = .ok (.iconst 4, 1) := by decide +kernel
theorem dX11_one_57 : decode cX11_one 57 = .ok (.iconst 0, 1) := by decide +kernel
theorem dX11_one_58 : decode cX11_one 58 = .ok (.iastore, 1) := by decide +kernel
theorem dX11_one_59 : decode cX11_one 59 = .ok (.aload_n 0, 1) := by decide +kernel
theorem dX11_one_60 : decode cX11_one 60 = .ok (.invokevirtual 52, 3) := by decide +kernel
theorem dX11_one_63 : decode cX11_one 63 = .ok (.iconst 1, 1) := by decide +kernel
theorem dX11_one_64 : decode cX11_one 64 = .ok (.isub, 1) := by decide +kernel
theorem dX11_one_65 : decode cX11_one 65 = .ok (.ireturn, 1) := by decide +kernel
theorem dX11_one_7 : decode cX11_one 7 = .ok (.iload_n 2, 1) := by decide +kernel
theorem dX11_one_8 : decode cX11_one 8 = .ok (.invokestatic 76, 3) := by decide +kernel
theorem dX11_order_0 : decode cX11_order 0 = .ok (.iload_n 1, 1) := by decide +kernel
theorem dX11_order_1 : decode cX11_order 1 = .ok (.ifCond .ge 10, 3) := by decide +kernel
theorem dX11_order_10 : decode cX11_order 10 = .ok (.ireturn, 1) := by decide +kernel
theorem dX11_order_11 : decode cX11_order 11 = .ok (.iload_n 1, 1) := by decide +kernel
theorem dX11_order_12 : decode cX11_order 12 = .ok (.aload_n 0, 1) := by decide +kernel
theorem dX11_order_13 : decode cX11_order 13 = .ok (.invokevirtual 52, 3) := by decide +kernel
theorem dX11_order_16 : decode cX11_order 16 = .ok (.if_icmp .lt 8, 3) := by decide +kernel
theorem dX11_order_19 : decode cX11_order 19 = .ok (.aload_n 0, 1) := by decide +kernel
theorem dX11_order_20 : decode cX11_order 20 = .ok (.invokevirtual 129, 3) := by decide +kernel
theorem dX11_order_23 : decode cX11_order 23 = .ok (.ireturn, 1) := by decide +kernel
theorem dX11_order_4 : decode cX11_order 4 = .ok (.aload_n 0, 1) := by decide +kernel
theorem dX11_order_5 : decode cX11_order 5 = .ok (.bipush (-2), 2) := by decide +kernel
theorem dX11_order_7 : decode cX11_order 7 = .ok (.invokevirtual 68, 3) := by decide +kernel
theorem dX11_pair_0 : decode cX11_pair 0 = .ok (.aload_n 0, 1) := by decide +kernel
theorem dX11_pair_1 : decode cX11_pair 1 = .ok (.iload_n 1, 1) := by decide +kernel
theorem dX11_pair_2 : decode cX11_pair 2 = .ok (.invokevirtual 123, 3) := by decide +kernel
theorem dX11_pair_26 : decode cX11_pair 26 = .ok (.aload_n 0, 1) := by decide +kernel
theorem dX11_pair_27 : decode cX11_pair 27 = .ok (.bipush (-10), 2) := by decide +kernel
theorem dX11_pair_29 : decode cX11_pair 29 = .ok (.invokevirtual 68, 3) := by decide +kernel
theorem dX11_pair_32 : decode cX11_pair 32 = .ok (.ireturn, 1) := by decide +kernel
theorem dX11_pair_5 : decode cX11_pair 5 = .ok (.ifCond .eq 21, 3) := by decide +kernel
theorem dX11_part_0 : decode cX11_part 0 = .ok (.iload_n 1, 1) := by decide +kernel
theorem dX11_part_1 : decode cX11_part 1 = .ok (.ifCond .ne 10, 3) := by decide +kernel
theorem dX11_part_11 : decode cX11_part 11 = .ok (.iload_n 1, 1) := by decide +kernel
theorem dX11_part_12 : decode cX11_part 12 = .ok (.iconst 1, 1) := by decide +kernel
theorem dX11_part_13 : decode cX11_part 13 = .ok (.if_icmp .ne 10, 3) := by decide +kernel
theorem dX11_part_16 : decode cX11_part 16 = .ok (.aload_n 0, 1) := by decide +kernel
theorem dX11_part_17 : decode cX11_part 17 = .ok (.getfield 23, 3) := by decide +kernel
theorem dX11_part_20 : decode cX11_part 20 = .ok (.goto 10, 3) := by decide +kernel
theorem dX11_part_23 : decode cX11_part 23 = .ok (.aload_n 0, 1) := by decide +kernel
theorem dX11_part_24 : decode cX11_part 24 = .ok (.bipush (-2), 2) := by decide +kernel
theorem dX11_part_26 : decode cX11_part 26 = .ok (.invokevirtual 68, 3) := by decide +kernel
theorem dX11_part_29 : decode cX11_part 29 = .ok (.i2l, 1) := by decide +kernel
theorem dX11_part_30 : decode cX11_part 30 = .ok (.lreturn, 1) := by decide +kernel
theorem dX11_part_4 : decode cX11_part 4 = .ok (.aload_n 0, 1) := by decide +kernel
theorem dX11_part_5 : decode cX11_part 5 = .ok (.getfield 182, 3) := by decide +kernel
theorem dX11_part_8 : decode cX11_part 8 = .ok (.goto 22, 3) := by decide +kernel
theorem dX11_race_0 : decode cX11_race 0 = .ok (.iload_n 1, 1) := by decide +kernel
theorem dX11_race_1 : decode cX11_race 1 = .ok (.i2l, 1) := by decide +kernel
theorem dX11_race_11 : decode cX11_race 11 = .ok (.ifCond .ne 10, 3) := by decide +kernel
theorem dX11_race_14 : decode cX11_race 14 = .ok (.aload_n 0, 1) := by decide +kernel
theorem dX11_race_15 : decode cX11_race 15 = .ok (.bipush (-2), 2) := by decide +kernel
theorem dX11_race_17 : decode cX11_race 17 = .ok (.invokevirtual 68, 3) := by decide +kernel
theorem dX11_race_2 : decode cX11_race 2 = .ok (.ldc2_w 64, 3) := by decide +kernel
theorem dX11_race_20 : decode cX11_race 20 = .ok (.ireturn, 1) := by decide +kernel
theorem dX11_race_21 : decode cX11_race 21 = .ok (.aload_n 0, 1) := by decide +kernel
theorem dX11_race_22 : decode cX11_race 22 = .ok (.invokevirtual 52, 3) := by decide +kernel
theorem dX11_race_25 : decode cX11_race 25 = .ok (.istore_n 2, 1) := by decide +kernel
theorem dX11_race_26 : decode cX11_race 26 = .ok (.aload_n 0, 1) := by decide +kernel
theorem dX11_race_27 : decode cX11_race 27 = .ok (.getfield 7, 3) := by decide +kernel
theorem dX11_race_30 : decode cX11_race 30 = .ok (.iload_n 1, 1) := by decide +kernel
theorem dX11_race_31 : decode cX11_race 31 = .ok (.invokestatic 48, 3) := by decide +kernel
theorem dX11_race_34 : decode cX11_race 34 = .ok (.iload_n 2, 1) := by decide +kernel
theorem dX11_race_35 : decode cX11_race 35 = .ok (.ireturn, 1) := by decide +kernel
theorem dX11_race_5 : decode cX11_race 5 = .ok (.ldc2_w 66, 3) := by decide +kernel
theorem dX11_race_8 : decode cX11_race 8 = .ok (.invokestatic 56, 3) := by decide +kernel
theorem dX11_races_0 : decode cX11_races 0 = .ok (.iload_n 1, 1) := by decide +kernel
theorem dX11_races_1 : decode cX11_races 1 = .ok (.i2l, 1) := by decide +kernel
theorem dX11_races_102 : decode cX11_races 102 = .ok (.aload_n 0, 1) := by decide +kernel
theorem dX11_races_103 : decode cX11_races 103 = .ok (.getfield 27, 3) := by decide +kernel
theorem dX11_races_106 : decode cX11_races 106 = .ok (.invokestatic 109, 3) := by decide +kernel
theorem dX11_races_109 : decode cX11_races 109 = .ok (.iinc 5 1, 3) := by decide +kernel
theorem dX11_races_112 : decode cX11_races 112 = .ok (.goto (-71), 3) := by decide +kernel
theorem dX11_races_115 : decode cX11_races 115 = .ok (.aload_n 0, 1) := by decide +kernel
theorem dX11_races_116 : decode cX11_races 116 = .ok (.getfield 27, 3) := by decide +kernel
theorem dX11_races_119 : decode cX11_races 119 = .ok (.invokestatic 119, 3) := by decide +kernel
theorem dX11_races_12 : decode cX11_races 12 = .ok (.iload_n 2, 1) := by decide +kernel
theorem dX11_races_122 : decode cX11_races 122 = .ok (.ireturn, 1) := by decide +kernel
theorem dX11_races_13 : decode cX11_races 13 = .ok (.i2l, 1) := by decide +kernel
theorem dX11_races_14 : decode cX11_races 14 = .ok (.lconst 0, 1) := by decide +kernel
theorem dX11_races_15 : decode cX11_races 15 = .ok (.ldc2_w 66, 3) := by decide +kernel
theorem dX11_races_18 : decode cX11_races 18 = .ok (.invokestatic 56, 3) := by decide +kernel
theorem dX11_races_2 : decode cX11_races 2 = .ok (.lconst 0, 1) := by decide +kernel
theorem dX11_races_21 : decode cX11_races 21 = .ok (.ifCond .ne 10, 3) := by decide +kernel
theorem dX11_races_24 : decode cX11_races 24 = .ok (.aload_n 0, 1) := by decide +kernel
theorem dX11_races_25 : decode cX11_races 25 = .ok (.bipush (-2), 2) := by decide +kernel
theorem dX11_races_27 : decode cX11_races 27 = .ok (.invokevirtual 68, 3) := by decide +kernel
theorem dX11_races_3 : decode cX11_races 3 = .ok (.ldc2_w 191, 3) := by decide +kernel
theorem dX11_races_30 : decode cX11_races 30 = .ok (.ireturn, 1) := by decide +kernel
theorem dX11_races_31 : decode cX11_races 31 = .ok (.iload_n 1, 1) := by decide +kernel
theorem dX11_races_32 : decode cX11_races 32 = .ok (.i2l, 1) := by decide +kernel
theorem dX11_races_33 : decode cX11_races 33 = .ok (.lstore_n 3, 1) := by decide +kernel
theorem dX11_races_34 : decode cX11_races 34 = .ok (.aload_n 0, 1) := by decide +kernel
theorem dX11_races_35 : decode cX11_races 35 = .ok (.invokevirtual 137, 3) := by decide +kernel
theorem dX11_races_38 : decode cX11_races 38 = .ok (.iconst 0, 1) := by decide +kernel
theorem dX11_races_39 : decode cX11_races 39 = .ok (.istore 5, 2) := by decide +kernel
theorem dX11_races_41 : decode cX11_races 41 = .ok (.iload 5, 2) := by decide +kernel
theorem dX11_races_43 : decode cX11_races 43 = .ok (.iload_n 2, 1) := by decide +kernel
theorem dX11_races_44 : decode cX11_races 44 = .ok (.if_icmp .ge 71, 3) := by decide +kernel
theorem dX11_races_47 : decode cX11_races 47 = .ok (.lload_n 3, 1) := by decide +kernel
theorem dX11_races_48 : decode cX11_races 48 = .ok (.ldc2_w 193, 3) := by decide +kernel
theorem dX11_races_51 : decode cX11_races 51 = .ok (.lmul, 1) := by decide +kernel
theorem dX11_races_52 : decode cX11_races 52 = .ok (.ldc2_w 195, 3) := by decide +kernel
theorem dX11_races_55 : decode cX11_races 55 = .ok (.ladd, 1) := by decide +kernel
theorem dX11_races_56 : decode cX11_races 56 = .ok (.ldc2_w 197, 3) := by decide +kernel
theorem dX11_races_59 : decode cX11_races 59 = .ok (.lrem, 1) := by decide +kernel
theorem dX11_races_6 : decode cX11_races 6 = .ok (.invokestatic 56, 3) := by decide +kernel
theorem dX11_races_60 : decode cX11_races 60 = .ok (.lstore_n 3, 1) := by decide +kernel
theorem dX11_races_61 : decode cX11_races 61 = .ok (.lload_n 3, 1) := by decide +kernel
theorem dX11_races_62 : decode cX11_races 62 = .ok (.ldc2_w 199, 3) := by decide +kernel
theorem dX11_races_65 : decode cX11_races 65 = .ok (.ldiv, 1) := by decide +kernel
theorem dX11_races_66 : decode cX11_races 66 = .ok (.ldc2_w 185, 3) := by decide +kernel
theorem dX11_races_69 : decode cX11_races 69 = .ok (.lrem, 1) := by decide +kernel
theorem dX11_races_70 : decode cX11_races 70 = .ok (.l2i, 1) := by decide +kernel
theorem dX11_races_71 : decode cX11_races 71 = .ok (.istore 6, 2) := by decide +kernel
theorem dX11_races_73 : decode cX11_races 73 = .ok (.aload_n 0, 1) := by decide +kernel
theorem dX11_races_74 : decode cX11_races 74 = .ok (.iload 6, 2) := by decide +kernel
theorem dX11_races_76 : decode cX11_races 76 = .ok (.invokevirtual 123, 3) := by decide +kernel
theorem dX11_races_79 : decode cX11_races 79 = .ok (.ifCond .eq 23, 3) := by decide +kernel
theorem dX11_races_9 : decode cX11_races 9 = .ok (.ifCond .eq 15, 3) := by decide +kernel
theorem dX11_read_0 : decode cX11_read 0 = .ok (.aload_n 0, 1) := by decide +kernel
theorem dX11_read_1 : decode cX11_read 1 = .ok (.iconst 0, 1) := by decide +kernel
theorem dX11_read_11 : decode cX11_read 11 = .ok (.bipush 99, 2) := by decide +kernel
theorem dX11_read_13 : decode cX11_read 13 = .ok (.bipush 101, 2) := by decide +kernel
theorem dX11_read_15 : decode cX11_read 15 = .ok (.iconst 0, 1) := by decide +kernel
theorem dX11_read_16 : decode cX11_read 16 = .ok (.iconst 0, 1) := by decide +kernel
theorem dX11_read_17 : decode cX11_read 17 = .ok (.invokevirtual 245, 3) := by decide +kernel
theorem dX11_read_2 : decode cX11_read 2 = .ok (.invokevirtual 235, 3) := by decide +kernel
theorem dX11_read_20 : decode cX11_read 20 = .ok (.ifCond .ne 11, 3) := by decide +kernel
theorem dX11_read_23 : decode cX11_read 23 = .ok (.bipush (-10), 2) := by decide +kernel
theorem dX11_read_25 : decode cX11_read 25 = .ok (.aload_n 0, 1) := by decide +kernel
theorem dX11_read_26 : decode cX11_read 26 = .ok (.getfield 217, 3) := by decide +kernel
theorem dX11_read_29 : decode cX11_read 29 = .ok (.isub, 1) := by decide +kernel
theorem dX11_read_30 : decode cX11_read 30 = .ok (.ireturn, 1) := by decide +kernel
theorem dX11_read_5 : decode cX11_read 5 = .ok (.aload_n 0, 1) := by decide +kernel
theorem dX11_read_6 : decode cX11_read 6 = .ok (.iconst 4, 1) := by decide +kernel
theorem dX11_read_7 : decode cX11_read 7 = .ok (.bipush 114, 2) := by decide +kernel
theorem dX11_read_9 : decode cX11_read 9 = .ok (.bipush 97, 2) := by decide +kernel
theorem dX11_save_0 : decode cX11_save 0 = .ok (.aload_n 0, 1) := by decide +kernel
theorem dX11_save_1 : decode cX11_save 1 = .ok (.getfield 7, 3) := by decide +kernel
theorem dX11_save_100 : decode cX11_save 100 = .ok (.iaload, 1) := by decide +kernel
theorem dX11_save_101 : decode cX11_save 101 = .ok (.iconst 1, 1) := by decide +kernel
theorem dX11_save_102 : decode cX11_save 102 = .ok (.iadd, 1) := by decide +kernel
theorem dX11_save_103 : decode cX11_save 103 = .ok (.iastore, 1) := by decide +kernel
theorem dX11_save_104 : decode cX11_save 104 = .ok (.return_, 1) := by decide +kernel
theorem dX11_save_4 : decode cX11_save 4 = .ok (.iconst 4, 1) := by decide +kernel
theorem dX11_save_5 : decode cX11_save 5 = .ok (.iaload, 1) := by decide +kernel
theorem dX11_save_53 : decode cX11_save 53 = .ok (.iconst 0, 1) := by decide +kernel
theorem dX11_save_54 : decode cX11_save 54 = .ok (.istore_n 1, 1) := by decide +kernel
theorem dX11_save_55 : decode cX11_save 55 = .ok (.iload_n 1, 1) := by decide +kernel
theorem dX11_save_56 : decode cX11_save 56 = .ok (.bipush 31, 2) := by decide +kernel
theorem dX11_save_58 : decode cX11_save 58 = .ok (.if_icmp .ge 36, 3) := by decide +kernel
theorem dX11_save_6 : decode cX11_save 6 = .ok (.bipush 8, 2) := by decide +kernel
theorem dX11_save_61 : decode cX11_save 61 = .ok (.aload_n 0, 1) := by decide +kernel
theorem dX11_save_62 : decode cX11_save 62 = .ok (.getfield 7, 3) := by decide +kernel
theorem dX11_save_65 : decode cX11_save 65 = .ok (.bipush 123, 2) := by decide +kernel
theorem dX11_save_67 : decode cX11_save 67 = .ok (.bipush 31, 2) := by decide +kernel
theorem dX11_save_69 : decode cX11_save 69 = .ok (.aload_n 0, 1) := by decide +kernel
theorem dX11_save_70 : decode cX11_save 70 = .ok (.getfield 7, 3) := by decide +kernel
theorem dX11_save_73 : decode cX11_save 73 = .ok (.iconst 4, 1) := by decide +kernel
theorem dX11_save_74 : decode cX11_save 74 = .ok (.iaload, 1) := by decide +kernel
theorem dX11_save_75 : decode cX11_save 75 = .ok (.imul, 1) := by decide +kernel
theorem dX11_save_76 : decode cX11_save 76 = .ok (.iadd, 1) := by decide +kernel
theorem dX11_save_77 : decode cX11_save 77 = .ok (.iload_n 1, 1) := by decide +kernel
theorem dX11_save_78 : decode cX11_save 78 = .ok (.iadd, 1) := by decide +kernel
theorem dX11_save_79 : decode cX11_save 79 = .ok (.aload_n 0, 1) := by decide +kernel
theorem dX11_save_8 : decode cX11_save 8 = .ok (.if_icmp .ne 45, 3) := by decide +kernel
theorem dX11_save_80 : decode cX11_save 80 = .ok (.getfield 7, 3) := by decide +kernel
theorem dX11_save_83 : decode cX11_save 83 = .ok (.iconst 5, 1) := by decide +kernel
theorem dX11_save_84 : decode cX11_save 84 = .ok (.iload_n 1, 1) := by decide +kernel
theorem dX11_save_85 : decode cX11_save 85 = .ok (.iadd, 1) := by decide +kernel
theorem dX11_save_86 : decode cX11_save 86 = .ok (.iaload, 1) := by decide +kernel
theorem dX11_save_87 : decode cX11_save 87 = .ok (.iastore, 1) := by decide +kernel
theorem dX11_save_88 : decode cX11_save 88 = .ok (.iinc 1 1, 3) := by decide +kernel
theorem dX11_save_91 : decode cX11_save 91 = .ok (.goto (-36), 3) := by decide +kernel
theorem dX11_save_94 : decode cX11_save 94 = .ok (.aload_n 0, 1) := by decide +kernel
theorem dX11_save_95 : decode cX11_save 95 = .ok (.getfield 7, 3) := by decide +kernel
theorem dX11_save_98 : decode cX11_save 98 = .ok (.iconst 4, 1) := by decide +kernel
theorem dX11_save_99 : decode cX11_save 99 = .ok (.dup2, 1) := by decide +kernel
theorem dX11_seen_0 : decode cX11_seen 0 = .ok (.aload_n 0, 1) := by decide +kernel
theorem dX11_seen_1 : decode cX11_seen 1 = .ok (.iload_n 1, 1) := by decide +kernel
theorem dX11_seen_2 : decode cX11_seen 2 = .ok (.invokevirtual 123, 3) := by decide +kernel
theorem dX11_seen_40 : decode cX11_seen 40 = .ok (.aload_n 0, 1) := by decide +kernel
theorem dX11_seen_41 : decode cX11_seen 41 = .ok (.bipush (-2), 2) := by decide +kernel
theorem dX11_seen_43 : decode cX11_seen 43 = .ok (.invokevirtual 68, 3) := by decide +kernel
theorem dX11_seen_46 : decode cX11_seen 46 = .ok (.ireturn, 1) := by decide +kernel
theorem dX11_seen_5 : decode cX11_seen 5 = .ok (.ifCond .eq 35, 3) := by decide +kernel
theorem dX11_speed_0 : decode cX11_speed 0 = .ok (.aload_n 0, 1) := by decide +kernel
theorem dX11_speed_1 : decode cX11_speed 1 = .ok (.iload_n 1, 1) := by decide +kernel
theorem dX11_speed_15 : decode cX11_speed 15 = .ok (.aload_n 0, 1) := by decide +kernel
theorem dX11_speed_16 : decode cX11_speed 16 = .ok (.bipush (-2), 2) := by decide +kernel
theorem dX11_speed_18 : decode cX11_speed 18 = .ok (.invokevirtual 68, 3) := by decide +kernel
theorem dX11_speed_2 : decode cX11_speed 2 = .ok (.invokevirtual 123, 3) := by decide +kernel
theorem dX11_speed_21 : decode cX11_speed 21 = .ok (.ireturn, 1) := by decide +kernel
theorem dX11_speed_5 : decode cX11_speed 5 = .ok (.ifCond .eq 10, 3) := by decide +kernel
theorem dX11_spells_0 : decode cX11_spells 0 = .ok (.aload_n 0, 1) := by decide +kernel
theorem dX11_spells_1 : decode cX11_spells 1 = .ok (.getfield 223, 3) := by decide +kernel
theorem dX11_spells_119 : decode cX11_spells 119 = .ok (.iload 8, 2) := by decide +kernel
theorem dX11_spells_121 : decode cX11_spells 121 = .ok (.ireturn, 1) := by decide +kernel
theorem dX11_spells_20 : decode cX11_spells 20 = .ok (.iconst 0, 1) := by decide +kernel
theorem dX11_spells_21 : decode cX11_spells 21 = .ok (.istore 8, 2) := by decide +kernel
theorem dX11_spells_23 : decode cX11_spells 23 = .ok (.iconst 0, 1) := by decide +kernel
theorem dX11_spells_24 : decode cX11_spells 24 = .ok (.istore 9, 2) := by decide +kernel
theorem dX11_spells_26 : decode cX11_spells 26 = .ok (.iload 9, 2) := by decide +kernel
theorem dX11_spells_28 : decode cX11_spells 28 = .ok (.iload_n 1, 1) := by decide +kernel
theorem dX11_spells_29 : decode cX11_spells 29 = .ok (.if_icmp .ge 90, 3) := by decide +kernel
theorem dX11_spells_32 : decode cX11_spells 32 = .ok (.iload 8, 2) := by decide +kernel
theorem dX11_spells_34 : decode cX11_spells 34 = .ok (.ifCond .eq 85, 3) := by decide +kernel
theorem dX11_spells_4 : decode cX11_spells 4 = .ok (.iconst 1, 1) := by decide +kernel
theorem dX11_spells_5 : decode cX11_spells 5 = .ok (.if_icmp .ne 15, 3) := by decide +kernel
theorem dX11_start_0 : decode cX11_start 0 = .ok (.aload_n 0, 1) := by decide +kernel
theorem dX11_start_1 : decode cX11_start 1 = .ok (.iload_n 1, 1) := by decide +kernel
theorem dX11_start_2 : decode cX11_start 2 = .ok (.invokevirtual 123, 3) := by decide +kernel
theorem dX11_start_20 : decode cX11_start 20 = .ok (.aload_n 0, 1) := by decide +kernel
theorem dX11_start_21 : decode cX11_start 21 = .ok (.bipush (-2), 2) := by decide +kernel
theorem dX11_start_23 : decode cX11_start 23 = .ok (.invokevirtual 68, 3) := by decide +kernel
theorem dX11_start_26 : decode cX11_start 26 = .ok (.ireturn, 1) := by decide +kernel
theorem dX11_start_5 : decode cX11_start 5 = .ok (.ifCond .eq 15, 3) := by decide +kernel
theorem dX11_status_0 : decode cX11_status 0 = .ok (.iload_n 1, 1) := by decide +kernel
theorem dX11_status_1 : decode cX11_status 1 = .ok (.i2l, 1) := by decide +kernel
theorem dX11_status_12 : decode cX11_status 12 = .ok (.aload_n 0, 1) := by decide +kernel
theorem dX11_status_13 : decode cX11_status 13 = .ok (.getfield 20, 3) := by decide +kernel
theorem dX11_status_16 : decode cX11_status 16 = .ok (.iload_n 1, 1) := by decide +kernel
theorem dX11_status_17 : decode cX11_status 17 = .ok (.iaload, 1) := by decide +kernel
theorem dX11_status_18 : decode cX11_status 18 = .ok (.goto 8, 3) := by decide +kernel
theorem dX11_status_2 : decode cX11_status 2 = .ok (.lconst 0, 1) := by decide +kernel
theorem dX11_status_21 : decode cX11_status 21 = .ok (.aload_n 0, 1) := by decide +kernel
theorem dX11_status_22 : decode cX11_status 22 = .ok (.iconst (-1), 1) := by decide +kernel
theorem dX11_status_23 : decode cX11_status 23 = .ok (.invokevirtual 68, 3) := by decide +kernel
theorem dX11_status_26 : decode cX11_status 26 = .ok (.ireturn, 1) := by decide +kernel
theorem dX11_status_3 : decode cX11_status 3 = .ok (.ldc2_w 156, 3) := by decide +kernel
theorem dX11_status_6 : decode cX11_status 6 = .ok (.invokestatic 56, 3) := by decide +kernel
theorem dX11_status_9 : decode cX11_status 9 = .ok (.ifCond .eq 12, 3) := by decide +kernel
theorem dX11_strong_0 : decode cX11_strong 0 = .ok (.aload_n 0, 1) := by decide +kernel
theorem dX11_strong_1 : decode cX11_strong 1 = .ok (.iload_n 1, 1) := by decide +kernel
theorem dX11_strong_2 : decode cX11_strong 2 = .ok (.invokevirtual 123, 3) := by decide +kernel
theorem dX11_strong_20 : decode cX11_strong 20 = .ok (.aload_n 0, 1) := by decide +kernel
theorem dX11_strong_21 : decode cX11_strong 21 = .ok (.bipush (-2), 2) := by decide +kernel
theorem dX11_strong_23 : decode cX11_strong 23 = .ok (.invokevirtual 68, 3) := by decide +kernel
theorem dX11_strong_26 : decode cX11_strong 26 = .ok (.ireturn, 1) := by decide +kernel
theorem dX11_strong_5 : decode cX11_strong 5 = .ok (.ifCond .eq 15, 3) := by decide +kernel
theorem dX11_stumble_0 : decode cX11_stumble 0 = .ok (.aload_n 0, 1) := by decide +kernel
theorem dX11_stumble_1 : decode cX11_stumble 1 = .ok (.iload_n 1, 1) := by decide +kernel
theorem dX11_stumble_2 : decode cX11_stumble 2 = .ok (.invokevirtual 123, 3) := by decide +kernel
theorem dX11_stumble_45 : decode cX11_stumble 45 = .ok (.aload_n 0, 1) := by decide +kernel
theorem dX11_stumble_46 : decode cX11_stumble 46 = .ok (.bipush (-2), 2) := by decide +kernel
theorem dX11_stumble_48 : decode cX11_stumble 48 = .ok (.invokevirtual 68, 3) := by decide +kernel
theorem dX11_stumble_5 : decode cX11_stumble 5 = .ok (.ifCond .eq 40, 3) := by decide +kernel
theorem dX11_stumble_51 : decode cX11_stumble 51 = .ok (.ireturn, 1) := by decide +kernel
theorem dX11_sumOf_0 : decode cX11_sumOf 0 = .ok (.iconst 0, 1) := by decide +kernel
theorem dX11_sumOf_1 : decode cX11_sumOf 1 = .ok (.istore_n 2, 1) := by decide +kernel
theorem dX11_sumOf_2 : decode cX11_sumOf 2 = .ok (.iconst 0, 1) := by decide +kernel
theorem dX11_sumOf_29 : decode cX11_sumOf 29 = .ok (.iload_n 2, 1) := by decide +kernel
theorem dX11_sumOf_3 : decode cX11_sumOf 3 = .ok (.istore_n 3, 1) := by decide +kernel
theorem dX11_sumOf_30 : decode cX11_sumOf 30 = .ok (.ireturn, 1) := by decide +kernel
theorem dX11_sumOf_4 : decode cX11_sumOf 4 = .ok (.iload_n 3, 1) := by decide +kernel
theorem dX11_sumOf_5 : decode cX11_sumOf 5 = .ok (.aload_n 0, 1) := by decide +kernel
theorem dX11_sumOf_6 : decode cX11_sumOf 6 = .ok (.invokevirtual 52, 3) := by decide +kernel
theorem dX11_sumOf_9 : decode cX11_sumOf 9 = .ok (.if_icmp .ge 20, 3) := by decide +kernel
theorem dX11_sums_0 : decode cX11_sums 0 = .ok (.lload_n 1, 1) := by decide +kernel
theorem dX11_sums_1 : decode cX11_sums 1 = .ok (.lstore 5, 2) := by decide +kernel
theorem dX11_sums_10 : decode cX11_sums 10 = .ok (.if_icmp .ge 28, 3) := by decide +kernel
theorem dX11_sums_3 : decode cX11_sums 3 = .ok (.iconst 0, 1) := by decide +kernel
theorem dX11_sums_38 : decode cX11_sums 38 = .ok (.lload 5, 2) := by decide +kernel
theorem dX11_sums_4 : decode cX11_sums 4 = .ok (.istore 7, 2) := by decide +kernel
theorem dX11_sums_40 : decode cX11_sums 40 = .ok (.lreturn, 1) := by decide +kernel
theorem dX11_sums_6 : decode cX11_sums 6 = .ok (.iload 7, 2) := by decide +kernel
theorem dX11_sums_8 : decode cX11_sums 8 = .ok (.iload 4, 2) := by decide +kernel
theorem dX11_tell_0 : decode cX11_tell 0 = .ok (.aload_n 0, 1) := by decide +kernel
theorem dX11_tell_1 : decode cX11_tell 1 = .ok (.iload_n 1, 1) := by decide +kernel
theorem dX11_tell_11 : decode cX11_tell 11 = .ok (.invokevirtual 68, 3) := by decide +kernel
theorem dX11_tell_14 : decode cX11_tell 14 = .ok (.ireturn, 1) := by decide +kernel
theorem dX11_tell_2 : decode cX11_tell 2 = .ok (.invokevirtual 123, 3) := by decide +kernel
theorem dX11_tell_5 : decode cX11_tell 5 = .ok (.ifCond .ne 10, 3) := by decide +kernel
theorem dX11_tell_8 : decode cX11_tell 8 = .ok (.aload_n 0, 1) := by decide +kernel
theorem dX11_tell_9 : decode cX11_tell 9 = .ok (.bipush (-2), 2) := by decide +kernel
theorem dX11_ticks_0 : decode cX11_ticks 0 = .ok (.iload_n 1, 1) := by decide +kernel
theorem dX11_ticks_1 : decode cX11_ticks 1 = .ok (.i2l, 1) := by decide +kernel
theorem dX11_ticks_12 : decode cX11_ticks 12 = .ok (.aload_n 0, 1) := by decide +kernel
theorem dX11_ticks_13 : decode cX11_ticks 13 = .ok (.bipush (-2), 2) := by decide +kernel
theorem dX11_ticks_15 : decode cX11_ticks 15 = .ok (.invokevirtual 68, 3) := by decide +kernel
theorem dX11_ticks_18 : decode cX11_ticks 18 = .ok (.ireturn, 1) := by decide +kernel
theorem dX11_ticks_19 : decode cX11_ticks 19 = .ok (.aload_n 0, 1) := by decide +kernel
theorem dX11_ticks_2 : decode cX11_ticks 2 = .ok (.lconst 1, 1) := by decide +kernel
theorem dX11_ticks_20 : decode cX11_ticks 20 = .ok (.invokevirtual 113, 3) := by decide +kernel
theorem dX11_ticks_23 : decode cX11_ticks 23 = .ok (.aload_n 0, 1) := by decide +kernel
theorem dX11_ticks_24 : decode cX11_ticks 24 = .ok (.getfield 7, 3) := by decide +kernel
theorem dX11_ticks_27 : decode cX11_ticks 27 = .ok (.iload_n 1, 1) := by decide +kernel
theorem dX11_ticks_28 : decode cX11_ticks 28 = .ok (.invokestatic 116, 3) := by decide +kernel
theorem dX11_ticks_3 : decode cX11_ticks 3 = .ok (.ldc2_w 66, 3) := by decide +kernel
theorem dX11_ticks_31 : decode cX11_ticks 31 = .ok (.aload_n 0, 1) := by decide +kernel
theorem dX11_ticks_32 : decode cX11_ticks 32 = .ok (.getfield 7, 3) := by decide +kernel
theorem dX11_ticks_35 : decode cX11_ticks 35 = .ok (.invokestatic 119, 3) := by decide +kernel
theorem dX11_ticks_38 : decode cX11_ticks 38 = .ok (.ireturn, 1) := by decide +kernel
theorem dX11_ticks_6 : decode cX11_ticks 6 = .ok (.invokestatic 56, 3) := by decide +kernel
theorem dX11_ticks_9 : decode cX11_ticks 9 = .ok (.ifCond .ne 10, 3) := by decide +kernel
theorem dX11_turn_0 : decode cX11_turn 0 = .ok (.aload_n 0, 1) := by decide +kernel
theorem dX11_turn_1 : decode cX11_turn 1 = .ok (.iload_n 1, 1) := by decide +kernel
theorem dX11_turn_2 : decode cX11_turn 2 = .ok (.invokevirtual 123, 3) := by decide +kernel
theorem dX11_turn_25 : decode cX11_turn 25 = .ok (.aload_n 0, 1) := by decide +kernel
theorem dX11_turn_26 : decode cX11_turn 26 = .ok (.bipush (-2), 2) := by decide +kernel
theorem dX11_turn_28 : decode cX11_turn 28 = .ok (.invokevirtual 68, 3) := by decide +kernel
theorem dX11_turn_31 : decode cX11_turn 31 = .ok (.ireturn, 1) := by decide +kernel
theorem dX11_turn_5 : decode cX11_turn 5 = .ok (.ifCond .eq 20, 3) := by decide +kernel
theorem dX11_type_0 : decode cX11_type 0 = .ok (.iload_n 1, 1) := by decide +kernel
theorem dX11_type_1 : decode cX11_type 1 = .ok (.i2l, 1) := by decide +kernel
theorem dX11_type_12 : decode cX11_type 12 = .ok (.aload_n 0, 1) := by decide +kernel
theorem dX11_type_13 : decode cX11_type 13 = .ok (.bipush (-2), 2) := by decide +kernel
theorem dX11_type_15 : decode cX11_type 15 = .ok (.invokevirtual 68, 3) := by decide +kernel
theorem dX11_type_18 : decode cX11_type 18 = .ok (.ireturn, 1) := by decide +kernel
theorem dX11_type_19 : decode cX11_type 19 = .ok (.aload_n 0, 1) := by decide +kernel
theorem dX11_type_2 : decode cX11_type 2 = .ok (.lconst 0, 1) := by decide +kernel
theorem dX11_type_20 : decode cX11_type 20 = .ok (.getfield 205, 3) := by decide +kernel
theorem dX11_type_23 : decode cX11_type 23 = .ok (.sipush 150, 3) := by decide +kernel
theorem dX11_type_26 : decode cX11_type 26 = .ok (.if_icmp .ne 8, 3) := by decide +kernel
theorem dX11_type_3 : decode cX11_type 3 = .ok (.ldc2_w 203, 3) := by decide +kernel
theorem dX11_type_34 : decode cX11_type 34 = .ok (.aload_n 0, 1) := by decide +kernel
theorem dX11_type_35 : decode cX11_type 35 = .ok (.getfield 39, 3) := by decide +kernel
theorem dX11_type_38 : decode cX11_type 38 = .ok (.aload_n 0, 1) := by decide +kernel
theorem dX11_type_39 : decode cX11_type 39 = .ok (.getfield 205, 3) := by decide +kernel
theorem dX11_type_42 : decode cX11_type 42 = .ok (.iload_n 1, 1) := by decide +kernel
theorem dX11_type_43 : decode cX11_type 43 = .ok (.iastore, 1) := by decide +kernel
theorem dX11_type_44 : decode cX11_type 44 = .ok (.aload_n 0, 1) := by decide +kernel
theorem dX11_type_45 : decode cX11_type 45 = .ok (.dup, 1) := by decide +kernel
theorem dX11_type_46 : decode cX11_type 46 = .ok (.getfield 205, 3) := by decide +kernel
theorem dX11_type_49 : decode cX11_type 49 = .ok (.iconst 1, 1) := by decide +kernel
theorem dX11_type_50 : decode cX11_type 50 = .ok (.iadd, 1) := by decide +kernel
theorem dX11_type_51 : decode cX11_type 51 = .ok (.putfield 205, 3) := by decide +kernel
theorem dX11_type_54 : decode cX11_type 54 = .ok (.aload_n 0, 1) := by decide +kernel
theorem dX11_type_55 : decode cX11_type 55 = .ok (.getfield 205, 3) := by decide +kernel
theorem dX11_type_58 : decode cX11_type 58 = .ok (.ireturn, 1) := by decide +kernel
theorem dX11_type_6 : decode cX11_type 6 = .ok (.invokestatic 56, 3) := by decide +kernel
theorem dX11_type_9 : decode cX11_type 9 = .ok (.ifCond .ne 10, 3) := by decide +kernel
theorem dX11_undo_0 : decode cX11_undo 0 = .ok (.aload_n 0, 1) := by decide +kernel
theorem dX11_undo_1 : decode cX11_undo 1 = .ok (.getfield 7, 3) := by decide +kernel
theorem dX11_undo_10 : decode cX11_undo 10 = .ok (.invokevirtual 129, 3) := by decide +kernel
theorem dX11_undo_13 : decode cX11_undo 13 = .ok (.ireturn, 1) := by decide +kernel
theorem dX11_undo_4 : decode cX11_undo 4 = .ok (.iconst 4, 1) := by decide +kernel
theorem dX11_undo_5 : decode cX11_undo 5 = .ok (.iaload, 1) := by decide +kernel
theorem dX11_undo_6 : decode cX11_undo 6 = .ok (.ifCond .ne 8, 3) := by decide +kernel
theorem dX11_undo_9 : decode cX11_undo 9 = .ok (.aload_n 0, 1) := by decide +kernel
theorem dX11_where_0 : decode cX11_where 0 = .ok (.aload_n 0, 1) := by decide +kernel
theorem dX11_where_1 : decode cX11_where 1 = .ok (.iload_n 1, 1) := by decide +kernel
theorem dX11_where_2 : decode cX11_where 2 = .ok (.invokevirtual 123, 3) := by decide +kernel
theorem dX11_where_20 : decode cX11_where 20 = .ok (.aload_n 0, 1) := by decide +kernel
theorem dX11_where_21 : decode cX11_where 21 = .ok (.bipush (-2), 2) := by decide +kernel
theorem dX11_where_23 : decode cX11_where 23 = .ok (.invokevirtual 68, 3) := by decide +kernel
theorem dX11_where_26 : decode cX11_where 26 = .ok (.ireturn, 1) := by decide +kernel
theorem dX11_where_5 : decode cX11_where 5 = .ok (.ifCond .eq 15, 3) := by decide +kernel
theorem dX3_init_0 : decode cX3_init 0 = .ok (.aload_n 0, 1) := by decide +kernel
theorem dX3_init_1 : decode cX3_init 1 = .ok (.invokespecial 1, 3) := by decide +kernel
theorem dX3_init_4 : decode cX3_init 4 = .ok (.return_, 1) := by decide +kernel
theorem dX4_copyFrom_0 : decode cX4_copyFrom 0 = .ok (.aload_n 0, 1) := by decide +kernel
theorem dX4_copyFrom_1 : decode cX4_copyFrom 1 = .ok (.aload_n 1, 1) := by decide +kernel
theorem dX4_copyFrom_12 : decode cX4_copyFrom 12 = .ok (.iconst 0, 1) := by decide +kernel
theorem dX4_copyFrom_13 : decode cX4_copyFrom 13 = .ok (.aload_n 0, 1) := by decide +kernel
theorem dX4_copyFrom_14 : decode cX4_copyFrom 14 = .ok (.getfield 11, 3) := by decide +kernel
theorem dX4_copyFrom_17 : decode cX4_copyFrom 17 = .ok (.iconst 0, 1) := by decide +kernel
theorem dX4_copyFrom_18 : decode cX4_copyFrom 18 = .ok (.aload_n 1, 1) := by decide +kernel
theorem dX4_copyFrom_19 : decode cX4_copyFrom 19 = .ok (.getfield 15, 3) := by decide +kernel
theorem dX4_copyFrom_2 : decode cX4_copyFrom 2 = .ok (.getfield 15, 3) := by decide +kernel
theorem dX4_copyFrom_22 : decode cX4_copyFrom 22 = .ok (.bipush 31, 2) := by decide +kernel
theorem dX4_copyFrom_24 : decode cX4_copyFrom 24 = .ok (.imul, 1) := by decide +kernel
theorem dX4_copyFrom_25 : decode cX4_copyFrom 25 = .ok (.invokestatic 19, 3) := by decide +kernel
theorem dX4_copyFrom_28 : decode cX4_copyFrom 28 = .ok (.return_, 1) := by decide +kernel
theorem dX4_copyFrom_5 : decode cX4_copyFrom 5 = .ok (.putfield 15, 3) := by decide +kernel
theorem dX4_copyFrom_8 : decode cX4_copyFrom 8 = .ok (.aload_n 1, 1) := by decide +kernel
theorem dX4_copyFrom_9 : decode cX4_copyFrom 9 = .ok (.getfield 11, 3) := by decide +kernel
theorem dX4_init_0 : decode cX4_init 0 = .ok (.aload_n 0, 1) := by decide +kernel
theorem dX4_init_1 : decode cX4_init 1 = .ok (.invokespecial 5, 3) := by decide +kernel
theorem dX4_init_10 : decode cX4_init 10 = .ok (.putfield 11, 3) := by decide +kernel
theorem dX4_init_13 : decode cX4_init 13 = .ok (.aload_n 0, 1) := by decide +kernel
theorem dX4_init_14 : decode cX4_init 14 = .ok (.iconst 0, 1) := by decide +kernel
theorem dX4_init_15 : decode cX4_init 15 = .ok (.putfield 15, 3) := by decide +kernel
theorem dX4_init_18 : decode cX4_init 18 = .ok (.return_, 1) := by decide +kernel
theorem dX4_init_4 : decode cX4_init 4 = .ok (.aload_n 0, 1) := by decide +kernel
theorem dX4_init_5 : decode cX4_init 5 = .ok (.sipush 248, 3) := by decide +kernel
theorem dX4_init_8 : decode cX4_init 8 = .ok (.newarray .int, 2) := by decide +kernel
theorem dX4_pop_0 : decode cX4_pop 0 = .ok (.aload_n 0, 1) := by decide +kernel
theorem dX4_pop_1 : decode cX4_pop 1 = .ok (.getfield 15, 3) := by decide +kernel
theorem dX4_pop_4 : decode cX4_pop 4 = .ok (.ifCond .gt 5, 3) := by decide +kernel
theorem dX4_pop_7 : decode cX4_pop 7 = .ok (.iconst (-1), 1) := by decide +kernel
theorem dX4_pop_8 : decode cX4_pop 8 = .ok (.ireturn, 1) := by decide +kernel
theorem dX4_push_0 : decode cX4_push 0 = .ok (.aload_n 0, 1) := by decide +kernel
theorem dX4_push_1 : decode cX4_push 1 = .ok (.getfield 15, 3) := by decide +kernel
theorem dX4_push_101 : decode cX4_push 101 = .ok (.iload 5, 2) := by decide +kernel
theorem dX4_push_103 : decode cX4_push 103 = .ok (.iconst 2, 1) := by decide +kernel
theorem dX4_push_104 : decode cX4_push 104 = .ok (.iadd, 1) := by decide +kernel
theorem dX4_push_105 : decode cX4_push 105 = .ok (.aload_n 2, 1) := by decide +kernel
theorem dX4_push_106 : decode cX4_push 106 = .ok (.iload 4, 2) := by decide +kernel
theorem dX4_push_108 : decode cX4_push 108 = .ok (.aaload, 1) := by decide +kernel
theorem dX4_push_109 : decode cX4_push 109 = .ok (.getfield 33, 3) := by decide +kernel
theorem dX4_push_112 : decode cX4_push 112 = .ok (.iastore, 1) := by decide +kernel
theorem dX4_push_113 : decode cX4_push 113 = .ok (.aload_n 0, 1) := by decide +kernel
theorem dX4_push_114 : decode cX4_push 114 = .ok (.getfield 11, 3) := by decide +kernel
theorem dX4_push_117 : decode cX4_push 117 = .ok (.iload 5, 2) := by decide +kernel
theorem dX4_push_119 : decode cX4_push 119 = .ok (.iconst 3, 1) := by decide +kernel
theorem dX4_push_120 : decode cX4_push 120 = .ok (.iadd, 1) := by decide +kernel
theorem dX4_push_121 : decode cX4_push 121 = .ok (.aload_n 2, 1) := by decide +kernel
theorem dX4_push_122 : decode cX4_push 122 = .ok (.iload 4, 2) := by decide +kernel
theorem dX4_push_124 : decode cX4_push 124 = .ok (.aaload, 1) := by decide +kernel
theorem dX4_push_125 : decode cX4_push 125 = .ok (.getfield 36, 3) := by decide +kernel
theorem dX4_push_128 : decode cX4_push 128 = .ok (.iastore, 1) := by decide +kernel
theorem dX4_push_129 : decode cX4_push 129 = .ok (.aload_n 0, 1) := by decide +kernel
theorem dX4_push_130 : decode cX4_push 130 = .ok (.getfield 11, 3) := by decide +kernel
theorem dX4_push_133 : decode cX4_push 133 = .ok (.iload 5, 2) := by decide +kernel
theorem dX4_push_135 : decode cX4_push 135 = .ok (.iconst 4, 1) := by decide +kernel
theorem dX4_push_136 : decode cX4_push 136 = .ok (.iadd, 1) := by decide +kernel
theorem dX4_push_137 : decode cX4_push 137 = .ok (.aload_n 2, 1) := by decide +kernel
theorem dX4_push_138 : decode cX4_push 138 = .ok (.iload 4, 2) := by decide +kernel
theorem dX4_push_140 : decode cX4_push 140 = .ok (.aaload, 1) := by decide +kernel
theorem dX4_push_141 : decode cX4_push 141 = .ok (.getfield 39, 3) := by decide +kernel
theorem dX4_push_144 : decode cX4_push 144 = .ok (.iastore, 1) := by decide +kernel
theorem dX4_push_145 : decode cX4_push 145 = .ok (.iinc 4 1, 3) := by decide +kernel
theorem dX4_push_148 : decode cX4_push 148 = .ok (.goto (-98), 3) := by decide +kernel
theorem dX4_push_151 : decode cX4_push 151 = .ok (.aload_n 0, 1) := by decide +kernel
theorem dX4_push_152 : decode cX4_push 152 = .ok (.dup, 1) := by decide +kernel
theorem dX4_push_153 : decode cX4_push 153 = .ok (.getfield 15, 3) := by decide +kernel
theorem dX4_push_156 : decode cX4_push 156 = .ok (.iconst 1, 1) := by decide +kernel
theorem dX4_push_157 : decode cX4_push 157 = .ok (.iadd, 1) := by decide +kernel
theorem dX4_push_158 : decode cX4_push 158 = .ok (.putfield 15, 3) := by decide +kernel
theorem dX4_push_161 : decode cX4_push 161 = .ok (.return_, 1) := by decide +kernel
theorem dX4_push_32 : decode cX4_push 32 = .ok (.aload_n 0, 1) := by decide +kernel
theorem dX4_push_33 : decode cX4_push 33 = .ok (.getfield 15, 3) := by decide +kernel
theorem dX4_push_36 : decode cX4_push 36 = .ok (.bipush 31, 2) := by decide +kernel
theorem dX4_push_38 : decode cX4_push 38 = .ok (.imul, 1) := by decide +kernel
theorem dX4_push_39 : decode cX4_push 39 = .ok (.istore_n 3, 1) := by decide +kernel
theorem dX4_push_4 : decode cX4_push 4 = .ok (.bipush 8, 2) := by decide +kernel
theorem dX4_push_40 : decode cX4_push 40 = .ok (.aload_n 0, 1) := by decide +kernel
theorem dX4_push_41 : decode cX4_push 41 = .ok (.getfield 11, 3) := by decide +kernel
theorem dX4_push_44 : decode cX4_push 44 = .ok (.iload_n 3, 1) := by decide +kernel
theorem dX4_push_45 : decode cX4_push 45 = .ok (.iload_n 1, 1) := by decide +kernel
theorem dX4_push_46 : decode cX4_push 46 = .ok (.iastore, 1) := by decide +kernel
theorem dX4_push_47 : decode cX4_push 47 = .ok (.iconst 0, 1) := by decide +kernel
theorem dX4_push_48 : decode cX4_push 48 = .ok (.istore 4, 2) := by decide +kernel
theorem dX4_push_50 : decode cX4_push 50 = .ok (.iload 4, 2) := by decide +kernel
theorem dX4_push_52 : decode cX4_push 52 = .ok (.bipush 6, 2) := by decide +kernel
theorem dX4_push_54 : decode cX4_push 54 = .ok (.if_icmp .ge 97, 3) := by decide +kernel
theorem dX4_push_57 : decode cX4_push 57 = .ok (.iload_n 3, 1) := by decide +kernel
theorem dX4_push_58 : decode cX4_push 58 = .ok (.iconst 1, 1) := by decide +kernel
theorem dX4_push_59 : decode cX4_push 59 = .ok (.iadd, 1) := by decide +kernel
theorem dX4_push_6 : decode cX4_push 6 = .ok (.if_icmp .lt 26, 3) := by decide +kernel
theorem dX4_push_60 : decode cX4_push 60 = .ok (.iload 4, 2) := by decide +kernel
theorem dX4_push_62 : decode cX4_push 62 = .ok (.iconst 5, 1) := by decide +kernel
theorem dX4_push_63 : decode cX4_push 63 = .ok (.imul, 1) := by decide +kernel
theorem dX4_push_64 : decode cX4_push 64 = .ok (.iadd, 1) := by decide +kernel
theorem dX4_push_65 : decode cX4_push 65 = .ok (.istore 5, 2) := by decide +kernel
theorem dX4_push_67 : decode cX4_push 67 = .ok (.aload_n 0, 1) := by decide +kernel
theorem dX4_push_68 : decode cX4_push 68 = .ok (.getfield 11, 3) := by decide +kernel
theorem dX4_push_71 : decode cX4_push 71 = .ok (.iload 5, 2) := by decide +kernel
theorem dX4_push_73 : decode cX4_push 73 = .ok (.aload_n 2, 1) := by decide +kernel
theorem dX4_push_74 : decode cX4_push 74 = .ok (.iload 4, 2) := by decide +kernel
theorem dX4_push_76 : decode cX4_push 76 = .ok (.aaload, 1) := by decide +kernel
theorem dX4_push_77 : decode cX4_push 77 = .ok (.getfield 25, 3) := by decide +kernel
theorem dX4_push_80 : decode cX4_push 80 = .ok (.iastore, 1) := by decide +kernel
theorem dX4_push_81 : decode cX4_push 81 = .ok (.aload_n 0, 1) := by decide +kernel
theorem dX4_push_82 : decode cX4_push 82 = .ok (.getfield 11, 3) := by decide +kernel
theorem dX4_push_85 : decode cX4_push 85 = .ok (.iload 5, 2) := by decide +kernel
theorem dX4_push_87 : decode cX4_push 87 = .ok (.iconst 1, 1) := by decide +kernel
theorem dX4_push_88 : decode cX4_push 88 = .ok (.iadd, 1) := by decide +kernel
theorem dX4_push_89 : decode cX4_push 89 = .ok (.aload_n 2, 1) := by decide +kernel
theorem dX4_push_90 : decode cX4_push 90 = .ok (.iload 4, 2) := by decide +kernel
theorem dX4_push_92 : decode cX4_push 92 = .ok (.aaload, 1) := by decide +kernel
theorem dX4_push_93 : decode cX4_push 93 = .ok (.getfield 30, 3) := by decide +kernel
theorem dX4_push_96 : decode cX4_push 96 = .ok (.iastore, 1) := by decide +kernel
theorem dX4_push_97 : decode cX4_push 97 = .ok (.aload_n 0, 1) := by decide +kernel
theorem dX4_push_98 : decode cX4_push 98 = .ok (.getfield 11, 3) := by decide +kernel
theorem dX5_copyFrom_0 : decode cX5_copyFrom 0 = .ok (.aload_n 0, 1) := by decide +kernel
theorem dX5_copyFrom_1 : decode cX5_copyFrom 1 = .ok (.aload_n 1, 1) := by decide +kernel
theorem dX5_copyFrom_10 : decode cX5_copyFrom 10 = .ok (.getfield 30, 3) := by decide +kernel
theorem dX5_copyFrom_13 : decode cX5_copyFrom 13 = .ok (.invokevirtual 66, 3) := by decide +kernel
theorem dX5_copyFrom_16 : decode cX5_copyFrom 16 = .ok (.aload_n 0, 1) := by decide +kernel
theorem dX5_copyFrom_17 : decode cX5_copyFrom 17 = .ok (.getfield 39, 3) := by decide +kernel
theorem dX5_copyFrom_2 : decode cX5_copyFrom 2 = .ok (.invokevirtual 62, 3) := by decide +kernel
theorem dX5_copyFrom_20 : decode cX5_copyFrom 20 = .ok (.aload_n 1, 1) := by decide +kernel
theorem dX5_copyFrom_21 : decode cX5_copyFrom 21 = .ok (.getfield 39, 3) := by decide +kernel
theorem dX5_copyFrom_24 : decode cX5_copyFrom 24 = .ok (.invokevirtual 69, 3) := by decide +kernel
theorem dX5_copyFrom_27 : decode cX5_copyFrom 27 = .ok (.aload_n 0, 1) := by decide +kernel
theorem dX5_copyFrom_28 : decode cX5_copyFrom 28 = .ok (.getfield 43, 3) := by decide +kernel
theorem dX5_copyFrom_31 : decode cX5_copyFrom 31 = .ok (.aload_n 1, 1) := by decide +kernel
theorem dX5_copyFrom_32 : decode cX5_copyFrom 32 = .ok (.getfield 43, 3) := by decide +kernel
theorem dX5_copyFrom_35 : decode cX5_copyFrom 35 = .ok (.invokevirtual 69, 3) := by decide +kernel
theorem dX5_copyFrom_38 : decode cX5_copyFrom 38 = .ok (.aload_n 0, 1) := by decide +kernel
theorem dX5_copyFrom_39 : decode cX5_copyFrom 39 = .ok (.getfield 46, 3) := by decide +kernel
theorem dX5_copyFrom_42 : decode cX5_copyFrom 42 = .ok (.aload_n 1, 1) := by decide +kernel
theorem dX5_copyFrom_43 : decode cX5_copyFrom 43 = .ok (.getfield 46, 3) := by decide +kernel
theorem dX5_copyFrom_46 : decode cX5_copyFrom 46 = .ok (.invokevirtual 69, 3) := by decide +kernel
theorem dX5_copyFrom_49 : decode cX5_copyFrom 49 = .ok (.return_, 1) := by decide +kernel
theorem dX5_copyFrom_5 : decode cX5_copyFrom 5 = .ok (.aload_n 0, 1) := by decide +kernel
theorem dX5_copyFrom_6 : decode cX5_copyFrom 6 = .ok (.getfield 30, 3) := by decide +kernel
theorem dX5_copyFrom_9 : decode cX5_copyFrom 9 = .ok (.aload_n 1, 1) := by decide +kernel
theorem dX5_copyLine_0 : decode cX5_copyLine 0 = .ok (.aload_n 0, 1) := by decide +kernel
theorem dX5_copyLine_1 : decode cX5_copyLine 1 = .ok (.aload_n 1, 1) := by decide +kernel
theorem dX5_copyLine_10 : decode cX5_copyLine 10 = .ok (.getfield 15, 3) := by decide +kernel
theorem dX5_copyLine_13 : decode cX5_copyLine 13 = .ok (.putfield 15, 3) := by decide +kernel
theorem dX5_copyLine_16 : decode cX5_copyLine 16 = .ok (.aload_n 0, 1) := by decide +kernel
theorem dX5_copyLine_17 : decode cX5_copyLine 17 = .ok (.aload_n 1, 1) := by decide +kernel
theorem dX5_copyLine_18 : decode cX5_copyLine 18 = .ok (.getfield 18, 3) := by decide +kernel
theorem dX5_copyLine_2 : decode cX5_copyLine 2 = .ok (.getfield 9, 3) := by decide +kernel
theorem dX5_copyLine_21 : decode cX5_copyLine 21 = .ok (.putfield 18, 3) := by decide +kernel
theorem dX5_copyLine_24 : decode cX5_copyLine 24 = .ok (.iconst 0, 1) := by decide +kernel
theorem dX5_copyLine_25 : decode cX5_copyLine 25 = .ok (.istore_n 2, 1) := by decide +kernel
theorem dX5_copyLine_26 : decode cX5_copyLine 26 = .ok (.iload_n 2, 1) := by decide +kernel
theorem dX5_copyLine_27 : decode cX5_copyLine 27 = .ok (.bipush 6, 2) := by decide +kernel
theorem dX5_copyLine_29 : decode cX5_copyLine 29 = .ok (.if_icmp .ge 24, 3) := by decide +kernel
theorem dX5_copyLine_32 : decode cX5_copyLine 32 = .ok (.aload_n 0, 1) := by decide +kernel
theorem dX5_copyLine_33 : decode cX5_copyLine 33 = .ok (.getfield 23, 3) := by decide +kernel
theorem dX5_copyLine_36 : decode cX5_copyLine 36 = .ok (.iload_n 2, 1) := by decide +kernel
theorem dX5_copyLine_37 : decode cX5_copyLine 37 = .ok (.aaload, 1) := by decide +kernel
theorem dX5_copyLine_38 : decode cX5_copyLine 38 = .ok (.aload_n 1, 1) := by decide +kernel
theorem dX5_copyLine_39 : decode cX5_copyLine 39 = .ok (.getfield 23, 3) := by decide +kernel
theorem dX5_copyLine_42 : decode cX5_copyLine 42 = .ok (.iload_n 2, 1) := by decide +kernel
theorem dX5_copyLine_43 : decode cX5_copyLine 43 = .ok (.aaload, 1) := by decide +kernel
theorem dX5_copyLine_44 : decode cX5_copyLine 44 = .ok (.invokevirtual 58, 3) := by decide +kernel
theorem dX5_copyLine_47 : decode cX5_copyLine 47 = .ok (.iinc 2 1, 3) := by decide +kernel
theorem dX5_copyLine_5 : decode cX5_copyLine 5 = .ok (.putfield 9, 3) := by decide +kernel
theorem dX5_copyLine_50 : decode cX5_copyLine 50 = .ok (.goto (-24), 3) := by decide +kernel
theorem dX5_copyLine_53 : decode cX5_copyLine 53 = .ok (.return_, 1) := by decide +kernel
theorem dX5_copyLine_8 : decode cX5_copyLine 8 = .ok (.aload_n 0, 1) := by decide +kernel
theorem dX5_copyLine_9 : decode cX5_copyLine 9 = .ok (.aload_n 1, 1) := by decide +kernel
theorem dX5_dropsTogether_0 : decode cX5_dropsTogether 0 = .ok (.iconst 0, 1) := by decide +kernel
theorem dX5_dropsTogether_1 : decode cX5_dropsTogether 1 = .ok (.istore_n 1, 1) := by decide +kernel
theorem dX5_dropsTogether_2 : decode cX5_dropsTogether 2 = .ok (.iconst 0, 1) := by decide +kernel
theorem dX5_dropsTogether_3 : decode cX5_dropsTogether 3 = .ok (.istore_n 2, 1) := by decide +kernel
theorem dX5_dropsTogether_30 : decode cX5_dropsTogether 30 = .ok (.iload_n 1, 1) := by decide +kernel
theorem dX5_dropsTogether_31 : decode cX5_dropsTogether 31 = .ok (.ireturn, 1) := by decide +kernel
theorem dX5_dropsTogether_4 : decode cX5_dropsTogether 4 = .ok (.iload_n 2, 1) := by decide +kernel
theorem dX5_dropsTogether_5 : decode cX5_dropsTogether 5 = .ok (.aload_n 0, 1) := by decide +kernel
theorem dX5_dropsTogether_6 : decode cX5_dropsTogether 6 = .ok (.getfield 18, 3) := by decide +kernel
theorem dX5_dropsTogether_9 : decode cX5_dropsTogether 9 = .ok (.if_icmp .ge 21, 3) := by decide +kernel
theorem dX5_goOn_0 : decode cX5_goOn 0 = .ok (.aload_n 0, 1) := by decide +kernel
theorem dX5_goOn_1 : decode cX5_goOn 1 = .ok (.dup, 1) := by decide +kernel
theorem dX5_goOn_10 : decode cX5_goOn 10 = .ok (.iconst 0, 1) := by decide +kernel
theorem dX5_goOn_11 : decode cX5_goOn 11 = .ok (.istore_n 1, 1) := by decide +kernel
theorem dX5_goOn_12 : decode cX5_goOn 12 = .ok (.iload_n 1, 1) := by decide +kernel
theorem dX5_goOn_13 : decode cX5_goOn 13 = .ok (.aload_n 0, 1) := by decide +kernel
theorem dX5_goOn_14 : decode cX5_goOn 14 = .ok (.getfield 18, 3) := by decide +kernel
theorem dX5_goOn_17 : decode cX5_goOn 17 = .ok (.if_icmp .ge 26, 3) := by decide +kernel
theorem dX5_goOn_2 : decode cX5_goOn 2 = .ok (.getfield 15, 3) := by decide +kernel
theorem dX5_goOn_43 : decode cX5_goOn 43 = .ok (.return_, 1) := by decide +kernel
theorem dX5_goOn_5 : decode cX5_goOn 5 = .ok (.iconst 1, 1) := by decide +kernel
theorem dX5_goOn_6 : decode cX5_goOn 6 = .ok (.iadd, 1) := by decide +kernel
theorem dX5_goOn_7 : decode cX5_goOn 7 = .ok (.putfield 15, 3) := by decide +kernel
theorem dX5_homes_0 : decode cX5_homes 0 = .ok (.iconst 0, 1) := by decide +kernel
theorem dX5_homes_1 : decode cX5_homes 1 = .ok (.istore_n 1, 1) := by decide +kernel
theorem dX5_homes_2 : decode cX5_homes 2 = .ok (.iconst 0, 1) := by decide +kernel
theorem dX5_homes_3 : decode cX5_homes 3 = .ok (.istore_n 2, 1) := by decide +kernel
theorem dX5_homes_38 : decode cX5_homes 38 = .ok (.iload_n 1, 1) := by decide +kernel
theorem dX5_homes_39 : decode cX5_homes 39 = .ok (.ireturn, 1) := by decide +kernel
theorem dX5_homes_4 : decode cX5_homes 4 = .ok (.iload_n 2, 1) := by decide +kernel
theorem dX5_homes_5 : decode cX5_homes 5 = .ok (.aload_n 0, 1) := by decide +kernel
theorem dX5_homes_6 : decode cX5_homes 6 = .ok (.getfield 18, 3) := by decide +kernel
theorem dX5_homes_9 : decode cX5_homes 9 = .ok (.if_icmp .ge 29, 3) := by decide +kernel
theorem dX5_init_0 : decode cX5_init 0 = .ok (.aload_n 0, 1) := by decide +kernel
theorem dX5_init_1 : decode cX5_init 1 = .ok (.invokespecial 3, 3) := by decide +kernel
theorem dX5_init_10 : decode cX5_init 10 = .ok (.aload_n 0, 1) := by decide +kernel
theorem dX5_init_100 : decode cX5_init 100 = .ok (.dup, 1) := by decide +kernel
theorem dX5_init_101 : decode cX5_init 101 = .ok (.invokespecial 49, 3) := by decide +kernel
theorem dX5_init_104 : decode cX5_init 104 = .ok (.aastore, 1) := by decide +kernel
theorem dX5_init_105 : decode cX5_init 105 = .ok (.iinc 1 1, 3) := by decide +kernel
theorem dX5_init_108 : decode cX5_init 108 = .ok (.goto (-22), 3) := by decide +kernel
theorem dX5_init_11 : decode cX5_init 11 = .ok (.iconst 0, 1) := by decide +kernel
theorem dX5_init_111 : decode cX5_init 111 = .ok (.return_, 1) := by decide +kernel
theorem dX5_init_12 : decode cX5_init 12 = .ok (.putfield 15, 3) := by decide +kernel
theorem dX5_init_15 : decode cX5_init 15 = .ok (.aload_n 0, 1) := by decide +kernel
theorem dX5_init_16 : decode cX5_init 16 = .ok (.iconst 0, 1) := by decide +kernel
theorem dX5_init_17 : decode cX5_init 17 = .ok (.putfield 18, 3) := by decide +kernel
theorem dX5_init_20 : decode cX5_init 20 = .ok (.aload_n 0, 1) := by decide +kernel
theorem dX5_init_21 : decode cX5_init 21 = .ok (.bipush 6, 2) := by decide +kernel
theorem dX5_init_23 : decode cX5_init 23 = .ok (.anewarray 21, 3) := by decide +kernel
theorem dX5_init_26 : decode cX5_init 26 = .ok (.putfield 23, 3) := by decide +kernel
theorem dX5_init_29 : decode cX5_init 29 = .ok (.aload_n 0, 1) := by decide +kernel
theorem dX5_init_30 : decode cX5_init 30 = .ok (.new 27, 3) := by decide +kernel
theorem dX5_init_33 : decode cX5_init 33 = .ok (.dup, 1) := by decide +kernel
theorem dX5_init_34 : decode cX5_init 34 = .ok (.invokespecial 29, 3) := by decide +kernel
theorem dX5_init_37 : decode cX5_init 37 = .ok (.putfield 30, 3) := by decide +kernel
theorem dX5_init_4 : decode cX5_init 4 = .ok (.aload_n 0, 1) := by decide +kernel
theorem dX5_init_40 : decode cX5_init 40 = .ok (.aload_n 0, 1) := by decide +kernel
theorem dX5_init_41 : decode cX5_init 41 = .ok (.new 34, 3) := by decide +kernel
theorem dX5_init_44 : decode cX5_init 44 = .ok (.dup, 1) := by decide +kernel
theorem dX5_init_45 : decode cX5_init 45 = .ok (.iconst 5, 1) := by decide +kernel
theorem dX5_init_46 : decode cX5_init 46 = .ok (.iconst 0, 1) := by decide +kernel
theorem dX5_init_47 : decode cX5_init 47 = .ok (.iconst 1, 1) := by decide +kernel
theorem dX5_init_48 : decode cX5_init 48 = .ok (.invokespecial 36, 3) := by decide +kernel
theorem dX5_init_5 : decode cX5_init 5 = .ok (.bipush 20, 2) := by decide +kernel
theorem dX5_init_51 : decode cX5_init 51 = .ok (.putfield 39, 3) := by decide +kernel
theorem dX5_init_54 : decode cX5_init 54 = .ok (.aload_n 0, 1) := by decide +kernel
theorem dX5_init_55 : decode cX5_init 55 = .ok (.new 34, 3) := by decide +kernel
theorem dX5_init_58 : decode cX5_init 58 = .ok (.dup, 1) := by decide +kernel
theorem dX5_init_59 : decode cX5_init 59 = .ok (.bipush 6, 2) := by decide +kernel
theorem dX5_init_61 : decode cX5_init 61 = .ok (.iconst 1, 1) := by decide +kernel
theorem dX5_init_62 : decode cX5_init 62 = .ok (.iconst 1, 1) := by decide +kernel
theorem dX5_init_63 : decode cX5_init 63 = .ok (.invokespecial 36, 3) := by decide +kernel
theorem dX5_init_66 : decode cX5_init 66 = .ok (.putfield 43, 3) := by decide +kernel
theorem dX5_init_69 : decode cX5_init 69 = .ok (.aload_n 0, 1) := by decide +kernel
theorem dX5_init_7 : decode cX5_init 7 = .ok (.putfield 9, 3) := by decide +kernel
theorem dX5_init_70 : decode cX5_init 70 = .ok (.new 34, 3) := by decide +kernel
theorem dX5_init_73 : decode cX5_init 73 = .ok (.dup, 1) := by decide +kernel
theorem dX5_init_74 : decode cX5_init 74 = .ok (.bipush 6, 2) := by decide +kernel
theorem dX5_init_76 : decode cX5_init 76 = .ok (.iconst 0, 1) := by decide +kernel
theorem dX5_init_77 : decode cX5_init 77 = .ok (.iconst 0, 1) := by decide +kernel
theorem dX5_init_78 : decode cX5_init 78 = .ok (.invokespecial 36, 3) := by decide +kernel
theorem dX5_init_81 : decode cX5_init 81 = .ok (.putfield 46, 3) := by decide +kernel
theorem dX5_init_84 : decode cX5_init 84 = .ok (.iconst 0, 1) := by decide +kernel
theorem dX5_init_85 : decode cX5_init 85 = .ok (.istore_n 1, 1) := by decide +kernel
theorem dX5_init_86 : decode cX5_init 86 = .ok (.iload_n 1, 1) := by decide +kernel
theorem dX5_init_87 : decode cX5_init 87 = .ok (.bipush 6, 2) := by decide +kernel
theorem dX5_init_89 : decode cX5_init 89 = .ok (.if_icmp .ge 22, 3) := by decide +kernel
theorem dX5_init_92 : decode cX5_init 92 = .ok (.aload_n 0, 1) := by decide +kernel
theorem dX5_init_93 : decode cX5_init 93 = .ok (.getfield 23, 3) := by decide +kernel
theorem dX5_init_96 : decode cX5_init 96 = .ok (.iload_n 1, 1) := by decide +kernel
theorem dX5_init_97 : decode cX5_init 97 = .ok (.new 21, 3) := by decide +kernel
theorem dX5_keep_0 : decode cX5_keep 0 = .ok (.aload_n 0, 1) := by decide +kernel
theorem dX5_keep_1 : decode cX5_keep 1 = .ok (.getfield 30, 3) := by decide +kernel
theorem dX5_keep_12 : decode cX5_keep 12 = .ok (.invokevirtual 76, 3) := by decide +kernel
theorem dX5_keep_15 : decode cX5_keep 15 = .ok (.return_, 1) := by decide +kernel
theorem dX5_keep_4 : decode cX5_keep 4 = .ok (.aload_n 0, 1) := by decide +kernel
theorem dX5_keep_5 : decode cX5_keep 5 = .ok (.getfield 15, 3) := by decide +kernel
theorem dX5_keep_8 : decode cX5_keep 8 = .ok (.aload_n 0, 1) := by decide +kernel
theorem dX5_keep_9 : decode cX5_keep 9 = .ok (.getfield 23, 3) := by decide +kernel
theorem dX5_placesTogether_0 : decode cX5_placesTogether 0 = .ok (.iconst 0, 1) := by decide +kernel
theorem dX5_placesTogether_1 : decode cX5_placesTogether 1 = .ok (.istore_n 1, 1) := by decide +kernel
theorem dX5_placesTogether_2 : decode cX5_placesTogether 2 = .ok (.iconst 0, 1) := by decide +kernel
theorem dX5_placesTogether_3 : decode cX5_placesTogether 3 = .ok (.istore_n 2, 1) := by decide +kernel
theorem dX5_placesTogether_30 : decode cX5_placesTogether 30 = .ok (.iload_n 1, 1) := by decide +kernel
theorem dX5_placesTogether_31 : decode cX5_placesTogether 31 = .ok (.ireturn, 1) := by decide +kernel
theorem dX5_placesTogether_4 : decode cX5_placesTogether 4 = .ok (.iload_n 2, 1) := by decide +kernel
theorem dX5_placesTogether_5 : decode cX5_placesTogether 5 = .ok (.aload_n 0, 1) := by decide +kernel
theorem dX5_placesTogether_6 : decode cX5_placesTogether 6 = .ok (.getfield 18, 3) := by decide +kernel
theorem dX5_placesTogether_9 : decode cX5_placesTogether 9 = .ok (.if_icmp .ge 21, 3) := by decide +kernel
theorem dX5_restart_0 : decode cX5_restart 0 = .ok (.aload_n 0, 1) := by decide +kernel
theorem dX5_restart_1 : decode cX5_restart 1 = .ok (.iload_n 1, 1) := by decide +kernel
theorem dX5_restart_10 : decode cX5_restart 10 = .ok (.aload_n 0, 1) := by decide +kernel
theorem dX5_restart_11 : decode cX5_restart 11 = .ok (.iconst 0, 1) := by decide +kernel
theorem dX5_restart_12 : decode cX5_restart 12 = .ok (.putfield 18, 3) := by decide +kernel
theorem dX5_restart_15 : decode cX5_restart 15 = .ok (.aload_n 0, 1) := by decide +kernel
theorem dX5_restart_16 : decode cX5_restart 16 = .ok (.getfield 30, 3) := by decide +kernel
theorem dX5_restart_19 : decode cX5_restart 19 = .ok (.iconst 0, 1) := by decide +kernel
theorem dX5_restart_2 : decode cX5_restart 2 = .ok (.putfield 9, 3) := by decide +kernel
theorem dX5_restart_20 : decode cX5_restart 20 = .ok (.putfield 50, 3) := by decide +kernel
theorem dX5_restart_23 : decode cX5_restart 23 = .ok (.aload_n 0, 1) := by decide +kernel
theorem dX5_restart_24 : decode cX5_restart 24 = .ok (.getfield 39, 3) := by decide +kernel
theorem dX5_restart_27 : decode cX5_restart 27 = .ok (.iconst 0, 1) := by decide +kernel
theorem dX5_restart_28 : decode cX5_restart 28 = .ok (.putfield 53, 3) := by decide +kernel
theorem dX5_restart_31 : decode cX5_restart 31 = .ok (.aload_n 0, 1) := by decide +kernel
theorem dX5_restart_32 : decode cX5_restart 32 = .ok (.getfield 43, 3) := by decide +kernel
theorem dX5_restart_35 : decode cX5_restart 35 = .ok (.iconst 0, 1) := by decide +kernel
theorem dX5_restart_36 : decode cX5_restart 36 = .ok (.putfield 53, 3) := by decide +kernel
theorem dX5_restart_39 : decode cX5_restart 39 = .ok (.aload_n 0, 1) := by decide +kernel
theorem dX5_restart_40 : decode cX5_restart 40 = .ok (.getfield 46, 3) := by decide +kernel
theorem dX5_restart_43 : decode cX5_restart 43 = .ok (.iconst 0, 1) := by decide +kernel
theorem dX5_restart_44 : decode cX5_restart 44 = .ok (.putfield 53, 3) := by decide +kernel
theorem dX5_restart_47 : decode cX5_restart 47 = .ok (.return_, 1) := by decide +kernel
theorem dX5_restart_5 : decode cX5_restart 5 = .ok (.aload_n 0, 1) := by decide +kernel
theorem dX5_restart_6 : decode cX5_restart 6 = .ok (.iconst 0, 1) := by decide +kernel
theorem dX5_restart_7 : decode cX5_restart 7 = .ok (.putfield 15, 3) := by decide +kernel
theorem dX5_takeBack_0 : decode cX5_takeBack 0 = .ok (.aload_n 0, 1) := by decide +kernel
theorem dX5_takeBack_1 : decode cX5_takeBack 1 = .ok (.getfield 30, 3) := by decide +kernel
theorem dX5_takeBack_11 : decode cX5_takeBack 11 = .ok (.istore_n 1, 1) := by decide +kernel
theorem dX5_takeBack_12 : decode cX5_takeBack 12 = .ok (.iload_n 1, 1) := by decide +kernel
theorem dX5_takeBack_13 : decode cX5_takeBack 13 = .ok (.iconst (-1), 1) := by decide +kernel
theorem dX5_takeBack_14 : decode cX5_takeBack 14 = .ok (.if_icmp .ne 5, 3) := by decide +kernel
theorem dX5_takeBack_17 : decode cX5_takeBack 17 = .ok (.iconst 0, 1) := by decide +kernel
theorem dX5_takeBack_18 : decode cX5_takeBack 18 = .ok (.ireturn, 1) := by decide +kernel
theorem dX5_takeBack_4 : decode cX5_takeBack 4 = .ok (.aload_n 0, 1) := by decide +kernel
theorem dX5_takeBack_5 : decode cX5_takeBack 5 = .ok (.getfield 23, 3) := by decide +kernel
theorem dX5_takeBack_8 : decode cX5_takeBack 8 = .ok (.invokevirtual 80, 3) := by decide +kernel
theorem dX5_welcome_0 : decode cX5_welcome 0 = .ok (.aload_n 0, 1) := by decide +kernel
theorem dX5_welcome_1 : decode cX5_welcome 1 = .ok (.getfield 18, 3) := by decide +kernel
theorem dX5_welcome_10 : decode cX5_welcome 10 = .ok (.getfield 23, 3) := by decide +kernel
theorem dX5_welcome_13 : decode cX5_welcome 13 = .ok (.aload_n 0, 1) := by decide +kernel
theorem dX5_welcome_14 : decode cX5_welcome 14 = .ok (.getfield 18, 3) := by decide +kernel
theorem dX5_welcome_17 : decode cX5_welcome 17 = .ok (.aaload, 1) := by decide +kernel
theorem dX5_welcome_18 : decode cX5_welcome 18 = .ok (.iload_n 1, 1) := by decide +kernel
theorem dX5_welcome_19 : decode cX5_welcome 19 = .ok (.iload_n 2, 1) := by decide +kernel
theorem dX5_welcome_20 : decode cX5_welcome 20 = .ok (.iload_n 3, 1) := by decide +kernel
theorem dX5_welcome_21 : decode cX5_welcome 21 = .ok (.invokevirtual 54, 3) := by decide +kernel
theorem dX5_welcome_24 : decode cX5_welcome 24 = .ok (.aload_n 0, 1) := by decide +kernel
theorem dX5_welcome_25 : decode cX5_welcome 25 = .ok (.dup, 1) := by decide +kernel
theorem dX5_welcome_26 : decode cX5_welcome 26 = .ok (.getfield 18, 3) := by decide +kernel
theorem dX5_welcome_29 : decode cX5_welcome 29 = .ok (.iconst 1, 1) := by decide +kernel
theorem dX5_welcome_30 : decode cX5_welcome 30 = .ok (.iadd, 1) := by decide +kernel
theorem dX5_welcome_31 : decode cX5_welcome 31 = .ok (.putfield 18, 3) := by decide +kernel
theorem dX5_welcome_34 : decode cX5_welcome 34 = .ok (.aload_n 0, 1) := by decide +kernel
theorem dX5_welcome_35 : decode cX5_welcome 35 = .ok (.getfield 30, 3) := by decide +kernel
theorem dX5_welcome_38 : decode cX5_welcome 38 = .ok (.iconst 0, 1) := by decide +kernel
theorem dX5_welcome_39 : decode cX5_welcome 39 = .ok (.putfield 50, 3) := by decide +kernel
theorem dX5_welcome_4 : decode cX5_welcome 4 = .ok (.bipush 6, 2) := by decide +kernel
theorem dX5_welcome_42 : decode cX5_welcome 42 = .ok (.return_, 1) := by decide +kernel
theorem dX5_welcome_6 : decode cX5_welcome 6 = .ok (.if_icmp .ge 36, 3) := by decide +kernel
theorem dX5_welcome_9 : decode cX5_welcome 9 = .ok (.aload_n 0, 1) := by decide +kernel
theorem dX6_append_0 : decode cX6_append 0 = .ok (.aload_n 0, 1) := by decide +kernel
theorem dX6_append_1 : decode cX6_append 1 = .ok (.getfield 15, 3) := by decide +kernel
theorem dX6_append_12 : decode cX6_append 12 = .ok (.aload_n 0, 1) := by decide +kernel
theorem dX6_append_13 : decode cX6_append 13 = .ok (.getfield 11, 3) := by decide +kernel
theorem dX6_append_16 : decode cX6_append 16 = .ok (.aload_n 0, 1) := by decide +kernel
theorem dX6_append_17 : decode cX6_append 17 = .ok (.getfield 15, 3) := by decide +kernel
theorem dX6_append_20 : decode cX6_append 20 = .ok (.iload_n 1, 1) := by decide +kernel
theorem dX6_append_21 : decode cX6_append 21 = .ok (.iastore, 1) := by decide +kernel
theorem dX6_append_22 : decode cX6_append 22 = .ok (.aload_n 0, 1) := by decide +kernel
theorem dX6_append_23 : decode cX6_append 23 = .ok (.dup, 1) := by decide +kernel
theorem dX6_append_24 : decode cX6_append 24 = .ok (.getfield 15, 3) := by decide +kernel
theorem dX6_append_27 : decode cX6_append 27 = .ok (.iconst 1, 1) := by decide +kernel
theorem dX6_append_28 : decode cX6_append 28 = .ok (.iadd, 1) := by decide +kernel
theorem dX6_append_29 : decode cX6_append 29 = .ok (.putfield 15, 3) := by decide +kernel
theorem dX6_append_32 : decode cX6_append 32 = .ok (.iconst 1, 1) := by decide +kernel
theorem dX6_append_33 : decode cX6_append 33 = .ok (.ireturn, 1) := by decide +kernel
theorem dX6_append_4 : decode cX6_append 4 = .ok (.sipush 150, 3) := by decide +kernel
theorem dX6_append_7 : decode cX6_append 7 = .ok (.if_icmp .lt 5, 3) := by decide +kernel
theorem dX6_init_0 : decode cX6_init 0 = .ok (.aload_n 0, 1) := by decide +kernel
theorem dX6_init_1 : decode cX6_init 1 = .ok (.invokespecial 3, 3) := by decide +kernel
theorem dX6_init_10 : decode cX6_init 10 = .ok (.putfield 11, 3) := by decide +kernel
theorem dX6_init_13 : decode cX6_init 13 = .ok (.aload_n 0, 1) := by decide +kernel
theorem dX6_init_14 : decode cX6_init 14 = .ok (.iconst 0, 1) := by decide +kernel
theorem dX6_init_15 : decode cX6_init 15 = .ok (.putfield 15, 3) := by decide +kernel
theorem dX6_init_18 : decode cX6_init 18 = .ok (.aload_n 0, 1) := by decide +kernel
theorem dX6_init_19 : decode cX6_init 19 = .ok (.iconst 0, 1) := by decide +kernel
theorem dX6_init_20 : decode cX6_init 20 = .ok (.putfield 19, 3) := by decide +kernel
theorem dX6_init_23 : decode cX6_init 23 = .ok (.aload_n 0, 1) := by decide +kernel
theorem dX6_init_24 : decode cX6_init 24 = .ok (.iconst 0, 1) := by decide +kernel
theorem dX6_init_25 : decode cX6_init 25 = .ok (.putfield 22, 3) := by decide +kernel
theorem dX6_init_28 : decode cX6_init 28 = .ok (.aload_n 0, 1) := by decide +kernel
theorem dX6_init_29 : decode cX6_init 29 = .ok (.iconst 0, 1) := by decide +kernel
theorem dX6_init_30 : decode cX6_init 30 = .ok (.putfield 25, 3) := by decide +kernel
theorem dX6_init_33 : decode cX6_init 33 = .ok (.aload_n 0, 1) := by decide +kernel
theorem dX6_init_34 : decode cX6_init 34 = .ok (.iconst 0, 1) := by decide +kernel
theorem dX6_init_35 : decode cX6_init 35 = .ok (.putfield 28, 3) := by decide +kernel
theorem dX6_init_38 : decode cX6_init 38 = .ok (.aload_n 0, 1) := by decide +kernel
theorem dX6_init_39 : decode cX6_init 39 = .ok (.iconst (-1), 1) := by decide +kernel
theorem dX6_init_4 : decode cX6_init 4 = .ok (.aload_n 0, 1) := by decide +kernel
theorem dX6_init_40 : decode cX6_init 40 = .ok (.putfield 31, 3) := by decide +kernel
theorem dX6_init_43 : decode cX6_init 43 = .ok (.return_, 1) := by decide +kernel
theorem dX6_init_5 : decode cX6_init 5 = .ok (.sipush 150, 3) := by decide +kernel
theorem dX6_init_8 : decode cX6_init 8 = .ok (.newarray .int, 2) := by decide +kernel
theorem dX6_nextToken_0 : decode cX6_nextToken 0 = .ok (.aload_n 0, 1) := by decide +kernel
theorem dX6_nextToken_1 : decode cX6_nextToken 1 = .ok (.invokevirtual 38, 3) := by decide +kernel
theorem dX6_nextToken_108 : decode cX6_nextToken 108 = .ok (.return_, 1) := by decide +kernel
theorem dX6_nextToken_12 : decode cX6_nextToken 12 = .ok (.aload_n 0, 1) := by decide +kernel
theorem dX6_nextToken_13 : decode cX6_nextToken 13 = .ok (.getfield 19, 3) := by decide +kernel
theorem dX6_nextToken_16 : decode cX6_nextToken 16 = .ok (.aload_n 0, 1) := by decide +kernel
theorem dX6_nextToken_17 : decode cX6_nextToken 17 = .ok (.getfield 15, 3) := by decide +kernel
theorem dX6_nextToken_20 : decode cX6_nextToken 20 = .ok (.if_icmp .lt 11, 3) := by decide +kernel
theorem dX6_nextToken_23 : decode cX6_nextToken 23 = .ok (.aload_n 0, 1) := by decide +kernel
theorem dX6_nextToken_24 : decode cX6_nextToken 24 = .ok (.iconst 0, 1) := by decide +kernel
theorem dX6_nextToken_25 : decode cX6_nextToken 25 = .ok (.putfield 25, 3) := by decide +kernel
theorem dX6_nextToken_28 : decode cX6_nextToken 28 = .ok (.goto 80, 3) := by decide +kernel
theorem dX6_nextToken_4 : decode cX6_nextToken 4 = .ok (.aload_n 0, 1) := by decide +kernel
theorem dX6_nextToken_5 : decode cX6_nextToken 5 = .ok (.aload_n 0, 1) := by decide +kernel
theorem dX6_nextToken_6 : decode cX6_nextToken 6 = .ok (.getfield 19, 3) := by decide +kernel
theorem dX6_nextToken_9 : decode cX6_nextToken 9 = .ok (.putfield 22, 3) := by decide +kernel
theorem dX6_skipBlanks_0 : decode cX6_skipBlanks 0 = .ok (.aload_n 0, 1) := by decide +kernel
theorem dX6_skipBlanks_1 : decode cX6_skipBlanks 1 = .ok (.getfield 19, 3) := by decide +kernel
theorem dX6_skipBlanks_38 : decode cX6_skipBlanks 38 = .ok (.return_, 1) := by decide +kernel
theorem dX6_skipBlanks_4 : decode cX6_skipBlanks 4 = .ok (.aload_n 0, 1) := by decide +kernel
theorem dX6_skipBlanks_5 : decode cX6_skipBlanks 5 = .ok (.getfield 15, 3) := by decide +kernel
theorem dX6_skipBlanks_8 : decode cX6_skipBlanks 8 = .ok (.if_icmp .ge 30, 3) := by decide +kernel
theorem dX6_takeItem_0 : decode cX6_takeItem 0 = .ok (.aload_n 0, 1) := by decide +kernel
theorem dX6_takeItem_1 : decode cX6_takeItem 1 = .ok (.invokevirtual 41, 3) := by decide +kernel
theorem dX6_takeItem_130 : decode cX6_takeItem 130 = .ok (.return_, 1) := by decide +kernel
theorem dX6_takeItem_22 : decode cX6_takeItem 22 = .ok (.aload_n 0, 1) := by decide +kernel
theorem dX6_takeItem_23 : decode cX6_takeItem 23 = .ok (.aload_n 0, 1) := by decide +kernel
theorem dX6_takeItem_24 : decode cX6_takeItem 24 = .ok (.getfield 22, 3) := by decide +kernel
theorem dX6_takeItem_27 : decode cX6_takeItem 27 = .ok (.putfield 31, 3) := by decide +kernel
theorem dX6_takeItem_30 : decode cX6_takeItem 30 = .ok (.goto 100, 3) := by decide +kernel
theorem dX6_takeItem_4 : decode cX6_takeItem 4 = .ok (.aload_n 0, 1) := by decide +kernel
theorem dX6_takeItem_5 : decode cX6_takeItem 5 = .ok (.getfield 25, 3) := by decide +kernel
theorem dX6_takeItem_8 : decode cX6_takeItem 8 = .ok (.iconst 1, 1) := by decide +kernel
theorem dX6_takeItem_9 : decode cX6_takeItem 9 = .ok (.if_icmp .ne 13, 3) := by decide +kernel
theorem dX6_takeRace_0 : decode cX6_takeRace 0 = .ok (.aload_n 0, 1) := by decide +kernel
theorem dX6_takeRace_1 : decode cX6_takeRace 1 = .ok (.iconst 0, 1) := by decide +kernel
theorem dX6_takeRace_10 : decode cX6_takeRace 10 = .ok (.iconst 0, 1) := by decide +kernel
theorem dX6_takeRace_11 : decode cX6_takeRace 11 = .ok (.istore_n 2, 1) := by decide +kernel
theorem dX6_takeRace_12 : decode cX6_takeRace 12 = .ok (.aload_n 0, 1) := by decide +kernel
theorem dX6_takeRace_13 : decode cX6_takeRace 13 = .ok (.aload_n 1, 1) := by decide +kernel
theorem dX6_takeRace_14 : decode cX6_takeRace 14 = .ok (.iload_n 2, 1) := by decide +kernel
theorem dX6_takeRace_15 : decode cX6_takeRace 15 = .ok (.ifCond .ne 7, 3) := by decide +kernel
theorem dX6_takeRace_18 : decode cX6_takeRace 18 = .ok (.iconst 1, 1) := by decide +kernel
theorem dX6_takeRace_19 : decode cX6_takeRace 19 = .ok (.goto 4, 3) := by decide +kernel
theorem dX6_takeRace_2 : decode cX6_takeRace 2 = .ok (.putfield 19, 3) := by decide +kernel
theorem dX6_takeRace_23 : decode cX6_takeRace 23 = .ok (.invokevirtual 34, 3) := by decide +kernel
theorem dX6_takeRace_26 : decode cX6_takeRace 26 = .ok (.iinc 2 1, 3) := by decide +kernel
theorem dX6_takeRace_29 : decode cX6_takeRace 29 = .ok (.aload_n 0, 1) := by decide +kernel
theorem dX6_takeRace_30 : decode cX6_takeRace 30 = .ok (.invokevirtual 38, 3) := by decide +kernel
theorem dX6_takeRace_33 : decode cX6_takeRace 33 = .ok (.aload_n 0, 1) := by decide +kernel
theorem dX6_takeRace_34 : decode cX6_takeRace 34 = .ok (.getfield 31, 3) := by decide +kernel
theorem dX6_takeRace_37 : decode cX6_takeRace 37 = .ok (.iconst (-1), 1) := by decide +kernel
theorem dX6_takeRace_38 : decode cX6_takeRace 38 = .ok (.if_icmp .ne 21, 3) := by decide +kernel
theorem dX6_takeRace_5 : decode cX6_takeRace 5 = .ok (.aload_n 0, 1) := by decide +kernel
theorem dX6_takeRace_59 : decode cX6_takeRace 59 = .ok (.aload_n 0, 1) := by decide +kernel
theorem dX6_takeRace_6 : decode cX6_takeRace 6 = .ok (.iconst (-1), 1) := by decide +kernel
theorem dX6_takeRace_60 : decode cX6_takeRace 60 = .ok (.getfield 31, 3) := by decide +kernel
theorem dX6_takeRace_63 : decode cX6_takeRace 63 = .ok (.iconst (-1), 1) := by decide +kernel
theorem dX6_takeRace_64 : decode cX6_takeRace 64 = .ok (.if_icmp .ne 7, 3) := by decide +kernel
theorem dX6_takeRace_7 : decode cX6_takeRace 7 = .ok (.putfield 31, 3) := by decide +kernel
theorem dX6_takeRace_71 : decode cX6_takeRace 71 = .ok (.bipush (-10), 2) := by decide +kernel
theorem dX6_takeRace_73 : decode cX6_takeRace 73 = .ok (.aload_n 0, 1) := by decide +kernel
theorem dX6_takeRace_74 : decode cX6_takeRace 74 = .ok (.getfield 31, 3) := by decide +kernel
theorem dX6_takeRace_77 : decode cX6_takeRace 77 = .ok (.isub, 1) := by decide +kernel
theorem dX6_takeRace_78 : decode cX6_takeRace 78 = .ok (.ireturn, 1) := by decide +kernel
theorem dX7_copyFrom_0 : decode cX7_copyFrom 0 = .ok (.aload_n 0, 1) := by decide +kernel
theorem dX7_copyFrom_1 : decode cX7_copyFrom 1 = .ok (.aload_n 1, 1) := by decide +kernel
theorem dX7_copyFrom_12 : decode cX7_copyFrom 12 = .ok (.iconst 0, 1) := by decide +kernel
theorem dX7_copyFrom_13 : decode cX7_copyFrom 13 = .ok (.aload_n 0, 1) := by decide +kernel
theorem dX7_copyFrom_14 : decode cX7_copyFrom 14 = .ok (.getfield 23, 3) := by decide +kernel
theorem dX7_copyFrom_17 : decode cX7_copyFrom 17 = .ok (.iconst 0, 1) := by decide +kernel
theorem dX7_copyFrom_18 : decode cX7_copyFrom 18 = .ok (.aload_n 0, 1) := by decide +kernel
theorem dX7_copyFrom_19 : decode cX7_copyFrom 19 = .ok (.getfield 23, 3) := by decide +kernel
theorem dX7_copyFrom_2 : decode cX7_copyFrom 2 = .ok (.getfield 7, 3) := by decide +kernel
theorem dX7_copyFrom_22 : decode cX7_copyFrom 22 = .ok (.arraylength, 1) := by decide +kernel
theorem dX7_copyFrom_23 : decode cX7_copyFrom 23 = .ok (.aload_n 1, 1) := by decide +kernel
theorem dX7_copyFrom_24 : decode cX7_copyFrom 24 = .ok (.getfield 7, 3) := by decide +kernel
theorem dX7_copyFrom_27 : decode cX7_copyFrom 27 = .ok (.iconst 5, 1) := by decide +kernel
theorem dX7_copyFrom_28 : decode cX7_copyFrom 28 = .ok (.imul, 1) := by decide +kernel
theorem dX7_copyFrom_29 : decode cX7_copyFrom 29 = .ok (.invokestatic 27, 3) := by decide +kernel
theorem dX7_copyFrom_32 : decode cX7_copyFrom 32 = .ok (.invokestatic 33, 3) := by decide +kernel
theorem dX7_copyFrom_35 : decode cX7_copyFrom 35 = .ok (.return_, 1) := by decide +kernel
theorem dX7_copyFrom_5 : decode cX7_copyFrom 5 = .ok (.putfield 7, 3) := by decide +kernel
theorem dX7_copyFrom_8 : decode cX7_copyFrom 8 = .ok (.aload_n 1, 1) := by decide +kernel
theorem dX7_copyFrom_9 : decode cX7_copyFrom 9 = .ok (.getfield 23, 3) := by decide +kernel
theorem dX7_init_0 : decode cX7_init 0 = .ok (.aload_n 0, 1) := by decide +kernel
theorem dX7_init_1 : decode cX7_init 1 = .ok (.invokespecial 1, 3) := by decide +kernel
theorem dX7_init_10 : decode cX7_init 10 = .ok (.iload_n 1, 1) := by decide +kernel
theorem dX7_init_11 : decode cX7_init 11 = .ok (.putfield 13, 3) := by decide +kernel
theorem dX7_init_14 : decode cX7_init 14 = .ok (.aload_n 0, 1) := by decide +kernel
theorem dX7_init_15 : decode cX7_init 15 = .ok (.iload_n 2, 1) := by decide +kernel
theorem dX7_init_16 : decode cX7_init 16 = .ok (.putfield 16, 3) := by decide +kernel
theorem dX7_init_19 : decode cX7_init 19 = .ok (.aload_n 0, 1) := by decide +kernel
theorem dX7_init_20 : decode cX7_init 20 = .ok (.iload_n 3, 1) := by decide +kernel
theorem dX7_init_21 : decode cX7_init 21 = .ok (.putfield 20, 3) := by decide +kernel
theorem dX7_init_24 : decode cX7_init 24 = .ok (.aload_n 0, 1) := by decide +kernel
theorem dX7_init_25 : decode cX7_init 25 = .ok (.iload_n 1, 1) := by decide +kernel
theorem dX7_init_26 : decode cX7_init 26 = .ok (.iconst 5, 1) := by decide +kernel
theorem dX7_init_27 : decode cX7_init 27 = .ok (.imul, 1) := by decide +kernel
theorem dX7_init_28 : decode cX7_init 28 = .ok (.newarray .int, 2) := by decide +kernel
theorem dX7_init_30 : decode cX7_init 30 = .ok (.putfield 23, 3) := by decide +kernel
theorem dX7_init_33 : decode cX7_init 33 = .ok (.return_, 1) := by decide +kernel
theorem dX7_init_4 : decode cX7_init 4 = .ok (.aload_n 0, 1) := by decide +kernel
theorem dX7_init_5 : decode cX7_init 5 = .ok (.iconst 0, 1) := by decide +kernel
theorem dX7_init_6 : decode cX7_init 6 = .ok (.putfield 7, 3) := by decide +kernel
theorem dX7_init_9 : decode cX7_init 9 = .ok (.aload_n 0, 1) := by decide +kernel
theorem dX7_mixInto_0 : decode cX7_mixInto 0 = .ok (.lload_n 1, 1) := by decide +kernel
theorem dX7_mixInto_1 : decode cX7_mixInto 1 = .ok (.lstore_n 3, 1) := by decide +kernel
theorem dX7_mixInto_11 : decode cX7_mixInto 11 = .ok (.if_icmp .ge 122, 3) := by decide +kernel
theorem dX7_mixInto_133 : decode cX7_mixInto 133 = .ok (.lload_n 3, 1) := by decide +kernel
theorem dX7_mixInto_134 : decode cX7_mixInto 134 = .ok (.lreturn, 1) := by decide +kernel
theorem dX7_mixInto_2 : decode cX7_mixInto 2 = .ok (.iconst 0, 1) := by decide +kernel
theorem dX7_mixInto_3 : decode cX7_mixInto 3 = .ok (.istore 5, 2) := by decide +kernel
theorem dX7_mixInto_5 : decode cX7_mixInto 5 = .ok (.iload 5, 2) := by decide +kernel
theorem dX7_mixInto_7 : decode cX7_mixInto 7 = .ok (.aload_n 0, 1) := by decide +kernel
theorem dX7_mixInto_8 : decode cX7_mixInto 8 = .ok (.getfield 7, 3) := by decide +kernel
theorem dX8_begin_0 : decode cX8_begin 0 = .ok (.aload_n 0, 1) := by decide +kernel
theorem dX8_begin_1 : decode cX8_begin 1 = .ok (.iload_n 1, 1) := by decide +kernel
theorem dX8_begin_10 : decode cX8_begin 10 = .ok (.aload_n 0, 1) := by decide +kernel
theorem dX8_begin_11 : decode cX8_begin 11 = .ok (.iload_n 3, 1) := by decide +kernel
theorem dX8_begin_12 : decode cX8_begin 12 = .ok (.putfield 18, 3) := by decide +kernel
theorem dX8_begin_15 : decode cX8_begin 15 = .ok (.aload_n 0, 1) := by decide +kernel
theorem dX8_begin_16 : decode cX8_begin 16 = .ok (.iconst 4, 1) := by decide +kernel
theorem dX8_begin_17 : decode cX8_begin 17 = .ok (.putfield 21, 3) := by decide +kernel
theorem dX8_begin_2 : decode cX8_begin 2 = .ok (.putfield 9, 3) := by decide +kernel
theorem dX8_begin_20 : decode cX8_begin 20 = .ok (.aload_n 0, 1) := by decide +kernel
theorem dX8_begin_21 : decode cX8_begin 21 = .ok (.iconst 0, 1) := by decide +kernel
theorem dX8_begin_22 : decode cX8_begin 22 = .ok (.putfield 24, 3) := by decide +kernel
theorem dX8_begin_25 : decode cX8_begin 25 = .ok (.aload_n 0, 1) := by decide +kernel
theorem dX8_begin_26 : decode cX8_begin 26 = .ok (.iconst 0, 1) := by decide +kernel
theorem dX8_begin_27 : decode cX8_begin 27 = .ok (.putfield 27, 3) := by decide +kernel
theorem dX8_begin_30 : decode cX8_begin 30 = .ok (.aload_n 0, 1) := by decide +kernel
theorem dX8_begin_31 : decode cX8_begin 31 = .ok (.iconst 0, 1) := by decide +kernel
theorem dX8_begin_32 : decode cX8_begin 32 = .ok (.putfield 30, 3) := by decide +kernel
theorem dX8_begin_35 : decode cX8_begin 35 = .ok (.aload_n 0, 1) := by decide +kernel
theorem dX8_begin_36 : decode cX8_begin 36 = .ok (.iconst (-1), 1) := by decide +kernel
theorem dX8_begin_37 : decode cX8_begin 37 = .ok (.putfield 33, 3) := by decide +kernel
theorem dX8_begin_40 : decode cX8_begin 40 = .ok (.return_, 1) := by decide +kernel
theorem dX8_begin_5 : decode cX8_begin 5 = .ok (.aload_n 0, 1) := by decide +kernel
theorem dX8_begin_6 : decode cX8_begin 6 = .ok (.iload_n 2, 1) := by decide +kernel
theorem dX8_begin_7 : decode cX8_begin 7 = .ok (.putfield 15, 3) := by decide +kernel
theorem dX8_copyFrom_0 : decode cX8_copyFrom 0 = .ok (.aload_n 0, 1) := by decide +kernel
theorem dX8_copyFrom_1 : decode cX8_copyFrom 1 = .ok (.aload_n 1, 1) := by decide +kernel
theorem dX8_copyFrom_10 : decode cX8_copyFrom 10 = .ok (.getfield 15, 3) := by decide +kernel
theorem dX8_copyFrom_13 : decode cX8_copyFrom 13 = .ok (.putfield 15, 3) := by decide +kernel
theorem dX8_copyFrom_16 : decode cX8_copyFrom 16 = .ok (.aload_n 0, 1) := by decide +kernel
theorem dX8_copyFrom_17 : decode cX8_copyFrom 17 = .ok (.aload_n 1, 1) := by decide +kernel
theorem dX8_copyFrom_18 : decode cX8_copyFrom 18 = .ok (.getfield 18, 3) := by decide +kernel
theorem dX8_copyFrom_2 : decode cX8_copyFrom 2 = .ok (.getfield 9, 3) := by decide +kernel
theorem dX8_copyFrom_21 : decode cX8_copyFrom 21 = .ok (.putfield 18, 3) := by decide +kernel
theorem dX8_copyFrom_24 : decode cX8_copyFrom 24 = .ok (.aload_n 0, 1) := by decide +kernel
theorem dX8_copyFrom_25 : decode cX8_copyFrom 25 = .ok (.aload_n 1, 1) := by decide +kernel
theorem dX8_copyFrom_26 : decode cX8_copyFrom 26 = .ok (.getfield 21, 3) := by decide +kernel
theorem dX8_copyFrom_29 : decode cX8_copyFrom 29 = .ok (.putfield 21, 3) := by decide +kernel
theorem dX8_copyFrom_32 : decode cX8_copyFrom 32 = .ok (.aload_n 0, 1) := by decide +kernel
theorem dX8_copyFrom_33 : decode cX8_copyFrom 33 = .ok (.aload_n 1, 1) := by decide +kernel
theorem dX8_copyFrom_34 : decode cX8_copyFrom 34 = .ok (.getfield 24, 3) := by decide +kernel
theorem dX8_copyFrom_37 : decode cX8_copyFrom 37 = .ok (.putfield 24, 3) := by decide +kernel
theorem dX8_copyFrom_40 : decode cX8_copyFrom 40 = .ok (.aload_n 0, 1) := by decide +kernel
theorem dX8_copyFrom_41 : decode cX8_copyFrom 41 = .ok (.aload_n 1, 1) := by decide +kernel
theorem dX8_copyFrom_42 : decode cX8_copyFrom 42 = .ok (.getfield 27, 3) := by decide +kernel
theorem dX8_copyFrom_45 : decode cX8_copyFrom 45 = .ok (.putfield 27, 3) := by decide +kernel
theorem dX8_copyFrom_48 : decode cX8_copyFrom 48 = .ok (.aload_n 0, 1) := by decide +kernel
theorem dX8_copyFrom_49 : decode cX8_copyFrom 49 = .ok (.aload_n 1, 1) := by decide +kernel
theorem dX8_copyFrom_5 : decode cX8_copyFrom 5 = .ok (.putfield 9, 3) := by decide +kernel
theorem dX8_copyFrom_50 : decode cX8_copyFrom 50 = .ok (.getfield 30, 3) := by decide +kernel
theorem dX8_copyFrom_53 : decode cX8_copyFrom 53 = .ok (.putfield 30, 3) := by decide +kernel
theorem dX8_copyFrom_56 : decode cX8_copyFrom 56 = .ok (.aload_n 0, 1) := by decide +kernel
theorem dX8_copyFrom_57 : decode cX8_copyFrom 57 = .ok (.aload_n 1, 1) := by decide +kernel
theorem dX8_copyFrom_58 : decode cX8_copyFrom 58 = .ok (.getfield 33, 3) := by decide +kernel
theorem dX8_copyFrom_61 : decode cX8_copyFrom 61 = .ok (.putfield 33, 3) := by decide +kernel
theorem dX8_copyFrom_64 : decode cX8_copyFrom 64 = .ok (.return_, 1) := by decide +kernel
theorem dX8_copyFrom_8 : decode cX8_copyFrom 8 = .ok (.aload_n 0, 1) := by decide +kernel
theorem dX8_copyFrom_9 : decode cX8_copyFrom 9 = .ok (.aload_n 1, 1) := by decide +kernel
theorem dX8_init_0 : decode cX8_init 0 = .ok (.aload_n 0, 1) := by decide +kernel
theorem dX8_init_1 : decode cX8_init 1 = .ok (.invokespecial 3, 3) := by decide +kernel
theorem dX8_init_4 : decode cX8_init 4 = .ok (.return_, 1) := by decide +kernel
theorem dX9_init_0 : decode cX9_init 0 = .ok (.aload_n 0, 1) := by decide +kernel
theorem dX9_init_1 : decode cX9_init 1 = .ok (.invokespecial 3, 3) := by decide +kernel
theorem dX9_init_12 : decode cX9_init 12 = .ok (.aload_n 0, 1) := by decide +kernel
theorem dX9_init_13 : decode cX9_init 13 = .ok (.iconst 0, 1) := by decide +kernel
theorem dX9_init_14 : decode cX9_init 14 = .ok (.putfield 15, 3) := by decide +kernel
theorem dX9_init_17 : decode cX9_init 17 = .ok (.return_, 1) := by decide +kernel
theorem dX9_init_4 : decode cX9_init 4 = .ok (.aload_n 0, 1) := by decide +kernel
theorem dX9_init_5 : decode cX9_init 5 = .ok (.bipush 16, 2) := by decide +kernel
theorem dX9_init_7 : decode cX9_init 7 = .ok (.newarray .int, 2) := by decide +kernel
theorem dX9_init_9 : decode cX9_init 9 = .ok (.putfield 9, 3) := by decide +kernel
end
section
set_option maxHeartbeats 4000000 in
set_option maxRecDepth 100000 in
/-- within: whether least ≤ value ≤ most -/
theorem c_within (l : Launch) (X : EX) (v : Int32) (lo : Int32) (hi : Int32) (sz : Nat) : Met l yX10_within wsX10_within ({ frames := 0, cells := 0, slots := 0, locals := 0 } : Room) (pE X [.int v, .int lo, .int hi] [] sz) (qI (fun (r : Int32) (u : Unit) => (r = 1 ∧ (lo ≤ v ∧ v ≤ hi)) ∨ (r = 0 ∧ ¬ (lo ≤ v ∧ v ≤ hi))) X (fun (u : Unit) => []) [] sz) 0 0 (va_A [] sz) := by
  refine mk_met (B := (fun _ => True)) (A := (va_A [] sz)) (cc := cX10_within) (maxL := 3) (ret := (some .boolean)) (by decide) rfl (Nat.le_of_ble_eq_true rfl) k_ro k_a (fun p e s m below meth c S zr zlk znm zsz G ls hl => ?_)
  have S : CallFix p m c cX10_within 3 s _ wsX10_within RX10 := S
  have zx := S.1
  have zb := S.2.1
  have hl : lv_has ls 3 [(0, .int v), (1, .int lo), (2, .int hi)] := hl
  refine lv_iload_n zx zb dX10_within_0 rfl (lv_at hl 0 rfl) ?_
  refine lv_iload_n zx zb dX10_within_1 rfl (lv_at hl 1 rfl) ?_
  refine lv_icmp_lt (tgt := 14) zx zb dX10_within_2 (by decide) (fun c_1 => ?_) (fun c_1 => ?_)
  · refine lv_iconst (v := 0) zx zb dX10_within_14 (by decide) ?_
    exact e_int S zr zlk (by decide) G () [] rfl (by decide) (Or.inl rfl) (by first | exact Or.inl ⟨rfl, Int32.not_lt.mp c_1, Int32.not_lt.mp c_2⟩ | exact Or.inr ⟨rfl, fun h => absurd c_1 (Int32.not_lt.mpr h.1)⟩ | exact Or.inr ⟨rfl, fun h => absurd c_2 (Int32.not_lt.mpr h.2)⟩) dX10_within_15
  · refine lv_iload_n zx zb dX10_within_5 rfl (lv_at hl 0 rfl) ?_
    refine lv_iload_n zx zb dX10_within_6 rfl (lv_at hl 2 rfl) ?_
    refine lv_icmp_gt (tgt := 14) zx zb dX10_within_7 (by decide) (fun c_2 => ?_) (fun c_2 => ?_)
    · refine lv_iconst (v := 0) zx zb dX10_within_14 (by decide) ?_
      exact e_int S zr zlk (by decide) G () [] rfl (by decide) (Or.inl rfl) (by first | exact Or.inl ⟨rfl, Int32.not_lt.mp c_1, Int32.not_lt.mp c_2⟩ | exact Or.inr ⟨rfl, fun h => absurd c_1 (Int32.not_lt.mpr h.1)⟩ | exact Or.inr ⟨rfl, fun h => absurd c_2 (Int32.not_lt.mpr h.2)⟩) dX10_within_15
    · refine lv_iconst (v := 1) zx zb dX10_within_10 (by decide) ?_
      refine lv_goto (tgt := 15) zx zb dX10_within_11 (by decide) ?_
      exact e_int S zr zlk (by decide) G () [] rfl (by decide) (Or.inl rfl) (by first | exact Or.inl ⟨rfl, Int32.not_lt.mp c_1, Int32.not_lt.mp c_2⟩ | exact Or.inr ⟨rfl, fun h => absurd c_1 (Int32.not_lt.mpr h.1)⟩ | exact Or.inr ⟨rfl, fun h => absurd c_2 (Int32.not_lt.mpr h.2)⟩) dX10_within_15
theorem in_X10_there_X10 : ∀ w ∈ wsX100, w ∈ wsX10_there := by decide +kernel
theorem lk_X10_there_10 : Cond.fieldLink RX10 10 "EggSpoons" "now" "LEggSpoons$Race;" ∈ wsX10_there := by decide +kernel
theorem in_X10_there_X5 : ∀ w ∈ wsX50, w ∈ wsX10_there := by decide +kernel
theorem lk_X10_there_87 : Cond.fieldLink RX10 87 "EggSpoons$Race" "runners" "I" ∈ wsX10_there := by decide +kernel
set_option maxHeartbeats 4000000 in
set_option maxRecDepth 100000 in
/-- there, with no runner: no -/
theorem c_there (l : Launch) (X : EX) (h0 : Nat) (fs : List Value) (hn : Nat) (gs : List Value) (i : Int32) (hf0 : fs[0]? = some (.ref hn)) (hg2 : gs[2]? = some (.int 0)) (sz : Nat) : Met l yX10_there wsX10_there ({ frames := 0, cells := 0, slots := 0, locals := 0 } : Room) (pE X [.ref h0, .int i] [(h0, .inr (8, fs)), (hn, .inr (3, gs))] sz) (qI (fun (r : Int32) (u : Unit) => r = 0) X (fun (u : Unit) => []) [] sz) 0 0 (va_A [] sz) := by
  refine mk_met (B := (fun _ => True)) (A := (va_A [] sz)) (cc := cX10_there) (maxL := 2) (ret := (some .boolean)) (by decide) rfl (Nat.le_of_ble_eq_true rfl) k_ro k_a (fun p e s m below meth c S zr zlk znm zsz G ls hl => ?_)
  have S : CallFix p m c cX10_there 2 s _ wsX10_there RX10 := S
  have zx := S.1
  have zb := S.2.1
  have hl : lv_has ls 2 [(0, .ref h0), (1, .int i)] := hl
  refine lv_iload_n zx zb dX10_there_0 rfl (lv_at hl 1 rfl) ?_
  refine lv_if_lt (tgt := 19) zx zb dX10_there_1 (by decide) (fun c_1 => ?_) (fun c_1 => ?_)
  · refine lv_iconst (v := 0) zx zb dX10_there_19 (by decide) ?_
    exact e_int S zr zlk (by decide) G () [] rfl (by decide) (Or.inl rfl) (rfl) dX10_there_20
  · refine lv_iload_n zx zb dX10_there_4 rfl (lv_at hl 1 rfl) ?_
    refine lv_aload_n zx zb dX10_there_5 rfl (lv_at hl 0 rfl) ?_
    refine r_get (C := RX10) (T := TX10) (N := 14) (ci := 8) (v := .ref hn) S in_X10_there_X10 G 0 rfl rfl 0 (by decide) lk_X10_there_10 hf0 dX10_there_6 ?_
    refine r_get (C := RX5) (T := TX5) (N := 8) (ci := 3) (v := .int 0) S in_X10_there_X5 G 1 rfl rfl 2 (by decide) lk_X10_there_87 hg2 dX10_there_9 ?_
    refine lv_icmp_ge (tgt := 19) zx zb dX10_there_12 (by decide) (fun c_2 => ?_) (fun c_2 => absurd (Int32.not_lt.mp c_1) c_2)
    refine lv_iconst (v := 0) zx zb dX10_there_19 (by decide) ?_
    exact e_int S zr zlk (by decide) G () [] rfl (by decide) (Or.inl rfl) (rfl) dX10_there_20
theorem hdV_X10_there : yX10_there.cls = RX10 ∧ yX10_there.cls ≠ "java/lang/invoke/MethodHandle" ∧ yX10_there.cls ≠ "java/lang/invoke/VarHandle" ∧ (parseMethodDescriptor yX10_there.desc).map (fun d => d.parameters.length) = some 1 := by decide +kernel
set_option maxHeartbeats 4000000 in
set_option maxRecDepth 100000 in
/-- areTwo, with no runner: no -/
theorem c_areTwo (l : Launch) (X : EX) (h0 : Nat) (fs : List Value) (hn : Nat) (gs : List Value) (i : Int32) (j : Int32) (hf0 : fs[0]? = some (.ref hn)) (hg2 : gs[2]? = some (.int 0)) (sz : Nat) : Met l yX10_areTwo wsX10_areTwo ({ frames := 1, cells := 0, slots := 0, locals := 21 } : Room) (pE X [.ref h0, .int i, .int j] [(h0, .inr (8, fs)), (hn, .inr (3, gs))] sz) (qI (fun (r : Int32) (u : Unit) => r = 0) X (fun (u : Unit) => []) [] sz) 0 0 (va_A [] sz) := by
  refine mk_met (B := (fun _ => True)) (A := (va_A [] sz)) (cc := cX10_areTwo) (maxL := 3) (ret := (some .boolean)) (by decide) rfl (Nat.le_of_ble_eq_true rfl) k_ro k_a (fun p e s m below meth c S zr zlk znm zsz G ls hl => ?_)
  have S : CallFix p m c cX10_areTwo 3 s _ wsX10_areTwo RX10 := S
  have zx := S.1
  have zb := S.2.1
  have hl : lv_has ls 3 [(0, .ref h0), (1, .int i), (2, .int j)] := hl
  refine lv_aload_n zx zb dX10_areTwo_0 rfl (lv_at hl 0 rfl) ?_
  refine lv_iload_n zx zb dX10_areTwo_1 rfl (lv_at hl 1 rfl) ?_
  refine o_ri (cells' := 0) (slots' := 0) G rfl rfl (n_V (As := [.int i]) (rest := []) (C := RX10) (T := TX10) (N := 14) (ci := 8) S G (c_there l X h0 fs hn gs i hf0 hg2 s.heap.size) gX10_areTwo_X10_there rfl rfl rfl hdV_X10_there ⟨Nat.le_of_ble_eq_true rfl, Nat.le_of_ble_eq_true rfl⟩ [0, 1] rfl (by decide) 0 rfl rfl rfl hl.1 (Nat.le_of_ble_eq_true rfl) dX10_areTwo_2 ⟨Nat.le_of_ble_eq_true rfl, Nat.le_of_ble_eq_true rfl⟩) (fun r_1 u_1 H locs hp_1 G => ?_)
  have G : wd X (fun _ => True) (va_A [] sz) s [(h0, .inr (8, fs)), (hn, .inr (3, gs))] H locs := G
  subst hp_1
  refine lv_if_eq (tgt := 25) zx zb dX10_areTwo_5 (by decide) (fun c_2 => ?_) (fun c_2 => absurd (by decide) c_2)
  refine lv_iconst (v := 0) zx zb dX10_areTwo_25 (by decide) ?_
  exact e_int S zr zlk (by decide) G () [] rfl (by decide) (Or.inl rfl) (rfl) dX10_areTwo_26
theorem in_X10_refuse_X10 : ∀ w ∈ wsX100, w ∈ wsX10_refuse := by decide +kernel
theorem lk_X10_refuse_34 : Cond.fieldLink RX10 34 "EggSpoons" "refused" "[I" ∈ wsX10_refuse := by decide +kernel
set_option maxHeartbeats 4000000 in
set_option maxRecDepth 100000 in
/-- refuse: counts, answers the reason -/
theorem c_refuse (l : Launch) (X : EX) (h0 : Nat) (fs : List Value) (hr : Nat) (fr : Nat → Int32) (x : Int32) (hf5 : fs[5]? = some (.ref hr)) (sz : Nat) : Met l yX10_refuse wsX10_refuse ({ frames := 0, cells := 0, slots := 0, locals := 0 } : Room) (pE X [.ref h0, .int x] [(h0, .inr (8, fs)), (hr, .inl (X.2.1, 3, .inl fr))] sz) (qI (fun (r : Int32) (u : Unit) => r = x) X (fun (u : Unit) => []) [(h0, .inr (8, fs)), (hr, .inl (X.2.1, 3, .inl fr))] sz) 0 0 (va_A [(h0, .inr (8, fs)), (hr, .inl (X.2.1, 3, .inl fr))] sz) := by
  refine mk_met (B := (va_A [(h0, .inr (8, fs)), (hr, .inl (X.2.1, 3, .inl fr))] sz)) (A := (va_A [(h0, .inr (8, fs)), (hr, .inl (X.2.1, 3, .inl fr))] sz)) (cc := cX10_refuse) (maxL := 3) (ret := (some .int)) (by decide) rfl (Nat.le_of_ble_eq_true rfl) k_w k_a (fun p e s m below meth c S zr zlk znm zsz G ls hl => ?_)
  have S : CallFix p m c cX10_refuse 3 s _ wsX10_refuse RX10 := S
  have zx := S.1
  have zb := S.2.1
  have hl : lv_has ls 3 [(0, .ref h0), (1, .int x)] := hl
  refine lv_bipush (v := (-2)) zx zb dX10_refuse_0 (by decide) ?_
  refine lv_iload_n zx zb dX10_refuse_2 rfl (lv_at hl 1 rfl) ?_
  refine r_isub (v := ((-2) - x)) S rfl dX10_refuse_3 ?_
  refine lv_istore_n (lv' := [(2, .int ((-2) - x)), (0, .ref h0), (1, .int x)]) zx zb dX10_refuse_4 rfl hl (by decide) rfl (fun ls hl => ?_)
  refine lv_iload_n zx zb dX10_refuse_5 rfl (lv_at hl 0 rfl) ?_
  refine lv_if_lt (tgt := 28) zx zb dX10_refuse_6 (by decide) (fun c_1 => ?_) (fun c_1 => ?_)
  · refine lv_iload_n zx zb dX10_refuse_28 rfl (lv_at hl 2 rfl) ?_
    exact e_int S zr zlk (vp_nar_int _) G () [] rfl (by decide) (Or.inl rfl) (rfl) dX10_refuse_29
  · refine lv_iload_n zx zb dX10_refuse_9 rfl (lv_at hl 0 rfl) ?_
    refine lv_aload_n zx zb dX10_refuse_10 rfl (lv_at hl 1 rfl) ?_
    refine r_get (C := RX10) (T := TX10) (N := 14) (ci := 8) (v := .ref hr) S in_X10_refuse_X10 G 0 rfl rfl 5 (by decide) lk_X10_refuse_34 hf5 dX10_refuse_11 ?_
    refine r_alen (v := 3) S G 1 0 rfl rfl rfl dX10_refuse_14 ?_
    refine lv_icmp_ge (tgt := 28) zx zb dX10_refuse_15 (by decide) (fun c_2 => ?_) (fun c_2 => ?_)
    · refine lv_iload_n zx zb dX10_refuse_28 rfl (lv_at hl 2 rfl) ?_
      exact e_int S zr zlk (vp_nar_int _) G () [] rfl (by decide) (Or.inl rfl) (rfl) dX10_refuse_29
    · refine lv_aload_n zx zb dX10_refuse_18 rfl (lv_at hl 1 rfl) ?_
      refine r_get (C := RX10) (T := TX10) (N := 14) (ci := 8) (v := .ref hr) S in_X10_refuse_X10 G 0 rfl rfl 5 (by decide) lk_X10_refuse_34 hf5 dX10_refuse_19 ?_
      refine lv_iload_n zx zb dX10_refuse_22 rfl (lv_at hl 0 rfl) ?_
      refine lv_dup2_11 zx zb dX10_refuse_23 rfl rfl ?_
      refine r_iald (v := (fr ((-2) - x).toNatClampNeg)) S G 1 rfl (k_in (by decide) c_1 c_2) rfl dX10_refuse_24 ?_
      refine lv_iconst (v := 1) zx zb dX10_refuse_25 (by decide) ?_
      refine r_iadd (v := ((fr ((-2) - x).toNatClampNeg) + 1)) S rfl dX10_refuse_26 ?_
      refine r_iast S G 1 rfl (k_in (by decide) c_1 c_2) dX10_refuse_27 (fun H locs G => ?_)
      obtain ⟨g_3, G⟩ : ∃ g_3 : Nat → Int32, wd X (va_A [(h0, .inr (8, fs)), (hr, .inl (X.2.1, 3, .inl fr))] sz) (va_A [(h0, .inr (8, fs)), (hr, .inl (X.2.1, 3, .inl fr))] sz) s [(h0, .inr (8, fs)), (hr, .inl (X.2.1, 3, .inl g_3))] H locs := ⟨_, G⟩
      refine lv_iload_n zx zb dX10_refuse_28 rfl (lv_at hl 2 rfl) ?_
      exact e_int S zr zlk (vp_nar_int _) G () [] rfl (by decide) (Or.inl rfl) (rfl) dX10_refuse_29
theorem hdV_X10_refuse : yX10_refuse.cls = RX10 ∧ yX10_refuse.cls ≠ "java/lang/invoke/MethodHandle" ∧ yX10_refuse.cls ≠ "java/lang/invoke/VarHandle" ∧ (parseMethodDescriptor yX10_refuse.desc).map (fun d => d.parameters.length) = some 1 := by decide +kernel
set_option maxHeartbeats 4000000 in
set_option maxRecDepth 100000 in
/-- speed, with no runner -/
theorem c_speed (l : Launch) (X : EX) (h0 : Nat) (fs : List Value) (hn : Nat) (gs : List Value) (hr : Nat) (fr : Nat → Int32) (x1 : Int32) (x2 : Int32) (hf0 : fs[0]? = some (.ref hn)) (hf5 : fs[5]? = some (.ref hr)) (hg2 : gs[2]? = some (.int 0)) (sz : Nat) : Met l yX10_speed wsX10_speed ({ frames := 1, cells := 0, slots := 0, locals := 22 } : Room) (pE X [.ref h0, .int x1, .int x2] [(h0, .inr (8, fs)), (hn, .inr (3, gs)), (hr, .inl (X.2.1, 3, .inl fr))] sz) (qI (fun (r : Int32) (u : Unit) => r = (-2)) X (fun (u : Unit) => []) [(h0, .inr (8, fs)), (hn, .inr (3, gs)), (hr, .inl (X.2.1, 3, .inl fr))] sz) 0 0 (va_A [(h0, .inr (8, fs)), (hn, .inr (3, gs)), (hr, .inl (X.2.1, 3, .inl fr))] sz) := by
  refine mk_met (B := (va_A [(h0, .inr (8, fs)), (hn, .inr (3, gs)), (hr, .inl (X.2.1, 3, .inl fr))] sz)) (A := (va_A [(h0, .inr (8, fs)), (hn, .inr (3, gs)), (hr, .inl (X.2.1, 3, .inl fr))] sz)) (cc := cX10_speed) (maxL := 5) (ret := (some .int)) (by decide) rfl (Nat.le_of_ble_eq_true rfl) k_w k_a (fun p e s m below meth c S zr zlk znm zsz G ls hl => ?_)
  have S : CallFix p m c cX10_speed 5 s _ wsX10_speed RX10 := S
  have zx := S.1
  have zb := S.2.1
  have hl : lv_has ls 5 [(0, .ref h0), (1, .int x1), (2, .int x2)] := hl
  refine lv_aload_n zx zb dX10_speed_0 rfl (lv_at hl 0 rfl) ?_
  refine lv_iload_n zx zb dX10_speed_1 rfl (lv_at hl 1 rfl) ?_
  refine o_ri (cells' := 0) (slots' := 0) G rfl rfl (n_V (As := [.int x1]) (rest := []) (C := RX10) (T := TX10) (N := 14) (ci := 8) S G (c_there l X h0 fs hn gs x1 hf0 hg2 s.heap.size) gX10_speed_X10_there rfl rfl rfl hdV_X10_there ⟨Nat.le_of_ble_eq_true rfl, Nat.le_of_ble_eq_true rfl⟩ [0, 1] rfl (by decide) 0 rfl rfl rfl hl.1 (Nat.le_of_ble_eq_true rfl) dX10_speed_2 ⟨Nat.le_of_ble_eq_true rfl, Nat.le_of_ble_eq_true rfl⟩) (fun r_1 u_1 H locs hp_1 G => ?_)
  have G : wd X (va_A [(h0, .inr (8, fs)), (hn, .inr (3, gs)), (hr, .inl (X.2.1, 3, .inl fr))] sz) (va_A [(h0, .inr (8, fs)), (hn, .inr (3, gs)), (hr, .inl (X.2.1, 3, .inl fr))] sz) s [(h0, .inr (8, fs)), (hn, .inr (3, gs)), (hr, .inl (X.2.1, 3, .inl fr))] H locs := G
  subst hp_1
  refine lv_if_eq (tgt := 18) zx zb dX10_speed_5 (by decide) (fun c_2 => ?_) (fun c_2 => absurd (by decide) c_2)
  refine lv_aload_n zx zb dX10_speed_18 rfl (lv_at hl 0 rfl) ?_
  refine lv_bipush (v := (-2)) zx zb dX10_speed_19 (by decide) ?_
  refine o_wi (cells' := 0) (slots' := 0) (wr := [(hn, .inr (3, gs))]) G rfl rfl [0, 2] [1] rfl rfl (by decide) (by decide) (n_V (As := [.int (-2)]) (rest := []) (C := RX10) (T := TX10) (N := 14) (ci := 8) S G (c_refuse l X h0 fs hr fr (-2) hf5 H.size) gX10_speed_X10_refuse rfl rfl rfl hdV_X10_refuse ⟨Nat.le_of_ble_eq_true rfl, Nat.le_of_ble_eq_true rfl⟩ [0, 2] rfl (by decide) 0 rfl rfl rfl hl.1 (Nat.le_of_ble_eq_true rfl) dX10_speed_21 ⟨Nat.le_of_ble_eq_true rfl, Nat.le_of_ble_eq_true rfl⟩) (fun r_3 u_3 H locs hp_3 G => ?_)
  have G : wd X (va_A [(h0, .inr (8, fs)), (hn, .inr (3, gs)), (hr, .inl (X.2.1, 3, .inl fr))] sz) (va_A [(h0, .inr (8, fs)), (hn, .inr (3, gs)), (hr, .inl (X.2.1, 3, .inl fr))] sz) s [(hn, .inr (3, gs))] H locs := G
  subst hp_3
  exact e_int S zr zlk (vp_nar_int _) G () [] rfl (by decide) (Or.inl rfl) (rfl) dX10_speed_24
set_option maxHeartbeats 4000000 in
set_option maxRecDepth 100000 in
/-- start, with no runner -/
theorem c_start (l : Launch) (X : EX) (h0 : Nat) (fs : List Value) (hn : Nat) (gs : List Value) (hr : Nat) (fr : Nat → Int32) (x1 : Int32) (x2 : Int32) (hf0 : fs[0]? = some (.ref hn)) (hf5 : fs[5]? = some (.ref hr)) (hg2 : gs[2]? = some (.int 0)) (sz : Nat) : Met l yX10_start wsX10_start ({ frames := 1, cells := 0, slots := 0, locals := 22 } : Room) (pE X [.ref h0, .int x1, .int x2] [(h0, .inr (8, fs)), (hn, .inr (3, gs)), (hr, .inl (X.2.1, 3, .inl fr))] sz) (qI (fun (r : Int32) (u : Unit) => r = (-2)) X (fun (u : Unit) => []) [(h0, .inr (8, fs)), (hn, .inr (3, gs)), (hr, .inl (X.2.1, 3, .inl fr))] sz) 0 0 (va_A [(h0, .inr (8, fs)), (hn, .inr (3, gs)), (hr, .inl (X.2.1, 3, .inl fr))] sz) := by
  refine mk_met (B := (va_A [(h0, .inr (8, fs)), (hn, .inr (3, gs)), (hr, .inl (X.2.1, 3, .inl fr))] sz)) (A := (va_A [(h0, .inr (8, fs)), (hn, .inr (3, gs)), (hr, .inl (X.2.1, 3, .inl fr))] sz)) (cc := cX10_start) (maxL := 4) (ret := (some .int)) (by decide) rfl (Nat.le_of_ble_eq_true rfl) k_w k_a (fun p e s m below meth c S zr zlk znm zsz G ls hl => ?_)
  have S : CallFix p m c cX10_start 4 s _ wsX10_start RX10 := S
  have zx := S.1
  have zb := S.2.1
  have hl : lv_has ls 4 [(0, .ref h0), (1, .int x1), (2, .int x2)] := hl
  refine lv_aload_n zx zb dX10_start_0 rfl (lv_at hl 0 rfl) ?_
  refine lv_iload_n zx zb dX10_start_1 rfl (lv_at hl 1 rfl) ?_
  refine o_ri (cells' := 0) (slots' := 0) G rfl rfl (n_V (As := [.int x1]) (rest := []) (C := RX10) (T := TX10) (N := 14) (ci := 8) S G (c_there l X h0 fs hn gs x1 hf0 hg2 s.heap.size) gX10_start_X10_there rfl rfl rfl hdV_X10_there ⟨Nat.le_of_ble_eq_true rfl, Nat.le_of_ble_eq_true rfl⟩ [0, 1] rfl (by decide) 0 rfl rfl rfl hl.1 (Nat.le_of_ble_eq_true rfl) dX10_start_2 ⟨Nat.le_of_ble_eq_true rfl, Nat.le_of_ble_eq_true rfl⟩) (fun r_1 u_1 H locs hp_1 G => ?_)
  have G : wd X (va_A [(h0, .inr (8, fs)), (hn, .inr (3, gs)), (hr, .inl (X.2.1, 3, .inl fr))] sz) (va_A [(h0, .inr (8, fs)), (hn, .inr (3, gs)), (hr, .inl (X.2.1, 3, .inl fr))] sz) s [(h0, .inr (8, fs)), (hn, .inr (3, gs)), (hr, .inl (X.2.1, 3, .inl fr))] H locs := G
  subst hp_1
  refine lv_if_eq (tgt := 18) zx zb dX10_start_5 (by decide) (fun c_2 => ?_) (fun c_2 => absurd (by decide) c_2)
  refine lv_aload_n zx zb dX10_start_18 rfl (lv_at hl 0 rfl) ?_
  refine lv_bipush (v := (-2)) zx zb dX10_start_19 (by decide) ?_
  refine o_wi (cells' := 0) (slots' := 0) (wr := [(hn, .inr (3, gs))]) G rfl rfl [0, 2] [1] rfl rfl (by decide) (by decide) (n_V (As := [.int (-2)]) (rest := []) (C := RX10) (T := TX10) (N := 14) (ci := 8) S G (c_refuse l X h0 fs hr fr (-2) hf5 H.size) gX10_start_X10_refuse rfl rfl rfl hdV_X10_refuse ⟨Nat.le_of_ble_eq_true rfl, Nat.le_of_ble_eq_true rfl⟩ [0, 2] rfl (by decide) 0 rfl rfl rfl hl.1 (Nat.le_of_ble_eq_true rfl) dX10_start_21 ⟨Nat.le_of_ble_eq_true rfl, Nat.le_of_ble_eq_true rfl⟩) (fun r_3 u_3 H locs hp_3 G => ?_)
  have G : wd X (va_A [(h0, .inr (8, fs)), (hn, .inr (3, gs)), (hr, .inl (X.2.1, 3, .inl fr))] sz) (va_A [(h0, .inr (8, fs)), (hn, .inr (3, gs)), (hr, .inl (X.2.1, 3, .inl fr))] sz) s [(hn, .inr (3, gs))] H locs := G
  subst hp_3
  exact e_int S zr zlk (vp_nar_int _) G () [] rfl (by decide) (Or.inl rfl) (rfl) dX10_start_24
set_option maxHeartbeats 4000000 in
set_option maxRecDepth 100000 in
/-- of, with no runner -/
theorem c_of (l : Launch) (X : EX) (h0 : Nat) (fs : List Value) (hn : Nat) (gs : List Value) (hr : Nat) (fr : Nat → Int32) (x1 : Int32) (x2 : Int32) (hf0 : fs[0]? = some (.ref hn)) (hf5 : fs[5]? = some (.ref hr)) (hg2 : gs[2]? = some (.int 0)) (sz : Nat) : Met l yX10_of wsX10_of ({ frames := 1, cells := 0, slots := 0, locals := 22 } : Room) (pE X [.ref h0, .int x1, .int x2] [(h0, .inr (8, fs)), (hn, .inr (3, gs)), (hr, .inl (X.2.1, 3, .inl fr))] sz) (qI (fun (r : Int32) (u : Unit) => r = (-2)) X (fun (u : Unit) => []) [(h0, .inr (8, fs)), (hn, .inr (3, gs)), (hr, .inl (X.2.1, 3, .inl fr))] sz) 0 0 (va_A [(h0, .inr (8, fs)), (hn, .inr (3, gs)), (hr, .inl (X.2.1, 3, .inl fr))] sz) := by
  refine mk_met (B := (va_A [(h0, .inr (8, fs)), (hn, .inr (3, gs)), (hr, .inl (X.2.1, 3, .inl fr))] sz)) (A := (va_A [(h0, .inr (8, fs)), (hn, .inr (3, gs)), (hr, .inl (X.2.1, 3, .inl fr))] sz)) (cc := cX10_of) (maxL := 3) (ret := (some .int)) (by decide) rfl (Nat.le_of_ble_eq_true rfl) k_w k_a (fun p e s m below meth c S zr zlk znm zsz G ls hl => ?_)
  have S : CallFix p m c cX10_of 3 s _ wsX10_of RX10 := S
  have zx := S.1
  have zb := S.2.1
  have hl : lv_has ls 3 [(0, .ref h0), (1, .int x1), (2, .int x2)] := hl
  refine lv_aload_n zx zb dX10_of_0 rfl (lv_at hl 0 rfl) ?_
  refine lv_iload_n zx zb dX10_of_1 rfl (lv_at hl 1 rfl) ?_
  refine o_ri (cells' := 0) (slots' := 0) G rfl rfl (n_V (As := [.int x1]) (rest := []) (C := RX10) (T := TX10) (N := 14) (ci := 8) S G (c_there l X h0 fs hn gs x1 hf0 hg2 s.heap.size) gX10_of_X10_there rfl rfl rfl hdV_X10_there ⟨Nat.le_of_ble_eq_true rfl, Nat.le_of_ble_eq_true rfl⟩ [0, 1] rfl (by decide) 0 rfl rfl rfl hl.1 (Nat.le_of_ble_eq_true rfl) dX10_of_2 ⟨Nat.le_of_ble_eq_true rfl, Nat.le_of_ble_eq_true rfl⟩) (fun r_1 u_1 H locs hp_1 G => ?_)
  have G : wd X (va_A [(h0, .inr (8, fs)), (hn, .inr (3, gs)), (hr, .inl (X.2.1, 3, .inl fr))] sz) (va_A [(h0, .inr (8, fs)), (hn, .inr (3, gs)), (hr, .inl (X.2.1, 3, .inl fr))] sz) s [(h0, .inr (8, fs)), (hn, .inr (3, gs)), (hr, .inl (X.2.1, 3, .inl fr))] H locs := G
  subst hp_1
  refine lv_if_eq (tgt := 18) zx zb dX10_of_5 (by decide) (fun c_2 => ?_) (fun c_2 => absurd (by decide) c_2)
  refine lv_aload_n zx zb dX10_of_18 rfl (lv_at hl 0 rfl) ?_
  refine lv_bipush (v := (-2)) zx zb dX10_of_19 (by decide) ?_
  refine o_wi (cells' := 0) (slots' := 0) (wr := [(hn, .inr (3, gs))]) G rfl rfl [0, 2] [1] rfl rfl (by decide) (by decide) (n_V (As := [.int (-2)]) (rest := []) (C := RX10) (T := TX10) (N := 14) (ci := 8) S G (c_refuse l X h0 fs hr fr (-2) hf5 H.size) gX10_of_X10_refuse rfl rfl rfl hdV_X10_refuse ⟨Nat.le_of_ble_eq_true rfl, Nat.le_of_ble_eq_true rfl⟩ [0, 2] rfl (by decide) 0 rfl rfl rfl hl.1 (Nat.le_of_ble_eq_true rfl) dX10_of_21 ⟨Nat.le_of_ble_eq_true rfl, Nat.le_of_ble_eq_true rfl⟩) (fun r_3 u_3 H locs hp_3 G => ?_)
  have G : wd X (va_A [(h0, .inr (8, fs)), (hn, .inr (3, gs)), (hr, .inl (X.2.1, 3, .inl fr))] sz) (va_A [(h0, .inr (8, fs)), (hn, .inr (3, gs)), (hr, .inl (X.2.1, 3, .inl fr))] sz) s [(hn, .inr (3, gs))] H locs := G
  subst hp_3
  exact e_int S zr zlk (vp_nar_int _) G () [] rfl (by decide) (Or.inl rfl) (rfl) dX10_of_24
set_option maxHeartbeats 4000000 in
set_option maxRecDepth 100000 in
/-- where, with no runner -/
theorem c_where (l : Launch) (X : EX) (h0 : Nat) (fs : List Value) (hn : Nat) (gs : List Value) (hr : Nat) (fr : Nat → Int32) (x1 : Int32) (x2 : Int32) (hf0 : fs[0]? = some (.ref hn)) (hf5 : fs[5]? = some (.ref hr)) (hg2 : gs[2]? = some (.int 0)) (sz : Nat) : Met l yX10_where wsX10_where ({ frames := 1, cells := 0, slots := 0, locals := 22 } : Room) (pE X [.ref h0, .int x1, .int x2] [(h0, .inr (8, fs)), (hn, .inr (3, gs)), (hr, .inl (X.2.1, 3, .inl fr))] sz) (qI (fun (r : Int32) (u : Unit) => r = (-2)) X (fun (u : Unit) => []) [(h0, .inr (8, fs)), (hn, .inr (3, gs)), (hr, .inl (X.2.1, 3, .inl fr))] sz) 0 0 (va_A [(h0, .inr (8, fs)), (hn, .inr (3, gs)), (hr, .inl (X.2.1, 3, .inl fr))] sz) := by
  refine mk_met (B := (va_A [(h0, .inr (8, fs)), (hn, .inr (3, gs)), (hr, .inl (X.2.1, 3, .inl fr))] sz)) (A := (va_A [(h0, .inr (8, fs)), (hn, .inr (3, gs)), (hr, .inl (X.2.1, 3, .inl fr))] sz)) (cc := cX10_where) (maxL := 3) (ret := (some .int)) (by decide) rfl (Nat.le_of_ble_eq_true rfl) k_w k_a (fun p e s m below meth c S zr zlk znm zsz G ls hl => ?_)
  have S : CallFix p m c cX10_where 3 s _ wsX10_where RX10 := S
  have zx := S.1
  have zb := S.2.1
  have hl : lv_has ls 3 [(0, .ref h0), (1, .int x1), (2, .int x2)] := hl
  refine lv_aload_n zx zb dX10_where_0 rfl (lv_at hl 0 rfl) ?_
  refine lv_iload_n zx zb dX10_where_1 rfl (lv_at hl 1 rfl) ?_
  refine o_ri (cells' := 0) (slots' := 0) G rfl rfl (n_V (As := [.int x1]) (rest := []) (C := RX10) (T := TX10) (N := 14) (ci := 8) S G (c_there l X h0 fs hn gs x1 hf0 hg2 s.heap.size) gX10_where_X10_there rfl rfl rfl hdV_X10_there ⟨Nat.le_of_ble_eq_true rfl, Nat.le_of_ble_eq_true rfl⟩ [0, 1] rfl (by decide) 0 rfl rfl rfl hl.1 (Nat.le_of_ble_eq_true rfl) dX10_where_2 ⟨Nat.le_of_ble_eq_true rfl, Nat.le_of_ble_eq_true rfl⟩) (fun r_1 u_1 H locs hp_1 G => ?_)
  have G : wd X (va_A [(h0, .inr (8, fs)), (hn, .inr (3, gs)), (hr, .inl (X.2.1, 3, .inl fr))] sz) (va_A [(h0, .inr (8, fs)), (hn, .inr (3, gs)), (hr, .inl (X.2.1, 3, .inl fr))] sz) s [(h0, .inr (8, fs)), (hn, .inr (3, gs)), (hr, .inl (X.2.1, 3, .inl fr))] H locs := G
  subst hp_1
  refine lv_if_eq (tgt := 18) zx zb dX10_where_5 (by decide) (fun c_2 => ?_) (fun c_2 => absurd (by decide) c_2)
  refine lv_aload_n zx zb dX10_where_18 rfl (lv_at hl 0 rfl) ?_
  refine lv_bipush (v := (-2)) zx zb dX10_where_19 (by decide) ?_
  refine o_wi (cells' := 0) (slots' := 0) (wr := [(hn, .inr (3, gs))]) G rfl rfl [0, 2] [1] rfl rfl (by decide) (by decide) (n_V (As := [.int (-2)]) (rest := []) (C := RX10) (T := TX10) (N := 14) (ci := 8) S G (c_refuse l X h0 fs hr fr (-2) hf5 H.size) gX10_where_X10_refuse rfl rfl rfl hdV_X10_refuse ⟨Nat.le_of_ble_eq_true rfl, Nat.le_of_ble_eq_true rfl⟩ [0, 2] rfl (by decide) 0 rfl rfl rfl hl.1 (Nat.le_of_ble_eq_true rfl) dX10_where_21 ⟨Nat.le_of_ble_eq_true rfl, Nat.le_of_ble_eq_true rfl⟩) (fun r_3 u_3 H locs hp_3 G => ?_)
  have G : wd X (va_A [(h0, .inr (8, fs)), (hn, .inr (3, gs)), (hr, .inl (X.2.1, 3, .inl fr))] sz) (va_A [(h0, .inr (8, fs)), (hn, .inr (3, gs)), (hr, .inl (X.2.1, 3, .inl fr))] sz) s [(hn, .inr (3, gs))] H locs := G
  subst hp_3
  exact e_int S zr zlk (vp_nar_int _) G () [] rfl (by decide) (Or.inl rfl) (rfl) dX10_where_24
set_option maxHeartbeats 4000000 in
set_option maxRecDepth 100000 in
/-- home, with no runner -/
theorem c_home (l : Launch) (X : EX) (h0 : Nat) (fs : List Value) (hn : Nat) (gs : List Value) (hr : Nat) (fr : Nat → Int32) (x1 : Int32) (hf0 : fs[0]? = some (.ref hn)) (hf5 : fs[5]? = some (.ref hr)) (hg2 : gs[2]? = some (.int 0)) (sz : Nat) : Met l yX10_home wsX10_home ({ frames := 1, cells := 0, slots := 0, locals := 22 } : Room) (pE X [.ref h0, .int x1] [(h0, .inr (8, fs)), (hn, .inr (3, gs)), (hr, .inl (X.2.1, 3, .inl fr))] sz) (qI (fun (r : Int32) (u : Unit) => r = (-2)) X (fun (u : Unit) => []) [(h0, .inr (8, fs)), (hn, .inr (3, gs)), (hr, .inl (X.2.1, 3, .inl fr))] sz) 0 0 (va_A [(h0, .inr (8, fs)), (hn, .inr (3, gs)), (hr, .inl (X.2.1, 3, .inl fr))] sz) := by
  refine mk_met (B := (va_A [(h0, .inr (8, fs)), (hn, .inr (3, gs)), (hr, .inl (X.2.1, 3, .inl fr))] sz)) (A := (va_A [(h0, .inr (8, fs)), (hn, .inr (3, gs)), (hr, .inl (X.2.1, 3, .inl fr))] sz)) (cc := cX10_home) (maxL := 2) (ret := (some .int)) (by decide) rfl (Nat.le_of_ble_eq_true rfl) k_w k_a (fun p e s m below meth c S zr zlk znm zsz G ls hl => ?_)
  have S : CallFix p m c cX10_home 2 s _ wsX10_home RX10 := S
  have zx := S.1
  have zb := S.2.1
  have hl : lv_has ls 2 [(0, .ref h0), (1, .int x1)] := hl
  refine lv_aload_n zx zb dX10_home_0 rfl (lv_at hl 0 rfl) ?_
  refine lv_iload_n zx zb dX10_home_1 rfl (lv_at hl 1 rfl) ?_
  refine o_ri (cells' := 0) (slots' := 0) G rfl rfl (n_V (As := [.int x1]) (rest := []) (C := RX10) (T := TX10) (N := 14) (ci := 8) S G (c_there l X h0 fs hn gs x1 hf0 hg2 s.heap.size) gX10_home_X10_there rfl rfl rfl hdV_X10_there ⟨Nat.le_of_ble_eq_true rfl, Nat.le_of_ble_eq_true rfl⟩ [0, 1] rfl (by decide) 0 rfl rfl rfl hl.1 (Nat.le_of_ble_eq_true rfl) dX10_home_2 ⟨Nat.le_of_ble_eq_true rfl, Nat.le_of_ble_eq_true rfl⟩) (fun r_1 u_1 H locs hp_1 G => ?_)
  have G : wd X (va_A [(h0, .inr (8, fs)), (hn, .inr (3, gs)), (hr, .inl (X.2.1, 3, .inl fr))] sz) (va_A [(h0, .inr (8, fs)), (hn, .inr (3, gs)), (hr, .inl (X.2.1, 3, .inl fr))] sz) s [(h0, .inr (8, fs)), (hn, .inr (3, gs)), (hr, .inl (X.2.1, 3, .inl fr))] H locs := G
  subst hp_1
  refine lv_if_eq (tgt := 18) zx zb dX10_home_5 (by decide) (fun c_2 => ?_) (fun c_2 => absurd (by decide) c_2)
  refine lv_aload_n zx zb dX10_home_18 rfl (lv_at hl 0 rfl) ?_
  refine lv_bipush (v := (-2)) zx zb dX10_home_19 (by decide) ?_
  refine o_wi (cells' := 0) (slots' := 0) (wr := [(hn, .inr (3, gs))]) G rfl rfl [0, 2] [1] rfl rfl (by decide) (by decide) (n_V (As := [.int (-2)]) (rest := []) (C := RX10) (T := TX10) (N := 14) (ci := 8) S G (c_refuse l X h0 fs hr fr (-2) hf5 H.size) gX10_home_X10_refuse rfl rfl rfl hdV_X10_refuse ⟨Nat.le_of_ble_eq_true rfl, Nat.le_of_ble_eq_true rfl⟩ [0, 2] rfl (by decide) 0 rfl rfl rfl hl.1 (Nat.le_of_ble_eq_true rfl) dX10_home_21 ⟨Nat.le_of_ble_eq_true rfl, Nat.le_of_ble_eq_true rfl⟩) (fun r_3 u_3 H locs hp_3 G => ?_)
  have G : wd X (va_A [(h0, .inr (8, fs)), (hn, .inr (3, gs)), (hr, .inl (X.2.1, 3, .inl fr))] sz) (va_A [(h0, .inr (8, fs)), (hn, .inr (3, gs)), (hr, .inl (X.2.1, 3, .inl fr))] sz) s [(hn, .inr (3, gs))] H locs := G
  subst hp_3
  exact e_int S zr zlk (vp_nar_int _) G () [] rfl (by decide) (Or.inl rfl) (rfl) dX10_home_24
set_option maxHeartbeats 4000000 in
set_option maxRecDepth 100000 in
/-- best, with no runner -/
theorem c_best (l : Launch) (X : EX) (h0 : Nat) (fs : List Value) (hn : Nat) (gs : List Value) (hr : Nat) (fr : Nat → Int32) (x1 : Int32) (x2 : Int32) (hf0 : fs[0]? = some (.ref hn)) (hf5 : fs[5]? = some (.ref hr)) (hg2 : gs[2]? = some (.int 0)) (sz : Nat) : Met l yX10_best wsX10_best ({ frames := 1, cells := 0, slots := 0, locals := 22 } : Room) (pE X [.ref h0, .int x1, .int x2] [(h0, .inr (8, fs)), (hn, .inr (3, gs)), (hr, .inl (X.2.1, 3, .inl fr))] sz) (qI (fun (r : Int32) (u : Unit) => r = (-2)) X (fun (u : Unit) => []) [(h0, .inr (8, fs)), (hn, .inr (3, gs)), (hr, .inl (X.2.1, 3, .inl fr))] sz) 0 0 (va_A [(h0, .inr (8, fs)), (hn, .inr (3, gs)), (hr, .inl (X.2.1, 3, .inl fr))] sz) := by
  refine mk_met (B := (va_A [(h0, .inr (8, fs)), (hn, .inr (3, gs)), (hr, .inl (X.2.1, 3, .inl fr))] sz)) (A := (va_A [(h0, .inr (8, fs)), (hn, .inr (3, gs)), (hr, .inl (X.2.1, 3, .inl fr))] sz)) (cc := cX10_best) (maxL := 8) (ret := (some .int)) (by decide) rfl (Nat.le_of_ble_eq_true rfl) k_w k_a (fun p e s m below meth c S zr zlk znm zsz G ls hl => ?_)
  have S : CallFix p m c cX10_best 8 s _ wsX10_best RX10 := S
  have zx := S.1
  have zb := S.2.1
  have hl : lv_has ls 8 [(0, .ref h0), (1, .int x1), (2, .int x2)] := hl
  refine lv_aload_n zx zb dX10_best_0 rfl (lv_at hl 0 rfl) ?_
  refine lv_iload_n zx zb dX10_best_1 rfl (lv_at hl 1 rfl) ?_
  refine o_ri (cells' := 0) (slots' := 0) G rfl rfl (n_V (As := [.int x1]) (rest := []) (C := RX10) (T := TX10) (N := 14) (ci := 8) S G (c_there l X h0 fs hn gs x1 hf0 hg2 s.heap.size) gX10_best_X10_there rfl rfl rfl hdV_X10_there ⟨Nat.le_of_ble_eq_true rfl, Nat.le_of_ble_eq_true rfl⟩ [0, 1] rfl (by decide) 0 rfl rfl rfl hl.1 (Nat.le_of_ble_eq_true rfl) dX10_best_2 ⟨Nat.le_of_ble_eq_true rfl, Nat.le_of_ble_eq_true rfl⟩) (fun r_1 u_1 H locs hp_1 G => ?_)
  have G : wd X (va_A [(h0, .inr (8, fs)), (hn, .inr (3, gs)), (hr, .inl (X.2.1, 3, .inl fr))] sz) (va_A [(h0, .inr (8, fs)), (hn, .inr (3, gs)), (hr, .inl (X.2.1, 3, .inl fr))] sz) s [(h0, .inr (8, fs)), (hn, .inr (3, gs)), (hr, .inl (X.2.1, 3, .inl fr))] H locs := G
  subst hp_1
  refine lv_if_eq (tgt := 17) zx zb dX10_best_5 (by decide) (fun c_2 => ?_) (fun c_2 => absurd (by decide) c_2)
  refine lv_aload_n zx zb dX10_best_17 rfl (lv_at hl 0 rfl) ?_
  refine lv_bipush (v := (-2)) zx zb dX10_best_18 (by decide) ?_
  refine o_wi (cells' := 0) (slots' := 0) (wr := [(hn, .inr (3, gs))]) G rfl rfl [0, 2] [1] rfl rfl (by decide) (by decide) (n_V (As := [.int (-2)]) (rest := []) (C := RX10) (T := TX10) (N := 14) (ci := 8) S G (c_refuse l X h0 fs hr fr (-2) hf5 H.size) gX10_best_X10_refuse rfl rfl rfl hdV_X10_refuse ⟨Nat.le_of_ble_eq_true rfl, Nat.le_of_ble_eq_true rfl⟩ [0, 2] rfl (by decide) 0 rfl rfl rfl hl.1 (Nat.le_of_ble_eq_true rfl) dX10_best_20 ⟨Nat.le_of_ble_eq_true rfl, Nat.le_of_ble_eq_true rfl⟩) (fun r_3 u_3 H locs hp_3 G => ?_)
  have G : wd X (va_A [(h0, .inr (8, fs)), (hn, .inr (3, gs)), (hr, .inl (X.2.1, 3, .inl fr))] sz) (va_A [(h0, .inr (8, fs)), (hn, .inr (3, gs)), (hr, .inl (X.2.1, 3, .inl fr))] sz) s [(hn, .inr (3, gs))] H locs := G
  subst hp_3
  exact e_int S zr zlk (vp_nar_int _) G () [] rfl (by decide) (Or.inl rfl) (rfl) dX10_best_23
set_option maxHeartbeats 4000000 in
set_option maxRecDepth 100000 in
/-- turn, with no runner -/
theorem c_turn (l : Launch) (X : EX) (h0 : Nat) (fs : List Value) (hn : Nat) (gs : List Value) (hr : Nat) (fr : Nat → Int32) (x1 : Int32) (x2 : Int32) (x3 : Int32) (hf0 : fs[0]? = some (.ref hn)) (hf5 : fs[5]? = some (.ref hr)) (hg2 : gs[2]? = some (.int 0)) (sz : Nat) : Met l yX10_turn wsX10_turn ({ frames := 1, cells := 0, slots := 0, locals := 22 } : Room) (pE X [.ref h0, .int x1, .int x2, .int x3] [(h0, .inr (8, fs)), (hn, .inr (3, gs)), (hr, .inl (X.2.1, 3, .inl fr))] sz) (qI (fun (r : Int32) (u : Unit) => r = (-2)) X (fun (u : Unit) => []) [(h0, .inr (8, fs)), (hn, .inr (3, gs)), (hr, .inl (X.2.1, 3, .inl fr))] sz) 0 0 (va_A [(h0, .inr (8, fs)), (hn, .inr (3, gs)), (hr, .inl (X.2.1, 3, .inl fr))] sz) := by
  refine mk_met (B := (va_A [(h0, .inr (8, fs)), (hn, .inr (3, gs)), (hr, .inl (X.2.1, 3, .inl fr))] sz)) (A := (va_A [(h0, .inr (8, fs)), (hn, .inr (3, gs)), (hr, .inl (X.2.1, 3, .inl fr))] sz)) (cc := cX10_turn) (maxL := 9) (ret := (some .int)) (by decide) rfl (Nat.le_of_ble_eq_true rfl) k_w k_a (fun p e s m below meth c S zr zlk znm zsz G ls hl => ?_)
  have S : CallFix p m c cX10_turn 9 s _ wsX10_turn RX10 := S
  have zx := S.1
  have zb := S.2.1
  have hl : lv_has ls 9 [(0, .ref h0), (1, .int x1), (2, .int x2), (3, .int x3)] := hl
  refine lv_aload_n zx zb dX10_turn_0 rfl (lv_at hl 0 rfl) ?_
  refine lv_iload_n zx zb dX10_turn_1 rfl (lv_at hl 1 rfl) ?_
  refine o_ri (cells' := 0) (slots' := 0) G rfl rfl (n_V (As := [.int x1]) (rest := []) (C := RX10) (T := TX10) (N := 14) (ci := 8) S G (c_there l X h0 fs hn gs x1 hf0 hg2 s.heap.size) gX10_turn_X10_there rfl rfl rfl hdV_X10_there ⟨Nat.le_of_ble_eq_true rfl, Nat.le_of_ble_eq_true rfl⟩ [0, 1] rfl (by decide) 0 rfl rfl rfl hl.1 (Nat.le_of_ble_eq_true rfl) dX10_turn_2 ⟨Nat.le_of_ble_eq_true rfl, Nat.le_of_ble_eq_true rfl⟩) (fun r_1 u_1 H locs hp_1 G => ?_)
  have G : wd X (va_A [(h0, .inr (8, fs)), (hn, .inr (3, gs)), (hr, .inl (X.2.1, 3, .inl fr))] sz) (va_A [(h0, .inr (8, fs)), (hn, .inr (3, gs)), (hr, .inl (X.2.1, 3, .inl fr))] sz) s [(h0, .inr (8, fs)), (hn, .inr (3, gs)), (hr, .inl (X.2.1, 3, .inl fr))] H locs := G
  subst hp_1
  refine lv_if_eq (tgt := 27) zx zb dX10_turn_5 (by decide) (fun c_2 => ?_) (fun c_2 => absurd (by decide) c_2)
  refine lv_aload_n zx zb dX10_turn_27 rfl (lv_at hl 0 rfl) ?_
  refine lv_bipush (v := (-2)) zx zb dX10_turn_28 (by decide) ?_
  refine o_wi (cells' := 0) (slots' := 0) (wr := [(hn, .inr (3, gs))]) G rfl rfl [0, 2] [1] rfl rfl (by decide) (by decide) (n_V (As := [.int (-2)]) (rest := []) (C := RX10) (T := TX10) (N := 14) (ci := 8) S G (c_refuse l X h0 fs hr fr (-2) hf5 H.size) gX10_turn_X10_refuse rfl rfl rfl hdV_X10_refuse ⟨Nat.le_of_ble_eq_true rfl, Nat.le_of_ble_eq_true rfl⟩ [0, 2] rfl (by decide) 0 rfl rfl rfl hl.1 (Nat.le_of_ble_eq_true rfl) dX10_turn_30 ⟨Nat.le_of_ble_eq_true rfl, Nat.le_of_ble_eq_true rfl⟩) (fun r_3 u_3 H locs hp_3 G => ?_)
  have G : wd X (va_A [(h0, .inr (8, fs)), (hn, .inr (3, gs)), (hr, .inl (X.2.1, 3, .inl fr))] sz) (va_A [(h0, .inr (8, fs)), (hn, .inr (3, gs)), (hr, .inl (X.2.1, 3, .inl fr))] sz) s [(hn, .inr (3, gs))] H locs := G
  subst hp_3
  exact e_int S zr zlk (vp_nar_int _) G () [] rfl (by decide) (Or.inl rfl) (rfl) dX10_turn_33
theorem hdV_X10_areTwo : yX10_areTwo.cls = RX10 ∧ yX10_areTwo.cls ≠ "java/lang/invoke/MethodHandle" ∧ yX10_areTwo.cls ≠ "java/lang/invoke/VarHandle" ∧ (parseMethodDescriptor yX10_areTwo.desc).map (fun d => d.parameters.length) = some 2 := by decide +kernel
set_option maxHeartbeats 4000000 in
set_option maxRecDepth 100000 in
/-- beats, with no runner -/
theorem c_beats (l : Launch) (X : EX) (h0 : Nat) (fs : List Value) (hn : Nat) (gs : List Value) (hr : Nat) (fr : Nat → Int32) (x1 : Int32) (x2 : Int32) (hf0 : fs[0]? = some (.ref hn)) (hf5 : fs[5]? = some (.ref hr)) (hg2 : gs[2]? = some (.int 0)) (sz : Nat) : Met l yX10_beats wsX10_beats ({ frames := 2, cells := 0, slots := 0, locals := 43 } : Room) (pE X [.ref h0, .int x1, .int x2] [(h0, .inr (8, fs)), (hn, .inr (3, gs)), (hr, .inl (X.2.1, 3, .inl fr))] sz) (qI (fun (r : Int32) (u : Unit) => r = (-2)) X (fun (u : Unit) => []) [(h0, .inr (8, fs)), (hn, .inr (3, gs)), (hr, .inl (X.2.1, 3, .inl fr))] sz) 0 0 (va_A [(h0, .inr (8, fs)), (hn, .inr (3, gs)), (hr, .inl (X.2.1, 3, .inl fr))] sz) := by
  refine mk_met (B := (va_A [(h0, .inr (8, fs)), (hn, .inr (3, gs)), (hr, .inl (X.2.1, 3, .inl fr))] sz)) (A := (va_A [(h0, .inr (8, fs)), (hn, .inr (3, gs)), (hr, .inl (X.2.1, 3, .inl fr))] sz)) (cc := cX10_beats) (maxL := 7) (ret := (some .int)) (by decide) rfl (Nat.le_of_ble_eq_true rfl) k_w k_a (fun p e s m below meth c S zr zlk znm zsz G ls hl => ?_)
  have S : CallFix p m c cX10_beats 7 s _ wsX10_beats RX10 := S
  have zx := S.1
  have zb := S.2.1
  have hl : lv_has ls 7 [(0, .ref h0), (1, .int x1), (2, .int x2)] := hl
  refine lv_aload_n zx zb dX10_beats_0 rfl (lv_at hl 0 rfl) ?_
  refine lv_iload_n zx zb dX10_beats_1 rfl (lv_at hl 1 rfl) ?_
  refine lv_iload_n zx zb dX10_beats_2 rfl (lv_at hl 2 rfl) ?_
  refine o_ri (cells' := 0) (slots' := 0) G rfl rfl (n_V (As := [.int x1, .int x2]) (rest := []) (C := RX10) (T := TX10) (N := 14) (ci := 8) S G (c_areTwo l X h0 fs hn gs x1 x2 hf0 hg2 s.heap.size) gX10_beats_X10_areTwo rfl rfl rfl hdV_X10_areTwo ⟨Nat.le_of_ble_eq_true rfl, Nat.le_of_ble_eq_true rfl⟩ [0, 1] rfl (by decide) 0 rfl rfl rfl hl.1 (Nat.le_of_ble_eq_true rfl) dX10_beats_3 ⟨Nat.le_of_ble_eq_true rfl, Nat.le_of_ble_eq_true rfl⟩) (fun r_1 u_1 H locs hp_1 G => ?_)
  have G : wd X (va_A [(h0, .inr (8, fs)), (hn, .inr (3, gs)), (hr, .inl (X.2.1, 3, .inl fr))] sz) (va_A [(h0, .inr (8, fs)), (hn, .inr (3, gs)), (hr, .inl (X.2.1, 3, .inl fr))] sz) s [(h0, .inr (8, fs)), (hn, .inr (3, gs)), (hr, .inl (X.2.1, 3, .inl fr))] H locs := G
  subst hp_1
  refine lv_if_ne (tgt := 16) zx zb dX10_beats_6 (by decide) (fun c_2 => absurd (by decide) c_2) (fun c_2 => ?_)
  refine lv_aload_n zx zb dX10_beats_9 rfl (lv_at hl 0 rfl) ?_
  refine lv_bipush (v := (-2)) zx zb dX10_beats_10 (by decide) ?_
  refine o_wi (cells' := 0) (slots' := 0) (wr := [(hn, .inr (3, gs))]) G rfl rfl [0, 2] [1] rfl rfl (by decide) (by decide) (n_V (As := [.int (-2)]) (rest := []) (C := RX10) (T := TX10) (N := 14) (ci := 8) S G (c_refuse l X h0 fs hr fr (-2) hf5 H.size) gX10_beats_X10_refuse rfl rfl rfl hdV_X10_refuse ⟨Nat.le_of_ble_eq_true rfl, Nat.le_of_ble_eq_true rfl⟩ [0, 2] rfl (by decide) 0 rfl rfl rfl hl.1 (Nat.le_of_ble_eq_true rfl) dX10_beats_12 ⟨Nat.le_of_ble_eq_true rfl, Nat.le_of_ble_eq_true rfl⟩) (fun r_3 u_3 H locs hp_3 G => ?_)
  have G : wd X (va_A [(h0, .inr (8, fs)), (hn, .inr (3, gs)), (hr, .inl (X.2.1, 3, .inl fr))] sz) (va_A [(h0, .inr (8, fs)), (hn, .inr (3, gs)), (hr, .inl (X.2.1, 3, .inl fr))] sz) s [(hn, .inr (3, gs))] H locs := G
  subst hp_3
  exact e_int S zr zlk (vp_nar_int _) G () [] rfl (by decide) (Or.inl rfl) (rfl) dX10_beats_15
set_option maxHeartbeats 4000000 in
set_option maxRecDepth 100000 in
/-- close, with no runner -/
theorem c_close (l : Launch) (X : EX) (h0 : Nat) (fs : List Value) (hn : Nat) (gs : List Value) (hr : Nat) (fr : Nat → Int32) (x1 : Int32) (x2 : Int32) (x3 : Int32) (hf0 : fs[0]? = some (.ref hn)) (hf5 : fs[5]? = some (.ref hr)) (hg2 : gs[2]? = some (.int 0)) (sz : Nat) : Met l yX10_close wsX10_close ({ frames := 2, cells := 0, slots := 0, locals := 43 } : Room) (pE X [.ref h0, .int x1, .int x2, .int x3] [(h0, .inr (8, fs)), (hn, .inr (3, gs)), (hr, .inl (X.2.1, 3, .inl fr))] sz) (qI (fun (r : Int32) (u : Unit) => r = (-2)) X (fun (u : Unit) => []) [(h0, .inr (8, fs)), (hn, .inr (3, gs)), (hr, .inl (X.2.1, 3, .inl fr))] sz) 0 0 (va_A [(h0, .inr (8, fs)), (hn, .inr (3, gs)), (hr, .inl (X.2.1, 3, .inl fr))] sz) := by
  refine mk_met (B := (va_A [(h0, .inr (8, fs)), (hn, .inr (3, gs)), (hr, .inl (X.2.1, 3, .inl fr))] sz)) (A := (va_A [(h0, .inr (8, fs)), (hn, .inr (3, gs)), (hr, .inl (X.2.1, 3, .inl fr))] sz)) (cc := cX10_close) (maxL := 8) (ret := (some .int)) (by decide) rfl (Nat.le_of_ble_eq_true rfl) k_w k_a (fun p e s m below meth c S zr zlk znm zsz G ls hl => ?_)
  have S : CallFix p m c cX10_close 8 s _ wsX10_close RX10 := S
  have zx := S.1
  have zb := S.2.1
  have hl : lv_has ls 8 [(0, .ref h0), (1, .int x1), (2, .int x2), (3, .int x3)] := hl
  refine lv_aload_n zx zb dX10_close_0 rfl (lv_at hl 0 rfl) ?_
  refine lv_iload_n zx zb dX10_close_1 rfl (lv_at hl 1 rfl) ?_
  refine lv_iload_n zx zb dX10_close_2 rfl (lv_at hl 2 rfl) ?_
  refine o_ri (cells' := 0) (slots' := 0) G rfl rfl (n_V (As := [.int x1, .int x2]) (rest := []) (C := RX10) (T := TX10) (N := 14) (ci := 8) S G (c_areTwo l X h0 fs hn gs x1 x2 hf0 hg2 s.heap.size) gX10_close_X10_areTwo rfl rfl rfl hdV_X10_areTwo ⟨Nat.le_of_ble_eq_true rfl, Nat.le_of_ble_eq_true rfl⟩ [0, 1] rfl (by decide) 0 rfl rfl rfl hl.1 (Nat.le_of_ble_eq_true rfl) dX10_close_3 ⟨Nat.le_of_ble_eq_true rfl, Nat.le_of_ble_eq_true rfl⟩) (fun r_1 u_1 H locs hp_1 G => ?_)
  have G : wd X (va_A [(h0, .inr (8, fs)), (hn, .inr (3, gs)), (hr, .inl (X.2.1, 3, .inl fr))] sz) (va_A [(h0, .inr (8, fs)), (hn, .inr (3, gs)), (hr, .inl (X.2.1, 3, .inl fr))] sz) s [(h0, .inr (8, fs)), (hn, .inr (3, gs)), (hr, .inl (X.2.1, 3, .inl fr))] H locs := G
  subst hp_1
  refine lv_if_eq (tgt := 18) zx zb dX10_close_6 (by decide) (fun c_2 => ?_) (fun c_2 => absurd (by decide) c_2)
  refine lv_aload_n zx zb dX10_close_18 rfl (lv_at hl 0 rfl) ?_
  refine lv_bipush (v := (-2)) zx zb dX10_close_19 (by decide) ?_
  refine o_wi (cells' := 0) (slots' := 0) (wr := [(hn, .inr (3, gs))]) G rfl rfl [0, 2] [1] rfl rfl (by decide) (by decide) (n_V (As := [.int (-2)]) (rest := []) (C := RX10) (T := TX10) (N := 14) (ci := 8) S G (c_refuse l X h0 fs hr fr (-2) hf5 H.size) gX10_close_X10_refuse rfl rfl rfl hdV_X10_refuse ⟨Nat.le_of_ble_eq_true rfl, Nat.le_of_ble_eq_true rfl⟩ [0, 2] rfl (by decide) 0 rfl rfl rfl hl.1 (Nat.le_of_ble_eq_true rfl) dX10_close_21 ⟨Nat.le_of_ble_eq_true rfl, Nat.le_of_ble_eq_true rfl⟩) (fun r_3 u_3 H locs hp_3 G => ?_)
  have G : wd X (va_A [(h0, .inr (8, fs)), (hn, .inr (3, gs)), (hr, .inl (X.2.1, 3, .inl fr))] sz) (va_A [(h0, .inr (8, fs)), (hn, .inr (3, gs)), (hr, .inl (X.2.1, 3, .inl fr))] sz) s [(hn, .inr (3, gs))] H locs := G
  subst hp_3
  exact e_int S zr zlk (vp_nar_int _) G () [] rfl (by decide) (Or.inl rfl) (rfl) dX10_close_24
set_option maxHeartbeats 4000000 in
set_option maxRecDepth 100000 in
/-- seen, with no runner -/
theorem c_seen (l : Launch) (X : EX) (h0 : Nat) (fs : List Value) (hn : Nat) (gs : List Value) (hr : Nat) (fr : Nat → Int32) (x1 : Int32) (x2 : Int32) (x3 : Int32) (x4 : Int32) (hf0 : fs[0]? = some (.ref hn)) (hf5 : fs[5]? = some (.ref hr)) (hg2 : gs[2]? = some (.int 0)) (sz : Nat) : Met l yX10_seen wsX10_seen ({ frames := 1, cells := 0, slots := 0, locals := 22 } : Room) (pE X [.ref h0, .int x1, .int x2, .int x3, .int x4] [(h0, .inr (8, fs)), (hn, .inr (3, gs)), (hr, .inl (X.2.1, 3, .inl fr))] sz) (qI (fun (r : Int32) (u : Unit) => r = (-2)) X (fun (u : Unit) => []) [(h0, .inr (8, fs)), (hn, .inr (3, gs)), (hr, .inl (X.2.1, 3, .inl fr))] sz) 0 0 (va_A [(h0, .inr (8, fs)), (hn, .inr (3, gs)), (hr, .inl (X.2.1, 3, .inl fr))] sz) := by
  refine mk_met (B := (va_A [(h0, .inr (8, fs)), (hn, .inr (3, gs)), (hr, .inl (X.2.1, 3, .inl fr))] sz)) (A := (va_A [(h0, .inr (8, fs)), (hn, .inr (3, gs)), (hr, .inl (X.2.1, 3, .inl fr))] sz)) (cc := cX10_seen) (maxL := 5) (ret := (some .int)) (by decide) rfl (Nat.le_of_ble_eq_true rfl) k_w k_a (fun p e s m below meth c S zr zlk znm zsz G ls hl => ?_)
  have S : CallFix p m c cX10_seen 5 s _ wsX10_seen RX10 := S
  have zx := S.1
  have zb := S.2.1
  have hl : lv_has ls 5 [(0, .ref h0), (1, .int x1), (2, .int x2), (3, .int x3), (4, .int x4)] := hl
  refine lv_aload_n zx zb dX10_seen_0 rfl (lv_at hl 0 rfl) ?_
  refine lv_iload_n zx zb dX10_seen_1 rfl (lv_at hl 1 rfl) ?_
  refine o_ri (cells' := 0) (slots' := 0) G rfl rfl (n_V (As := [.int x1]) (rest := []) (C := RX10) (T := TX10) (N := 14) (ci := 8) S G (c_there l X h0 fs hn gs x1 hf0 hg2 s.heap.size) gX10_seen_X10_there rfl rfl rfl hdV_X10_there ⟨Nat.le_of_ble_eq_true rfl, Nat.le_of_ble_eq_true rfl⟩ [0, 1] rfl (by decide) 0 rfl rfl rfl hl.1 (Nat.le_of_ble_eq_true rfl) dX10_seen_2 ⟨Nat.le_of_ble_eq_true rfl, Nat.le_of_ble_eq_true rfl⟩) (fun r_1 u_1 H locs hp_1 G => ?_)
  have G : wd X (va_A [(h0, .inr (8, fs)), (hn, .inr (3, gs)), (hr, .inl (X.2.1, 3, .inl fr))] sz) (va_A [(h0, .inr (8, fs)), (hn, .inr (3, gs)), (hr, .inl (X.2.1, 3, .inl fr))] sz) s [(h0, .inr (8, fs)), (hn, .inr (3, gs)), (hr, .inl (X.2.1, 3, .inl fr))] H locs := G
  subst hp_1
  refine lv_if_eq (tgt := 39) zx zb dX10_seen_5 (by decide) (fun c_2 => ?_) (fun c_2 => absurd (by decide) c_2)
  refine lv_aload_n zx zb dX10_seen_39 rfl (lv_at hl 0 rfl) ?_
  refine lv_bipush (v := (-2)) zx zb dX10_seen_40 (by decide) ?_
  refine o_wi (cells' := 0) (slots' := 0) (wr := [(hn, .inr (3, gs))]) G rfl rfl [0, 2] [1] rfl rfl (by decide) (by decide) (n_V (As := [.int (-2)]) (rest := []) (C := RX10) (T := TX10) (N := 14) (ci := 8) S G (c_refuse l X h0 fs hr fr (-2) hf5 H.size) gX10_seen_X10_refuse rfl rfl rfl hdV_X10_refuse ⟨Nat.le_of_ble_eq_true rfl, Nat.le_of_ble_eq_true rfl⟩ [0, 2] rfl (by decide) 0 rfl rfl rfl hl.1 (Nat.le_of_ble_eq_true rfl) dX10_seen_42 ⟨Nat.le_of_ble_eq_true rfl, Nat.le_of_ble_eq_true rfl⟩) (fun r_3 u_3 H locs hp_3 G => ?_)
  have G : wd X (va_A [(h0, .inr (8, fs)), (hn, .inr (3, gs)), (hr, .inl (X.2.1, 3, .inl fr))] sz) (va_A [(h0, .inr (8, fs)), (hn, .inr (3, gs)), (hr, .inl (X.2.1, 3, .inl fr))] sz) s [(hn, .inr (3, gs))] H locs := G
  subst hp_3
  exact e_int S zr zlk (vp_nar_int _) G () [] rfl (by decide) (Or.inl rfl) (rfl) dX10_seen_45
set_option maxHeartbeats 4000000 in
set_option maxRecDepth 100000 in
/-- strong, with no runner -/
theorem c_strong (l : Launch) (X : EX) (h0 : Nat) (fs : List Value) (hn : Nat) (gs : List Value) (hr : Nat) (fr : Nat → Int32) (x1 : Int32) (x2 : Int32) (hf0 : fs[0]? = some (.ref hn)) (hf5 : fs[5]? = some (.ref hr)) (hg2 : gs[2]? = some (.int 0)) (sz : Nat) : Met l yX10_strong wsX10_strong ({ frames := 1, cells := 0, slots := 0, locals := 22 } : Room) (pE X [.ref h0, .int x1, .int x2] [(h0, .inr (8, fs)), (hn, .inr (3, gs)), (hr, .inl (X.2.1, 3, .inl fr))] sz) (qI (fun (r : Int32) (u : Unit) => r = (-2)) X (fun (u : Unit) => []) [(h0, .inr (8, fs)), (hn, .inr (3, gs)), (hr, .inl (X.2.1, 3, .inl fr))] sz) 0 0 (va_A [(h0, .inr (8, fs)), (hn, .inr (3, gs)), (hr, .inl (X.2.1, 3, .inl fr))] sz) := by
  refine mk_met (B := (va_A [(h0, .inr (8, fs)), (hn, .inr (3, gs)), (hr, .inl (X.2.1, 3, .inl fr))] sz)) (A := (va_A [(h0, .inr (8, fs)), (hn, .inr (3, gs)), (hr, .inl (X.2.1, 3, .inl fr))] sz)) (cc := cX10_strong) (maxL := 6) (ret := (some .int)) (by decide) rfl (Nat.le_of_ble_eq_true rfl) k_w k_a (fun p e s m below meth c S zr zlk znm zsz G ls hl => ?_)
  have S : CallFix p m c cX10_strong 6 s _ wsX10_strong RX10 := S
  have zx := S.1
  have zb := S.2.1
  have hl : lv_has ls 6 [(0, .ref h0), (1, .int x1), (2, .int x2)] := hl
  refine lv_aload_n zx zb dX10_strong_0 rfl (lv_at hl 0 rfl) ?_
  refine lv_iload_n zx zb dX10_strong_1 rfl (lv_at hl 1 rfl) ?_
  refine o_ri (cells' := 0) (slots' := 0) G rfl rfl (n_V (As := [.int x1]) (rest := []) (C := RX10) (T := TX10) (N := 14) (ci := 8) S G (c_there l X h0 fs hn gs x1 hf0 hg2 s.heap.size) gX10_strong_X10_there rfl rfl rfl hdV_X10_there ⟨Nat.le_of_ble_eq_true rfl, Nat.le_of_ble_eq_true rfl⟩ [0, 1] rfl (by decide) 0 rfl rfl rfl hl.1 (Nat.le_of_ble_eq_true rfl) dX10_strong_2 ⟨Nat.le_of_ble_eq_true rfl, Nat.le_of_ble_eq_true rfl⟩) (fun r_1 u_1 H locs hp_1 G => ?_)
  have G : wd X (va_A [(h0, .inr (8, fs)), (hn, .inr (3, gs)), (hr, .inl (X.2.1, 3, .inl fr))] sz) (va_A [(h0, .inr (8, fs)), (hn, .inr (3, gs)), (hr, .inl (X.2.1, 3, .inl fr))] sz) s [(h0, .inr (8, fs)), (hn, .inr (3, gs)), (hr, .inl (X.2.1, 3, .inl fr))] H locs := G
  subst hp_1
  refine lv_if_eq (tgt := 17) zx zb dX10_strong_5 (by decide) (fun c_2 => ?_) (fun c_2 => absurd (by decide) c_2)
  refine lv_aload_n zx zb dX10_strong_17 rfl (lv_at hl 0 rfl) ?_
  refine lv_bipush (v := (-2)) zx zb dX10_strong_18 (by decide) ?_
  refine o_wi (cells' := 0) (slots' := 0) (wr := [(hn, .inr (3, gs))]) G rfl rfl [0, 2] [1] rfl rfl (by decide) (by decide) (n_V (As := [.int (-2)]) (rest := []) (C := RX10) (T := TX10) (N := 14) (ci := 8) S G (c_refuse l X h0 fs hr fr (-2) hf5 H.size) gX10_strong_X10_refuse rfl rfl rfl hdV_X10_refuse ⟨Nat.le_of_ble_eq_true rfl, Nat.le_of_ble_eq_true rfl⟩ [0, 2] rfl (by decide) 0 rfl rfl rfl hl.1 (Nat.le_of_ble_eq_true rfl) dX10_strong_20 ⟨Nat.le_of_ble_eq_true rfl, Nat.le_of_ble_eq_true rfl⟩) (fun r_3 u_3 H locs hp_3 G => ?_)
  have G : wd X (va_A [(h0, .inr (8, fs)), (hn, .inr (3, gs)), (hr, .inl (X.2.1, 3, .inl fr))] sz) (va_A [(h0, .inr (8, fs)), (hn, .inr (3, gs)), (hr, .inl (X.2.1, 3, .inl fr))] sz) s [(hn, .inr (3, gs))] H locs := G
  subst hp_3
  exact e_int S zr zlk (vp_nar_int _) G () [] rfl (by decide) (Or.inl rfl) (rfl) dX10_strong_23
set_option maxHeartbeats 4000000 in
set_option maxRecDepth 100000 in
/-- tell, with no runner -/
theorem c_tell (l : Launch) (X : EX) (h0 : Nat) (fs : List Value) (hn : Nat) (gs : List Value) (hr : Nat) (fr : Nat → Int32) (x1 : Int32) (hf0 : fs[0]? = some (.ref hn)) (hf5 : fs[5]? = some (.ref hr)) (hg2 : gs[2]? = some (.int 0)) (sz : Nat) : Met l yX10_tell wsX10_tell ({ frames := 1, cells := 0, slots := 0, locals := 22 } : Room) (pE X [.ref h0, .int x1] [(h0, .inr (8, fs)), (hn, .inr (3, gs)), (hr, .inl (X.2.1, 3, .inl fr))] sz) (qI (fun (r : Int32) (u : Unit) => r = (-2)) X (fun (u : Unit) => []) [(h0, .inr (8, fs)), (hn, .inr (3, gs)), (hr, .inl (X.2.1, 3, .inl fr))] sz) 0 0 (va_A [(h0, .inr (8, fs)), (hn, .inr (3, gs)), (hr, .inl (X.2.1, 3, .inl fr))] sz) := by
  refine mk_met (B := (va_A [(h0, .inr (8, fs)), (hn, .inr (3, gs)), (hr, .inl (X.2.1, 3, .inl fr))] sz)) (A := (va_A [(h0, .inr (8, fs)), (hn, .inr (3, gs)), (hr, .inl (X.2.1, 3, .inl fr))] sz)) (cc := cX10_tell) (maxL := 2) (ret := (some .int)) (by decide) rfl (Nat.le_of_ble_eq_true rfl) k_w k_a (fun p e s m below meth c S zr zlk znm zsz G ls hl => ?_)
  have S : CallFix p m c cX10_tell 2 s _ wsX10_tell RX10 := S
  have zx := S.1
  have zb := S.2.1
  have hl : lv_has ls 2 [(0, .ref h0), (1, .int x1)] := hl
  refine lv_aload_n zx zb dX10_tell_0 rfl (lv_at hl 0 rfl) ?_
  refine lv_iload_n zx zb dX10_tell_1 rfl (lv_at hl 1 rfl) ?_
  refine o_ri (cells' := 0) (slots' := 0) G rfl rfl (n_V (As := [.int x1]) (rest := []) (C := RX10) (T := TX10) (N := 14) (ci := 8) S G (c_there l X h0 fs hn gs x1 hf0 hg2 s.heap.size) gX10_tell_X10_there rfl rfl rfl hdV_X10_there ⟨Nat.le_of_ble_eq_true rfl, Nat.le_of_ble_eq_true rfl⟩ [0, 1] rfl (by decide) 0 rfl rfl rfl hl.1 (Nat.le_of_ble_eq_true rfl) dX10_tell_2 ⟨Nat.le_of_ble_eq_true rfl, Nat.le_of_ble_eq_true rfl⟩) (fun r_1 u_1 H locs hp_1 G => ?_)
  have G : wd X (va_A [(h0, .inr (8, fs)), (hn, .inr (3, gs)), (hr, .inl (X.2.1, 3, .inl fr))] sz) (va_A [(h0, .inr (8, fs)), (hn, .inr (3, gs)), (hr, .inl (X.2.1, 3, .inl fr))] sz) s [(h0, .inr (8, fs)), (hn, .inr (3, gs)), (hr, .inl (X.2.1, 3, .inl fr))] H locs := G
  subst hp_1
  refine lv_if_ne (tgt := 15) zx zb dX10_tell_5 (by decide) (fun c_2 => absurd (by decide) c_2) (fun c_2 => ?_)
  refine lv_aload_n zx zb dX10_tell_8 rfl (lv_at hl 0 rfl) ?_
  refine lv_bipush (v := (-2)) zx zb dX10_tell_9 (by decide) ?_
  refine o_wi (cells' := 0) (slots' := 0) (wr := [(hn, .inr (3, gs))]) G rfl rfl [0, 2] [1] rfl rfl (by decide) (by decide) (n_V (As := [.int (-2)]) (rest := []) (C := RX10) (T := TX10) (N := 14) (ci := 8) S G (c_refuse l X h0 fs hr fr (-2) hf5 H.size) gX10_tell_X10_refuse rfl rfl rfl hdV_X10_refuse ⟨Nat.le_of_ble_eq_true rfl, Nat.le_of_ble_eq_true rfl⟩ [0, 2] rfl (by decide) 0 rfl rfl rfl hl.1 (Nat.le_of_ble_eq_true rfl) dX10_tell_11 ⟨Nat.le_of_ble_eq_true rfl, Nat.le_of_ble_eq_true rfl⟩) (fun r_3 u_3 H locs hp_3 G => ?_)
  have G : wd X (va_A [(h0, .inr (8, fs)), (hn, .inr (3, gs)), (hr, .inl (X.2.1, 3, .inl fr))] sz) (va_A [(h0, .inr (8, fs)), (hn, .inr (3, gs)), (hr, .inl (X.2.1, 3, .inl fr))] sz) s [(hn, .inr (3, gs))] H locs := G
  subst hp_3
  exact e_int S zr zlk (vp_nar_int _) G () [] rfl (by decide) (Or.inl rfl) (rfl) dX10_tell_14
set_option maxHeartbeats 4000000 in
set_option maxRecDepth 100000 in
/-- note, with no runner -/
theorem c_note (l : Launch) (X : EX) (h0 : Nat) (fs : List Value) (hn : Nat) (gs : List Value) (hr : Nat) (fr : Nat → Int32) (x1 : Int32) (x2 : Int32) (x3 : Int32) (x4 : Int32) (x5 : Int32) (hf0 : fs[0]? = some (.ref hn)) (hf5 : fs[5]? = some (.ref hr)) (hg2 : gs[2]? = some (.int 0)) (sz : Nat) : Met l yX10_note wsX10_note ({ frames := 1, cells := 0, slots := 0, locals := 22 } : Room) (pE X [.ref h0, .int x1, .int x2, .int x3, .int x4, .int x5] [(h0, .inr (8, fs)), (hn, .inr (3, gs)), (hr, .inl (X.2.1, 3, .inl fr))] sz) (qI (fun (r : Int32) (u : Unit) => r = (-2)) X (fun (u : Unit) => []) [(h0, .inr (8, fs)), (hn, .inr (3, gs)), (hr, .inl (X.2.1, 3, .inl fr))] sz) 0 0 (va_A [(h0, .inr (8, fs)), (hn, .inr (3, gs)), (hr, .inl (X.2.1, 3, .inl fr))] sz) := by
  refine mk_met (B := (va_A [(h0, .inr (8, fs)), (hn, .inr (3, gs)), (hr, .inl (X.2.1, 3, .inl fr))] sz)) (A := (va_A [(h0, .inr (8, fs)), (hn, .inr (3, gs)), (hr, .inl (X.2.1, 3, .inl fr))] sz)) (cc := cX10_note) (maxL := 6) (ret := (some .int)) (by decide) rfl (Nat.le_of_ble_eq_true rfl) k_w k_a (fun p e s m below meth c S zr zlk znm zsz G ls hl => ?_)
  have S : CallFix p m c cX10_note 6 s _ wsX10_note RX10 := S
  have zx := S.1
  have zb := S.2.1
  have hl : lv_has ls 6 [(0, .ref h0), (1, .int x1), (2, .int x2), (3, .int x3), (4, .int x4), (5, .int x5)] := hl
  refine lv_aload_n zx zb dX10_note_0 rfl (lv_at hl 0 rfl) ?_
  refine lv_iload_n zx zb dX10_note_1 rfl (lv_at hl 1 rfl) ?_
  refine o_ri (cells' := 0) (slots' := 0) G rfl rfl (n_V (As := [.int x1]) (rest := []) (C := RX10) (T := TX10) (N := 14) (ci := 8) S G (c_there l X h0 fs hn gs x1 hf0 hg2 s.heap.size) gX10_note_X10_there rfl rfl rfl hdV_X10_there ⟨Nat.le_of_ble_eq_true rfl, Nat.le_of_ble_eq_true rfl⟩ [0, 1] rfl (by decide) 0 rfl rfl rfl hl.1 (Nat.le_of_ble_eq_true rfl) dX10_note_2 ⟨Nat.le_of_ble_eq_true rfl, Nat.le_of_ble_eq_true rfl⟩) (fun r_1 u_1 H locs hp_1 G => ?_)
  have G : wd X (va_A [(h0, .inr (8, fs)), (hn, .inr (3, gs)), (hr, .inl (X.2.1, 3, .inl fr))] sz) (va_A [(h0, .inr (8, fs)), (hn, .inr (3, gs)), (hr, .inl (X.2.1, 3, .inl fr))] sz) s [(h0, .inr (8, fs)), (hn, .inr (3, gs)), (hr, .inl (X.2.1, 3, .inl fr))] H locs := G
  subst hp_1
  refine lv_if_eq (tgt := 50) zx zb dX10_note_5 (by decide) (fun c_2 => ?_) (fun c_2 => absurd (by decide) c_2)
  refine lv_aload_n zx zb dX10_note_50 rfl (lv_at hl 0 rfl) ?_
  refine lv_bipush (v := (-2)) zx zb dX10_note_51 (by decide) ?_
  refine o_wi (cells' := 0) (slots' := 0) (wr := [(hn, .inr (3, gs))]) G rfl rfl [0, 2] [1] rfl rfl (by decide) (by decide) (n_V (As := [.int (-2)]) (rest := []) (C := RX10) (T := TX10) (N := 14) (ci := 8) S G (c_refuse l X h0 fs hr fr (-2) hf5 H.size) gX10_note_X10_refuse rfl rfl rfl hdV_X10_refuse ⟨Nat.le_of_ble_eq_true rfl, Nat.le_of_ble_eq_true rfl⟩ [0, 2] rfl (by decide) 0 rfl rfl rfl hl.1 (Nat.le_of_ble_eq_true rfl) dX10_note_53 ⟨Nat.le_of_ble_eq_true rfl, Nat.le_of_ble_eq_true rfl⟩) (fun r_3 u_3 H locs hp_3 G => ?_)
  have G : wd X (va_A [(h0, .inr (8, fs)), (hn, .inr (3, gs)), (hr, .inl (X.2.1, 3, .inl fr))] sz) (va_A [(h0, .inr (8, fs)), (hn, .inr (3, gs)), (hr, .inl (X.2.1, 3, .inl fr))] sz) s [(hn, .inr (3, gs))] H locs := G
  subst hp_3
  exact e_int S zr zlk (vp_nar_int _) G () [] rfl (by decide) (Or.inl rfl) (rfl) dX10_note_56
set_option maxHeartbeats 4000000 in
set_option maxRecDepth 100000 in
/-- mark, with no runner -/
theorem c_mark (l : Launch) (X : EX) (h0 : Nat) (fs : List Value) (hn : Nat) (gs : List Value) (hr : Nat) (fr : Nat → Int32) (x1 : Int32) (x2 : Int32) (x3 : Int32) (hf0 : fs[0]? = some (.ref hn)) (hf5 : fs[5]? = some (.ref hr)) (hg2 : gs[2]? = some (.int 0)) (sz : Nat) : Met l yX10_mark wsX10_mark ({ frames := 1, cells := 0, slots := 0, locals := 22 } : Room) (pE X [.ref h0, .int x1, .int x2, .int x3] [(h0, .inr (8, fs)), (hn, .inr (3, gs)), (hr, .inl (X.2.1, 3, .inl fr))] sz) (qI (fun (r : Int32) (u : Unit) => r = (-2)) X (fun (u : Unit) => []) [(h0, .inr (8, fs)), (hn, .inr (3, gs)), (hr, .inl (X.2.1, 3, .inl fr))] sz) 0 0 (va_A [(h0, .inr (8, fs)), (hn, .inr (3, gs)), (hr, .inl (X.2.1, 3, .inl fr))] sz) := by
  refine mk_met (B := (va_A [(h0, .inr (8, fs)), (hn, .inr (3, gs)), (hr, .inl (X.2.1, 3, .inl fr))] sz)) (A := (va_A [(h0, .inr (8, fs)), (hn, .inr (3, gs)), (hr, .inl (X.2.1, 3, .inl fr))] sz)) (cc := cX10_mark) (maxL := 4) (ret := (some .int)) (by decide) rfl (Nat.le_of_ble_eq_true rfl) k_w k_a (fun p e s m below meth c S zr zlk znm zsz G ls hl => ?_)
  have S : CallFix p m c cX10_mark 4 s _ wsX10_mark RX10 := S
  have zx := S.1
  have zb := S.2.1
  have hl : lv_has ls 4 [(0, .ref h0), (1, .int x1), (2, .int x2), (3, .int x3)] := hl
  refine lv_aload_n zx zb dX10_mark_0 rfl (lv_at hl 0 rfl) ?_
  refine lv_iload_n zx zb dX10_mark_1 rfl (lv_at hl 1 rfl) ?_
  refine o_ri (cells' := 0) (slots' := 0) G rfl rfl (n_V (As := [.int x1]) (rest := []) (C := RX10) (T := TX10) (N := 14) (ci := 8) S G (c_there l X h0 fs hn gs x1 hf0 hg2 s.heap.size) gX10_mark_X10_there rfl rfl rfl hdV_X10_there ⟨Nat.le_of_ble_eq_true rfl, Nat.le_of_ble_eq_true rfl⟩ [0, 1] rfl (by decide) 0 rfl rfl rfl hl.1 (Nat.le_of_ble_eq_true rfl) dX10_mark_2 ⟨Nat.le_of_ble_eq_true rfl, Nat.le_of_ble_eq_true rfl⟩) (fun r_1 u_1 H locs hp_1 G => ?_)
  have G : wd X (va_A [(h0, .inr (8, fs)), (hn, .inr (3, gs)), (hr, .inl (X.2.1, 3, .inl fr))] sz) (va_A [(h0, .inr (8, fs)), (hn, .inr (3, gs)), (hr, .inl (X.2.1, 3, .inl fr))] sz) s [(h0, .inr (8, fs)), (hn, .inr (3, gs)), (hr, .inl (X.2.1, 3, .inl fr))] H locs := G
  subst hp_1
  refine lv_if_eq (tgt := 28) zx zb dX10_mark_5 (by decide) (fun c_2 => ?_) (fun c_2 => absurd (by decide) c_2)
  refine lv_aload_n zx zb dX10_mark_28 rfl (lv_at hl 0 rfl) ?_
  refine lv_bipush (v := (-2)) zx zb dX10_mark_29 (by decide) ?_
  refine o_wi (cells' := 0) (slots' := 0) (wr := [(hn, .inr (3, gs))]) G rfl rfl [0, 2] [1] rfl rfl (by decide) (by decide) (n_V (As := [.int (-2)]) (rest := []) (C := RX10) (T := TX10) (N := 14) (ci := 8) S G (c_refuse l X h0 fs hr fr (-2) hf5 H.size) gX10_mark_X10_refuse rfl rfl rfl hdV_X10_refuse ⟨Nat.le_of_ble_eq_true rfl, Nat.le_of_ble_eq_true rfl⟩ [0, 2] rfl (by decide) 0 rfl rfl rfl hl.1 (Nat.le_of_ble_eq_true rfl) dX10_mark_31 ⟨Nat.le_of_ble_eq_true rfl, Nat.le_of_ble_eq_true rfl⟩) (fun r_3 u_3 H locs hp_3 G => ?_)
  have G : wd X (va_A [(h0, .inr (8, fs)), (hn, .inr (3, gs)), (hr, .inl (X.2.1, 3, .inl fr))] sz) (va_A [(h0, .inr (8, fs)), (hn, .inr (3, gs)), (hr, .inl (X.2.1, 3, .inl fr))] sz) s [(hn, .inr (3, gs))] H locs := G
  subst hp_3
  exact e_int S zr zlk (vp_nar_int _) G () [] rfl (by decide) (Or.inl rfl) (rfl) dX10_mark_34
set_option maxHeartbeats 4000000 in
set_option maxRecDepth 100000 in
/-- is, with no runner -/
theorem c_is (l : Launch) (X : EX) (h0 : Nat) (fs : List Value) (hn : Nat) (gs : List Value) (hr : Nat) (fr : Nat → Int32) (x1 : Int32) (hf0 : fs[0]? = some (.ref hn)) (hf5 : fs[5]? = some (.ref hr)) (hg2 : gs[2]? = some (.int 0)) (sz : Nat) : Met l yX10_is wsX10_is ({ frames := 1, cells := 0, slots := 0, locals := 22 } : Room) (pE X [.ref h0, .int x1] [(h0, .inr (8, fs)), (hn, .inr (3, gs)), (hr, .inl (X.2.1, 3, .inl fr))] sz) (qI (fun (r : Int32) (u : Unit) => r = (-2)) X (fun (u : Unit) => []) [(h0, .inr (8, fs)), (hn, .inr (3, gs)), (hr, .inl (X.2.1, 3, .inl fr))] sz) 0 0 (va_A [(h0, .inr (8, fs)), (hn, .inr (3, gs)), (hr, .inl (X.2.1, 3, .inl fr))] sz) := by
  refine mk_met (B := (va_A [(h0, .inr (8, fs)), (hn, .inr (3, gs)), (hr, .inl (X.2.1, 3, .inl fr))] sz)) (A := (va_A [(h0, .inr (8, fs)), (hn, .inr (3, gs)), (hr, .inl (X.2.1, 3, .inl fr))] sz)) (cc := cX10_is) (maxL := 2) (ret := (some .int)) (by decide) rfl (Nat.le_of_ble_eq_true rfl) k_w k_a (fun p e s m below meth c S zr zlk znm zsz G ls hl => ?_)
  have S : CallFix p m c cX10_is 2 s _ wsX10_is RX10 := S
  have zx := S.1
  have zb := S.2.1
  have hl : lv_has ls 2 [(0, .ref h0), (1, .int x1)] := hl
  refine lv_aload_n zx zb dX10_is_0 rfl (lv_at hl 0 rfl) ?_
  refine lv_iload_n zx zb dX10_is_1 rfl (lv_at hl 1 rfl) ?_
  refine o_ri (cells' := 0) (slots' := 0) G rfl rfl (n_V (As := [.int x1]) (rest := []) (C := RX10) (T := TX10) (N := 14) (ci := 8) S G (c_there l X h0 fs hn gs x1 hf0 hg2 s.heap.size) gX10_is_X10_there rfl rfl rfl hdV_X10_there ⟨Nat.le_of_ble_eq_true rfl, Nat.le_of_ble_eq_true rfl⟩ [0, 1] rfl (by decide) 0 rfl rfl rfl hl.1 (Nat.le_of_ble_eq_true rfl) dX10_is_2 ⟨Nat.le_of_ble_eq_true rfl, Nat.le_of_ble_eq_true rfl⟩) (fun r_1 u_1 H locs hp_1 G => ?_)
  have G : wd X (va_A [(h0, .inr (8, fs)), (hn, .inr (3, gs)), (hr, .inl (X.2.1, 3, .inl fr))] sz) (va_A [(h0, .inr (8, fs)), (hn, .inr (3, gs)), (hr, .inl (X.2.1, 3, .inl fr))] sz) s [(h0, .inr (8, fs)), (hn, .inr (3, gs)), (hr, .inl (X.2.1, 3, .inl fr))] H locs := G
  subst hp_1
  refine lv_if_eq (tgt := 19) zx zb dX10_is_5 (by decide) (fun c_2 => ?_) (fun c_2 => absurd (by decide) c_2)
  refine lv_aload_n zx zb dX10_is_19 rfl (lv_at hl 0 rfl) ?_
  refine lv_bipush (v := (-2)) zx zb dX10_is_20 (by decide) ?_
  refine o_wi (cells' := 0) (slots' := 0) (wr := [(hn, .inr (3, gs))]) G rfl rfl [0, 2] [1] rfl rfl (by decide) (by decide) (n_V (As := [.int (-2)]) (rest := []) (C := RX10) (T := TX10) (N := 14) (ci := 8) S G (c_refuse l X h0 fs hr fr (-2) hf5 H.size) gX10_is_X10_refuse rfl rfl rfl hdV_X10_refuse ⟨Nat.le_of_ble_eq_true rfl, Nat.le_of_ble_eq_true rfl⟩ [0, 2] rfl (by decide) 0 rfl rfl rfl hl.1 (Nat.le_of_ble_eq_true rfl) dX10_is_22 ⟨Nat.le_of_ble_eq_true rfl, Nat.le_of_ble_eq_true rfl⟩) (fun r_3 u_3 H locs hp_3 G => ?_)
  have G : wd X (va_A [(h0, .inr (8, fs)), (hn, .inr (3, gs)), (hr, .inl (X.2.1, 3, .inl fr))] sz) (va_A [(h0, .inr (8, fs)), (hn, .inr (3, gs)), (hr, .inl (X.2.1, 3, .inl fr))] sz) s [(hn, .inr (3, gs))] H locs := G
  subst hp_3
  exact e_int S zr zlk (vp_nar_int _) G () [] rfl (by decide) (Or.inl rfl) (rfl) dX10_is_25
set_option maxHeartbeats 4000000 in
set_option maxRecDepth 100000 in
/-- look, with no runner -/
theorem c_look (l : Launch) (X : EX) (h0 : Nat) (fs : List Value) (hn : Nat) (gs : List Value) (hr : Nat) (fr : Nat → Int32) (x1 : Int32) (hf0 : fs[0]? = some (.ref hn)) (hf5 : fs[5]? = some (.ref hr)) (hg2 : gs[2]? = some (.int 0)) (sz : Nat) : Met l yX10_look wsX10_look ({ frames := 1, cells := 0, slots := 0, locals := 22 } : Room) (pE X [.ref h0, .int x1] [(h0, .inr (8, fs)), (hn, .inr (3, gs)), (hr, .inl (X.2.1, 3, .inl fr))] sz) (qI (fun (r : Int32) (u : Unit) => r = (-2)) X (fun (u : Unit) => []) [(h0, .inr (8, fs)), (hn, .inr (3, gs)), (hr, .inl (X.2.1, 3, .inl fr))] sz) 0 0 (va_A [(h0, .inr (8, fs)), (hn, .inr (3, gs)), (hr, .inl (X.2.1, 3, .inl fr))] sz) := by
  refine mk_met (B := (va_A [(h0, .inr (8, fs)), (hn, .inr (3, gs)), (hr, .inl (X.2.1, 3, .inl fr))] sz)) (A := (va_A [(h0, .inr (8, fs)), (hn, .inr (3, gs)), (hr, .inl (X.2.1, 3, .inl fr))] sz)) (cc := cX10_look) (maxL := 2) (ret := (some .int)) (by decide) rfl (Nat.le_of_ble_eq_true rfl) k_w k_a (fun p e s m below meth c S zr zlk znm zsz G ls hl => ?_)
  have S : CallFix p m c cX10_look 2 s _ wsX10_look RX10 := S
  have zx := S.1
  have zb := S.2.1
  have hl : lv_has ls 2 [(0, .ref h0), (1, .int x1)] := hl
  refine lv_aload_n zx zb dX10_look_0 rfl (lv_at hl 0 rfl) ?_
  refine lv_iload_n zx zb dX10_look_1 rfl (lv_at hl 1 rfl) ?_
  refine o_ri (cells' := 0) (slots' := 0) G rfl rfl (n_V (As := [.int x1]) (rest := []) (C := RX10) (T := TX10) (N := 14) (ci := 8) S G (c_there l X h0 fs hn gs x1 hf0 hg2 s.heap.size) gX10_look_X10_there rfl rfl rfl hdV_X10_there ⟨Nat.le_of_ble_eq_true rfl, Nat.le_of_ble_eq_true rfl⟩ [0, 1] rfl (by decide) 0 rfl rfl rfl hl.1 (Nat.le_of_ble_eq_true rfl) dX10_look_2 ⟨Nat.le_of_ble_eq_true rfl, Nat.le_of_ble_eq_true rfl⟩) (fun r_1 u_1 H locs hp_1 G => ?_)
  have G : wd X (va_A [(h0, .inr (8, fs)), (hn, .inr (3, gs)), (hr, .inl (X.2.1, 3, .inl fr))] sz) (va_A [(h0, .inr (8, fs)), (hn, .inr (3, gs)), (hr, .inl (X.2.1, 3, .inl fr))] sz) s [(h0, .inr (8, fs)), (hn, .inr (3, gs)), (hr, .inl (X.2.1, 3, .inl fr))] H locs := G
  subst hp_1
  refine lv_if_ne (tgt := 15) zx zb dX10_look_5 (by decide) (fun c_2 => absurd (by decide) c_2) (fun c_2 => ?_)
  refine lv_aload_n zx zb dX10_look_8 rfl (lv_at hl 0 rfl) ?_
  refine lv_bipush (v := (-2)) zx zb dX10_look_9 (by decide) ?_
  refine o_wi (cells' := 0) (slots' := 0) (wr := [(hn, .inr (3, gs))]) G rfl rfl [0, 2] [1] rfl rfl (by decide) (by decide) (n_V (As := [.int (-2)]) (rest := []) (C := RX10) (T := TX10) (N := 14) (ci := 8) S G (c_refuse l X h0 fs hr fr (-2) hf5 H.size) gX10_look_X10_refuse rfl rfl rfl hdV_X10_refuse ⟨Nat.le_of_ble_eq_true rfl, Nat.le_of_ble_eq_true rfl⟩ [0, 2] rfl (by decide) 0 rfl rfl rfl hl.1 (Nat.le_of_ble_eq_true rfl) dX10_look_11 ⟨Nat.le_of_ble_eq_true rfl, Nat.le_of_ble_eq_true rfl⟩) (fun r_3 u_3 H locs hp_3 G => ?_)
  have G : wd X (va_A [(h0, .inr (8, fs)), (hn, .inr (3, gs)), (hr, .inl (X.2.1, 3, .inl fr))] sz) (va_A [(h0, .inr (8, fs)), (hn, .inr (3, gs)), (hr, .inl (X.2.1, 3, .inl fr))] sz) s [(hn, .inr (3, gs))] H locs := G
  subst hp_3
  exact e_int S zr zlk (vp_nar_int _) G () [] rfl (by decide) (Or.inl rfl) (rfl) dX10_look_14
set_option maxHeartbeats 4000000 in
set_option maxRecDepth 100000 in
/-- kinds, with no runner -/
theorem c_kinds (l : Launch) (X : EX) (h0 : Nat) (fs : List Value) (hn : Nat) (gs : List Value) (hr : Nat) (fr : Nat → Int32) (x1 : Int32) (hf0 : fs[0]? = some (.ref hn)) (hf5 : fs[5]? = some (.ref hr)) (hg2 : gs[2]? = some (.int 0)) (sz : Nat) : Met l yX10_kinds wsX10_kinds ({ frames := 1, cells := 0, slots := 0, locals := 22 } : Room) (pE X [.ref h0, .int x1] [(h0, .inr (8, fs)), (hn, .inr (3, gs)), (hr, .inl (X.2.1, 3, .inl fr))] sz) (qI (fun (r : Int32) (u : Unit) => r = (-2)) X (fun (u : Unit) => []) [(h0, .inr (8, fs)), (hn, .inr (3, gs)), (hr, .inl (X.2.1, 3, .inl fr))] sz) 0 0 (va_A [(h0, .inr (8, fs)), (hn, .inr (3, gs)), (hr, .inl (X.2.1, 3, .inl fr))] sz) := by
  refine mk_met (B := (va_A [(h0, .inr (8, fs)), (hn, .inr (3, gs)), (hr, .inl (X.2.1, 3, .inl fr))] sz)) (A := (va_A [(h0, .inr (8, fs)), (hn, .inr (3, gs)), (hr, .inl (X.2.1, 3, .inl fr))] sz)) (cc := cX10_kinds) (maxL := 2) (ret := (some .int)) (by decide) rfl (Nat.le_of_ble_eq_true rfl) k_w k_a (fun p e s m below meth c S zr zlk znm zsz G ls hl => ?_)
  have S : CallFix p m c cX10_kinds 2 s _ wsX10_kinds RX10 := S
  have zx := S.1
  have zb := S.2.1
  have hl : lv_has ls 2 [(0, .ref h0), (1, .int x1)] := hl
  refine lv_aload_n zx zb dX10_kinds_0 rfl (lv_at hl 0 rfl) ?_
  refine lv_iload_n zx zb dX10_kinds_1 rfl (lv_at hl 1 rfl) ?_
  refine o_ri (cells' := 0) (slots' := 0) G rfl rfl (n_V (As := [.int x1]) (rest := []) (C := RX10) (T := TX10) (N := 14) (ci := 8) S G (c_there l X h0 fs hn gs x1 hf0 hg2 s.heap.size) gX10_kinds_X10_there rfl rfl rfl hdV_X10_there ⟨Nat.le_of_ble_eq_true rfl, Nat.le_of_ble_eq_true rfl⟩ [0, 1] rfl (by decide) 0 rfl rfl rfl hl.1 (Nat.le_of_ble_eq_true rfl) dX10_kinds_2 ⟨Nat.le_of_ble_eq_true rfl, Nat.le_of_ble_eq_true rfl⟩) (fun r_1 u_1 H locs hp_1 G => ?_)
  have G : wd X (va_A [(h0, .inr (8, fs)), (hn, .inr (3, gs)), (hr, .inl (X.2.1, 3, .inl fr))] sz) (va_A [(h0, .inr (8, fs)), (hn, .inr (3, gs)), (hr, .inl (X.2.1, 3, .inl fr))] sz) s [(h0, .inr (8, fs)), (hn, .inr (3, gs)), (hr, .inl (X.2.1, 3, .inl fr))] H locs := G
  subst hp_1
  refine lv_if_eq (tgt := 19) zx zb dX10_kinds_5 (by decide) (fun c_2 => ?_) (fun c_2 => absurd (by decide) c_2)
  refine lv_aload_n zx zb dX10_kinds_19 rfl (lv_at hl 0 rfl) ?_
  refine lv_bipush (v := (-2)) zx zb dX10_kinds_20 (by decide) ?_
  refine o_wi (cells' := 0) (slots' := 0) (wr := [(hn, .inr (3, gs))]) G rfl rfl [0, 2] [1] rfl rfl (by decide) (by decide) (n_V (As := [.int (-2)]) (rest := []) (C := RX10) (T := TX10) (N := 14) (ci := 8) S G (c_refuse l X h0 fs hr fr (-2) hf5 H.size) gX10_kinds_X10_refuse rfl rfl rfl hdV_X10_refuse ⟨Nat.le_of_ble_eq_true rfl, Nat.le_of_ble_eq_true rfl⟩ [0, 2] rfl (by decide) 0 rfl rfl rfl hl.1 (Nat.le_of_ble_eq_true rfl) dX10_kinds_22 ⟨Nat.le_of_ble_eq_true rfl, Nat.le_of_ble_eq_true rfl⟩) (fun r_3 u_3 H locs hp_3 G => ?_)
  have G : wd X (va_A [(h0, .inr (8, fs)), (hn, .inr (3, gs)), (hr, .inl (X.2.1, 3, .inl fr))] sz) (va_A [(h0, .inr (8, fs)), (hn, .inr (3, gs)), (hr, .inl (X.2.1, 3, .inl fr))] sz) s [(hn, .inr (3, gs))] H locs := G
  subst hp_3
  exact e_int S zr zlk (vp_nar_int _) G () [] rfl (by decide) (Or.inl rfl) (rfl) dX10_kinds_25
set_option maxHeartbeats 4000000 in
set_option maxRecDepth 100000 in
/-- ask, with no runner -/
theorem c_ask (l : Launch) (X : EX) (h0 : Nat) (fs : List Value) (hn : Nat) (gs : List Value) (hr : Nat) (fr : Nat → Int32) (x1 : Int32) (hf0 : fs[0]? = some (.ref hn)) (hf5 : fs[5]? = some (.ref hr)) (hg2 : gs[2]? = some (.int 0)) (sz : Nat) : Met l yX10_ask wsX10_ask ({ frames := 1, cells := 0, slots := 0, locals := 22 } : Room) (pE X [.ref h0, .int x1] [(h0, .inr (8, fs)), (hn, .inr (3, gs)), (hr, .inl (X.2.1, 3, .inl fr))] sz) (qI (fun (r : Int32) (u : Unit) => r = (-2)) X (fun (u : Unit) => []) [(h0, .inr (8, fs)), (hn, .inr (3, gs)), (hr, .inl (X.2.1, 3, .inl fr))] sz) 0 0 (va_A [(h0, .inr (8, fs)), (hn, .inr (3, gs)), (hr, .inl (X.2.1, 3, .inl fr))] sz) := by
  refine mk_met (B := (va_A [(h0, .inr (8, fs)), (hn, .inr (3, gs)), (hr, .inl (X.2.1, 3, .inl fr))] sz)) (A := (va_A [(h0, .inr (8, fs)), (hn, .inr (3, gs)), (hr, .inl (X.2.1, 3, .inl fr))] sz)) (cc := cX10_ask) (maxL := 2) (ret := (some .int)) (by decide) rfl (Nat.le_of_ble_eq_true rfl) k_w k_a (fun p e s m below meth c S zr zlk znm zsz G ls hl => ?_)
  have S : CallFix p m c cX10_ask 2 s _ wsX10_ask RX10 := S
  have zx := S.1
  have zb := S.2.1
  have hl : lv_has ls 2 [(0, .ref h0), (1, .int x1)] := hl
  refine lv_aload_n zx zb dX10_ask_0 rfl (lv_at hl 0 rfl) ?_
  refine lv_iload_n zx zb dX10_ask_1 rfl (lv_at hl 1 rfl) ?_
  refine o_ri (cells' := 0) (slots' := 0) G rfl rfl (n_V (As := [.int x1]) (rest := []) (C := RX10) (T := TX10) (N := 14) (ci := 8) S G (c_there l X h0 fs hn gs x1 hf0 hg2 s.heap.size) gX10_ask_X10_there rfl rfl rfl hdV_X10_there ⟨Nat.le_of_ble_eq_true rfl, Nat.le_of_ble_eq_true rfl⟩ [0, 1] rfl (by decide) 0 rfl rfl rfl hl.1 (Nat.le_of_ble_eq_true rfl) dX10_ask_2 ⟨Nat.le_of_ble_eq_true rfl, Nat.le_of_ble_eq_true rfl⟩) (fun r_1 u_1 H locs hp_1 G => ?_)
  have G : wd X (va_A [(h0, .inr (8, fs)), (hn, .inr (3, gs)), (hr, .inl (X.2.1, 3, .inl fr))] sz) (va_A [(h0, .inr (8, fs)), (hn, .inr (3, gs)), (hr, .inl (X.2.1, 3, .inl fr))] sz) s [(h0, .inr (8, fs)), (hn, .inr (3, gs)), (hr, .inl (X.2.1, 3, .inl fr))] H locs := G
  subst hp_1
  refine lv_if_ne (tgt := 15) zx zb dX10_ask_5 (by decide) (fun c_2 => absurd (by decide) c_2) (fun c_2 => ?_)
  refine lv_aload_n zx zb dX10_ask_8 rfl (lv_at hl 0 rfl) ?_
  refine lv_bipush (v := (-2)) zx zb dX10_ask_9 (by decide) ?_
  refine o_wi (cells' := 0) (slots' := 0) (wr := [(hn, .inr (3, gs))]) G rfl rfl [0, 2] [1] rfl rfl (by decide) (by decide) (n_V (As := [.int (-2)]) (rest := []) (C := RX10) (T := TX10) (N := 14) (ci := 8) S G (c_refuse l X h0 fs hr fr (-2) hf5 H.size) gX10_ask_X10_refuse rfl rfl rfl hdV_X10_refuse ⟨Nat.le_of_ble_eq_true rfl, Nat.le_of_ble_eq_true rfl⟩ [0, 2] rfl (by decide) 0 rfl rfl rfl hl.1 (Nat.le_of_ble_eq_true rfl) dX10_ask_11 ⟨Nat.le_of_ble_eq_true rfl, Nat.le_of_ble_eq_true rfl⟩) (fun r_3 u_3 H locs hp_3 G => ?_)
  have G : wd X (va_A [(h0, .inr (8, fs)), (hn, .inr (3, gs)), (hr, .inl (X.2.1, 3, .inl fr))] sz) (va_A [(h0, .inr (8, fs)), (hn, .inr (3, gs)), (hr, .inl (X.2.1, 3, .inl fr))] sz) s [(hn, .inr (3, gs))] H locs := G
  subst hp_3
  exact e_int S zr zlk (vp_nar_int _) G () [] rfl (by decide) (Or.inl rfl) (rfl) dX10_ask_14
set_option maxHeartbeats 4000000 in
set_option maxRecDepth 100000 in
/-- stumble, with no runner -/
theorem c_stumble (l : Launch) (X : EX) (h0 : Nat) (fs : List Value) (hn : Nat) (gs : List Value) (hr : Nat) (fr : Nat → Int32) (x1 : Int32) (x2 : Int32) (x3 : Int32) (x4 : Int32) (hf0 : fs[0]? = some (.ref hn)) (hf5 : fs[5]? = some (.ref hr)) (hg2 : gs[2]? = some (.int 0)) (sz : Nat) : Met l yX10_stumble wsX10_stumble ({ frames := 1, cells := 0, slots := 0, locals := 22 } : Room) (pE X [.ref h0, .int x1, .int x2, .int x3, .int x4] [(h0, .inr (8, fs)), (hn, .inr (3, gs)), (hr, .inl (X.2.1, 3, .inl fr))] sz) (qI (fun (r : Int32) (u : Unit) => r = (-2)) X (fun (u : Unit) => []) [(h0, .inr (8, fs)), (hn, .inr (3, gs)), (hr, .inl (X.2.1, 3, .inl fr))] sz) 0 0 (va_A [(h0, .inr (8, fs)), (hn, .inr (3, gs)), (hr, .inl (X.2.1, 3, .inl fr))] sz) := by
  refine mk_met (B := (va_A [(h0, .inr (8, fs)), (hn, .inr (3, gs)), (hr, .inl (X.2.1, 3, .inl fr))] sz)) (A := (va_A [(h0, .inr (8, fs)), (hn, .inr (3, gs)), (hr, .inl (X.2.1, 3, .inl fr))] sz)) (cc := cX10_stumble) (maxL := 12) (ret := (some .int)) (by decide) rfl (Nat.le_of_ble_eq_true rfl) k_w k_a (fun p e s m below meth c S zr zlk znm zsz G ls hl => ?_)
  have S : CallFix p m c cX10_stumble 12 s _ wsX10_stumble RX10 := S
  have zx := S.1
  have zb := S.2.1
  have hl : lv_has ls 12 [(0, .ref h0), (1, .int x1), (2, .int x2), (3, .int x3), (4, .int x4)] := hl
  refine lv_aload_n zx zb dX10_stumble_0 rfl (lv_at hl 0 rfl) ?_
  refine lv_iload_n zx zb dX10_stumble_1 rfl (lv_at hl 1 rfl) ?_
  refine o_ri (cells' := 0) (slots' := 0) G rfl rfl (n_V (As := [.int x1]) (rest := []) (C := RX10) (T := TX10) (N := 14) (ci := 8) S G (c_there l X h0 fs hn gs x1 hf0 hg2 s.heap.size) gX10_stumble_X10_there rfl rfl rfl hdV_X10_there ⟨Nat.le_of_ble_eq_true rfl, Nat.le_of_ble_eq_true rfl⟩ [0, 1] rfl (by decide) 0 rfl rfl rfl hl.1 (Nat.le_of_ble_eq_true rfl) dX10_stumble_2 ⟨Nat.le_of_ble_eq_true rfl, Nat.le_of_ble_eq_true rfl⟩) (fun r_1 u_1 H locs hp_1 G => ?_)
  have G : wd X (va_A [(h0, .inr (8, fs)), (hn, .inr (3, gs)), (hr, .inl (X.2.1, 3, .inl fr))] sz) (va_A [(h0, .inr (8, fs)), (hn, .inr (3, gs)), (hr, .inl (X.2.1, 3, .inl fr))] sz) s [(h0, .inr (8, fs)), (hn, .inr (3, gs)), (hr, .inl (X.2.1, 3, .inl fr))] H locs := G
  subst hp_1
  refine lv_if_eq (tgt := 39) zx zb dX10_stumble_5 (by decide) (fun c_2 => ?_) (fun c_2 => absurd (by decide) c_2)
  refine lv_aload_n zx zb dX10_stumble_39 rfl (lv_at hl 0 rfl) ?_
  refine lv_bipush (v := (-2)) zx zb dX10_stumble_40 (by decide) ?_
  refine o_wi (cells' := 0) (slots' := 0) (wr := [(hn, .inr (3, gs))]) G rfl rfl [0, 2] [1] rfl rfl (by decide) (by decide) (n_V (As := [.int (-2)]) (rest := []) (C := RX10) (T := TX10) (N := 14) (ci := 8) S G (c_refuse l X h0 fs hr fr (-2) hf5 H.size) gX10_stumble_X10_refuse rfl rfl rfl hdV_X10_refuse ⟨Nat.le_of_ble_eq_true rfl, Nat.le_of_ble_eq_true rfl⟩ [0, 2] rfl (by decide) 0 rfl rfl rfl hl.1 (Nat.le_of_ble_eq_true rfl) dX10_stumble_42 ⟨Nat.le_of_ble_eq_true rfl, Nat.le_of_ble_eq_true rfl⟩) (fun r_3 u_3 H locs hp_3 G => ?_)
  have G : wd X (va_A [(h0, .inr (8, fs)), (hn, .inr (3, gs)), (hr, .inl (X.2.1, 3, .inl fr))] sz) (va_A [(h0, .inr (8, fs)), (hn, .inr (3, gs)), (hr, .inl (X.2.1, 3, .inl fr))] sz) s [(hn, .inr (3, gs))] H locs := G
  subst hp_3
  exact e_int S zr zlk (vp_nar_int _) G () [] rfl (by decide) (Or.inl rfl) (rfl) dX10_stumble_45
set_option maxHeartbeats 4000000 in
set_option maxRecDepth 100000 in
/-- pair, with no runner -/
theorem c_pair (l : Launch) (X : EX) (h0 : Nat) (fs : List Value) (hn : Nat) (gs : List Value) (hr : Nat) (fr : Nat → Int32) (x1 : Int32) (x2 : Int32) (x3 : Int32) (hf0 : fs[0]? = some (.ref hn)) (hf5 : fs[5]? = some (.ref hr)) (hg2 : gs[2]? = some (.int 0)) (sz : Nat) : Met l yX10_pair wsX10_pair ({ frames := 2, cells := 0, slots := 0, locals := 43 } : Room) (pE X [.ref h0, .int x1, .int x2, .int x3] [(h0, .inr (8, fs)), (hn, .inr (3, gs)), (hr, .inl (X.2.1, 3, .inl fr))] sz) (qI (fun (r : Int32) (u : Unit) => r = (-10)) X (fun (u : Unit) => []) [(h0, .inr (8, fs)), (hn, .inr (3, gs)), (hr, .inl (X.2.1, 3, .inl fr))] sz) 0 0 (va_A [(h0, .inr (8, fs)), (hn, .inr (3, gs)), (hr, .inl (X.2.1, 3, .inl fr))] sz) := by
  refine mk_met (B := (va_A [(h0, .inr (8, fs)), (hn, .inr (3, gs)), (hr, .inl (X.2.1, 3, .inl fr))] sz)) (A := (va_A [(h0, .inr (8, fs)), (hn, .inr (3, gs)), (hr, .inl (X.2.1, 3, .inl fr))] sz)) (cc := cX10_pair) (maxL := 5) (ret := (some .int)) (by decide) rfl (Nat.le_of_ble_eq_true rfl) k_w k_a (fun p e s m below meth c S zr zlk znm zsz G ls hl => ?_)
  have S : CallFix p m c cX10_pair 5 s _ wsX10_pair RX10 := S
  have zx := S.1
  have zb := S.2.1
  have hl : lv_has ls 5 [(0, .ref h0), (1, .int x1), (2, .int x2), (3, .int x3)] := hl
  refine lv_aload_n zx zb dX10_pair_0 rfl (lv_at hl 0 rfl) ?_
  refine lv_iload_n zx zb dX10_pair_1 rfl (lv_at hl 1 rfl) ?_
  refine lv_iload_n zx zb dX10_pair_2 rfl (lv_at hl 2 rfl) ?_
  refine o_ri (cells' := 0) (slots' := 0) G rfl rfl (n_V (As := [.int x1, .int x2]) (rest := []) (C := RX10) (T := TX10) (N := 14) (ci := 8) S G (c_areTwo l X h0 fs hn gs x1 x2 hf0 hg2 s.heap.size) gX10_pair_X10_areTwo rfl rfl rfl hdV_X10_areTwo ⟨Nat.le_of_ble_eq_true rfl, Nat.le_of_ble_eq_true rfl⟩ [0, 1] rfl (by decide) 0 rfl rfl rfl hl.1 (Nat.le_of_ble_eq_true rfl) dX10_pair_3 ⟨Nat.le_of_ble_eq_true rfl, Nat.le_of_ble_eq_true rfl⟩) (fun r_1 u_1 H locs hp_1 G => ?_)
  have G : wd X (va_A [(h0, .inr (8, fs)), (hn, .inr (3, gs)), (hr, .inl (X.2.1, 3, .inl fr))] sz) (va_A [(h0, .inr (8, fs)), (hn, .inr (3, gs)), (hr, .inl (X.2.1, 3, .inl fr))] sz) s [(h0, .inr (8, fs)), (hn, .inr (3, gs)), (hr, .inl (X.2.1, 3, .inl fr))] H locs := G
  subst hp_1
  refine lv_if_eq (tgt := 14) zx zb dX10_pair_6 (by decide) (fun c_2 => ?_) (fun c_2 => absurd (by decide) c_2)
  refine lv_aload_n zx zb dX10_pair_14 rfl (lv_at hl 0 rfl) ?_
  refine lv_bipush (v := (-2)) zx zb dX10_pair_15 (by decide) ?_
  refine o_wi (cells' := 0) (slots' := 0) (wr := [(hn, .inr (3, gs))]) G rfl rfl [0, 2] [1] rfl rfl (by decide) (by decide) (n_V (As := [.int (-2)]) (rest := []) (C := RX10) (T := TX10) (N := 14) (ci := 8) S G (c_refuse l X h0 fs hr fr (-2) hf5 H.size) gX10_pair_X10_refuse rfl rfl rfl hdV_X10_refuse ⟨Nat.le_of_ble_eq_true rfl, Nat.le_of_ble_eq_true rfl⟩ [0, 2] rfl (by decide) 0 rfl rfl rfl hl.1 (Nat.le_of_ble_eq_true rfl) dX10_pair_17 ⟨Nat.le_of_ble_eq_true rfl, Nat.le_of_ble_eq_true rfl⟩) (fun r_3 u_3 H locs hp_3 G => ?_)
  have G : wd X (va_A [(h0, .inr (8, fs)), (hn, .inr (3, gs)), (hr, .inl (X.2.1, 3, .inl fr))] sz) (va_A [(h0, .inr (8, fs)), (hn, .inr (3, gs)), (hr, .inl (X.2.1, 3, .inl fr))] sz) s [(hn, .inr (3, gs))] H locs := G
  subst hp_3
  refine lv_pop zx zb dX10_pair_20 rfl ?_
  refine lv_bipush (v := (-10)) zx zb dX10_pair_21 (by decide) ?_
  exact e_int S zr zlk (vp_nar_int _) G () [] rfl (by decide) (Or.inl rfl) (rfl) dX10_pair_23
theorem in_X5_restart_X5 : ∀ w ∈ wsX50, w ∈ wsX5_restart := by decide +kernel
theorem lk_X5_restart_9 : Cond.fieldLink RX5 9 "EggSpoons$Race" "length" "I" ∈ wsX5_restart := by decide +kernel
theorem lk_X5_restart_15 : Cond.fieldLink RX5 15 "EggSpoons$Race" "tick" "I" ∈ wsX5_restart := by decide +kernel
theorem lk_X5_restart_18 : Cond.fieldLink RX5 18 "EggSpoons$Race" "runners" "I" ∈ wsX5_restart := by decide +kernel
theorem lk_X5_restart_30 : Cond.fieldLink RX5 30 "EggSpoons$Race" "past" "LEggSpoons$Past;" ∈ wsX5_restart := by decide +kernel
theorem in_X5_restart_X4 : ∀ w ∈ wsX40, w ∈ wsX5_restart := by decide +kernel
theorem lk_X5_restart_50 : Cond.fieldLink RX5 50 "EggSpoons$Past" "size" "I" ∈ wsX5_restart := by decide +kernel
theorem lk_X5_restart_39 : Cond.fieldLink RX5 39 "EggSpoons$Race" "seenRows" "LEggSpoons$Rows;" ∈ wsX5_restart := by decide +kernel
theorem in_X5_restart_X7 : ∀ w ∈ wsX70, w ∈ wsX5_restart := by decide +kernel
theorem lk_X5_restart_53 : Cond.fieldLink RX5 53 "EggSpoons$Rows" "size" "I" ∈ wsX5_restart := by decide +kernel
theorem lk_X5_restart_43 : Cond.fieldLink RX5 43 "EggSpoons$Race" "noteRows" "LEggSpoons$Rows;" ∈ wsX5_restart := by decide +kernel
theorem lk_X5_restart_46 : Cond.fieldLink RX5 46 "EggSpoons$Race" "markRows" "LEggSpoons$Rows;" ∈ wsX5_restart := by decide +kernel
set_option maxHeartbeats 4000000 in
set_option maxRecDepth 100000 in
/-- restart -/
theorem c_restart (l : Launch) (X : EX) (hn : Nat) (a0 : Value) (a1 : Value) (a2 : Value) (a3 : Value) (hp : Nat) (hs : Nat) (ht : Nat) (hm : Nat) (b0 : Value) (b1 : Value) (d0 : Value) (d1 : Value) (d2 : Value) (d3 : Value) (d4 : Value) (e0 : Value) (e1 : Value) (e2 : Value) (e3 : Value) (e4 : Value) (f0 : Value) (f1 : Value) (f2 : Value) (f3 : Value) (f4 : Value) (x : Int32) (sz : Nat) : Met l yX5_restart wsX5_restart ({ frames := 0, cells := 0, slots := 0, locals := 0 } : Room) (pE X [.ref hn, .int x] [(hn, .inr (3, [a0, a1, a2, a3, .ref hp, .ref hs, .ref ht, .ref hm])), (hp, .inr (2, [b0, b1])), (hs, .inr (5, [d0, d1, d2, d3, d4])), (ht, .inr (5, [e0, e1, e2, e3, e4])), (hm, .inr (5, [f0, f1, f2, f3, f4]))] sz) (qV (fun (u : Unit) => True) X (fun (u : Unit) => []) [(hn, .inr (3, [a0, a1, a2, a3, .ref hp, .ref hs, .ref ht, .ref hm])), (hp, .inr (2, [b0, b1])), (hs, .inr (5, [d0, d1, d2, d3, d4])), (ht, .inr (5, [e0, e1, e2, e3, e4])), (hm, .inr (5, [f0, f1, f2, f3, f4]))] sz) 0 0 (va_A [(hn, .inr (3, [a0, a1, a2, a3, .ref hp, .ref hs, .ref ht, .ref hm])), (hp, .inr (2, [b0, b1])), (hs, .inr (5, [d0, d1, d2, d3, d4])), (ht, .inr (5, [e0, e1, e2, e3, e4])), (hm, .inr (5, [f0, f1, f2, f3, f4]))] sz) := by
  refine mk_met (B := (va_A [(hn, .inr (3, [a0, a1, a2, a3, .ref hp, .ref hs, .ref ht, .ref hm])), (hp, .inr (2, [b0, b1])), (hs, .inr (5, [d0, d1, d2, d3, d4])), (ht, .inr (5, [e0, e1, e2, e3, e4])), (hm, .inr (5, [f0, f1, f2, f3, f4]))] sz)) (A := (va_A [(hn, .inr (3, [a0, a1, a2, a3, .ref hp, .ref hs, .ref ht, .ref hm])), (hp, .inr (2, [b0, b1])), (hs, .inr (5, [d0, d1, d2, d3, d4])), (ht, .inr (5, [e0, e1, e2, e3, e4])), (hm, .inr (5, [f0, f1, f2, f3, f4]))] sz)) (cc := cX5_restart) (maxL := 2) (ret := none) (by decide) rfl (Nat.le_of_ble_eq_true rfl) k_w k_a (fun p e s m below meth c S zr zlk znm zsz G ls hl => ?_)
  have S : CallFix p m c cX5_restart 2 s _ wsX5_restart RX5 := S
  have zx := S.1
  have zb := S.2.1
  have hl : lv_has ls 2 [(0, .ref hn), (1, .int x)] := hl
  refine lv_aload_n zx zb dX5_restart_0 rfl (lv_at hl 0 rfl) ?_
  refine lv_iload_n zx zb dX5_restart_1 rfl (lv_at hl 1 rfl) ?_
  refine r_put (C := RX5) (T := TX5) (N := 8) (ci := 3) (v := .int x) S in_X5_restart_X5 tyX5_ok nmX5 G 0 rfl rfl 0 (by decide) lk_X5_restart_9 rfl (vp_nar_int _) rfl (Nat.le_of_ble_eq_true rfl) dX5_restart_2 (fun H locs G => ?_)
  have G : wd X (va_A [(hn, .inr (3, [a0, a1, a2, a3, .ref hp, .ref hs, .ref ht, .ref hm])), (hp, .inr (2, [b0, b1])), (hs, .inr (5, [d0, d1, d2, d3, d4])), (ht, .inr (5, [e0, e1, e2, e3, e4])), (hm, .inr (5, [f0, f1, f2, f3, f4]))] sz) (va_A [(hn, .inr (3, [a0, a1, a2, a3, .ref hp, .ref hs, .ref ht, .ref hm])), (hp, .inr (2, [b0, b1])), (hs, .inr (5, [d0, d1, d2, d3, d4])), (ht, .inr (5, [e0, e1, e2, e3, e4])), (hm, .inr (5, [f0, f1, f2, f3, f4]))] sz) s [(hn, .inr (3, [.int x, a1, a2, a3, .ref hp, .ref hs, .ref ht, .ref hm])), (hp, .inr (2, [b0, b1])), (hs, .inr (5, [d0, d1, d2, d3, d4])), (ht, .inr (5, [e0, e1, e2, e3, e4])), (hm, .inr (5, [f0, f1, f2, f3, f4]))] H locs := G
  refine lv_aload_n zx zb dX5_restart_5 rfl (lv_at hl 0 rfl) ?_
  refine lv_iconst (v := 0) zx zb dX5_restart_6 (by decide) ?_
  refine r_put (C := RX5) (T := TX5) (N := 8) (ci := 3) (v := .int 0) S in_X5_restart_X5 tyX5_ok nmX5 G 0 rfl rfl 1 (by decide) lk_X5_restart_15 rfl (vp_nar_int _) rfl (Nat.le_of_ble_eq_true rfl) dX5_restart_7 (fun H locs G => ?_)
  have G : wd X (va_A [(hn, .inr (3, [a0, a1, a2, a3, .ref hp, .ref hs, .ref ht, .ref hm])), (hp, .inr (2, [b0, b1])), (hs, .inr (5, [d0, d1, d2, d3, d4])), (ht, .inr (5, [e0, e1, e2, e3, e4])), (hm, .inr (5, [f0, f1, f2, f3, f4]))] sz) (va_A [(hn, .inr (3, [a0, a1, a2, a3, .ref hp, .ref hs, .ref ht, .ref hm])), (hp, .inr (2, [b0, b1])), (hs, .inr (5, [d0, d1, d2, d3, d4])), (ht, .inr (5, [e0, e1, e2, e3, e4])), (hm, .inr (5, [f0, f1, f2, f3, f4]))] sz) s [(hn, .inr (3, [.int x, .int 0, a2, a3, .ref hp, .ref hs, .ref ht, .ref hm])), (hp, .inr (2, [b0, b1])), (hs, .inr (5, [d0, d1, d2, d3, d4])), (ht, .inr (5, [e0, e1, e2, e3, e4])), (hm, .inr (5, [f0, f1, f2, f3, f4]))] H locs := G
  refine lv_aload_n zx zb dX5_restart_10 rfl (lv_at hl 0 rfl) ?_
  refine lv_iconst (v := 0) zx zb dX5_restart_11 (by decide) ?_
  refine r_put (C := RX5) (T := TX5) (N := 8) (ci := 3) (v := .int 0) S in_X5_restart_X5 tyX5_ok nmX5 G 0 rfl rfl 2 (by decide) lk_X5_restart_18 rfl (vp_nar_int _) rfl (Nat.le_of_ble_eq_true rfl) dX5_restart_12 (fun H locs G => ?_)
  have G : wd X (va_A [(hn, .inr (3, [a0, a1, a2, a3, .ref hp, .ref hs, .ref ht, .ref hm])), (hp, .inr (2, [b0, b1])), (hs, .inr (5, [d0, d1, d2, d3, d4])), (ht, .inr (5, [e0, e1, e2, e3, e4])), (hm, .inr (5, [f0, f1, f2, f3, f4]))] sz) (va_A [(hn, .inr (3, [a0, a1, a2, a3, .ref hp, .ref hs, .ref ht, .ref hm])), (hp, .inr (2, [b0, b1])), (hs, .inr (5, [d0, d1, d2, d3, d4])), (ht, .inr (5, [e0, e1, e2, e3, e4])), (hm, .inr (5, [f0, f1, f2, f3, f4]))] sz) s [(hn, .inr (3, [.int x, .int 0, .int 0, a3, .ref hp, .ref hs, .ref ht, .ref hm])), (hp, .inr (2, [b0, b1])), (hs, .inr (5, [d0, d1, d2, d3, d4])), (ht, .inr (5, [e0, e1, e2, e3, e4])), (hm, .inr (5, [f0, f1, f2, f3, f4]))] H locs := G
  refine lv_aload_n zx zb dX5_restart_15 rfl (lv_at hl 0 rfl) ?_
  refine r_get (C := RX5) (T := TX5) (N := 8) (ci := 3) (v := .ref hp) S in_X5_restart_X5 G 0 rfl rfl 4 (by decide) lk_X5_restart_30 rfl dX5_restart_16 ?_
  refine lv_iconst (v := 0) zx zb dX5_restart_19 (by decide) ?_
  refine r_put (C := RX4) (T := TX4) (N := 2) (ci := 2) (v := .int 0) S in_X5_restart_X4 tyX4_ok nmX4 G 1 rfl rfl 1 (by decide) lk_X5_restart_50 rfl (vp_nar_int _) rfl (Nat.le_of_ble_eq_true rfl) dX5_restart_20 (fun H locs G => ?_)
  have G : wd X (va_A [(hn, .inr (3, [a0, a1, a2, a3, .ref hp, .ref hs, .ref ht, .ref hm])), (hp, .inr (2, [b0, b1])), (hs, .inr (5, [d0, d1, d2, d3, d4])), (ht, .inr (5, [e0, e1, e2, e3, e4])), (hm, .inr (5, [f0, f1, f2, f3, f4]))] sz) (va_A [(hn, .inr (3, [a0, a1, a2, a3, .ref hp, .ref hs, .ref ht, .ref hm])), (hp, .inr (2, [b0, b1])), (hs, .inr (5, [d0, d1, d2, d3, d4])), (ht, .inr (5, [e0, e1, e2, e3, e4])), (hm, .inr (5, [f0, f1, f2, f3, f4]))] sz) s [(hn, .inr (3, [.int x, .int 0, .int 0, a3, .ref hp, .ref hs, .ref ht, .ref hm])), (hp, .inr (2, [b0, .int 0])), (hs, .inr (5, [d0, d1, d2, d3, d4])), (ht, .inr (5, [e0, e1, e2, e3, e4])), (hm, .inr (5, [f0, f1, f2, f3, f4]))] H locs := G
  refine lv_aload_n zx zb dX5_restart_23 rfl (lv_at hl 0 rfl) ?_
  refine r_get (C := RX5) (T := TX5) (N := 8) (ci := 3) (v := .ref hs) S in_X5_restart_X5 G 0 rfl rfl 5 (by decide) lk_X5_restart_39 rfl dX5_restart_24 ?_
  refine lv_iconst (v := 0) zx zb dX5_restart_27 (by decide) ?_
  refine r_put (C := RX7) (T := TX7) (N := 5) (ci := 5) (v := .int 0) S in_X5_restart_X7 tyX7_ok nmX7 G 2 rfl rfl 4 (by decide) lk_X5_restart_53 rfl (vp_nar_int _) rfl (Nat.le_of_ble_eq_true rfl) dX5_restart_28 (fun H locs G => ?_)
  have G : wd X (va_A [(hn, .inr (3, [a0, a1, a2, a3, .ref hp, .ref hs, .ref ht, .ref hm])), (hp, .inr (2, [b0, b1])), (hs, .inr (5, [d0, d1, d2, d3, d4])), (ht, .inr (5, [e0, e1, e2, e3, e4])), (hm, .inr (5, [f0, f1, f2, f3, f4]))] sz) (va_A [(hn, .inr (3, [a0, a1, a2, a3, .ref hp, .ref hs, .ref ht, .ref hm])), (hp, .inr (2, [b0, b1])), (hs, .inr (5, [d0, d1, d2, d3, d4])), (ht, .inr (5, [e0, e1, e2, e3, e4])), (hm, .inr (5, [f0, f1, f2, f3, f4]))] sz) s [(hn, .inr (3, [.int x, .int 0, .int 0, a3, .ref hp, .ref hs, .ref ht, .ref hm])), (hp, .inr (2, [b0, .int 0])), (hs, .inr (5, [d0, d1, d2, d3, .int 0])), (ht, .inr (5, [e0, e1, e2, e3, e4])), (hm, .inr (5, [f0, f1, f2, f3, f4]))] H locs := G
  refine lv_aload_n zx zb dX5_restart_31 rfl (lv_at hl 0 rfl) ?_
  refine r_get (C := RX5) (T := TX5) (N := 8) (ci := 3) (v := .ref ht) S in_X5_restart_X5 G 0 rfl rfl 6 (by decide) lk_X5_restart_43 rfl dX5_restart_32 ?_
  refine lv_iconst (v := 0) zx zb dX5_restart_35 (by decide) ?_
  refine r_put (C := RX7) (T := TX7) (N := 5) (ci := 5) (v := .int 0) S in_X5_restart_X7 tyX7_ok nmX7 G 3 rfl rfl 4 (by decide) lk_X5_restart_53 rfl (vp_nar_int _) rfl (Nat.le_of_ble_eq_true rfl) dX5_restart_36 (fun H locs G => ?_)
  have G : wd X (va_A [(hn, .inr (3, [a0, a1, a2, a3, .ref hp, .ref hs, .ref ht, .ref hm])), (hp, .inr (2, [b0, b1])), (hs, .inr (5, [d0, d1, d2, d3, d4])), (ht, .inr (5, [e0, e1, e2, e3, e4])), (hm, .inr (5, [f0, f1, f2, f3, f4]))] sz) (va_A [(hn, .inr (3, [a0, a1, a2, a3, .ref hp, .ref hs, .ref ht, .ref hm])), (hp, .inr (2, [b0, b1])), (hs, .inr (5, [d0, d1, d2, d3, d4])), (ht, .inr (5, [e0, e1, e2, e3, e4])), (hm, .inr (5, [f0, f1, f2, f3, f4]))] sz) s [(hn, .inr (3, [.int x, .int 0, .int 0, a3, .ref hp, .ref hs, .ref ht, .ref hm])), (hp, .inr (2, [b0, .int 0])), (hs, .inr (5, [d0, d1, d2, d3, .int 0])), (ht, .inr (5, [e0, e1, e2, e3, .int 0])), (hm, .inr (5, [f0, f1, f2, f3, f4]))] H locs := G
  refine lv_aload_n zx zb dX5_restart_39 rfl (lv_at hl 0 rfl) ?_
  refine r_get (C := RX5) (T := TX5) (N := 8) (ci := 3) (v := .ref hm) S in_X5_restart_X5 G 0 rfl rfl 7 (by decide) lk_X5_restart_46 rfl dX5_restart_40 ?_
  refine lv_iconst (v := 0) zx zb dX5_restart_43 (by decide) ?_
  refine r_put (C := RX7) (T := TX7) (N := 5) (ci := 5) (v := .int 0) S in_X5_restart_X7 tyX7_ok nmX7 G 4 rfl rfl 4 (by decide) lk_X5_restart_53 rfl (vp_nar_int _) rfl (Nat.le_of_ble_eq_true rfl) dX5_restart_44 (fun H locs G => ?_)
  have G : wd X (va_A [(hn, .inr (3, [a0, a1, a2, a3, .ref hp, .ref hs, .ref ht, .ref hm])), (hp, .inr (2, [b0, b1])), (hs, .inr (5, [d0, d1, d2, d3, d4])), (ht, .inr (5, [e0, e1, e2, e3, e4])), (hm, .inr (5, [f0, f1, f2, f3, f4]))] sz) (va_A [(hn, .inr (3, [a0, a1, a2, a3, .ref hp, .ref hs, .ref ht, .ref hm])), (hp, .inr (2, [b0, b1])), (hs, .inr (5, [d0, d1, d2, d3, d4])), (ht, .inr (5, [e0, e1, e2, e3, e4])), (hm, .inr (5, [f0, f1, f2, f3, f4]))] sz) s [(hn, .inr (3, [.int x, .int 0, .int 0, a3, .ref hp, .ref hs, .ref ht, .ref hm])), (hp, .inr (2, [b0, .int 0])), (hs, .inr (5, [d0, d1, d2, d3, .int 0])), (ht, .inr (5, [e0, e1, e2, e3, .int 0])), (hm, .inr (5, [f0, f1, f2, f3, .int 0]))] H locs := G
  exact e_void S zr zlk G () [] rfl (by decide) (Or.inl rfl) (trivial) dX5_restart_47
theorem hdS_X10_within : yX10_within.cls ≠ "java/lang/invoke/MethodHandle" ∧ yX10_within.cls ≠ "java/lang/invoke/VarHandle" ∧ (parseMethodDescriptor yX10_within.desc).map (fun d => d.parameters.length) = some 3 := by decide +kernel
theorem in_X10_race_X10 : ∀ w ∈ wsX100, w ∈ wsX10_race := by decide +kernel
theorem lk_X10_race_10 : Cond.fieldLink RX10 10 "EggSpoons" "now" "LEggSpoons$Race;" ∈ wsX10_race := by decide +kernel
theorem in_X10_race_X5 : ∀ w ∈ wsX50, w ∈ wsX10_race := by decide +kernel
theorem lk_X10_race_87 : Cond.fieldLink RX10 87 "EggSpoons$Race" "runners" "I" ∈ wsX10_race := by decide +kernel
theorem hdV_X5_restart : yX5_restart.cls = RX5 ∧ yX5_restart.cls ≠ "java/lang/invoke/MethodHandle" ∧ yX5_restart.cls ≠ "java/lang/invoke/VarHandle" ∧ (parseMethodDescriptor yX5_restart.desc).map (fun d => d.parameters.length) = some 1 := by decide +kernel
set_option maxHeartbeats 4000000 in
set_option maxRecDepth 100000 in
/-- race -/
theorem c_race (l : Launch) (X : EX) (h0 : Nat) (fs : List Value) (hn : Nat) (a0 : Value) (a1 : Value) (a3 : Value) (hp : Nat) (hs : Nat) (ht : Nat) (hm : Nat) (b0 : Value) (b1 : Value) (d0 : Value) (d1 : Value) (d2 : Value) (d3 : Value) (d4 : Value) (e0 : Value) (e1 : Value) (e2 : Value) (e3 : Value) (e4 : Value) (f0 : Value) (f1 : Value) (f2 : Value) (f3 : Value) (f4 : Value) (hr : Nat) (fr : Nat → Int32) (x1 : Int32) (hf0 : fs[0]? = some (.ref hn)) (hf5 : fs[5]? = some (.ref hr)) (sz : Nat) : Met l yX10_race wsX10_race ({ frames := 1, cells := 0, slots := 0, locals := 22 } : Room) (pE X [.ref h0, .int x1] [(h0, .inr (8, fs)), (hn, .inr (3, [a0, a1, .int 0, a3, .ref hp, .ref hs, .ref ht, .ref hm])), (hp, .inr (2, [b0, b1])), (hs, .inr (5, [d0, d1, d2, d3, d4])), (ht, .inr (5, [e0, e1, e2, e3, e4])), (hm, .inr (5, [f0, f1, f2, f3, f4])), (hr, .inl (X.2.1, 3, .inl fr))] sz) (qI (fun (r : Int32) (u : Unit) => r = if (10 : Int32) ≤ x1 ∧ x1 ≤ 60 then 0 else -2) X (fun (u : Unit) => []) [(h0, .inr (8, fs)), (hn, .inr (3, [a0, a1, .int 0, a3, .ref hp, .ref hs, .ref ht, .ref hm])), (hp, .inr (2, [b0, b1])), (hs, .inr (5, [d0, d1, d2, d3, d4])), (ht, .inr (5, [e0, e1, e2, e3, e4])), (hm, .inr (5, [f0, f1, f2, f3, f4])), (hr, .inl (X.2.1, 3, .inl fr))] sz) 0 0 (va_A [(h0, .inr (8, fs)), (hn, .inr (3, [a0, a1, .int 0, a3, .ref hp, .ref hs, .ref ht, .ref hm])), (hp, .inr (2, [b0, b1])), (hs, .inr (5, [d0, d1, d2, d3, d4])), (ht, .inr (5, [e0, e1, e2, e3, e4])), (hm, .inr (5, [f0, f1, f2, f3, f4])), (hr, .inl (X.2.1, 3, .inl fr))] sz) := by
  refine mk_met (B := (va_A [(h0, .inr (8, fs)), (hn, .inr (3, [a0, a1, .int 0, a3, .ref hp, .ref hs, .ref ht, .ref hm])), (hp, .inr (2, [b0, b1])), (hs, .inr (5, [d0, d1, d2, d3, d4])), (ht, .inr (5, [e0, e1, e2, e3, e4])), (hm, .inr (5, [f0, f1, f2, f3, f4])), (hr, .inl (X.2.1, 3, .inl fr))] sz)) (A := (va_A [(h0, .inr (8, fs)), (hn, .inr (3, [a0, a1, .int 0, a3, .ref hp, .ref hs, .ref ht, .ref hm])), (hp, .inr (2, [b0, b1])), (hs, .inr (5, [d0, d1, d2, d3, d4])), (ht, .inr (5, [e0, e1, e2, e3, e4])), (hm, .inr (5, [f0, f1, f2, f3, f4])), (hr, .inl (X.2.1, 3, .inl fr))] sz)) (cc := cX10_race) (maxL := 3) (ret := (some .int)) (by decide) rfl (Nat.le_of_ble_eq_true rfl) k_w k_a (fun p e s m below meth c S zr zlk znm zsz G ls hl => ?_)
  have S : CallFix p m c cX10_race 3 s _ wsX10_race RX10 := S
  have zx := S.1
  have zb := S.2.1
  have hl : lv_has ls 3 [(0, .ref h0), (1, .int x1)] := hl
  refine lv_iload_n zx zb dX10_race_0 rfl (lv_at hl 1 rfl) ?_
  refine lv_bipush (v := 10) zx zb dX10_race_1 (by decide) ?_
  refine lv_bipush (v := 60) zx zb dX10_race_3 (by decide) ?_
  refine o_ri (cells' := 0) (slots' := 0) G rfl rfl (n_S (As := [.int x1, .int 10, .int 60]) (rest := []) S G (c_within l X x1 10 60 s.heap.size) gX10_race_X10_within rfl rfl rfl hdS_X10_within ⟨Nat.le_of_ble_eq_true rfl, Nat.le_of_ble_eq_true rfl⟩ [] rfl (by decide) rfl hl.1 (Nat.le_of_ble_eq_true rfl) dX10_race_5 ⟨Nat.le_of_ble_eq_true rfl, Nat.le_of_ble_eq_true rfl⟩) (fun r_1 u_1 H locs hp_1 G => ?_)
  have G : wd X (va_A [(h0, .inr (8, fs)), (hn, .inr (3, [a0, a1, .int 0, a3, .ref hp, .ref hs, .ref ht, .ref hm])), (hp, .inr (2, [b0, b1])), (hs, .inr (5, [d0, d1, d2, d3, d4])), (ht, .inr (5, [e0, e1, e2, e3, e4])), (hm, .inr (5, [f0, f1, f2, f3, f4])), (hr, .inl (X.2.1, 3, .inl fr))] sz) (va_A [(h0, .inr (8, fs)), (hn, .inr (3, [a0, a1, .int 0, a3, .ref hp, .ref hs, .ref ht, .ref hm])), (hp, .inr (2, [b0, b1])), (hs, .inr (5, [d0, d1, d2, d3, d4])), (ht, .inr (5, [e0, e1, e2, e3, e4])), (hm, .inr (5, [f0, f1, f2, f3, f4])), (hr, .inl (X.2.1, 3, .inl fr))] sz) s [(h0, .inr (8, fs)), (hn, .inr (3, [a0, a1, .int 0, a3, .ref hp, .ref hs, .ref ht, .ref hm])), (hp, .inr (2, [b0, b1])), (hs, .inr (5, [d0, d1, d2, d3, d4])), (ht, .inr (5, [e0, e1, e2, e3, e4])), (hm, .inr (5, [f0, f1, f2, f3, f4])), (hr, .inl (X.2.1, 3, .inl fr))] H locs := G
  rcases hp_1 with ⟨rfl, hw_1⟩ | ⟨rfl, hw_1⟩
  · refine lv_if_ne (tgt := 18) zx zb dX10_race_8 (by decide) (fun c_2 => ?_) (fun c_2 => absurd c_2 (by decide))
    refine lv_aload_n zx zb dX10_race_18 rfl (lv_at hl 0 rfl) ?_
    refine r_get (C := RX10) (T := TX10) (N := 14) (ci := 8) (v := .ref hn) S in_X10_race_X10 G 0 rfl rfl 0 (by decide) lk_X10_race_10 hf0 dX10_race_19 ?_
    refine r_get (C := RX5) (T := TX5) (N := 8) (ci := 3) (v := .int 0) S in_X10_race_X5 G 1 rfl rfl 2 (by decide) lk_X10_race_87 rfl dX10_race_22 ?_
    refine lv_istore_n (lv' := [(2, .int 0), (0, .ref h0), (1, .int x1)]) zx zb dX10_race_25 rfl hl (by decide) rfl (fun ls hl => ?_)
    refine lv_aload_n zx zb dX10_race_26 rfl (lv_at hl 1 rfl) ?_
    refine r_get (C := RX10) (T := TX10) (N := 14) (ci := 8) (v := .ref hn) S in_X10_race_X10 G 0 rfl rfl 0 (by decide) lk_X10_race_10 hf0 dX10_race_27 ?_
    refine lv_iload_n zx zb dX10_race_30 rfl (lv_at hl 2 rfl) ?_
    refine o_wv (cells' := 0) (slots' := 0) (wr := [(h0, .inr (8, fs)), (hr, .inl (X.2.1, 3, .inl fr))]) G rfl rfl [1, 2, 3, 4, 5] [0, 6] rfl rfl (by decide) (by decide) (n_V (As := [.int x1]) (rest := []) (C := RX5) (T := TX5) (N := 8) (ci := 3) S G (c_restart l X hn a0 a1 (.int 0) a3 hp hs ht hm b0 b1 d0 d1 d2 d3 d4 e0 e1 e2 e3 e4 f0 f1 f2 f3 f4 x1 H.size) gX10_race_X5_restart rfl rfl rfl hdV_X5_restart ⟨Nat.le_of_ble_eq_true rfl, Nat.le_of_ble_eq_true rfl⟩ [1, 2, 3, 4, 5] rfl (by decide) 1 rfl rfl rfl hl.1 (Nat.le_of_ble_eq_true rfl) dX10_race_31 ⟨Nat.le_of_ble_eq_true rfl, Nat.le_of_ble_eq_true rfl⟩) (fun u_3 H locs hp_3 G => ?_)
    have G : wd X (va_A [(h0, .inr (8, fs)), (hn, .inr (3, [a0, a1, .int 0, a3, .ref hp, .ref hs, .ref ht, .ref hm])), (hp, .inr (2, [b0, b1])), (hs, .inr (5, [d0, d1, d2, d3, d4])), (ht, .inr (5, [e0, e1, e2, e3, e4])), (hm, .inr (5, [f0, f1, f2, f3, f4])), (hr, .inl (X.2.1, 3, .inl fr))] sz) (va_A [(h0, .inr (8, fs)), (hn, .inr (3, [a0, a1, .int 0, a3, .ref hp, .ref hs, .ref ht, .ref hm])), (hp, .inr (2, [b0, b1])), (hs, .inr (5, [d0, d1, d2, d3, d4])), (ht, .inr (5, [e0, e1, e2, e3, e4])), (hm, .inr (5, [f0, f1, f2, f3, f4])), (hr, .inl (X.2.1, 3, .inl fr))] sz) s [(h0, .inr (8, fs)), (hr, .inl (X.2.1, 3, .inl fr))] H locs := G
    refine lv_iload_n zx zb dX10_race_34 rfl (lv_at hl 0 rfl) ?_
    exact e_int S zr zlk (vp_nar_int _) G () [] rfl (by decide) (Or.inl rfl) (by first | exact (if_pos hw_1).symm | exact (if_neg (fun h => hw_1 h)).symm) dX10_race_35
  · refine lv_if_ne (tgt := 18) zx zb dX10_race_8 (by decide) (fun c_4 => absurd (by decide) c_4) (fun c_4 => ?_)
    refine lv_aload_n zx zb dX10_race_11 rfl (lv_at hl 0 rfl) ?_
    refine lv_bipush (v := (-2)) zx zb dX10_race_12 (by decide) ?_
    refine o_wi (cells' := 0) (slots' := 0) (wr := [(hn, .inr (3, [a0, a1, .int 0, a3, .ref hp, .ref hs, .ref ht, .ref hm])), (hp, .inr (2, [b0, b1])), (hs, .inr (5, [d0, d1, d2, d3, d4])), (ht, .inr (5, [e0, e1, e2, e3, e4])), (hm, .inr (5, [f0, f1, f2, f3, f4]))]) G rfl rfl [0, 6] [1, 2, 3, 4, 5] rfl rfl (by decide) (by decide) (n_V (As := [.int (-2)]) (rest := []) (C := RX10) (T := TX10) (N := 14) (ci := 8) S G (c_refuse l X h0 fs hr fr (-2) hf5 H.size) gX10_race_X10_refuse rfl rfl rfl hdV_X10_refuse ⟨Nat.le_of_ble_eq_true rfl, Nat.le_of_ble_eq_true rfl⟩ [0, 6] rfl (by decide) 0 rfl rfl rfl hl.1 (Nat.le_of_ble_eq_true rfl) dX10_race_14 ⟨Nat.le_of_ble_eq_true rfl, Nat.le_of_ble_eq_true rfl⟩) (fun r_5 u_5 H locs hp_5 G => ?_)
    have G : wd X (va_A [(h0, .inr (8, fs)), (hn, .inr (3, [a0, a1, .int 0, a3, .ref hp, .ref hs, .ref ht, .ref hm])), (hp, .inr (2, [b0, b1])), (hs, .inr (5, [d0, d1, d2, d3, d4])), (ht, .inr (5, [e0, e1, e2, e3, e4])), (hm, .inr (5, [f0, f1, f2, f3, f4])), (hr, .inl (X.2.1, 3, .inl fr))] sz) (va_A [(h0, .inr (8, fs)), (hn, .inr (3, [a0, a1, .int 0, a3, .ref hp, .ref hs, .ref ht, .ref hm])), (hp, .inr (2, [b0, b1])), (hs, .inr (5, [d0, d1, d2, d3, d4])), (ht, .inr (5, [e0, e1, e2, e3, e4])), (hm, .inr (5, [f0, f1, f2, f3, f4])), (hr, .inl (X.2.1, 3, .inl fr))] sz) s [(hn, .inr (3, [a0, a1, .int 0, a3, .ref hp, .ref hs, .ref ht, .ref hm])), (hp, .inr (2, [b0, b1])), (hs, .inr (5, [d0, d1, d2, d3, d4])), (ht, .inr (5, [e0, e1, e2, e3, e4])), (hm, .inr (5, [f0, f1, f2, f3, f4]))] H locs := G
    subst hp_5
    exact e_int S zr zlk (vp_nar_int _) G () [] rfl (by decide) (Or.inl rfl) (by first | exact (if_pos hw_1).symm | exact (if_neg (fun h => hw_1 h)).symm) dX10_race_17
theorem in_X8_begin_X8 : ∀ w ∈ wsX80, w ∈ wsX8_begin := by decide +kernel
theorem lk_X8_begin_9 : Cond.fieldLink RX8 9 "EggSpoons$Runner" "kind" "I" ∈ wsX8_begin := by decide +kernel
theorem lk_X8_begin_15 : Cond.fieldLink RX8 15 "EggSpoons$Runner" "legs" "I" ∈ wsX8_begin := by decide +kernel
theorem lk_X8_begin_18 : Cond.fieldLink RX8 18 "EggSpoons$Runner" "egg" "I" ∈ wsX8_begin := by decide +kernel
theorem lk_X8_begin_21 : Cond.fieldLink RX8 21 "EggSpoons$Runner" "speed" "I" ∈ wsX8_begin := by decide +kernel
theorem lk_X8_begin_24 : Cond.fieldLink RX8 24 "EggSpoons$Runner" "place" "I" ∈ wsX8_begin := by decide +kernel
theorem lk_X8_begin_27 : Cond.fieldLink RX8 27 "EggSpoons$Runner" "drops" "I" ∈ wsX8_begin := by decide +kernel
theorem lk_X8_begin_30 : Cond.fieldLink RX8 30 "EggSpoons$Runner" "waits" "I" ∈ wsX8_begin := by decide +kernel
theorem lk_X8_begin_33 : Cond.fieldLink RX8 33 "EggSpoons$Runner" "homeAt" "I" ∈ wsX8_begin := by decide +kernel
set_option maxHeartbeats 4000000 in
set_option maxRecDepth 100000 in
/-- begin -/
theorem c_begin (l : Launch) (X : EX) (h0 : Nat) (a0 : Value) (a1 : Value) (a2 : Value) (a3 : Value) (a4 : Value) (a5 : Value) (a6 : Value) (a7 : Value) (x1 : Int32) (x2 : Int32) (x3 : Int32) (sz : Nat) : Met l yX8_begin wsX8_begin ({ frames := 0, cells := 0, slots := 0, locals := 0 } : Room) (pE X [.ref h0, .int x1, .int x2, .int x3] [(h0, .inr (6, [a0, a1, a2, a3, a4, a5, a6, a7]))] sz) (qV (fun (u : Unit) => True) X (fun (u : Unit) => []) [(h0, .inr (6, [a0, a1, a2, a3, a4, a5, a6, a7]))] sz) 0 0 (va_A [(h0, .inr (6, [a0, a1, a2, a3, a4, a5, a6, a7]))] sz) := by
  refine mk_met (B := (va_A [(h0, .inr (6, [a0, a1, a2, a3, a4, a5, a6, a7]))] sz)) (A := (va_A [(h0, .inr (6, [a0, a1, a2, a3, a4, a5, a6, a7]))] sz)) (cc := cX8_begin) (maxL := 4) (ret := none) (by decide) rfl (Nat.le_of_ble_eq_true rfl) k_w k_a (fun p e s m below meth c S zr zlk znm zsz G ls hl => ?_)
  have S : CallFix p m c cX8_begin 4 s _ wsX8_begin RX8 := S
  have zx := S.1
  have zb := S.2.1
  have hl : lv_has ls 4 [(0, .ref h0), (1, .int x1), (2, .int x2), (3, .int x3)] := hl
  refine lv_aload_n zx zb dX8_begin_0 rfl (lv_at hl 0 rfl) ?_
  refine lv_iload_n zx zb dX8_begin_1 rfl (lv_at hl 1 rfl) ?_
  refine r_put (C := RX8) (T := TX8) (N := 8) (ci := 6) (v := .int x1) S in_X8_begin_X8 tyX8_ok nmX8 G 0 rfl rfl 0 (by decide) lk_X8_begin_9 rfl (vp_nar_int _) rfl (Nat.le_of_ble_eq_true rfl) dX8_begin_2 (fun H locs G => ?_)
  have G : wd X (va_A [(h0, .inr (6, [a0, a1, a2, a3, a4, a5, a6, a7]))] sz) (va_A [(h0, .inr (6, [a0, a1, a2, a3, a4, a5, a6, a7]))] sz) s [(h0, .inr (6, [.int x1, a1, a2, a3, a4, a5, a6, a7]))] H locs := G
  refine lv_aload_n zx zb dX8_begin_5 rfl (lv_at hl 0 rfl) ?_
  refine lv_iload_n zx zb dX8_begin_6 rfl (lv_at hl 2 rfl) ?_
  refine r_put (C := RX8) (T := TX8) (N := 8) (ci := 6) (v := .int x2) S in_X8_begin_X8 tyX8_ok nmX8 G 0 rfl rfl 1 (by decide) lk_X8_begin_15 rfl (vp_nar_int _) rfl (Nat.le_of_ble_eq_true rfl) dX8_begin_7 (fun H locs G => ?_)
  have G : wd X (va_A [(h0, .inr (6, [a0, a1, a2, a3, a4, a5, a6, a7]))] sz) (va_A [(h0, .inr (6, [a0, a1, a2, a3, a4, a5, a6, a7]))] sz) s [(h0, .inr (6, [.int x1, .int x2, a2, a3, a4, a5, a6, a7]))] H locs := G
  refine lv_aload_n zx zb dX8_begin_10 rfl (lv_at hl 0 rfl) ?_
  refine lv_iload_n zx zb dX8_begin_11 rfl (lv_at hl 3 rfl) ?_
  refine r_put (C := RX8) (T := TX8) (N := 8) (ci := 6) (v := .int x3) S in_X8_begin_X8 tyX8_ok nmX8 G 0 rfl rfl 2 (by decide) lk_X8_begin_18 rfl (vp_nar_int _) rfl (Nat.le_of_ble_eq_true rfl) dX8_begin_12 (fun H locs G => ?_)
  have G : wd X (va_A [(h0, .inr (6, [a0, a1, a2, a3, a4, a5, a6, a7]))] sz) (va_A [(h0, .inr (6, [a0, a1, a2, a3, a4, a5, a6, a7]))] sz) s [(h0, .inr (6, [.int x1, .int x2, .int x3, a3, a4, a5, a6, a7]))] H locs := G
  refine lv_aload_n zx zb dX8_begin_15 rfl (lv_at hl 0 rfl) ?_
  refine lv_iconst (v := 4) zx zb dX8_begin_16 (by decide) ?_
  refine r_put (C := RX8) (T := TX8) (N := 8) (ci := 6) (v := .int 4) S in_X8_begin_X8 tyX8_ok nmX8 G 0 rfl rfl 3 (by decide) lk_X8_begin_21 rfl (vp_nar_int _) rfl (Nat.le_of_ble_eq_true rfl) dX8_begin_17 (fun H locs G => ?_)
  have G : wd X (va_A [(h0, .inr (6, [a0, a1, a2, a3, a4, a5, a6, a7]))] sz) (va_A [(h0, .inr (6, [a0, a1, a2, a3, a4, a5, a6, a7]))] sz) s [(h0, .inr (6, [.int x1, .int x2, .int x3, .int 4, a4, a5, a6, a7]))] H locs := G
  refine lv_aload_n zx zb dX8_begin_20 rfl (lv_at hl 0 rfl) ?_
  refine lv_iconst (v := 0) zx zb dX8_begin_21 (by decide) ?_
  refine r_put (C := RX8) (T := TX8) (N := 8) (ci := 6) (v := .int 0) S in_X8_begin_X8 tyX8_ok nmX8 G 0 rfl rfl 4 (by decide) lk_X8_begin_24 rfl (vp_nar_int _) rfl (Nat.le_of_ble_eq_true rfl) dX8_begin_22 (fun H locs G => ?_)
  have G : wd X (va_A [(h0, .inr (6, [a0, a1, a2, a3, a4, a5, a6, a7]))] sz) (va_A [(h0, .inr (6, [a0, a1, a2, a3, a4, a5, a6, a7]))] sz) s [(h0, .inr (6, [.int x1, .int x2, .int x3, .int 4, .int 0, a5, a6, a7]))] H locs := G
  refine lv_aload_n zx zb dX8_begin_25 rfl (lv_at hl 0 rfl) ?_
  refine lv_iconst (v := 0) zx zb dX8_begin_26 (by decide) ?_
  refine r_put (C := RX8) (T := TX8) (N := 8) (ci := 6) (v := .int 0) S in_X8_begin_X8 tyX8_ok nmX8 G 0 rfl rfl 5 (by decide) lk_X8_begin_27 rfl (vp_nar_int _) rfl (Nat.le_of_ble_eq_true rfl) dX8_begin_27 (fun H locs G => ?_)
  have G : wd X (va_A [(h0, .inr (6, [a0, a1, a2, a3, a4, a5, a6, a7]))] sz) (va_A [(h0, .inr (6, [a0, a1, a2, a3, a4, a5, a6, a7]))] sz) s [(h0, .inr (6, [.int x1, .int x2, .int x3, .int 4, .int 0, .int 0, a6, a7]))] H locs := G
  refine lv_aload_n zx zb dX8_begin_30 rfl (lv_at hl 0 rfl) ?_
  refine lv_iconst (v := 0) zx zb dX8_begin_31 (by decide) ?_
  refine r_put (C := RX8) (T := TX8) (N := 8) (ci := 6) (v := .int 0) S in_X8_begin_X8 tyX8_ok nmX8 G 0 rfl rfl 6 (by decide) lk_X8_begin_30 rfl (vp_nar_int _) rfl (Nat.le_of_ble_eq_true rfl) dX8_begin_32 (fun H locs G => ?_)
  have G : wd X (va_A [(h0, .inr (6, [a0, a1, a2, a3, a4, a5, a6, a7]))] sz) (va_A [(h0, .inr (6, [a0, a1, a2, a3, a4, a5, a6, a7]))] sz) s [(h0, .inr (6, [.int x1, .int x2, .int x3, .int 4, .int 0, .int 0, .int 0, a7]))] H locs := G
  refine lv_aload_n zx zb dX8_begin_35 rfl (lv_at hl 0 rfl) ?_
  refine lv_iconst (v := (-1)) zx zb dX8_begin_36 (by decide) ?_
  refine r_put (C := RX8) (T := TX8) (N := 8) (ci := 6) (v := .int (-1)) S in_X8_begin_X8 tyX8_ok nmX8 G 0 rfl rfl 7 (by decide) lk_X8_begin_33 rfl (vp_nar_int _) rfl (Nat.le_of_ble_eq_true rfl) dX8_begin_37 (fun H locs G => ?_)
  have G : wd X (va_A [(h0, .inr (6, [a0, a1, a2, a3, a4, a5, a6, a7]))] sz) (va_A [(h0, .inr (6, [a0, a1, a2, a3, a4, a5, a6, a7]))] sz) s [(h0, .inr (6, [.int x1, .int x2, .int x3, .int 4, .int 0, .int 0, .int 0, .int (-1)]))] H locs := G
  exact e_void S zr zlk G () [] rfl (by decide) (Or.inl rfl) (trivial) dX8_begin_40
theorem in_X5_welcome_X5 : ∀ w ∈ wsX50, w ∈ wsX5_welcome := by decide +kernel
theorem lk_X5_welcome_18 : Cond.fieldLink RX5 18 "EggSpoons$Race" "runners" "I" ∈ wsX5_welcome := by decide +kernel
theorem lk_X5_welcome_23 : Cond.fieldLink RX5 23 "EggSpoons$Race" "row" "[LEggSpoons$Runner;" ∈ wsX5_welcome := by decide +kernel
theorem hdV_X8_begin : yX8_begin.cls = RX8 ∧ yX8_begin.cls ≠ "java/lang/invoke/MethodHandle" ∧ yX8_begin.cls ≠ "java/lang/invoke/VarHandle" ∧ (parseMethodDescriptor yX8_begin.desc).map (fun d => d.parameters.length) = some 3 := by decide +kernel
theorem lk_X5_welcome_30 : Cond.fieldLink RX5 30 "EggSpoons$Race" "past" "LEggSpoons$Past;" ∈ wsX5_welcome := by decide +kernel
theorem in_X5_welcome_X4 : ∀ w ∈ wsX40, w ∈ wsX5_welcome := by decide +kernel
theorem lk_X5_welcome_50 : Cond.fieldLink RX5 50 "EggSpoons$Past" "size" "I" ∈ wsX5_welcome := by decide +kernel
set_option maxHeartbeats 4000000 in
set_option maxRecDepth 100000 in
/-- welcome: the first runner -/
theorem c_welcome (l : Launch) (X : EX) (hn : Nat) (a0 : Value) (a1 : Value) (hw : Nat) (hp : Nat) (a5 : Value) (a6 : Value) (a7 : Value) (q : Nat → Option Nat) (r0 : Nat) (d0 : Value) (d1 : Value) (d2 : Value) (d3 : Value) (d4 : Value) (d5 : Value) (d6 : Value) (d7 : Value) (b0 : Value) (b1 : Value) (x1 : Int32) (x2 : Int32) (x3 : Int32) (hq0 : q 0 = some r0) (sz : Nat) : Met l yX5_welcome wsX5_welcome ({ frames := 1, cells := 0, slots := 0, locals := 23 } : Room) (pE X [.ref hn, .int x1, .int x2, .int x3] [(hn, .inr (3, [a0, a1, .int 0, .ref hw, .ref hp, a5, a6, a7])), (hw, .inl (X.2.2.2.2, 6, .inr (.inr (.inr (.inr q))))), (r0, .inr (6, [d0, d1, d2, d3, d4, d5, d6, d7])), (hp, .inr (2, [b0, b1]))] sz) (qV (fun (u : Unit) => True) X (fun (u : Unit) => [(hn, .inr (3, [a0, a1, .int 1, .ref hw, .ref hp, a5, a6, a7]))]) [(hn, .inr (3, [a0, a1, .int 0, .ref hw, .ref hp, a5, a6, a7])), (hw, .inl (X.2.2.2.2, 6, .inr (.inr (.inr (.inr q))))), (r0, .inr (6, [d0, d1, d2, d3, d4, d5, d6, d7])), (hp, .inr (2, [b0, b1]))] sz) 0 0 (va_A [(hn, .inr (3, [a0, a1, .int 0, .ref hw, .ref hp, a5, a6, a7])), (hw, .inl (X.2.2.2.2, 6, .inr (.inr (.inr (.inr q))))), (r0, .inr (6, [d0, d1, d2, d3, d4, d5, d6, d7])), (hp, .inr (2, [b0, b1]))] sz) := by
  refine mk_met (B := (va_A [(hn, .inr (3, [a0, a1, .int 0, .ref hw, .ref hp, a5, a6, a7])), (hw, .inl (X.2.2.2.2, 6, .inr (.inr (.inr (.inr q))))), (r0, .inr (6, [d0, d1, d2, d3, d4, d5, d6, d7])), (hp, .inr (2, [b0, b1]))] sz)) (A := (va_A [(hn, .inr (3, [a0, a1, .int 0, .ref hw, .ref hp, a5, a6, a7])), (hw, .inl (X.2.2.2.2, 6, .inr (.inr (.inr (.inr q))))), (r0, .inr (6, [d0, d1, d2, d3, d4, d5, d6, d7])), (hp, .inr (2, [b0, b1]))] sz)) (cc := cX5_welcome) (maxL := 4) (ret := none) (by decide) rfl (Nat.le_of_ble_eq_true rfl) k_w k_a (fun p e s m below meth c S zr zlk znm zsz G ls hl => ?_)
  have S : CallFix p m c cX5_welcome 4 s _ wsX5_welcome RX5 := S
  have zx := S.1
  have zb := S.2.1
  have hl : lv_has ls 4 [(0, .ref hn), (1, .int x1), (2, .int x2), (3, .int x3)] := hl
  refine lv_aload_n zx zb dX5_welcome_0 rfl (lv_at hl 0 rfl) ?_
  refine r_get (C := RX5) (T := TX5) (N := 8) (ci := 3) (v := .int 0) S in_X5_welcome_X5 G 0 rfl rfl 2 (by decide) lk_X5_welcome_18 rfl dX5_welcome_1 ?_
  refine lv_bipush (v := 6) zx zb dX5_welcome_4 (by decide) ?_
  refine lv_icmp_ge (tgt := 42) zx zb dX5_welcome_6 (by decide) (fun c_1 => absurd c_1 (by decide)) (fun c_1 => ?_)
  refine lv_aload_n zx zb dX5_welcome_9 rfl (lv_at hl 0 rfl) ?_
  refine r_get (C := RX5) (T := TX5) (N := 8) (ci := 3) (v := .ref hw) S in_X5_welcome_X5 G 0 rfl rfl 3 (by decide) lk_X5_welcome_23 rfl dX5_welcome_10 ?_
  refine lv_aload_n zx zb dX5_welcome_13 rfl (lv_at hl 0 rfl) ?_
  refine r_get (C := RX5) (T := TX5) (N := 8) (ci := 3) (v := .int 0) S in_X5_welcome_X5 G 0 rfl rfl 2 (by decide) lk_X5_welcome_18 rfl dX5_welcome_14 ?_
  refine r_aald (C := RX8) (b := r0) S G 1 3 rfl rfl (k_vp (by decide)) hq0 dX5_welcome_17 ?_
  refine lv_iload_n zx zb dX5_welcome_18 rfl (lv_at hl 1 rfl) ?_
  refine lv_iload_n zx zb dX5_welcome_19 rfl (lv_at hl 2 rfl) ?_
  refine lv_iload_n zx zb dX5_welcome_20 rfl (lv_at hl 3 rfl) ?_
  refine o_wv (cells' := 0) (slots' := 0) (wr := [(hn, .inr (3, [a0, a1, .int 0, .ref hw, .ref hp, a5, a6, a7])), (hw, .inl (X.2.2.2.2, 6, .inr (.inr (.inr (.inr q))))), (hp, .inr (2, [b0, b1]))]) G rfl rfl [2] [0, 1, 3] rfl rfl (by decide) (by decide) (n_V (As := [.int x1, .int x2, .int x3]) (rest := []) (C := RX8) (T := TX8) (N := 8) (ci := 6) S G (c_begin l X r0 d0 d1 d2 d3 d4 d5 d6 d7 x1 x2 x3 s.heap.size) gX5_welcome_X8_begin rfl rfl rfl hdV_X8_begin ⟨Nat.le_of_ble_eq_true rfl, Nat.le_of_ble_eq_true rfl⟩ [2] rfl (by decide) 2 rfl rfl rfl hl.1 (Nat.le_of_ble_eq_true rfl) dX5_welcome_21 ⟨Nat.le_of_ble_eq_true rfl, Nat.le_of_ble_eq_true rfl⟩) (fun u_2 H locs hp_2 G => ?_)
  have G : wd X (va_A [(hn, .inr (3, [a0, a1, .int 0, .ref hw, .ref hp, a5, a6, a7])), (hw, .inl (X.2.2.2.2, 6, .inr (.inr (.inr (.inr q))))), (r0, .inr (6, [d0, d1, d2, d3, d4, d5, d6, d7])), (hp, .inr (2, [b0, b1]))] sz) (va_A [(hn, .inr (3, [a0, a1, .int 0, .ref hw, .ref hp, a5, a6, a7])), (hw, .inl (X.2.2.2.2, 6, .inr (.inr (.inr (.inr q))))), (r0, .inr (6, [d0, d1, d2, d3, d4, d5, d6, d7])), (hp, .inr (2, [b0, b1]))] sz) s [(hn, .inr (3, [a0, a1, .int 0, .ref hw, .ref hp, a5, a6, a7])), (hw, .inl (X.2.2.2.2, 6, .inr (.inr (.inr (.inr q))))), (hp, .inr (2, [b0, b1]))] H locs := G
  refine lv_aload_n zx zb dX5_welcome_24 rfl (lv_at hl 0 rfl) ?_
  refine lv_dup zx zb dX5_welcome_25 rfl ?_
  refine r_get (C := RX5) (T := TX5) (N := 8) (ci := 3) (v := .int 0) S in_X5_welcome_X5 G 0 rfl rfl 2 (by decide) lk_X5_welcome_18 rfl dX5_welcome_26 ?_
  refine lv_iconst (v := 1) zx zb dX5_welcome_29 (by decide) ?_
  refine r_iadd (v := 1) S (by decide) dX5_welcome_30 ?_
  refine r_put (C := RX5) (T := TX5) (N := 8) (ci := 3) (v := .int 1) S in_X5_welcome_X5 tyX5_ok nmX5 G 0 rfl rfl 2 (by decide) lk_X5_welcome_18 rfl (vp_nar_int _) rfl (Nat.le_of_ble_eq_true rfl) dX5_welcome_31 (fun H locs G => ?_)
  have G : wd X (va_A [(hn, .inr (3, [a0, a1, .int 0, .ref hw, .ref hp, a5, a6, a7])), (hw, .inl (X.2.2.2.2, 6, .inr (.inr (.inr (.inr q))))), (r0, .inr (6, [d0, d1, d2, d3, d4, d5, d6, d7])), (hp, .inr (2, [b0, b1]))] sz) (va_A [(hn, .inr (3, [a0, a1, .int 0, .ref hw, .ref hp, a5, a6, a7])), (hw, .inl (X.2.2.2.2, 6, .inr (.inr (.inr (.inr q))))), (r0, .inr (6, [d0, d1, d2, d3, d4, d5, d6, d7])), (hp, .inr (2, [b0, b1]))] sz) s [(hn, .inr (3, [a0, a1, .int 1, .ref hw, .ref hp, a5, a6, a7])), (hw, .inl (X.2.2.2.2, 6, .inr (.inr (.inr (.inr q))))), (hp, .inr (2, [b0, b1]))] H locs := G
  refine lv_aload_n zx zb dX5_welcome_34 rfl (lv_at hl 0 rfl) ?_
  refine r_get (C := RX5) (T := TX5) (N := 8) (ci := 3) (v := .ref hp) S in_X5_welcome_X5 G 0 rfl rfl 4 (by decide) lk_X5_welcome_30 rfl dX5_welcome_35 ?_
  refine lv_iconst (v := 0) zx zb dX5_welcome_38 (by decide) ?_
  refine r_put (C := RX4) (T := TX4) (N := 2) (ci := 2) (v := .int 0) S in_X5_welcome_X4 tyX4_ok nmX4 G 2 rfl rfl 1 (by decide) lk_X5_welcome_50 rfl (vp_nar_int _) rfl (Nat.le_of_ble_eq_true rfl) dX5_welcome_39 (fun H locs G => ?_)
  have G : wd X (va_A [(hn, .inr (3, [a0, a1, .int 0, .ref hw, .ref hp, a5, a6, a7])), (hw, .inl (X.2.2.2.2, 6, .inr (.inr (.inr (.inr q))))), (r0, .inr (6, [d0, d1, d2, d3, d4, d5, d6, d7])), (hp, .inr (2, [b0, b1]))] sz) (va_A [(hn, .inr (3, [a0, a1, .int 0, .ref hw, .ref hp, a5, a6, a7])), (hw, .inl (X.2.2.2.2, 6, .inr (.inr (.inr (.inr q))))), (r0, .inr (6, [d0, d1, d2, d3, d4, d5, d6, d7])), (hp, .inr (2, [b0, b1]))] sz) s [(hn, .inr (3, [a0, a1, .int 1, .ref hw, .ref hp, a5, a6, a7])), (hw, .inl (X.2.2.2.2, 6, .inr (.inr (.inr (.inr q))))), (hp, .inr (2, [b0, .int 0]))] H locs := G
  exact e_void S zr zlk G () [0] rfl (by decide) (Or.inr rfl) (trivial) dX5_welcome_42
theorem in_X10_one_X10 : ∀ w ∈ wsX100, w ∈ wsX10_one := by decide +kernel
theorem lk_X10_one_10 : Cond.fieldLink RX10 10 "EggSpoons" "now" "LEggSpoons$Race;" ∈ wsX10_one := by decide +kernel
theorem in_X10_one_X5 : ∀ w ∈ wsX50, w ∈ wsX10_one := by decide +kernel
theorem lk_X10_one_87 : Cond.fieldLink RX10 87 "EggSpoons$Race" "runners" "I" ∈ wsX10_one := by decide +kernel
theorem hdV_X5_welcome : yX5_welcome.cls = RX5 ∧ yX5_welcome.cls ≠ "java/lang/invoke/MethodHandle" ∧ yX5_welcome.cls ≠ "java/lang/invoke/VarHandle" ∧ (parseMethodDescriptor yX5_welcome.desc).map (fun d => d.parameters.length) = some 3 := by decide +kernel
set_option maxHeartbeats 4000000 in
set_option maxRecDepth 100000 in
/-- one -/
theorem c_one (l : Launch) (X : EX) (h0 : Nat) (fs : List Value) (hn : Nat) (a0 : Value) (a1 : Value) (hw : Nat) (hp : Nat) (a5 : Value) (a6 : Value) (a7 : Value) (q : Nat → Option Nat) (r0 : Nat) (d0 : Value) (d1 : Value) (d2 : Value) (d3 : Value) (d4 : Value) (d5 : Value) (d6 : Value) (d7 : Value) (b0 : Value) (b1 : Value) (hr : Nat) (fr : Nat → Int32) (x1 : Int32) (x2 : Int32) (x3 : Int32) (hf0 : fs[0]? = some (.ref hn)) (hf5 : fs[5]? = some (.ref hr)) (hq0 : q 0 = some r0) (sz : Nat) : Met l yX10_one wsX10_one ({ frames := 2, cells := 0, slots := 0, locals := 46 } : Room) (pE X [.ref h0, .int x1, .int x2, .int x3] [(h0, .inr (8, fs)), (hn, .inr (3, [a0, a1, .int 0, .ref hw, .ref hp, a5, a6, a7])), (hw, .inl (X.2.2.2.2, 6, .inr (.inr (.inr (.inr q))))), (r0, .inr (6, [d0, d1, d2, d3, d4, d5, d6, d7])), (hp, .inr (2, [b0, b1])), (hr, .inl (X.2.1, 3, .inl fr))] sz) (qI (fun (r : Int32) (u : Unit) => r = if ((0 : Int32) ≤ x1 ∧ x1 ≤ 5) ∧ ((1 : Int32) ≤ x2 ∧ x2 ≤ 9) ∧ ((0 : Int32) ≤ x3 ∧ x3 ≤ 5) then 0 else -2) X (fun (u : Unit) => []) [(h0, .inr (8, fs)), (hn, .inr (3, [a0, a1, .int 0, .ref hw, .ref hp, a5, a6, a7])), (hw, .inl (X.2.2.2.2, 6, .inr (.inr (.inr (.inr q))))), (r0, .inr (6, [d0, d1, d2, d3, d4, d5, d6, d7])), (hp, .inr (2, [b0, b1])), (hr, .inl (X.2.1, 3, .inl fr))] sz) 0 0 (va_A [(h0, .inr (8, fs)), (hn, .inr (3, [a0, a1, .int 0, .ref hw, .ref hp, a5, a6, a7])), (hw, .inl (X.2.2.2.2, 6, .inr (.inr (.inr (.inr q))))), (r0, .inr (6, [d0, d1, d2, d3, d4, d5, d6, d7])), (hp, .inr (2, [b0, b1])), (hr, .inl (X.2.1, 3, .inl fr))] sz) := by
  refine mk_met (B := (va_A [(h0, .inr (8, fs)), (hn, .inr (3, [a0, a1, .int 0, .ref hw, .ref hp, a5, a6, a7])), (hw, .inl (X.2.2.2.2, 6, .inr (.inr (.inr (.inr q))))), (r0, .inr (6, [d0, d1, d2, d3, d4, d5, d6, d7])), (hp, .inr (2, [b0, b1])), (hr, .inl (X.2.1, 3, .inl fr))] sz)) (A := (va_A [(h0, .inr (8, fs)), (hn, .inr (3, [a0, a1, .int 0, .ref hw, .ref hp, a5, a6, a7])), (hw, .inl (X.2.2.2.2, 6, .inr (.inr (.inr (.inr q))))), (r0, .inr (6, [d0, d1, d2, d3, d4, d5, d6, d7])), (hp, .inr (2, [b0, b1])), (hr, .inl (X.2.1, 3, .inl fr))] sz)) (cc := cX10_one) (maxL := 4) (ret := (some .int)) (by decide) rfl (Nat.le_of_ble_eq_true rfl) k_w k_a (fun p e s m below meth c S zr zlk znm zsz G ls hl => ?_)
  have S : CallFix p m c cX10_one 4 s _ wsX10_one RX10 := S
  have zx := S.1
  have zb := S.2.1
  have hl : lv_has ls 4 [(0, .ref h0), (1, .int x1), (2, .int x2), (3, .int x3)] := hl
  refine lv_iload_n zx zb dX10_one_0 rfl (lv_at hl 1 rfl) ?_
  refine lv_iconst (v := 0) zx zb dX10_one_1 (by decide) ?_
  refine lv_iconst (v := 5) zx zb dX10_one_2 (by decide) ?_
  refine o_ri (cells' := 0) (slots' := 0) G rfl rfl (n_S (As := [.int x1, .int 0, .int 5]) (rest := []) S G (c_within l X x1 0 5 s.heap.size) gX10_one_X10_within rfl rfl rfl hdS_X10_within ⟨Nat.le_of_ble_eq_true rfl, Nat.le_of_ble_eq_true rfl⟩ [] rfl (by decide) rfl hl.1 (Nat.le_of_ble_eq_true rfl) dX10_one_3 ⟨Nat.le_of_ble_eq_true rfl, Nat.le_of_ble_eq_true rfl⟩) (fun r_1 u_1 H locs hp_1 G => ?_)
  have G : wd X (va_A [(h0, .inr (8, fs)), (hn, .inr (3, [a0, a1, .int 0, .ref hw, .ref hp, a5, a6, a7])), (hw, .inl (X.2.2.2.2, 6, .inr (.inr (.inr (.inr q))))), (r0, .inr (6, [d0, d1, d2, d3, d4, d5, d6, d7])), (hp, .inr (2, [b0, b1])), (hr, .inl (X.2.1, 3, .inl fr))] sz) (va_A [(h0, .inr (8, fs)), (hn, .inr (3, [a0, a1, .int 0, .ref hw, .ref hp, a5, a6, a7])), (hw, .inl (X.2.2.2.2, 6, .inr (.inr (.inr (.inr q))))), (r0, .inr (6, [d0, d1, d2, d3, d4, d5, d6, d7])), (hp, .inr (2, [b0, b1])), (hr, .inl (X.2.1, 3, .inl fr))] sz) s [(h0, .inr (8, fs)), (hn, .inr (3, [a0, a1, .int 0, .ref hw, .ref hp, a5, a6, a7])), (hw, .inl (X.2.2.2.2, 6, .inr (.inr (.inr (.inr q))))), (r0, .inr (6, [d0, d1, d2, d3, d4, d5, d6, d7])), (hp, .inr (2, [b0, b1])), (hr, .inl (X.2.1, 3, .inl fr))] H locs := G
  rcases hp_1 with ⟨rfl, hw_1⟩ | ⟨rfl, hw_1⟩
  · refine lv_if_eq (tgt := 28) zx zb dX10_one_6 (by decide) (fun c_2 => absurd c_2 (by decide)) (fun c_2 => ?_)
    refine lv_iload_n zx zb dX10_one_9 rfl (lv_at hl 2 rfl) ?_
    refine lv_iconst (v := 1) zx zb dX10_one_10 (by decide) ?_
    refine lv_bipush (v := 9) zx zb dX10_one_11 (by decide) ?_
    refine o_ri (cells' := 0) (slots' := 0) G rfl rfl (n_S (As := [.int x2, .int 1, .int 9]) (rest := []) S G (c_within l X x2 1 9 H.size) gX10_one_X10_within rfl rfl rfl hdS_X10_within ⟨Nat.le_of_ble_eq_true rfl, Nat.le_of_ble_eq_true rfl⟩ [] rfl (by decide) rfl hl.1 (Nat.le_of_ble_eq_true rfl) dX10_one_13 ⟨Nat.le_of_ble_eq_true rfl, Nat.le_of_ble_eq_true rfl⟩) (fun r_3 u_3 H locs hp_3 G => ?_)
    have G : wd X (va_A [(h0, .inr (8, fs)), (hn, .inr (3, [a0, a1, .int 0, .ref hw, .ref hp, a5, a6, a7])), (hw, .inl (X.2.2.2.2, 6, .inr (.inr (.inr (.inr q))))), (r0, .inr (6, [d0, d1, d2, d3, d4, d5, d6, d7])), (hp, .inr (2, [b0, b1])), (hr, .inl (X.2.1, 3, .inl fr))] sz) (va_A [(h0, .inr (8, fs)), (hn, .inr (3, [a0, a1, .int 0, .ref hw, .ref hp, a5, a6, a7])), (hw, .inl (X.2.2.2.2, 6, .inr (.inr (.inr (.inr q))))), (r0, .inr (6, [d0, d1, d2, d3, d4, d5, d6, d7])), (hp, .inr (2, [b0, b1])), (hr, .inl (X.2.1, 3, .inl fr))] sz) s [(h0, .inr (8, fs)), (hn, .inr (3, [a0, a1, .int 0, .ref hw, .ref hp, a5, a6, a7])), (hw, .inl (X.2.2.2.2, 6, .inr (.inr (.inr (.inr q))))), (r0, .inr (6, [d0, d1, d2, d3, d4, d5, d6, d7])), (hp, .inr (2, [b0, b1])), (hr, .inl (X.2.1, 3, .inl fr))] H locs := G
    rcases hp_3 with ⟨rfl, hw_3⟩ | ⟨rfl, hw_3⟩
    · refine lv_if_eq (tgt := 28) zx zb dX10_one_16 (by decide) (fun c_4 => absurd c_4 (by decide)) (fun c_4 => ?_)
      refine lv_iload_n zx zb dX10_one_19 rfl (lv_at hl 3 rfl) ?_
      refine lv_iconst (v := 0) zx zb dX10_one_20 (by decide) ?_
      refine lv_iconst (v := 5) zx zb dX10_one_21 (by decide) ?_
      refine o_ri (cells' := 0) (slots' := 0) G rfl rfl (n_S (As := [.int x3, .int 0, .int 5]) (rest := []) S G (c_within l X x3 0 5 H.size) gX10_one_X10_within rfl rfl rfl hdS_X10_within ⟨Nat.le_of_ble_eq_true rfl, Nat.le_of_ble_eq_true rfl⟩ [] rfl (by decide) rfl hl.1 (Nat.le_of_ble_eq_true rfl) dX10_one_22 ⟨Nat.le_of_ble_eq_true rfl, Nat.le_of_ble_eq_true rfl⟩) (fun r_5 u_5 H locs hp_5 G => ?_)
      have G : wd X (va_A [(h0, .inr (8, fs)), (hn, .inr (3, [a0, a1, .int 0, .ref hw, .ref hp, a5, a6, a7])), (hw, .inl (X.2.2.2.2, 6, .inr (.inr (.inr (.inr q))))), (r0, .inr (6, [d0, d1, d2, d3, d4, d5, d6, d7])), (hp, .inr (2, [b0, b1])), (hr, .inl (X.2.1, 3, .inl fr))] sz) (va_A [(h0, .inr (8, fs)), (hn, .inr (3, [a0, a1, .int 0, .ref hw, .ref hp, a5, a6, a7])), (hw, .inl (X.2.2.2.2, 6, .inr (.inr (.inr (.inr q))))), (r0, .inr (6, [d0, d1, d2, d3, d4, d5, d6, d7])), (hp, .inr (2, [b0, b1])), (hr, .inl (X.2.1, 3, .inl fr))] sz) s [(h0, .inr (8, fs)), (hn, .inr (3, [a0, a1, .int 0, .ref hw, .ref hp, a5, a6, a7])), (hw, .inl (X.2.2.2.2, 6, .inr (.inr (.inr (.inr q))))), (r0, .inr (6, [d0, d1, d2, d3, d4, d5, d6, d7])), (hp, .inr (2, [b0, b1])), (hr, .inl (X.2.1, 3, .inl fr))] H locs := G
      rcases hp_5 with ⟨rfl, hw_5⟩ | ⟨rfl, hw_5⟩
      · refine lv_if_ne (tgt := 35) zx zb dX10_one_25 (by decide) (fun c_6 => ?_) (fun c_6 => absurd c_6 (by decide))
        refine lv_aload_n zx zb dX10_one_35 rfl (lv_at hl 0 rfl) ?_
        refine r_get (C := RX10) (T := TX10) (N := 14) (ci := 8) (v := .ref hn) S in_X10_one_X10 G 0 rfl rfl 0 (by decide) lk_X10_one_10 hf0 dX10_one_36 ?_
        refine r_get (C := RX5) (T := TX5) (N := 8) (ci := 3) (v := .int 0) S in_X10_one_X5 G 1 rfl rfl 2 (by decide) lk_X10_one_87 rfl dX10_one_39 ?_
        refine lv_bipush (v := 6) zx zb dX10_one_42 (by decide) ?_
        refine lv_icmp_lt (tgt := 54) zx zb dX10_one_44 (by decide) (fun c_7 => ?_) (fun c_7 => absurd (by decide) c_7)
        refine lv_aload_n zx zb dX10_one_54 rfl (lv_at hl 0 rfl) ?_
        refine r_get (C := RX10) (T := TX10) (N := 14) (ci := 8) (v := .ref hn) S in_X10_one_X10 G 0 rfl rfl 0 (by decide) lk_X10_one_10 hf0 dX10_one_55 ?_
        refine lv_iload_n zx zb dX10_one_58 rfl (lv_at hl 1 rfl) ?_
        refine lv_iload_n zx zb dX10_one_59 rfl (lv_at hl 2 rfl) ?_
        refine lv_iload_n zx zb dX10_one_60 rfl (lv_at hl 3 rfl) ?_
        refine o_wv (cells' := 0) (slots' := 0) (wr := [(h0, .inr (8, fs)), (hr, .inl (X.2.1, 3, .inl fr))]) G rfl rfl [1, 2, 3, 4] [0, 5] rfl rfl (by decide) (by decide) (n_V (As := [.int x1, .int x2, .int x3]) (rest := []) (C := RX5) (T := TX5) (N := 8) (ci := 3) S G (c_welcome l X hn a0 a1 hw hp a5 a6 a7 q r0 d0 d1 d2 d3 d4 d5 d6 d7 b0 b1 x1 x2 x3 hq0 H.size) gX10_one_X5_welcome rfl rfl rfl hdV_X5_welcome ⟨Nat.le_of_ble_eq_true rfl, Nat.le_of_ble_eq_true rfl⟩ [1, 2, 3, 4] rfl (by decide) 1 rfl rfl rfl hl.1 (Nat.le_of_ble_eq_true rfl) dX10_one_61 ⟨Nat.le_of_ble_eq_true rfl, Nat.le_of_ble_eq_true rfl⟩) (fun u_8 H locs hp_8 G => ?_)
        have G : wd X (va_A [(h0, .inr (8, fs)), (hn, .inr (3, [a0, a1, .int 0, .ref hw, .ref hp, a5, a6, a7])), (hw, .inl (X.2.2.2.2, 6, .inr (.inr (.inr (.inr q))))), (r0, .inr (6, [d0, d1, d2, d3, d4, d5, d6, d7])), (hp, .inr (2, [b0, b1])), (hr, .inl (X.2.1, 3, .inl fr))] sz) (va_A [(h0, .inr (8, fs)), (hn, .inr (3, [a0, a1, .int 0, .ref hw, .ref hp, a5, a6, a7])), (hw, .inl (X.2.2.2.2, 6, .inr (.inr (.inr (.inr q))))), (r0, .inr (6, [d0, d1, d2, d3, d4, d5, d6, d7])), (hp, .inr (2, [b0, b1])), (hr, .inl (X.2.1, 3, .inl fr))] sz) s [(h0, .inr (8, fs)), (hr, .inl (X.2.1, 3, .inl fr)), (hn, .inr (3, [a0, a1, .int 1, .ref hw, .ref hp, a5, a6, a7]))] H locs := G
        refine lv_aload_n zx zb dX10_one_64 rfl (lv_at hl 0 rfl) ?_
        refine r_get (C := RX10) (T := TX10) (N := 14) (ci := 8) (v := .ref hn) S in_X10_one_X10 G 0 rfl rfl 0 (by decide) lk_X10_one_10 hf0 dX10_one_65 ?_
        refine r_get (C := RX5) (T := TX5) (N := 8) (ci := 3) (v := .int 1) S in_X10_one_X5 G 2 rfl rfl 2 (by decide) lk_X10_one_87 rfl dX10_one_68 ?_
        refine lv_iconst (v := 1) zx zb dX10_one_71 (by decide) ?_
        refine r_isub (v := 0) S (by decide) dX10_one_72 ?_
        exact e_int S zr zlk (vp_nar_int _) G () [] rfl (by decide) (Or.inl rfl) (by first | exact (if_pos ⟨hw_1, hw_3, hw_5⟩).symm | exact (if_neg (fun h => hw_5 h.2.2)).symm) dX10_one_73
      · refine lv_if_ne (tgt := 35) zx zb dX10_one_25 (by decide) (fun c_9 => absurd (by decide) c_9) (fun c_9 => ?_)
        refine lv_aload_n zx zb dX10_one_28 rfl (lv_at hl 0 rfl) ?_
        refine lv_bipush (v := (-2)) zx zb dX10_one_29 (by decide) ?_
        refine o_wi (cells' := 0) (slots' := 0) (wr := [(hn, .inr (3, [a0, a1, .int 0, .ref hw, .ref hp, a5, a6, a7])), (hw, .inl (X.2.2.2.2, 6, .inr (.inr (.inr (.inr q))))), (r0, .inr (6, [d0, d1, d2, d3, d4, d5, d6, d7])), (hp, .inr (2, [b0, b1]))]) G rfl rfl [0, 5] [1, 2, 3, 4] rfl rfl (by decide) (by decide) (n_V (As := [.int (-2)]) (rest := []) (C := RX10) (T := TX10) (N := 14) (ci := 8) S G (c_refuse l X h0 fs hr fr (-2) hf5 H.size) gX10_one_X10_refuse rfl rfl rfl hdV_X10_refuse ⟨Nat.le_of_ble_eq_true rfl, Nat.le_of_ble_eq_true rfl⟩ [0, 5] rfl (by decide) 0 rfl rfl rfl hl.1 (Nat.le_of_ble_eq_true rfl) dX10_one_31 ⟨Nat.le_of_ble_eq_true rfl, Nat.le_of_ble_eq_true rfl⟩) (fun r_10 u_10 H locs hp_10 G => ?_)
        have G : wd X (va_A [(h0, .inr (8, fs)), (hn, .inr (3, [a0, a1, .int 0, .ref hw, .ref hp, a5, a6, a7])), (hw, .inl (X.2.2.2.2, 6, .inr (.inr (.inr (.inr q))))), (r0, .inr (6, [d0, d1, d2, d3, d4, d5, d6, d7])), (hp, .inr (2, [b0, b1])), (hr, .inl (X.2.1, 3, .inl fr))] sz) (va_A [(h0, .inr (8, fs)), (hn, .inr (3, [a0, a1, .int 0, .ref hw, .ref hp, a5, a6, a7])), (hw, .inl (X.2.2.2.2, 6, .inr (.inr (.inr (.inr q))))), (r0, .inr (6, [d0, d1, d2, d3, d4, d5, d6, d7])), (hp, .inr (2, [b0, b1])), (hr, .inl (X.2.1, 3, .inl fr))] sz) s [(hn, .inr (3, [a0, a1, .int 0, .ref hw, .ref hp, a5, a6, a7])), (hw, .inl (X.2.2.2.2, 6, .inr (.inr (.inr (.inr q))))), (r0, .inr (6, [d0, d1, d2, d3, d4, d5, d6, d7])), (hp, .inr (2, [b0, b1]))] H locs := G
        subst hp_10
        exact e_int S zr zlk (vp_nar_int _) G () [] rfl (by decide) (Or.inl rfl) (by first | exact (if_pos ⟨hw_1, hw_3, hw_5⟩).symm | exact (if_neg (fun h => hw_5 h.2.2)).symm) dX10_one_34
    · refine lv_if_eq (tgt := 28) zx zb dX10_one_16 (by decide) (fun c_11 => ?_) (fun c_11 => absurd (by decide) c_11)
      refine lv_aload_n zx zb dX10_one_28 rfl (lv_at hl 0 rfl) ?_
      refine lv_bipush (v := (-2)) zx zb dX10_one_29 (by decide) ?_
      refine o_wi (cells' := 0) (slots' := 0) (wr := [(hn, .inr (3, [a0, a1, .int 0, .ref hw, .ref hp, a5, a6, a7])), (hw, .inl (X.2.2.2.2, 6, .inr (.inr (.inr (.inr q))))), (r0, .inr (6, [d0, d1, d2, d3, d4, d5, d6, d7])), (hp, .inr (2, [b0, b1]))]) G rfl rfl [0, 5] [1, 2, 3, 4] rfl rfl (by decide) (by decide) (n_V (As := [.int (-2)]) (rest := []) (C := RX10) (T := TX10) (N := 14) (ci := 8) S G (c_refuse l X h0 fs hr fr (-2) hf5 H.size) gX10_one_X10_refuse rfl rfl rfl hdV_X10_refuse ⟨Nat.le_of_ble_eq_true rfl, Nat.le_of_ble_eq_true rfl⟩ [0, 5] rfl (by decide) 0 rfl rfl rfl hl.1 (Nat.le_of_ble_eq_true rfl) dX10_one_31 ⟨Nat.le_of_ble_eq_true rfl, Nat.le_of_ble_eq_true rfl⟩) (fun r_12 u_12 H locs hp_12 G => ?_)
      have G : wd X (va_A [(h0, .inr (8, fs)), (hn, .inr (3, [a0, a1, .int 0, .ref hw, .ref hp, a5, a6, a7])), (hw, .inl (X.2.2.2.2, 6, .inr (.inr (.inr (.inr q))))), (r0, .inr (6, [d0, d1, d2, d3, d4, d5, d6, d7])), (hp, .inr (2, [b0, b1])), (hr, .inl (X.2.1, 3, .inl fr))] sz) (va_A [(h0, .inr (8, fs)), (hn, .inr (3, [a0, a1, .int 0, .ref hw, .ref hp, a5, a6, a7])), (hw, .inl (X.2.2.2.2, 6, .inr (.inr (.inr (.inr q))))), (r0, .inr (6, [d0, d1, d2, d3, d4, d5, d6, d7])), (hp, .inr (2, [b0, b1])), (hr, .inl (X.2.1, 3, .inl fr))] sz) s [(hn, .inr (3, [a0, a1, .int 0, .ref hw, .ref hp, a5, a6, a7])), (hw, .inl (X.2.2.2.2, 6, .inr (.inr (.inr (.inr q))))), (r0, .inr (6, [d0, d1, d2, d3, d4, d5, d6, d7])), (hp, .inr (2, [b0, b1]))] H locs := G
      subst hp_12
      exact e_int S zr zlk (vp_nar_int _) G () [] rfl (by decide) (Or.inl rfl) (by first | exact (if_pos ⟨hw_1, hw_3⟩).symm | exact (if_neg (fun h => hw_3 h.2.1)).symm) dX10_one_34
  · refine lv_if_eq (tgt := 28) zx zb dX10_one_6 (by decide) (fun c_13 => ?_) (fun c_13 => absurd (by decide) c_13)
    refine lv_aload_n zx zb dX10_one_28 rfl (lv_at hl 0 rfl) ?_
    refine lv_bipush (v := (-2)) zx zb dX10_one_29 (by decide) ?_
    refine o_wi (cells' := 0) (slots' := 0) (wr := [(hn, .inr (3, [a0, a1, .int 0, .ref hw, .ref hp, a5, a6, a7])), (hw, .inl (X.2.2.2.2, 6, .inr (.inr (.inr (.inr q))))), (r0, .inr (6, [d0, d1, d2, d3, d4, d5, d6, d7])), (hp, .inr (2, [b0, b1]))]) G rfl rfl [0, 5] [1, 2, 3, 4] rfl rfl (by decide) (by decide) (n_V (As := [.int (-2)]) (rest := []) (C := RX10) (T := TX10) (N := 14) (ci := 8) S G (c_refuse l X h0 fs hr fr (-2) hf5 H.size) gX10_one_X10_refuse rfl rfl rfl hdV_X10_refuse ⟨Nat.le_of_ble_eq_true rfl, Nat.le_of_ble_eq_true rfl⟩ [0, 5] rfl (by decide) 0 rfl rfl rfl hl.1 (Nat.le_of_ble_eq_true rfl) dX10_one_31 ⟨Nat.le_of_ble_eq_true rfl, Nat.le_of_ble_eq_true rfl⟩) (fun r_14 u_14 H locs hp_14 G => ?_)
    have G : wd X (va_A [(h0, .inr (8, fs)), (hn, .inr (3, [a0, a1, .int 0, .ref hw, .ref hp, a5, a6, a7])), (hw, .inl (X.2.2.2.2, 6, .inr (.inr (.inr (.inr q))))), (r0, .inr (6, [d0, d1, d2, d3, d4, d5, d6, d7])), (hp, .inr (2, [b0, b1])), (hr, .inl (X.2.1, 3, .inl fr))] sz) (va_A [(h0, .inr (8, fs)), (hn, .inr (3, [a0, a1, .int 0, .ref hw, .ref hp, a5, a6, a7])), (hw, .inl (X.2.2.2.2, 6, .inr (.inr (.inr (.inr q))))), (r0, .inr (6, [d0, d1, d2, d3, d4, d5, d6, d7])), (hp, .inr (2, [b0, b1])), (hr, .inl (X.2.1, 3, .inl fr))] sz) s [(hn, .inr (3, [a0, a1, .int 0, .ref hw, .ref hp, a5, a6, a7])), (hw, .inl (X.2.2.2.2, 6, .inr (.inr (.inr (.inr q))))), (r0, .inr (6, [d0, d1, d2, d3, d4, d5, d6, d7])), (hp, .inr (2, [b0, b1]))] H locs := G
    subst hp_14
    exact e_int S zr zlk (vp_nar_int _) G () [] rfl (by decide) (Or.inl rfl) (by first | exact (if_pos hw_1).symm | exact (if_neg (fun h => hw_1 h.1)).symm) dX10_one_34
theorem in_X6_append_X6 : ∀ w ∈ wsX60, w ∈ wsX6_append := by decide +kernel
theorem lk_X6_append_15 : Cond.fieldLink RX6 15 "EggSpoons$Reader" "length" "I" ∈ wsX6_append := by decide +kernel
theorem lk_X6_append_11 : Cond.fieldLink RX6 11 "EggSpoons$Reader" "bytes" "[I" ∈ wsX6_append := by decide +kernel
set_option maxHeartbeats 4000000 in
set_option maxRecDepth 100000 in
/-- append: the first byte -/
theorem c_append (l : Launch) (X : EX) (hd : Nat) (hb : Nat) (k2 : Value) (k3 : Value) (k4 : Value) (k5 : Value) (k6 : Value) (fb : Nat → Int32) (x : Int32) (sz : Nat) : Met l yX6_append wsX6_append ({ frames := 0, cells := 0, slots := 0, locals := 0 } : Room) (pE X [.ref hd, .int x] [(hd, .inr (4, [.ref hb, .int 0, k2, k3, k4, k5, k6])), (hb, .inl (X.2.1, 150, .inl fb))] sz) (qI (fun (r : Int32) (u : Unit) => r = 1) X (fun (u : Unit) => [(hd, .inr (4, [.ref hb, .int 1, k2, k3, k4, k5, k6]))]) [(hd, .inr (4, [.ref hb, .int 0, k2, k3, k4, k5, k6])), (hb, .inl (X.2.1, 150, .inl fb))] sz) 0 0 (va_A [(hd, .inr (4, [.ref hb, .int 0, k2, k3, k4, k5, k6])), (hb, .inl (X.2.1, 150, .inl fb))] sz) := by
  refine mk_met (B := (va_A [(hd, .inr (4, [.ref hb, .int 0, k2, k3, k4, k5, k6])), (hb, .inl (X.2.1, 150, .inl fb))] sz)) (A := (va_A [(hd, .inr (4, [.ref hb, .int 0, k2, k3, k4, k5, k6])), (hb, .inl (X.2.1, 150, .inl fb))] sz)) (cc := cX6_append) (maxL := 2) (ret := (some .boolean)) (by decide) rfl (Nat.le_of_ble_eq_true rfl) k_w k_a (fun p e s m below meth c S zr zlk znm zsz G ls hl => ?_)
  have S : CallFix p m c cX6_append 2 s _ wsX6_append RX6 := S
  have zx := S.1
  have zb := S.2.1
  have hl : lv_has ls 2 [(0, .ref hd), (1, .int x)] := hl
  refine lv_aload_n zx zb dX6_append_0 rfl (lv_at hl 0 rfl) ?_
  refine r_get (C := RX6) (T := TX6) (N := 7) (ci := 4) (v := .int 0) S in_X6_append_X6 G 0 rfl rfl 1 (by decide) lk_X6_append_15 rfl dX6_append_1 ?_
  refine lv_sipush (v := 150) zx zb dX6_append_4 (by decide) ?_
  refine lv_icmp_lt (tgt := 12) zx zb dX6_append_7 (by decide) (fun c_1 => ?_) (fun c_1 => absurd (by decide) c_1)
  refine lv_aload_n zx zb dX6_append_12 rfl (lv_at hl 0 rfl) ?_
  refine r_get (C := RX6) (T := TX6) (N := 7) (ci := 4) (v := .ref hb) S in_X6_append_X6 G 0 rfl rfl 0 (by decide) lk_X6_append_11 rfl dX6_append_13 ?_
  refine lv_aload_n zx zb dX6_append_16 rfl (lv_at hl 0 rfl) ?_
  refine r_get (C := RX6) (T := TX6) (N := 7) (ci := 4) (v := .int 0) S in_X6_append_X6 G 0 rfl rfl 1 (by decide) lk_X6_append_15 rfl dX6_append_17 ?_
  refine lv_iload_n zx zb dX6_append_20 rfl (lv_at hl 1 rfl) ?_
  refine r_iast S G 1 rfl (k_vp (by decide)) dX6_append_21 (fun H locs G => ?_)
  have G : wd X (va_A [(hd, .inr (4, [.ref hb, .int 0, k2, k3, k4, k5, k6])), (hb, .inl (X.2.1, 150, .inl fb))] sz) (va_A [(hd, .inr (4, [.ref hb, .int 0, k2, k3, k4, k5, k6])), (hb, .inl (X.2.1, 150, .inl fb))] sz) s [(hd, .inr (4, [.ref hb, .int 0, k2, k3, k4, k5, k6])), (hb, .inl (X.2.1, 150, .inl (upd fb 0 x)))] H locs := G
  refine lv_aload_n zx zb dX6_append_22 rfl (lv_at hl 0 rfl) ?_
  refine lv_dup zx zb dX6_append_23 rfl ?_
  refine r_get (C := RX6) (T := TX6) (N := 7) (ci := 4) (v := .int 0) S in_X6_append_X6 G 0 rfl rfl 1 (by decide) lk_X6_append_15 rfl dX6_append_24 ?_
  refine lv_iconst (v := 1) zx zb dX6_append_27 (by decide) ?_
  refine r_iadd (v := 1) S (by decide) dX6_append_28 ?_
  refine r_put (C := RX6) (T := TX6) (N := 7) (ci := 4) (v := .int 1) S in_X6_append_X6 tyX6_ok nmX6 G 0 rfl rfl 1 (by decide) lk_X6_append_15 rfl (vp_nar_int _) rfl (Nat.le_of_ble_eq_true rfl) dX6_append_29 (fun H locs G => ?_)
  have G : wd X (va_A [(hd, .inr (4, [.ref hb, .int 0, k2, k3, k4, k5, k6])), (hb, .inl (X.2.1, 150, .inl fb))] sz) (va_A [(hd, .inr (4, [.ref hb, .int 0, k2, k3, k4, k5, k6])), (hb, .inl (X.2.1, 150, .inl fb))] sz) s [(hd, .inr (4, [.ref hb, .int 1, k2, k3, k4, k5, k6])), (hb, .inl (X.2.1, 150, .inl (upd fb 0 x)))] H locs := G
  refine lv_iconst (v := 1) zx zb dX6_append_32 (by decide) ?_
  exact e_int S zr zlk (by decide) G () [0] rfl (by decide) (Or.inr rfl) (rfl) dX6_append_33
theorem in_X10_type_X10 : ∀ w ∈ wsX100, w ∈ wsX10_type := by decide +kernel
theorem lk_X10_type_30 : Cond.fieldLink RX10 30 "EggSpoons" "reader" "LEggSpoons$Reader;" ∈ wsX10_type := by decide +kernel
theorem hdV_X6_append : yX6_append.cls = RX6 ∧ yX6_append.cls ≠ "java/lang/invoke/MethodHandle" ∧ yX6_append.cls ≠ "java/lang/invoke/VarHandle" ∧ (parseMethodDescriptor yX6_append.desc).map (fun d => d.parameters.length) = some 1 := by decide +kernel
theorem in_X10_type_X6 : ∀ w ∈ wsX60, w ∈ wsX10_type := by decide +kernel
set_option maxHeartbeats 4000000 in
set_option maxRecDepth 100000 in
/-- type -/
theorem c_type (l : Launch) (X : EX) (h0 : Nat) (fs : List Value) (hd : Nat) (hb : Nat) (k2 : Value) (k3 : Value) (k4 : Value) (k5 : Value) (k6 : Value) (fb : Nat → Int32) (hr : Nat) (fr : Nat → Int32) (x1 : Int32) (hf4 : fs[4]? = some (.ref hd)) (hf5 : fs[5]? = some (.ref hr)) (sz : Nat) : Met l yX10_type wsX10_type ({ frames := 1, cells := 0, slots := 0, locals := 22 } : Room) (pE X [.ref h0, .int x1] [(h0, .inr (8, fs)), (hd, .inr (4, [.ref hb, .int 0, k2, k3, k4, k5, k6])), (hb, .inl (X.2.1, 150, .inl fb)), (hr, .inl (X.2.1, 3, .inl fr))] sz) (qI (fun (r : Int32) (u : Unit) => r = if (0 : Int32) ≤ x1 ∧ x1 ≤ 127 then 1 else -2) X (fun (u : Unit) => []) [(h0, .inr (8, fs)), (hd, .inr (4, [.ref hb, .int 0, k2, k3, k4, k5, k6])), (hb, .inl (X.2.1, 150, .inl fb)), (hr, .inl (X.2.1, 3, .inl fr))] sz) 0 0 (va_A [(h0, .inr (8, fs)), (hd, .inr (4, [.ref hb, .int 0, k2, k3, k4, k5, k6])), (hb, .inl (X.2.1, 150, .inl fb)), (hr, .inl (X.2.1, 3, .inl fr))] sz) := by
  refine mk_met (B := (va_A [(h0, .inr (8, fs)), (hd, .inr (4, [.ref hb, .int 0, k2, k3, k4, k5, k6])), (hb, .inl (X.2.1, 150, .inl fb)), (hr, .inl (X.2.1, 3, .inl fr))] sz)) (A := (va_A [(h0, .inr (8, fs)), (hd, .inr (4, [.ref hb, .int 0, k2, k3, k4, k5, k6])), (hb, .inl (X.2.1, 150, .inl fb)), (hr, .inl (X.2.1, 3, .inl fr))] sz)) (cc := cX10_type) (maxL := 2) (ret := (some .int)) (by decide) rfl (Nat.le_of_ble_eq_true rfl) k_w k_a (fun p e s m below meth c S zr zlk znm zsz G ls hl => ?_)
  have S : CallFix p m c cX10_type 2 s _ wsX10_type RX10 := S
  have zx := S.1
  have zb := S.2.1
  have hl : lv_has ls 2 [(0, .ref h0), (1, .int x1)] := hl
  refine lv_iload_n zx zb dX10_type_0 rfl (lv_at hl 1 rfl) ?_
  refine lv_iconst (v := 0) zx zb dX10_type_1 (by decide) ?_
  refine lv_bipush (v := 127) zx zb dX10_type_2 (by decide) ?_
  refine o_ri (cells' := 0) (slots' := 0) G rfl rfl (n_S (As := [.int x1, .int 0, .int 127]) (rest := []) S G (c_within l X x1 0 127 s.heap.size) gX10_type_X10_within rfl rfl rfl hdS_X10_within ⟨Nat.le_of_ble_eq_true rfl, Nat.le_of_ble_eq_true rfl⟩ [] rfl (by decide) rfl hl.1 (Nat.le_of_ble_eq_true rfl) dX10_type_4 ⟨Nat.le_of_ble_eq_true rfl, Nat.le_of_ble_eq_true rfl⟩) (fun r_1 u_1 H locs hp_1 G => ?_)
  have G : wd X (va_A [(h0, .inr (8, fs)), (hd, .inr (4, [.ref hb, .int 0, k2, k3, k4, k5, k6])), (hb, .inl (X.2.1, 150, .inl fb)), (hr, .inl (X.2.1, 3, .inl fr))] sz) (va_A [(h0, .inr (8, fs)), (hd, .inr (4, [.ref hb, .int 0, k2, k3, k4, k5, k6])), (hb, .inl (X.2.1, 150, .inl fb)), (hr, .inl (X.2.1, 3, .inl fr))] sz) s [(h0, .inr (8, fs)), (hd, .inr (4, [.ref hb, .int 0, k2, k3, k4, k5, k6])), (hb, .inl (X.2.1, 150, .inl fb)), (hr, .inl (X.2.1, 3, .inl fr))] H locs := G
  rcases hp_1 with ⟨rfl, hw_1⟩ | ⟨rfl, hw_1⟩
  · refine lv_if_ne (tgt := 17) zx zb dX10_type_7 (by decide) (fun c_2 => ?_) (fun c_2 => absurd c_2 (by decide))
    refine lv_aload_n zx zb dX10_type_17 rfl (lv_at hl 0 rfl) ?_
    refine r_get (C := RX10) (T := TX10) (N := 14) (ci := 8) (v := .ref hd) S in_X10_type_X10 G 0 rfl rfl 4 (by decide) lk_X10_type_30 hf4 dX10_type_18 ?_
    refine lv_iload_n zx zb dX10_type_21 rfl (lv_at hl 1 rfl) ?_
    refine o_wi (cells' := 0) (slots' := 0) (wr := [(h0, .inr (8, fs)), (hr, .inl (X.2.1, 3, .inl fr))]) G rfl rfl [1, 2] [0, 3] rfl rfl (by decide) (by decide) (n_V (As := [.int x1]) (rest := []) (C := RX6) (T := TX6) (N := 7) (ci := 4) S G (c_append l X hd hb k2 k3 k4 k5 k6 fb x1 H.size) gX10_type_X6_append rfl rfl rfl hdV_X6_append ⟨Nat.le_of_ble_eq_true rfl, Nat.le_of_ble_eq_true rfl⟩ [1, 2] rfl (by decide) 1 rfl rfl rfl hl.1 (Nat.le_of_ble_eq_true rfl) dX10_type_22 ⟨Nat.le_of_ble_eq_true rfl, Nat.le_of_ble_eq_true rfl⟩) (fun r_3 u_3 H locs hp_3 G => ?_)
    have G : wd X (va_A [(h0, .inr (8, fs)), (hd, .inr (4, [.ref hb, .int 0, k2, k3, k4, k5, k6])), (hb, .inl (X.2.1, 150, .inl fb)), (hr, .inl (X.2.1, 3, .inl fr))] sz) (va_A [(h0, .inr (8, fs)), (hd, .inr (4, [.ref hb, .int 0, k2, k3, k4, k5, k6])), (hb, .inl (X.2.1, 150, .inl fb)), (hr, .inl (X.2.1, 3, .inl fr))] sz) s [(h0, .inr (8, fs)), (hr, .inl (X.2.1, 3, .inl fr)), (hd, .inr (4, [.ref hb, .int 1, k2, k3, k4, k5, k6]))] H locs := G
    subst hp_3
    refine lv_if_eq (tgt := 38) zx zb dX10_type_25 (by decide) (fun c_4 => absurd c_4 (by decide)) (fun c_4 => ?_)
    refine lv_aload_n zx zb dX10_type_28 rfl (lv_at hl 0 rfl) ?_
    refine r_get (C := RX10) (T := TX10) (N := 14) (ci := 8) (v := .ref hd) S in_X10_type_X10 G 0 rfl rfl 4 (by decide) lk_X10_type_30 hf4 dX10_type_29 ?_
    refine r_getN (C := RX6) (T := TX6) (N := 7) (ci := 4) (host := "EggSpoons") (v := .int 1) S in_X10_type_X6 G 2 rfl rfl 1 (by decide) G.1.2.2.2.1 rfl dX10_type_32 ?_
    refine lv_goto (tgt := 44) zx zb dX10_type_35 (by decide) ?_
    exact e_int S zr zlk (vp_nar_int _) G () [] rfl (by decide) (Or.inl rfl) (by first | exact (if_pos hw_1).symm | exact (if_neg (fun h => hw_1 h)).symm) dX10_type_44
  · refine lv_if_ne (tgt := 17) zx zb dX10_type_7 (by decide) (fun c_5 => absurd (by decide) c_5) (fun c_5 => ?_)
    refine lv_aload_n zx zb dX10_type_10 rfl (lv_at hl 0 rfl) ?_
    refine lv_bipush (v := (-2)) zx zb dX10_type_11 (by decide) ?_
    refine o_wi (cells' := 0) (slots' := 0) (wr := [(hd, .inr (4, [.ref hb, .int 0, k2, k3, k4, k5, k6])), (hb, .inl (X.2.1, 150, .inl fb))]) G rfl rfl [0, 3] [1, 2] rfl rfl (by decide) (by decide) (n_V (As := [.int (-2)]) (rest := []) (C := RX10) (T := TX10) (N := 14) (ci := 8) S G (c_refuse l X h0 fs hr fr (-2) hf5 H.size) gX10_type_X10_refuse rfl rfl rfl hdV_X10_refuse ⟨Nat.le_of_ble_eq_true rfl, Nat.le_of_ble_eq_true rfl⟩ [0, 3] rfl (by decide) 0 rfl rfl rfl hl.1 (Nat.le_of_ble_eq_true rfl) dX10_type_13 ⟨Nat.le_of_ble_eq_true rfl, Nat.le_of_ble_eq_true rfl⟩) (fun r_6 u_6 H locs hp_6 G => ?_)
    have G : wd X (va_A [(h0, .inr (8, fs)), (hd, .inr (4, [.ref hb, .int 0, k2, k3, k4, k5, k6])), (hb, .inl (X.2.1, 150, .inl fb)), (hr, .inl (X.2.1, 3, .inl fr))] sz) (va_A [(h0, .inr (8, fs)), (hd, .inr (4, [.ref hb, .int 0, k2, k3, k4, k5, k6])), (hb, .inl (X.2.1, 150, .inl fb)), (hr, .inl (X.2.1, 3, .inl fr))] sz) s [(hd, .inr (4, [.ref hb, .int 0, k2, k3, k4, k5, k6])), (hb, .inl (X.2.1, 150, .inl fb))] H locs := G
    subst hp_6
    exact e_int S zr zlk (vp_nar_int _) G () [] rfl (by decide) (Or.inl rfl) (by first | exact (if_pos hw_1).symm | exact (if_neg (fun h => hw_1 h)).symm) dX10_type_16
theorem in_X10_clear_X10 : ∀ w ∈ wsX100, w ∈ wsX10_clear := by decide +kernel
theorem lk_X10_clear_30 : Cond.fieldLink RX10 30 "EggSpoons" "reader" "LEggSpoons$Reader;" ∈ wsX10_clear := by decide +kernel
theorem in_X10_clear_X6 : ∀ w ∈ wsX60, w ∈ wsX10_clear := by decide +kernel
set_option maxHeartbeats 4000000 in
set_option maxRecDepth 100000 in
/-- clear -/
theorem c_clear (l : Launch) (X : EX) (h0 : Nat) (fs : List Value) (hd : Nat) (hb : Nat) (k2 : Value) (k3 : Value) (k4 : Value) (k5 : Value) (k6 : Value) (hf4 : fs[4]? = some (.ref hd)) (sz : Nat) : Met l yX10_clear wsX10_clear ({ frames := 0, cells := 0, slots := 0, locals := 0 } : Room) (pE X [.ref h0] [(h0, .inr (8, fs)), (hd, .inr (4, [.ref hb, .int 0, k2, k3, k4, k5, k6]))] sz) (qI (fun (r : Int32) (u : Unit) => r = 0) X (fun (u : Unit) => []) [(h0, .inr (8, fs)), (hd, .inr (4, [.ref hb, .int 0, k2, k3, k4, k5, k6]))] sz) 0 0 (va_A [(h0, .inr (8, fs)), (hd, .inr (4, [.ref hb, .int 0, k2, k3, k4, k5, k6]))] sz) := by
  refine mk_met (B := (va_A [(h0, .inr (8, fs)), (hd, .inr (4, [.ref hb, .int 0, k2, k3, k4, k5, k6]))] sz)) (A := (va_A [(h0, .inr (8, fs)), (hd, .inr (4, [.ref hb, .int 0, k2, k3, k4, k5, k6]))] sz)) (cc := cX10_clear) (maxL := 2) (ret := (some .int)) (by decide) rfl (Nat.le_of_ble_eq_true rfl) k_w k_a (fun p e s m below meth c S zr zlk znm zsz G ls hl => ?_)
  have S : CallFix p m c cX10_clear 2 s _ wsX10_clear RX10 := S
  have zx := S.1
  have zb := S.2.1
  have hl : lv_has ls 2 [(0, .ref h0)] := hl
  refine lv_aload_n zx zb dX10_clear_0 rfl (lv_at hl 0 rfl) ?_
  refine r_get (C := RX10) (T := TX10) (N := 14) (ci := 8) (v := .ref hd) S in_X10_clear_X10 G 0 rfl rfl 4 (by decide) lk_X10_clear_30 hf4 dX10_clear_1 ?_
  refine r_getN (C := RX6) (T := TX6) (N := 7) (ci := 4) (host := "EggSpoons") (v := .int 0) S in_X10_clear_X6 G 1 rfl rfl 1 (by decide) G.1.2.2.2.1 rfl dX10_clear_4 ?_
  refine lv_istore_n (lv' := [(1, .int 0), (0, .ref h0)]) zx zb dX10_clear_7 rfl hl (by decide) rfl (fun ls hl => ?_)
  refine lv_aload_n zx zb dX10_clear_8 rfl (lv_at hl 1 rfl) ?_
  refine r_get (C := RX10) (T := TX10) (N := 14) (ci := 8) (v := .ref hd) S in_X10_clear_X10 G 0 rfl rfl 4 (by decide) lk_X10_clear_30 hf4 dX10_clear_9 ?_
  refine lv_iconst (v := 0) zx zb dX10_clear_12 (by decide) ?_
  refine r_putN (host := "EggSpoons") (C := RX6) (T := TX6) (N := 7) (ci := 4) (v := .int 0) S in_X10_clear_X6 tyX6_ok nmX6 G 1 rfl rfl 1 (by decide) G.1.2.2.2.1 rfl (vp_nar_int _) rfl (Nat.le_of_ble_eq_true rfl) dX10_clear_13 (fun H locs G => ?_)
  have G : wd X (va_A [(h0, .inr (8, fs)), (hd, .inr (4, [.ref hb, .int 0, k2, k3, k4, k5, k6]))] sz) (va_A [(h0, .inr (8, fs)), (hd, .inr (4, [.ref hb, .int 0, k2, k3, k4, k5, k6]))] sz) s [(h0, .inr (8, fs)), (hd, .inr (4, [.ref hb, .int 0, k2, k3, k4, k5, k6]))] H locs := G
  refine lv_iload_n zx zb dX10_clear_16 rfl (lv_at hl 0 rfl) ?_
  exact e_int S zr zlk (vp_nar_int _) G () [] rfl (by decide) (Or.inl rfl) (rfl) dX10_clear_17
theorem in_X6_skipBlanks_X6 : ∀ w ∈ wsX60, w ∈ wsX6_skipBlanks := by decide +kernel
theorem lk_X6_skipBlanks_19 : Cond.fieldLink RX6 19 "EggSpoons$Reader" "at" "I" ∈ wsX6_skipBlanks := by decide +kernel
theorem lk_X6_skipBlanks_15 : Cond.fieldLink RX6 15 "EggSpoons$Reader" "length" "I" ∈ wsX6_skipBlanks := by decide +kernel
set_option maxHeartbeats 4000000 in
set_option maxRecDepth 100000 in
/-- skipBlanks at the end of an empty text -/
theorem c_skipBlanks (l : Launch) (X : EX) (hd : Nat) (ks : List Value) (hk1 : ks[1]? = some (.int 0)) (hk2 : ks[2]? = some (.int 0)) (sz : Nat) : Met l yX6_skipBlanks wsX6_skipBlanks ({ frames := 0, cells := 0, slots := 0, locals := 0 } : Room) (pE X [.ref hd] [(hd, .inr (4, ks))] sz) (qV (fun (u : Unit) => True) X (fun (u : Unit) => []) [] sz) 0 0 (va_A [] sz) := by
  refine mk_met (B := (fun _ => True)) (A := (va_A [] sz)) (cc := cX6_skipBlanks) (maxL := 1) (ret := none) (by decide) rfl (Nat.le_of_ble_eq_true rfl) k_ro k_a (fun p e s m below meth c S zr zlk znm zsz G ls hl => ?_)
  have S : CallFix p m c cX6_skipBlanks 1 s _ wsX6_skipBlanks RX6 := S
  have zx := S.1
  have zb := S.2.1
  have hl : lv_has ls 1 [(0, .ref hd)] := hl
  refine lv_aload_n zx zb dX6_skipBlanks_0 rfl (lv_at hl 0 rfl) ?_
  refine r_get (C := RX6) (T := TX6) (N := 7) (ci := 4) (v := .int 0) S in_X6_skipBlanks_X6 G 0 rfl rfl 2 (by decide) lk_X6_skipBlanks_19 hk2 dX6_skipBlanks_1 ?_
  refine lv_aload_n zx zb dX6_skipBlanks_4 rfl (lv_at hl 0 rfl) ?_
  refine r_get (C := RX6) (T := TX6) (N := 7) (ci := 4) (v := .int 0) S in_X6_skipBlanks_X6 G 0 rfl rfl 1 (by decide) lk_X6_skipBlanks_15 hk1 dX6_skipBlanks_5 ?_
  refine lv_icmp_ge (tgt := 38) zx zb dX6_skipBlanks_8 (by decide) (fun c_1 => ?_) (fun c_1 => absurd (by decide) c_1)
  exact e_void S zr zlk G () [] rfl (by decide) (Or.inl rfl) (trivial) dX6_skipBlanks_38
theorem hdV_X6_skipBlanks : yX6_skipBlanks.cls = RX6 ∧ yX6_skipBlanks.cls ≠ "java/lang/invoke/MethodHandle" ∧ yX6_skipBlanks.cls ≠ "java/lang/invoke/VarHandle" ∧ (parseMethodDescriptor yX6_skipBlanks.desc).map (fun d => d.parameters.length) = some 0 := by decide +kernel
theorem in_X6_nextToken_X6 : ∀ w ∈ wsX60, w ∈ wsX6_nextToken := by decide +kernel
theorem lk_X6_nextToken_19 : Cond.fieldLink RX6 19 "EggSpoons$Reader" "at" "I" ∈ wsX6_nextToken := by decide +kernel
theorem lk_X6_nextToken_22 : Cond.fieldLink RX6 22 "EggSpoons$Reader" "tokenAt" "I" ∈ wsX6_nextToken := by decide +kernel
theorem lk_X6_nextToken_15 : Cond.fieldLink RX6 15 "EggSpoons$Reader" "length" "I" ∈ wsX6_nextToken := by decide +kernel
theorem lk_X6_nextToken_25 : Cond.fieldLink RX6 25 "EggSpoons$Reader" "sort" "I" ∈ wsX6_nextToken := by decide +kernel
set_option maxHeartbeats 4000000 in
set_option maxRecDepth 100000 in
/-- nextToken of an empty text: its end -/
theorem c_nextToken (l : Launch) (X : EX) (hd : Nat) (k0 : Value) (k3 : Value) (k4 : Value) (k5 : Value) (k6 : Value) (sz : Nat) : Met l yX6_nextToken wsX6_nextToken ({ frames := 1, cells := 0, slots := 0, locals := 20 } : Room) (pE X [.ref hd] [(hd, .inr (4, [k0, .int 0, .int 0, k3, k4, k5, k6]))] sz) (qV (fun (u : Unit) => True) X (fun (u : Unit) => [(hd, .inr (4, [k0, .int 0, .int 0, .int 0, .int 0, k5, k6]))]) [(hd, .inr (4, [k0, .int 0, .int 0, k3, k4, k5, k6]))] sz) 0 0 (va_A [(hd, .inr (4, [k0, .int 0, .int 0, k3, k4, k5, k6]))] sz) := by
  refine mk_met (B := (va_A [(hd, .inr (4, [k0, .int 0, .int 0, k3, k4, k5, k6]))] sz)) (A := (va_A [(hd, .inr (4, [k0, .int 0, .int 0, k3, k4, k5, k6]))] sz)) (cc := cX6_nextToken) (maxL := 1) (ret := none) (by decide) rfl (Nat.le_of_ble_eq_true rfl) k_w k_a (fun p e s m below meth c S zr zlk znm zsz G ls hl => ?_)
  have S : CallFix p m c cX6_nextToken 1 s _ wsX6_nextToken RX6 := S
  have zx := S.1
  have zb := S.2.1
  have hl : lv_has ls 1 [(0, .ref hd)] := hl
  refine lv_aload_n zx zb dX6_nextToken_0 rfl (lv_at hl 0 rfl) ?_
  refine o_rv (cells' := 0) (slots' := 0) G rfl rfl (n_V (As := []) (rest := []) (C := RX6) (T := TX6) (N := 7) (ci := 4) S G (c_skipBlanks l X hd ([k0, .int 0, .int 0, k3, k4, k5, k6]) rfl rfl s.heap.size) gX6_nextToken_X6_skipBlanks rfl rfl rfl hdV_X6_skipBlanks ⟨Nat.le_of_ble_eq_true rfl, Nat.le_of_ble_eq_true rfl⟩ [0] rfl (by decide) 0 rfl rfl rfl hl.1 (Nat.le_of_ble_eq_true rfl) dX6_nextToken_1 ⟨Nat.le_of_ble_eq_true rfl, Nat.le_of_ble_eq_true rfl⟩) (fun u_1 H locs hp_1 G => ?_)
  have G : wd X (va_A [(hd, .inr (4, [k0, .int 0, .int 0, k3, k4, k5, k6]))] sz) (va_A [(hd, .inr (4, [k0, .int 0, .int 0, k3, k4, k5, k6]))] sz) s [(hd, .inr (4, [k0, .int 0, .int 0, k3, k4, k5, k6]))] H locs := G
  refine lv_aload_n zx zb dX6_nextToken_4 rfl (lv_at hl 0 rfl) ?_
  refine lv_aload_n zx zb dX6_nextToken_5 rfl (lv_at hl 0 rfl) ?_
  refine r_get (C := RX6) (T := TX6) (N := 7) (ci := 4) (v := .int 0) S in_X6_nextToken_X6 G 0 rfl rfl 2 (by decide) lk_X6_nextToken_19 rfl dX6_nextToken_6 ?_
  refine r_put (C := RX6) (T := TX6) (N := 7) (ci := 4) (v := .int 0) S in_X6_nextToken_X6 tyX6_ok nmX6 G 0 rfl rfl 3 (by decide) lk_X6_nextToken_22 rfl (vp_nar_int _) rfl (Nat.le_of_ble_eq_true rfl) dX6_nextToken_9 (fun H locs G => ?_)
  have G : wd X (va_A [(hd, .inr (4, [k0, .int 0, .int 0, k3, k4, k5, k6]))] sz) (va_A [(hd, .inr (4, [k0, .int 0, .int 0, k3, k4, k5, k6]))] sz) s [(hd, .inr (4, [k0, .int 0, .int 0, .int 0, k4, k5, k6]))] H locs := G
  refine lv_aload_n zx zb dX6_nextToken_12 rfl (lv_at hl 0 rfl) ?_
  refine r_get (C := RX6) (T := TX6) (N := 7) (ci := 4) (v := .int 0) S in_X6_nextToken_X6 G 0 rfl rfl 2 (by decide) lk_X6_nextToken_19 rfl dX6_nextToken_13 ?_
  refine lv_aload_n zx zb dX6_nextToken_16 rfl (lv_at hl 0 rfl) ?_
  refine r_get (C := RX6) (T := TX6) (N := 7) (ci := 4) (v := .int 0) S in_X6_nextToken_X6 G 0 rfl rfl 1 (by decide) lk_X6_nextToken_15 rfl dX6_nextToken_17 ?_
  refine lv_icmp_lt (tgt := 31) zx zb dX6_nextToken_20 (by decide) (fun c_2 => absurd c_2 (by decide)) (fun c_2 => ?_)
  refine lv_aload_n zx zb dX6_nextToken_23 rfl (lv_at hl 0 rfl) ?_
  refine lv_iconst (v := 0) zx zb dX6_nextToken_24 (by decide) ?_
  refine r_put (C := RX6) (T := TX6) (N := 7) (ci := 4) (v := .int 0) S in_X6_nextToken_X6 tyX6_ok nmX6 G 0 rfl rfl 4 (by decide) lk_X6_nextToken_25 rfl (vp_nar_int _) rfl (Nat.le_of_ble_eq_true rfl) dX6_nextToken_25 (fun H locs G => ?_)
  have G : wd X (va_A [(hd, .inr (4, [k0, .int 0, .int 0, k3, k4, k5, k6]))] sz) (va_A [(hd, .inr (4, [k0, .int 0, .int 0, k3, k4, k5, k6]))] sz) s [(hd, .inr (4, [k0, .int 0, .int 0, .int 0, .int 0, k5, k6]))] H locs := G
  refine lv_goto (tgt := 108) zx zb dX6_nextToken_28 (by decide) ?_
  exact e_void S zr zlk G () [0] rfl (by decide) (Or.inr rfl) (trivial) dX6_nextToken_108
theorem hdV_X6_nextToken : yX6_nextToken.cls = RX6 ∧ yX6_nextToken.cls ≠ "java/lang/invoke/MethodHandle" ∧ yX6_nextToken.cls ≠ "java/lang/invoke/VarHandle" ∧ (parseMethodDescriptor yX6_nextToken.desc).map (fun d => d.parameters.length) = some 0 := by decide +kernel
theorem in_X6_takeItem_X6 : ∀ w ∈ wsX60, w ∈ wsX6_takeItem := by decide +kernel
theorem lk_X6_takeItem_25 : Cond.fieldLink RX6 25 "EggSpoons$Reader" "sort" "I" ∈ wsX6_takeItem := by decide +kernel
theorem lk_X6_takeItem_22 : Cond.fieldLink RX6 22 "EggSpoons$Reader" "tokenAt" "I" ∈ wsX6_takeItem := by decide +kernel
theorem lk_X6_takeItem_31 : Cond.fieldLink RX6 31 "EggSpoons$Reader" "fault" "I" ∈ wsX6_takeItem := by decide +kernel
set_option maxHeartbeats 4000000 in
set_option maxRecDepth 100000 in
/-- takeItem of an empty text: a fault at 0 -/
theorem c_takeItem (l : Launch) (X : EX) (hd : Nat) (k0 : Value) (k3 : Value) (k4 : Value) (k5 : Value) (k6 : Value) (v : Value) (sz : Nat) : Met l yX6_takeItem wsX6_takeItem ({ frames := 2, cells := 0, slots := 0, locals := 40 } : Room) (pE X [.ref hd, v, .int 1] [(hd, .inr (4, [k0, .int 0, .int 0, k3, k4, k5, k6]))] sz) (qV (fun (u : Unit) => True) X (fun (u : Unit) => [(hd, .inr (4, [k0, .int 0, .int 0, .int 0, .int 0, k5, .int 0]))]) [(hd, .inr (4, [k0, .int 0, .int 0, k3, k4, k5, k6]))] sz) 0 0 (va_A [(hd, .inr (4, [k0, .int 0, .int 0, k3, k4, k5, k6]))] sz) := by
  refine mk_met (B := (va_A [(hd, .inr (4, [k0, .int 0, .int 0, k3, k4, k5, k6]))] sz)) (A := (va_A [(hd, .inr (4, [k0, .int 0, .int 0, k3, k4, k5, k6]))] sz)) (cc := cX6_takeItem) (maxL := 3) (ret := none) (by decide) rfl (Nat.le_of_ble_eq_true rfl) k_w k_a (fun p e s m below meth c S zr zlk znm zsz G ls hl => ?_)
  have S : CallFix p m c cX6_takeItem 3 s _ wsX6_takeItem RX6 := S
  have zx := S.1
  have zb := S.2.1
  have hl : lv_has ls 3 [(0, .ref hd), (1, v), (2, .int 1)] := hl
  refine lv_aload_n zx zb dX6_takeItem_0 rfl (lv_at hl 0 rfl) ?_
  refine o_wv (cells' := 0) (slots' := 0) (wr := []) G rfl rfl [0] [] rfl rfl (by decide) (by decide) (n_V (As := []) (rest := []) (C := RX6) (T := TX6) (N := 7) (ci := 4) S G (c_nextToken l X hd k0 k3 k4 k5 k6 s.heap.size) gX6_takeItem_X6_nextToken rfl rfl rfl hdV_X6_nextToken ⟨Nat.le_of_ble_eq_true rfl, Nat.le_of_ble_eq_true rfl⟩ [0] rfl (by decide) 0 rfl rfl rfl hl.1 (Nat.le_of_ble_eq_true rfl) dX6_takeItem_1 ⟨Nat.le_of_ble_eq_true rfl, Nat.le_of_ble_eq_true rfl⟩) (fun u_1 H locs hp_1 G => ?_)
  have G : wd X (va_A [(hd, .inr (4, [k0, .int 0, .int 0, k3, k4, k5, k6]))] sz) (va_A [(hd, .inr (4, [k0, .int 0, .int 0, k3, k4, k5, k6]))] sz) s [(hd, .inr (4, [k0, .int 0, .int 0, .int 0, .int 0, k5, k6]))] H locs := G
  refine lv_aload_n zx zb dX6_takeItem_4 rfl (lv_at hl 0 rfl) ?_
  refine r_get (C := RX6) (T := TX6) (N := 7) (ci := 4) (v := .int 0) S in_X6_takeItem_X6 G 0 rfl rfl 4 (by decide) lk_X6_takeItem_25 rfl dX6_takeItem_5 ?_
  refine lv_iconst (v := 1) zx zb dX6_takeItem_8 (by decide) ?_
  refine lv_icmp_ne (tgt := 22) zx zb dX6_takeItem_9 (by decide) (fun c_2 => ?_) (fun c_2 => absurd c_2 (by decide))
  refine lv_aload_n zx zb dX6_takeItem_22 rfl (lv_at hl 0 rfl) ?_
  refine lv_aload_n zx zb dX6_takeItem_23 rfl (lv_at hl 0 rfl) ?_
  refine r_get (C := RX6) (T := TX6) (N := 7) (ci := 4) (v := .int 0) S in_X6_takeItem_X6 G 0 rfl rfl 3 (by decide) lk_X6_takeItem_22 rfl dX6_takeItem_24 ?_
  refine r_put (C := RX6) (T := TX6) (N := 7) (ci := 4) (v := .int 0) S in_X6_takeItem_X6 tyX6_ok nmX6 G 0 rfl rfl 6 (by decide) lk_X6_takeItem_31 rfl (vp_nar_int _) rfl (Nat.le_of_ble_eq_true rfl) dX6_takeItem_27 (fun H locs G => ?_)
  have G : wd X (va_A [(hd, .inr (4, [k0, .int 0, .int 0, k3, k4, k5, k6]))] sz) (va_A [(hd, .inr (4, [k0, .int 0, .int 0, k3, k4, k5, k6]))] sz) s [(hd, .inr (4, [k0, .int 0, .int 0, .int 0, .int 0, k5, .int 0]))] H locs := G
  refine lv_goto (tgt := 130) zx zb dX6_takeItem_30 (by decide) ?_
  exact e_void S zr zlk G () [0] rfl (by decide) (Or.inr rfl) (trivial) dX6_takeItem_130
theorem in_X6_takeRace_X6 : ∀ w ∈ wsX60, w ∈ wsX6_takeRace := by decide +kernel
theorem lk_X6_takeRace_19 : Cond.fieldLink RX6 19 "EggSpoons$Reader" "at" "I" ∈ wsX6_takeRace := by decide +kernel
theorem lk_X6_takeRace_31 : Cond.fieldLink RX6 31 "EggSpoons$Reader" "fault" "I" ∈ wsX6_takeRace := by decide +kernel
theorem hdV_X6_takeItem : yX6_takeItem.cls = RX6 ∧ yX6_takeItem.cls ≠ "java/lang/invoke/MethodHandle" ∧ yX6_takeItem.cls ≠ "java/lang/invoke/VarHandle" ∧ (parseMethodDescriptor yX6_takeItem.desc).map (fun d => d.parameters.length) = some 2 := by decide +kernel
set_option maxHeartbeats 4000000 in
set_option maxRecDepth 100000 in
/-- takeRace of an empty text -/
theorem c_takeRace (l : Launch) (X : EX) (hd : Nat) (k0 : Value) (k2 : Value) (k3 : Value) (k4 : Value) (k5 : Value) (k6 : Value) (v : Nat) (sz : Nat) : Met l yX6_takeRace wsX6_takeRace ({ frames := 3, cells := 0, slots := 0, locals := 62 } : Room) (pE X [.ref hd, .ref v] [(hd, .inr (4, [k0, .int 0, k2, k3, k4, k5, k6]))] sz) (qI (fun (r : Int32) (u : Unit) => r = -10) X (fun (u : Unit) => []) [(hd, .inr (4, [k0, .int 0, k2, k3, k4, k5, k6]))] sz) 0 0 (va_A [(hd, .inr (4, [k0, .int 0, k2, k3, k4, k5, k6]))] sz) := by
  refine mk_met (B := (va_A [(hd, .inr (4, [k0, .int 0, k2, k3, k4, k5, k6]))] sz)) (A := (va_A [(hd, .inr (4, [k0, .int 0, k2, k3, k4, k5, k6]))] sz)) (cc := cX6_takeRace) (maxL := 3) (ret := (some .int)) (by decide) rfl (Nat.le_of_ble_eq_true rfl) k_w k_a (fun p e s m below meth c S zr zlk znm zsz G ls hl => ?_)
  have S : CallFix p m c cX6_takeRace 3 s _ wsX6_takeRace RX6 := S
  have zx := S.1
  have zb := S.2.1
  have hl : lv_has ls 3 [(0, .ref hd), (1, .ref v)] := hl
  refine lv_aload_n zx zb dX6_takeRace_0 rfl (lv_at hl 0 rfl) ?_
  refine lv_iconst (v := 0) zx zb dX6_takeRace_1 (by decide) ?_
  refine r_put (C := RX6) (T := TX6) (N := 7) (ci := 4) (v := .int 0) S in_X6_takeRace_X6 tyX6_ok nmX6 G 0 rfl rfl 2 (by decide) lk_X6_takeRace_19 rfl (vp_nar_int _) rfl (Nat.le_of_ble_eq_true rfl) dX6_takeRace_2 (fun H locs G => ?_)
  have G : wd X (va_A [(hd, .inr (4, [k0, .int 0, k2, k3, k4, k5, k6]))] sz) (va_A [(hd, .inr (4, [k0, .int 0, k2, k3, k4, k5, k6]))] sz) s [(hd, .inr (4, [k0, .int 0, .int 0, k3, k4, k5, k6]))] H locs := G
  refine lv_aload_n zx zb dX6_takeRace_5 rfl (lv_at hl 0 rfl) ?_
  refine lv_iconst (v := (-1)) zx zb dX6_takeRace_6 (by decide) ?_
  refine r_put (C := RX6) (T := TX6) (N := 7) (ci := 4) (v := .int (-1)) S in_X6_takeRace_X6 tyX6_ok nmX6 G 0 rfl rfl 6 (by decide) lk_X6_takeRace_31 rfl (vp_nar_int _) rfl (Nat.le_of_ble_eq_true rfl) dX6_takeRace_7 (fun H locs G => ?_)
  have G : wd X (va_A [(hd, .inr (4, [k0, .int 0, k2, k3, k4, k5, k6]))] sz) (va_A [(hd, .inr (4, [k0, .int 0, k2, k3, k4, k5, k6]))] sz) s [(hd, .inr (4, [k0, .int 0, .int 0, k3, k4, k5, .int (-1)]))] H locs := G
  refine lv_iconst (v := 0) zx zb dX6_takeRace_10 (by decide) ?_
  refine lv_istore_n (lv' := [(2, .int 0), (0, .ref hd), (1, .ref v)]) zx zb dX6_takeRace_11 rfl hl (by decide) rfl (fun ls hl => ?_)
  refine lv_aload_n zx zb dX6_takeRace_12 rfl (lv_at hl 1 rfl) ?_
  refine lv_aload_n zx zb dX6_takeRace_13 rfl (lv_at hl 2 rfl) ?_
  refine lv_iload_n zx zb dX6_takeRace_14 rfl (lv_at hl 0 rfl) ?_
  refine lv_if_ne (tgt := 22) zx zb dX6_takeRace_15 (by decide) (fun c_1 => absurd (by decide) c_1) (fun c_1 => ?_)
  refine lv_iconst (v := 1) zx zb dX6_takeRace_18 (by decide) ?_
  refine lv_goto (tgt := 23) zx zb dX6_takeRace_19 (by decide) ?_
  refine o_wv (cells' := 0) (slots' := 0) (wr := []) G rfl rfl [0] [] rfl rfl (by decide) (by decide) (n_V (As := [.ref v, .int 1]) (rest := []) (C := RX6) (T := TX6) (N := 7) (ci := 4) S G (c_takeItem l X hd k0 k3 k4 k5 (.int (-1)) (.ref v) H.size) gX6_takeRace_X6_takeItem rfl rfl rfl hdV_X6_takeItem ⟨Nat.le_of_ble_eq_true rfl, Nat.le_of_ble_eq_true rfl⟩ [0] rfl (by decide) 0 rfl rfl rfl hl.1 (Nat.le_of_ble_eq_true rfl) dX6_takeRace_23 ⟨Nat.le_of_ble_eq_true rfl, Nat.le_of_ble_eq_true rfl⟩) (fun u_2 H locs hp_2 G => ?_)
  have G : wd X (va_A [(hd, .inr (4, [k0, .int 0, k2, k3, k4, k5, k6]))] sz) (va_A [(hd, .inr (4, [k0, .int 0, k2, k3, k4, k5, k6]))] sz) s [(hd, .inr (4, [k0, .int 0, .int 0, .int 0, .int 0, k5, .int 0]))] H locs := G
  refine lv_iinc (v := 1) (lv' := [(2, .int 1), (0, .ref hd), (1, .ref v)]) zx zb dX6_takeRace_26 hl (k := 0) rfl (by decide) (by decide) rfl (fun ls hl => ?_)
  refine lv_aload_n zx zb dX6_takeRace_29 rfl (lv_at hl 1 rfl) ?_
  refine o_rv (cells' := 0) (slots' := 0) G rfl rfl (n_V (As := []) (rest := []) (C := RX6) (T := TX6) (N := 7) (ci := 4) S G (c_skipBlanks l X hd ([k0, .int 0, .int 0, .int 0, .int 0, k5, .int 0]) rfl rfl H.size) gX6_takeRace_X6_skipBlanks rfl rfl rfl hdV_X6_skipBlanks ⟨Nat.le_of_ble_eq_true rfl, Nat.le_of_ble_eq_true rfl⟩ [0] rfl (by decide) 0 rfl rfl rfl hl.1 (Nat.le_of_ble_eq_true rfl) dX6_takeRace_30 ⟨Nat.le_of_ble_eq_true rfl, Nat.le_of_ble_eq_true rfl⟩) (fun u_3 H locs hp_3 G => ?_)
  have G : wd X (va_A [(hd, .inr (4, [k0, .int 0, k2, k3, k4, k5, k6]))] sz) (va_A [(hd, .inr (4, [k0, .int 0, k2, k3, k4, k5, k6]))] sz) s [(hd, .inr (4, [k0, .int 0, .int 0, .int 0, .int 0, k5, .int 0]))] H locs := G
  refine lv_aload_n zx zb dX6_takeRace_33 rfl (lv_at hl 1 rfl) ?_
  refine r_get (C := RX6) (T := TX6) (N := 7) (ci := 4) (v := .int 0) S in_X6_takeRace_X6 G 0 rfl rfl 6 (by decide) lk_X6_takeRace_31 rfl dX6_takeRace_34 ?_
  refine lv_iconst (v := (-1)) zx zb dX6_takeRace_37 (by decide) ?_
  refine lv_icmp_ne (tgt := 59) zx zb dX6_takeRace_38 (by decide) (fun c_4 => ?_) (fun c_4 => absurd c_4 (by decide))
  refine lv_aload_n zx zb dX6_takeRace_59 rfl (lv_at hl 1 rfl) ?_
  refine r_get (C := RX6) (T := TX6) (N := 7) (ci := 4) (v := .int 0) S in_X6_takeRace_X6 G 0 rfl rfl 6 (by decide) lk_X6_takeRace_31 rfl dX6_takeRace_60 ?_
  refine lv_iconst (v := (-1)) zx zb dX6_takeRace_63 (by decide) ?_
  refine lv_icmp_ne (tgt := 71) zx zb dX6_takeRace_64 (by decide) (fun c_5 => ?_) (fun c_5 => absurd c_5 (by decide))
  refine lv_bipush (v := (-10)) zx zb dX6_takeRace_71 (by decide) ?_
  refine lv_aload_n zx zb dX6_takeRace_73 rfl (lv_at hl 1 rfl) ?_
  refine r_get (C := RX6) (T := TX6) (N := 7) (ci := 4) (v := .int 0) S in_X6_takeRace_X6 G 0 rfl rfl 6 (by decide) lk_X6_takeRace_31 rfl dX6_takeRace_74 ?_
  refine r_isub (v := (-10)) S (by decide) dX6_takeRace_77 ?_
  exact e_int S zr zlk (vp_nar_int _) G () [] rfl (by decide) (Or.inl rfl) (rfl) dX6_takeRace_78
theorem in_X10_read_X10 : ∀ w ∈ wsX100, w ∈ wsX10_read := by decide +kernel
theorem lk_X10_read_30 : Cond.fieldLink RX10 30 "EggSpoons" "reader" "LEggSpoons$Reader;" ∈ wsX10_read := by decide +kernel
theorem lk_X10_read_16 : Cond.fieldLink RX10 16 "EggSpoons" "spare" "LEggSpoons$Race;" ∈ wsX10_read := by decide +kernel
theorem hdV_X6_takeRace : yX6_takeRace.cls = RX6 ∧ yX6_takeRace.cls ≠ "java/lang/invoke/MethodHandle" ∧ yX6_takeRace.cls ≠ "java/lang/invoke/VarHandle" ∧ (parseMethodDescriptor yX6_takeRace.desc).map (fun d => d.parameters.length) = some 1 := by decide +kernel
set_option maxHeartbeats 4000000 in
set_option maxRecDepth 100000 in
/-- read of an empty text -/
theorem c_read (l : Launch) (X : EX) (h0 : Nat) (fs : List Value) (hd : Nat) (hv : Nat) (k0 : Value) (k2 : Value) (k3 : Value) (k4 : Value) (k5 : Value) (k6 : Value) (hf4 : fs[4]? = some (.ref hd)) (hf1 : fs[1]? = some (.ref hv)) (sz : Nat) : Met l yX10_read wsX10_read ({ frames := 4, cells := 0, slots := 0, locals := 84 } : Room) (pE X [.ref h0] [(h0, .inr (8, fs)), (hd, .inr (4, [k0, .int 0, k2, k3, k4, k5, k6]))] sz) (qI (fun (r : Int32) (u : Unit) => r = -10) X (fun (u : Unit) => []) [(h0, .inr (8, fs)), (hd, .inr (4, [k0, .int 0, k2, k3, k4, k5, k6]))] sz) 0 0 (va_A [(h0, .inr (8, fs)), (hd, .inr (4, [k0, .int 0, k2, k3, k4, k5, k6]))] sz) := by
  refine mk_met (B := (va_A [(h0, .inr (8, fs)), (hd, .inr (4, [k0, .int 0, k2, k3, k4, k5, k6]))] sz)) (A := (va_A [(h0, .inr (8, fs)), (hd, .inr (4, [k0, .int 0, k2, k3, k4, k5, k6]))] sz)) (cc := cX10_read) (maxL := 3) (ret := (some .int)) (by decide) rfl (Nat.le_of_ble_eq_true rfl) k_w k_a (fun p e s m below meth c S zr zlk znm zsz G ls hl => ?_)
  have S : CallFix p m c cX10_read 3 s _ wsX10_read RX10 := S
  have zx := S.1
  have zb := S.2.1
  have hl : lv_has ls 3 [(0, .ref h0)] := hl
  refine lv_aload_n zx zb dX10_read_0 rfl (lv_at hl 0 rfl) ?_
  refine r_get (C := RX10) (T := TX10) (N := 14) (ci := 8) (v := .ref hd) S in_X10_read_X10 G 0 rfl rfl 4 (by decide) lk_X10_read_30 hf4 dX10_read_1 ?_
  refine lv_aload_n zx zb dX10_read_4 rfl (lv_at hl 0 rfl) ?_
  refine r_get (C := RX10) (T := TX10) (N := 14) (ci := 8) (v := .ref hv) S in_X10_read_X10 G 0 rfl rfl 1 (by decide) lk_X10_read_16 hf1 dX10_read_5 ?_
  refine o_wi (cells' := 0) (slots' := 0) (wr := [(h0, .inr (8, fs))]) G rfl rfl [1] [0] rfl rfl (by decide) (by decide) (n_V (As := [.ref hv]) (rest := []) (C := RX6) (T := TX6) (N := 7) (ci := 4) S G (c_takeRace l X hd k0 k2 k3 k4 k5 k6 hv s.heap.size) gX10_read_X6_takeRace rfl rfl rfl hdV_X6_takeRace ⟨Nat.le_of_ble_eq_true rfl, Nat.le_of_ble_eq_true rfl⟩ [1] rfl (by decide) 1 rfl rfl rfl hl.1 (Nat.le_of_ble_eq_true rfl) dX10_read_8 ⟨Nat.le_of_ble_eq_true rfl, Nat.le_of_ble_eq_true rfl⟩) (fun r_1 u_1 H locs hp_1 G => ?_)
  have G : wd X (va_A [(h0, .inr (8, fs)), (hd, .inr (4, [k0, .int 0, k2, k3, k4, k5, k6]))] sz) (va_A [(h0, .inr (8, fs)), (hd, .inr (4, [k0, .int 0, k2, k3, k4, k5, k6]))] sz) s [(h0, .inr (8, fs))] H locs := G
  subst hp_1
  refine lv_istore_n (lv' := [(1, .int (-10)), (0, .ref h0)]) zx zb dX10_read_11 rfl hl (by decide) rfl (fun ls hl => ?_)
  refine lv_iload_n zx zb dX10_read_12 rfl (lv_at hl 0 rfl) ?_
  refine lv_if_lt (tgt := 34) zx zb dX10_read_13 (by decide) (fun c_2 => ?_) (fun c_2 => absurd (by decide) c_2)
  refine lv_iload_n zx zb dX10_read_34 rfl (lv_at hl 0 rfl) ?_
  exact e_int S zr zlk (vp_nar_int _) G () [] rfl (by decide) (Or.inl rfl) (rfl) dX10_read_35
theorem in_X4_pop_X4 : ∀ w ∈ wsX40, w ∈ wsX4_pop := by decide +kernel
theorem lk_X4_pop_15 : Cond.fieldLink RX4 15 "EggSpoons$Past" "size" "I" ∈ wsX4_pop := by decide +kernel
set_option maxHeartbeats 4000000 in
set_option maxRecDepth 100000 in
/-- pop of nothing -/
theorem c_pop (l : Launch) (X : EX) (hp : Nat) (bs : List Value) (v : Nat) (hb1 : bs[1]? = some (.int 0)) (sz : Nat) : Met l yX4_pop wsX4_pop ({ frames := 0, cells := 0, slots := 0, locals := 0 } : Room) (pE X [.ref hp, .ref v] [(hp, .inr (2, bs))] sz) (qI (fun (r : Int32) (u : Unit) => r = -1) X (fun (u : Unit) => []) [] sz) 0 0 (va_A [] sz) := by
  refine mk_met (B := (fun _ => True)) (A := (va_A [] sz)) (cc := cX4_pop) (maxL := 5) (ret := (some .int)) (by decide) rfl (Nat.le_of_ble_eq_true rfl) k_ro k_a (fun p e s m below meth c S zr zlk znm zsz G ls hl => ?_)
  have S : CallFix p m c cX4_pop 5 s _ wsX4_pop RX4 := S
  have zx := S.1
  have zb := S.2.1
  have hl : lv_has ls 5 [(0, .ref hp), (1, .ref v)] := hl
  refine lv_aload_n zx zb dX4_pop_0 rfl (lv_at hl 0 rfl) ?_
  refine r_get (C := RX4) (T := TX4) (N := 2) (ci := 2) (v := .int 0) S in_X4_pop_X4 G 0 rfl rfl 1 (by decide) lk_X4_pop_15 hb1 dX4_pop_1 ?_
  refine lv_if_gt (tgt := 9) zx zb dX4_pop_4 (by decide) (fun c_1 => absurd c_1 (by decide)) (fun c_1 => ?_)
  refine lv_iconst (v := (-1)) zx zb dX4_pop_7 (by decide) ?_
  exact e_int S zr zlk (vp_nar_int _) G () [] rfl (by decide) (Or.inl rfl) (rfl) dX4_pop_8
theorem in_X5_takeBack_X5 : ∀ w ∈ wsX50, w ∈ wsX5_takeBack := by decide +kernel
theorem lk_X5_takeBack_30 : Cond.fieldLink RX5 30 "EggSpoons$Race" "past" "LEggSpoons$Past;" ∈ wsX5_takeBack := by decide +kernel
theorem lk_X5_takeBack_23 : Cond.fieldLink RX5 23 "EggSpoons$Race" "row" "[LEggSpoons$Runner;" ∈ wsX5_takeBack := by decide +kernel
theorem hdV_X4_pop : yX4_pop.cls = RX4 ∧ yX4_pop.cls ≠ "java/lang/invoke/MethodHandle" ∧ yX4_pop.cls ≠ "java/lang/invoke/VarHandle" ∧ (parseMethodDescriptor yX4_pop.desc).map (fun d => d.parameters.length) = some 1 := by decide +kernel
set_option maxHeartbeats 4000000 in
set_option maxRecDepth 100000 in
/-- takeBack of nothing -/
theorem c_takeBack (l : Launch) (X : EX) (hn : Nat) (gs : List Value) (hp : Nat) (bs : List Value) (hw : Nat) (hg4 : gs[4]? = some (.ref hp)) (hg3 : gs[3]? = some (.ref hw)) (hb1 : bs[1]? = some (.int 0)) (sz : Nat) : Met l yX5_takeBack wsX5_takeBack ({ frames := 1, cells := 0, slots := 0, locals := 24 } : Room) (pE X [.ref hn] [(hn, .inr (3, gs)), (hp, .inr (2, bs))] sz) (qI (fun (r : Int32) (u : Unit) => r = 0) X (fun (u : Unit) => []) [] sz) 0 0 (va_A [] sz) := by
  refine mk_met (B := (fun _ => True)) (A := (va_A [] sz)) (cc := cX5_takeBack) (maxL := 2) (ret := (some .boolean)) (by decide) rfl (Nat.le_of_ble_eq_true rfl) k_ro k_a (fun p e s m below meth c S zr zlk znm zsz G ls hl => ?_)
  have S : CallFix p m c cX5_takeBack 2 s _ wsX5_takeBack RX5 := S
  have zx := S.1
  have zb := S.2.1
  have hl : lv_has ls 2 [(0, .ref hn)] := hl
  refine lv_aload_n zx zb dX5_takeBack_0 rfl (lv_at hl 0 rfl) ?_
  refine r_get (C := RX5) (T := TX5) (N := 8) (ci := 3) (v := .ref hp) S in_X5_takeBack_X5 G 0 rfl rfl 4 (by decide) lk_X5_takeBack_30 hg4 dX5_takeBack_1 ?_
  refine lv_aload_n zx zb dX5_takeBack_4 rfl (lv_at hl 0 rfl) ?_
  refine r_get (C := RX5) (T := TX5) (N := 8) (ci := 3) (v := .ref hw) S in_X5_takeBack_X5 G 0 rfl rfl 3 (by decide) lk_X5_takeBack_23 hg3 dX5_takeBack_5 ?_
  refine o_ri (cells' := 0) (slots' := 0) G rfl rfl (n_V (As := [.ref hw]) (rest := []) (C := RX4) (T := TX4) (N := 2) (ci := 2) S G (c_pop l X hp bs hw hb1 s.heap.size) gX5_takeBack_X4_pop rfl rfl rfl hdV_X4_pop ⟨Nat.le_of_ble_eq_true rfl, Nat.le_of_ble_eq_true rfl⟩ [1] rfl (by decide) 1 rfl rfl rfl hl.1 (Nat.le_of_ble_eq_true rfl) dX5_takeBack_8 ⟨Nat.le_of_ble_eq_true rfl, Nat.le_of_ble_eq_true rfl⟩) (fun r_1 u_1 H locs hp_1 G => ?_)
  have G : wd X (fun _ => True) (va_A [] sz) s [(hn, .inr (3, gs)), (hp, .inr (2, bs))] H locs := G
  subst hp_1
  refine lv_istore_n (lv' := [(1, .int (-1)), (0, .ref hn)]) zx zb dX5_takeBack_11 rfl hl (by decide) rfl (fun ls hl => ?_)
  refine lv_iload_n zx zb dX5_takeBack_12 rfl (lv_at hl 0 rfl) ?_
  refine lv_iconst (v := (-1)) zx zb dX5_takeBack_13 (by decide) ?_
  refine lv_icmp_ne (tgt := 19) zx zb dX5_takeBack_14 (by decide) (fun c_2 => absurd (by decide) c_2) (fun c_2 => ?_)
  refine lv_iconst (v := 0) zx zb dX5_takeBack_17 (by decide) ?_
  exact e_int S zr zlk (by decide) G () [] rfl (by decide) (Or.inl rfl) (rfl) dX5_takeBack_18
theorem in_X10_undo_X10 : ∀ w ∈ wsX100, w ∈ wsX10_undo := by decide +kernel
theorem lk_X10_undo_10 : Cond.fieldLink RX10 10 "EggSpoons" "now" "LEggSpoons$Race;" ∈ wsX10_undo := by decide +kernel
theorem hdV_X5_takeBack : yX5_takeBack.cls = RX5 ∧ yX5_takeBack.cls ≠ "java/lang/invoke/MethodHandle" ∧ yX5_takeBack.cls ≠ "java/lang/invoke/VarHandle" ∧ (parseMethodDescriptor yX5_takeBack.desc).map (fun d => d.parameters.length) = some 0 := by decide +kernel
set_option maxHeartbeats 4000000 in
set_option maxRecDepth 100000 in
/-- undo of nothing -/
theorem c_undo (l : Launch) (X : EX) (h0 : Nat) (fs : List Value) (hn : Nat) (gs : List Value) (hp : Nat) (bs : List Value) (hw : Nat) (hr : Nat) (fr : Nat → Int32) (hf0 : fs[0]? = some (.ref hn)) (hf5 : fs[5]? = some (.ref hr)) (hg4 : gs[4]? = some (.ref hp)) (hg3 : gs[3]? = some (.ref hw)) (hb1 : bs[1]? = some (.int 0)) (sz : Nat) : Met l yX10_undo wsX10_undo ({ frames := 2, cells := 0, slots := 0, locals := 45 } : Room) (pE X [.ref h0] [(h0, .inr (8, fs)), (hn, .inr (3, gs)), (hp, .inr (2, bs)), (hr, .inl (X.2.1, 3, .inl fr))] sz) (qI (fun (r : Int32) (u : Unit) => r = -3) X (fun (u : Unit) => []) [(h0, .inr (8, fs)), (hn, .inr (3, gs)), (hp, .inr (2, bs)), (hr, .inl (X.2.1, 3, .inl fr))] sz) 0 0 (va_A [(h0, .inr (8, fs)), (hn, .inr (3, gs)), (hp, .inr (2, bs)), (hr, .inl (X.2.1, 3, .inl fr))] sz) := by
  refine mk_met (B := (va_A [(h0, .inr (8, fs)), (hn, .inr (3, gs)), (hp, .inr (2, bs)), (hr, .inl (X.2.1, 3, .inl fr))] sz)) (A := (va_A [(h0, .inr (8, fs)), (hn, .inr (3, gs)), (hp, .inr (2, bs)), (hr, .inl (X.2.1, 3, .inl fr))] sz)) (cc := cX10_undo) (maxL := 1) (ret := (some .int)) (by decide) rfl (Nat.le_of_ble_eq_true rfl) k_w k_a (fun p e s m below meth c S zr zlk znm zsz G ls hl => ?_)
  have S : CallFix p m c cX10_undo 1 s _ wsX10_undo RX10 := S
  have zx := S.1
  have zb := S.2.1
  have hl : lv_has ls 1 [(0, .ref h0)] := hl
  refine lv_aload_n zx zb dX10_undo_0 rfl (lv_at hl 0 rfl) ?_
  refine r_get (C := RX10) (T := TX10) (N := 14) (ci := 8) (v := .ref hn) S in_X10_undo_X10 G 0 rfl rfl 0 (by decide) lk_X10_undo_10 hf0 dX10_undo_1 ?_
  refine o_ri (cells' := 0) (slots' := 0) G rfl rfl (n_V (As := []) (rest := []) (C := RX5) (T := TX5) (N := 8) (ci := 3) S G (c_takeBack l X hn gs hp bs hw hg4 hg3 hb1 s.heap.size) gX10_undo_X5_takeBack rfl rfl rfl hdV_X5_takeBack ⟨Nat.le_of_ble_eq_true rfl, Nat.le_of_ble_eq_true rfl⟩ [1, 2] rfl (by decide) 1 rfl rfl rfl hl.1 (Nat.le_of_ble_eq_true rfl) dX10_undo_4 ⟨Nat.le_of_ble_eq_true rfl, Nat.le_of_ble_eq_true rfl⟩) (fun r_1 u_1 H locs hp_1 G => ?_)
  have G : wd X (va_A [(h0, .inr (8, fs)), (hn, .inr (3, gs)), (hp, .inr (2, bs)), (hr, .inl (X.2.1, 3, .inl fr))] sz) (va_A [(h0, .inr (8, fs)), (hn, .inr (3, gs)), (hp, .inr (2, bs)), (hr, .inl (X.2.1, 3, .inl fr))] sz) s [(h0, .inr (8, fs)), (hn, .inr (3, gs)), (hp, .inr (2, bs)), (hr, .inl (X.2.1, 3, .inl fr))] H locs := G
  subst hp_1
  refine lv_if_eq (tgt := 20) zx zb dX10_undo_7 (by decide) (fun c_2 => ?_) (fun c_2 => absurd (by decide) c_2)
  refine lv_aload_n zx zb dX10_undo_20 rfl (lv_at hl 0 rfl) ?_
  refine lv_bipush (v := (-3)) zx zb dX10_undo_21 (by decide) ?_
  refine o_wi (cells' := 0) (slots' := 0) (wr := [(hn, .inr (3, gs)), (hp, .inr (2, bs))]) G rfl rfl [0, 3] [1, 2] rfl rfl (by decide) (by decide) (n_V (As := [.int (-3)]) (rest := []) (C := RX10) (T := TX10) (N := 14) (ci := 8) S G (c_refuse l X h0 fs hr fr (-3) hf5 H.size) gX10_undo_X10_refuse rfl rfl rfl hdV_X10_refuse ⟨Nat.le_of_ble_eq_true rfl, Nat.le_of_ble_eq_true rfl⟩ [0, 3] rfl (by decide) 0 rfl rfl rfl hl.1 (Nat.le_of_ble_eq_true rfl) dX10_undo_23 ⟨Nat.le_of_ble_eq_true rfl, Nat.le_of_ble_eq_true rfl⟩) (fun r_3 u_3 H locs hp_3 G => ?_)
  have G : wd X (va_A [(h0, .inr (8, fs)), (hn, .inr (3, gs)), (hp, .inr (2, bs)), (hr, .inl (X.2.1, 3, .inl fr))] sz) (va_A [(h0, .inr (8, fs)), (hn, .inr (3, gs)), (hp, .inr (2, bs)), (hr, .inl (X.2.1, 3, .inl fr))] sz) s [(hn, .inr (3, gs)), (hp, .inr (2, bs))] H locs := G
  subst hp_3
  exact e_int S zr zlk (vp_nar_int _) G () [] rfl (by decide) (Or.inl rfl) (rfl) dX10_undo_26
theorem in_X10_first_X10 : ∀ w ∈ wsX100, w ∈ wsX10_first := by decide +kernel
theorem lk_X10_first_10 : Cond.fieldLink RX10 10 "EggSpoons" "now" "LEggSpoons$Race;" ∈ wsX10_first := by decide +kernel
theorem in_X10_first_X5 : ∀ w ∈ wsX50, w ∈ wsX10_first := by decide +kernel
theorem lk_X10_first_87 : Cond.fieldLink RX10 87 "EggSpoons$Race" "runners" "I" ∈ wsX10_first := by decide +kernel
set_option maxHeartbeats 4000000 in
set_option maxRecDepth 100000 in
/-- first, with no runner -/
theorem c_first (l : Launch) (X : EX) (h0 : Nat) (fs : List Value) (hn : Nat) (gs : List Value) (hf0 : fs[0]? = some (.ref hn)) (hg2 : gs[2]? = some (.int 0)) (sz : Nat) : Met l yX10_first wsX10_first ({ frames := 0, cells := 0, slots := 0, locals := 0 } : Room) (pE X [.ref h0] [(h0, .inr (8, fs)), (hn, .inr (3, gs))] sz) (qI (fun (r : Int32) (u : Unit) => r = -1) X (fun (u : Unit) => []) [] sz) 0 0 (va_A [] sz) := by
  refine mk_met (B := (fun _ => True)) (A := (va_A [] sz)) (cc := cX10_first) (maxL := 5) (ret := (some .int)) (by decide) rfl (Nat.le_of_ble_eq_true rfl) k_ro k_a (fun p e s m below meth c S zr zlk znm zsz G ls hl => ?_)
  have S : CallFix p m c cX10_first 5 s _ wsX10_first RX10 := S
  have zx := S.1
  have zb := S.2.1
  have hl : lv_has ls 5 [(0, .ref h0)] := hl
  refine lv_iconst (v := (-1)) zx zb dX10_first_0 (by decide) ?_
  refine lv_istore_n (lv' := [(1, .int (-1)), (0, .ref h0)]) zx zb dX10_first_1 rfl hl (by decide) rfl (fun ls hl => ?_)
  refine lv_bipush (v := 60) zx zb dX10_first_2 (by decide) ?_
  refine lv_istore_n (lv' := [(2, .int 60), (1, .int (-1)), (0, .ref h0)]) zx zb dX10_first_4 rfl hl (by decide) rfl (fun ls hl => ?_)
  refine lv_iconst (v := 0) zx zb dX10_first_5 (by decide) ?_
  refine lv_istore_n (lv' := [(3, .int 0), (2, .int 60), (1, .int (-1)), (0, .ref h0)]) zx zb dX10_first_6 rfl hl (by decide) rfl (fun ls hl => ?_)
  refine lv_iload_n zx zb dX10_first_7 rfl (lv_at hl 0 rfl) ?_
  refine lv_aload_n zx zb dX10_first_8 rfl (lv_at hl 3 rfl) ?_
  refine r_get (C := RX10) (T := TX10) (N := 14) (ci := 8) (v := .ref hn) S in_X10_first_X10 G 0 rfl rfl 0 (by decide) lk_X10_first_10 hf0 dX10_first_9 ?_
  refine r_get (C := RX5) (T := TX5) (N := 8) (ci := 3) (v := .int 0) S in_X10_first_X5 G 1 rfl rfl 2 (by decide) lk_X10_first_87 hg2 dX10_first_12 ?_
  refine lv_icmp_ge (tgt := 64) zx zb dX10_first_15 (by decide) (fun c_1 => ?_) (fun c_1 => absurd (by decide) c_1)
  refine lv_iload_n zx zb dX10_first_64 rfl (lv_at hl 2 rfl) ?_
  exact e_int S zr zlk (vp_nar_int _) G () [] rfl (by decide) (Or.inl rfl) (rfl) dX10_first_65
theorem in_X10_order_X10 : ∀ w ∈ wsX100, w ∈ wsX10_order := by decide +kernel
theorem lk_X10_order_10 : Cond.fieldLink RX10 10 "EggSpoons" "now" "LEggSpoons$Race;" ∈ wsX10_order := by decide +kernel
theorem in_X10_order_X5 : ∀ w ∈ wsX50, w ∈ wsX10_order := by decide +kernel
theorem lk_X10_order_87 : Cond.fieldLink RX10 87 "EggSpoons$Race" "runners" "I" ∈ wsX10_order := by decide +kernel
set_option maxHeartbeats 4000000 in
set_option maxRecDepth 100000 in
/-- order, with no runner -/
theorem c_order (l : Launch) (X : EX) (h0 : Nat) (fs : List Value) (hn : Nat) (gs : List Value) (hr : Nat) (fr : Nat → Int32) (x1 : Int32) (hf0 : fs[0]? = some (.ref hn)) (hf5 : fs[5]? = some (.ref hr)) (hg2 : gs[2]? = some (.int 0)) (sz : Nat) : Met l yX10_order wsX10_order ({ frames := 1, cells := 0, slots := 0, locals := 22 } : Room) (pE X [.ref h0, .int x1] [(h0, .inr (8, fs)), (hn, .inr (3, gs)), (hr, .inl (X.2.1, 3, .inl fr))] sz) (qI (fun (r : Int32) (u : Unit) => r = if x1 < 0 then -2 else -3) X (fun (u : Unit) => []) [(h0, .inr (8, fs)), (hn, .inr (3, gs)), (hr, .inl (X.2.1, 3, .inl fr))] sz) 0 0 (va_A [(h0, .inr (8, fs)), (hn, .inr (3, gs)), (hr, .inl (X.2.1, 3, .inl fr))] sz) := by
  refine mk_met (B := (va_A [(h0, .inr (8, fs)), (hn, .inr (3, gs)), (hr, .inl (X.2.1, 3, .inl fr))] sz)) (A := (va_A [(h0, .inr (8, fs)), (hn, .inr (3, gs)), (hr, .inl (X.2.1, 3, .inl fr))] sz)) (cc := cX10_order) (maxL := 3) (ret := (some .int)) (by decide) rfl (Nat.le_of_ble_eq_true rfl) k_w k_a (fun p e s m below meth c S zr zlk znm zsz G ls hl => ?_)
  have S : CallFix p m c cX10_order 3 s _ wsX10_order RX10 := S
  have zx := S.1
  have zb := S.2.1
  have hl : lv_has ls 3 [(0, .ref h0), (1, .int x1)] := hl
  refine lv_iload_n zx zb dX10_order_0 rfl (lv_at hl 1 rfl) ?_
  refine lv_if_ge (tgt := 11) zx zb dX10_order_1 (by decide) (fun c_1 => ?_) (fun c_1 => ?_)
  · refine lv_iload_n zx zb dX10_order_11 rfl (lv_at hl 1 rfl) ?_
    refine lv_aload_n zx zb dX10_order_12 rfl (lv_at hl 0 rfl) ?_
    refine r_get (C := RX10) (T := TX10) (N := 14) (ci := 8) (v := .ref hn) S in_X10_order_X10 G 0 rfl rfl 0 (by decide) lk_X10_order_10 hf0 dX10_order_13 ?_
    refine r_get (C := RX5) (T := TX5) (N := 8) (ci := 3) (v := .int 0) S in_X10_order_X5 G 1 rfl rfl 2 (by decide) lk_X10_order_87 hg2 dX10_order_16 ?_
    refine lv_icmp_lt (tgt := 29) zx zb dX10_order_19 (by decide) (fun c_2 => absurd c_2 (Int32.not_lt.mpr c_1)) (fun c_2 => ?_)
    refine lv_aload_n zx zb dX10_order_22 rfl (lv_at hl 0 rfl) ?_
    refine lv_bipush (v := (-3)) zx zb dX10_order_23 (by decide) ?_
    refine o_wi (cells' := 0) (slots' := 0) (wr := [(hn, .inr (3, gs))]) G rfl rfl [0, 2] [1] rfl rfl (by decide) (by decide) (n_V (As := [.int (-3)]) (rest := []) (C := RX10) (T := TX10) (N := 14) (ci := 8) S G (c_refuse l X h0 fs hr fr (-3) hf5 s.heap.size) gX10_order_X10_refuse rfl rfl rfl hdV_X10_refuse ⟨Nat.le_of_ble_eq_true rfl, Nat.le_of_ble_eq_true rfl⟩ [0, 2] rfl (by decide) 0 rfl rfl rfl hl.1 (Nat.le_of_ble_eq_true rfl) dX10_order_25 ⟨Nat.le_of_ble_eq_true rfl, Nat.le_of_ble_eq_true rfl⟩) (fun r_3 u_3 H locs hp_3 G => ?_)
    have G : wd X (va_A [(h0, .inr (8, fs)), (hn, .inr (3, gs)), (hr, .inl (X.2.1, 3, .inl fr))] sz) (va_A [(h0, .inr (8, fs)), (hn, .inr (3, gs)), (hr, .inl (X.2.1, 3, .inl fr))] sz) s [(hn, .inr (3, gs))] H locs := G
    subst hp_3
    exact e_int S zr zlk (vp_nar_int _) G () [] rfl (by decide) (Or.inl rfl) (by first | exact (if_neg (Int32.not_lt.mpr c_1)).symm | exact (if_pos (Int32.not_le.mp c_1)).symm) dX10_order_28
  · refine lv_aload_n zx zb dX10_order_4 rfl (lv_at hl 0 rfl) ?_
    refine lv_bipush (v := (-2)) zx zb dX10_order_5 (by decide) ?_
    refine o_wi (cells' := 0) (slots' := 0) (wr := [(hn, .inr (3, gs))]) G rfl rfl [0, 2] [1] rfl rfl (by decide) (by decide) (n_V (As := [.int (-2)]) (rest := []) (C := RX10) (T := TX10) (N := 14) (ci := 8) S G (c_refuse l X h0 fs hr fr (-2) hf5 s.heap.size) gX10_order_X10_refuse rfl rfl rfl hdV_X10_refuse ⟨Nat.le_of_ble_eq_true rfl, Nat.le_of_ble_eq_true rfl⟩ [0, 2] rfl (by decide) 0 rfl rfl rfl hl.1 (Nat.le_of_ble_eq_true rfl) dX10_order_7 ⟨Nat.le_of_ble_eq_true rfl, Nat.le_of_ble_eq_true rfl⟩) (fun r_4 u_4 H locs hp_4 G => ?_)
    have G : wd X (va_A [(h0, .inr (8, fs)), (hn, .inr (3, gs)), (hr, .inl (X.2.1, 3, .inl fr))] sz) (va_A [(h0, .inr (8, fs)), (hn, .inr (3, gs)), (hr, .inl (X.2.1, 3, .inl fr))] sz) s [(hn, .inr (3, gs))] H locs := G
    subst hp_4
    exact e_int S zr zlk (vp_nar_int _) G () [] rfl (by decide) (Or.inl rfl) (by first | exact (if_neg (Int32.not_lt.mpr c_1)).symm | exact (if_pos (Int32.not_le.mp c_1)).symm) dX10_order_10
end
